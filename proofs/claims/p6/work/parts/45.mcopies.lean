def LRX9_copy_13 : List UInt8 := []
def LBX9_copy_12 : List UInt8 := [0x15, 0x05, 0xac]
def LRX9_copy_12 : List UInt8 := LBX9_copy_12 ++ LRX9_copy_13
def LBX9_copy_11 : List UInt8 := [0x06, 0x60, 0x2a, 0xb4, 0x00, 0x35, 0x15, 0x06, 0x2f, 0x50, 0x84, 0x06, 0x01, 0xa7, 0xff, 0xe0]
def LRX9_copy_11 : List UInt8 := LBX9_copy_11 ++ LRX9_copy_12
def LBX9_copy_10 : List UInt8 := [0x05, 0xa2, 0x00, 0x1f, 0x2a, 0xb4, 0x00, 0x31, 0x10, 0x28, 0x1d, 0x68, 0x15, 0x04, 0x60, 0x15]
def LRX9_copy_10 : List UInt8 := LBX9_copy_10 ++ LRX9_copy_11
def LBX9_copy_9 : List UInt8 := [0x06, 0x60, 0x2f, 0x50, 0x84, 0x06, 0x01, 0xa7, 0xff, 0xe1, 0x03, 0x36, 0x06, 0x15, 0x06, 0x15]
def LRX9_copy_9 : List UInt8 := LBX9_copy_9 ++ LRX9_copy_10
def LBX9_copy_8 : List UInt8 := [0xb4, 0x00, 0x35, 0x15, 0x06, 0x2a, 0xb4, 0x00, 0x31, 0x10, 0x28, 0x1b, 0x68, 0x1c, 0x60, 0x15]
def LRX9_copy_8 : List UInt8 := LBX9_copy_8 ++ LRX9_copy_9
def LBX9_copy_7 : List UInt8 := [0x38, 0xb6, 0x00, 0x46, 0xac, 0x03, 0x36, 0x06, 0x15, 0x06, 0x15, 0x05, 0xa2, 0x00, 0x1e, 0x2a]
def LRX9_copy_7 : List UInt8 := LBX9_copy_7 ++ LRX9_copy_8
def LBX9_copy_6 : List UInt8 := [0x15, 0x05, 0x2a, 0xb4, 0x00, 0x2e, 0x1d, 0x2e, 0x15, 0x04, 0x64, 0xa4, 0x00, 0x0a, 0x2a, 0x12]
def LRX9_copy_6 : List UInt8 := LBX9_copy_6 ++ LRX9_copy_7
def LBX9_copy_5 : List UInt8 := [0x9b, 0x00, 0x1e, 0x15, 0x05, 0x2a, 0xb4, 0x00, 0x2e, 0x1b, 0x2e, 0x1c, 0x64, 0xa3, 0x00, 0x11]
def LRX9_copy_5 : List UInt8 := LBX9_copy_5 ++ LRX9_copy_6
def LBX9_copy_4 : List UInt8 := [0xa7, 0xb6, 0x00, 0x46, 0xac, 0x1c, 0x9b, 0x00, 0x28, 0x15, 0x04, 0x9b, 0x00, 0x23, 0x15, 0x05]
def LRX9_copy_4 : List UInt8 := LBX9_copy_4 ++ LRX9_copy_5
def LBX9_copy_3 : List UInt8 := [0xb4, 0x00, 0x2b, 0x1b, 0x2e, 0x2a, 0xb4, 0x00, 0x2b, 0x1d, 0x2e, 0x9f, 0x00, 0x0a, 0x2a, 0x12]
def LRX9_copy_3 : List UInt8 := LBX9_copy_3 ++ LRX9_copy_4
def LBX9_copy_2 : List UInt8 := [0x00, 0x2b, 0x1d, 0x2e, 0x9a, 0x00, 0x0b, 0x2a, 0x13, 0x01, 0x35, 0xb6, 0x00, 0x46, 0xac, 0x2a]
def LRX9_copy_2 : List UInt8 := LBX9_copy_2 ++ LRX9_copy_3
def LBX9_copy_1 : List UInt8 := [0x38, 0xb6, 0x00, 0x46, 0xac, 0x2a, 0xb4, 0x00, 0x2b, 0x1b, 0x2e, 0x99, 0x00, 0x0c, 0x2a, 0xb4]
def LRX9_copy_1 : List UInt8 := LBX9_copy_1 ++ LRX9_copy_2
def LBX9_copy_0 : List UInt8 := [0x1b, 0xb8, 0x01, 0x31, 0x99, 0x00, 0x0a, 0x1d, 0xb8, 0x01, 0x31, 0x9a, 0x00, 0x0a, 0x2a, 0x12]
def LRX9_copy_0 : List UInt8 := LBX9_copy_0 ++ LRX9_copy_1
set_option maxRecDepth 100000 in
theorem LBX9_copy_eq : cX9_copy.data.toList = LRX9_copy_0 := by decide +kernel
theorem LBX9_copyr_0 (k : Nat) : cX9_copy.data.toList[0 + k]? = LRX9_copy_0[k]? := by rw [LBX9_copy_eq, Nat.zero_add]
theorem LBX9_copyr_1 (k : Nat) : cX9_copy.data.toList[16 + k]? = LRX9_copy_1[k]? := by
  have h := LBX9_copyr_0 (16 + k)
  rw [show 0 + (16 + k) = 16 + k by omega] at h
  rw [h]
  exact (List.getElem?_append_right (l₁ := LBX9_copy_0) (l₂ := LRX9_copy_1) (show 16 ≤ 16 + k by omega)).trans (congrArg (fun i => LRX9_copy_1[i]?) (show 16 + k - 16 = k by omega))
theorem LBX9_copyr_2 (k : Nat) : cX9_copy.data.toList[32 + k]? = LRX9_copy_2[k]? := by
  have h := LBX9_copyr_1 (16 + k)
  rw [show 16 + (16 + k) = 32 + k by omega] at h
  rw [h]
  exact (List.getElem?_append_right (l₁ := LBX9_copy_1) (l₂ := LRX9_copy_2) (show 16 ≤ 16 + k by omega)).trans (congrArg (fun i => LRX9_copy_2[i]?) (show 16 + k - 16 = k by omega))
theorem LBX9_copyr_3 (k : Nat) : cX9_copy.data.toList[48 + k]? = LRX9_copy_3[k]? := by
  have h := LBX9_copyr_2 (16 + k)
  rw [show 32 + (16 + k) = 48 + k by omega] at h
  rw [h]
  exact (List.getElem?_append_right (l₁ := LBX9_copy_2) (l₂ := LRX9_copy_3) (show 16 ≤ 16 + k by omega)).trans (congrArg (fun i => LRX9_copy_3[i]?) (show 16 + k - 16 = k by omega))
theorem LBX9_copyr_4 (k : Nat) : cX9_copy.data.toList[64 + k]? = LRX9_copy_4[k]? := by
  have h := LBX9_copyr_3 (16 + k)
  rw [show 48 + (16 + k) = 64 + k by omega] at h
  rw [h]
  exact (List.getElem?_append_right (l₁ := LBX9_copy_3) (l₂ := LRX9_copy_4) (show 16 ≤ 16 + k by omega)).trans (congrArg (fun i => LRX9_copy_4[i]?) (show 16 + k - 16 = k by omega))
theorem LBX9_copyr_5 (k : Nat) : cX9_copy.data.toList[80 + k]? = LRX9_copy_5[k]? := by
  have h := LBX9_copyr_4 (16 + k)
  rw [show 64 + (16 + k) = 80 + k by omega] at h
  rw [h]
  exact (List.getElem?_append_right (l₁ := LBX9_copy_4) (l₂ := LRX9_copy_5) (show 16 ≤ 16 + k by omega)).trans (congrArg (fun i => LRX9_copy_5[i]?) (show 16 + k - 16 = k by omega))
theorem LBX9_copyr_6 (k : Nat) : cX9_copy.data.toList[96 + k]? = LRX9_copy_6[k]? := by
  have h := LBX9_copyr_5 (16 + k)
  rw [show 80 + (16 + k) = 96 + k by omega] at h
  rw [h]
  exact (List.getElem?_append_right (l₁ := LBX9_copy_5) (l₂ := LRX9_copy_6) (show 16 ≤ 16 + k by omega)).trans (congrArg (fun i => LRX9_copy_6[i]?) (show 16 + k - 16 = k by omega))
theorem LBX9_copyr_7 (k : Nat) : cX9_copy.data.toList[112 + k]? = LRX9_copy_7[k]? := by
  have h := LBX9_copyr_6 (16 + k)
  rw [show 96 + (16 + k) = 112 + k by omega] at h
  rw [h]
  exact (List.getElem?_append_right (l₁ := LBX9_copy_6) (l₂ := LRX9_copy_7) (show 16 ≤ 16 + k by omega)).trans (congrArg (fun i => LRX9_copy_7[i]?) (show 16 + k - 16 = k by omega))
theorem LBX9_copyr_8 (k : Nat) : cX9_copy.data.toList[128 + k]? = LRX9_copy_8[k]? := by
  have h := LBX9_copyr_7 (16 + k)
  rw [show 112 + (16 + k) = 128 + k by omega] at h
  rw [h]
  exact (List.getElem?_append_right (l₁ := LBX9_copy_7) (l₂ := LRX9_copy_8) (show 16 ≤ 16 + k by omega)).trans (congrArg (fun i => LRX9_copy_8[i]?) (show 16 + k - 16 = k by omega))
theorem LBX9_copyr_9 (k : Nat) : cX9_copy.data.toList[144 + k]? = LRX9_copy_9[k]? := by
  have h := LBX9_copyr_8 (16 + k)
  rw [show 128 + (16 + k) = 144 + k by omega] at h
  rw [h]
  exact (List.getElem?_append_right (l₁ := LBX9_copy_8) (l₂ := LRX9_copy_9) (show 16 ≤ 16 + k by omega)).trans (congrArg (fun i => LRX9_copy_9[i]?) (show 16 + k - 16 = k by omega))
theorem LBX9_copyr_10 (k : Nat) : cX9_copy.data.toList[160 + k]? = LRX9_copy_10[k]? := by
  have h := LBX9_copyr_9 (16 + k)
  rw [show 144 + (16 + k) = 160 + k by omega] at h
  rw [h]
  exact (List.getElem?_append_right (l₁ := LBX9_copy_9) (l₂ := LRX9_copy_10) (show 16 ≤ 16 + k by omega)).trans (congrArg (fun i => LRX9_copy_10[i]?) (show 16 + k - 16 = k by omega))
theorem LBX9_copyr_11 (k : Nat) : cX9_copy.data.toList[176 + k]? = LRX9_copy_11[k]? := by
  have h := LBX9_copyr_10 (16 + k)
  rw [show 160 + (16 + k) = 176 + k by omega] at h
  rw [h]
  exact (List.getElem?_append_right (l₁ := LBX9_copy_10) (l₂ := LRX9_copy_11) (show 16 ≤ 16 + k by omega)).trans (congrArg (fun i => LRX9_copy_11[i]?) (show 16 + k - 16 = k by omega))
theorem LBX9_copyr_12 (k : Nat) : cX9_copy.data.toList[192 + k]? = LRX9_copy_12[k]? := by
  have h := LBX9_copyr_11 (16 + k)
  rw [show 176 + (16 + k) = 192 + k by omega] at h
  rw [h]
  exact (List.getElem?_append_right (l₁ := LBX9_copy_11) (l₂ := LRX9_copy_12) (show 16 ≤ 16 + k by omega)).trans (congrArg (fun i => LRX9_copy_12[i]?) (show 16 + k - 16 = k by omega))
theorem dX9_copy_0 : decode cX9_copy 0 = .ok (.iload_n 1, 1) := dk_27_ (show cX9_copy.data.toList[0]? = some 0x1b from (LBX9_copyr_0 0).trans (by decide +kernel))
theorem dX9_copy_1 : decode cX9_copy 1 = .ok (.invokestatic 305, 3) := dk_184_ (show cX9_copy.data.toList[1]? = some 0xb8 from (LBX9_copyr_0 1).trans (by decide +kernel)) (show cX9_copy.data.toList[2]? = some 0x01 from (LBX9_copyr_0 2).trans (by decide +kernel)) (show cX9_copy.data.toList[3]? = some 0x31 from (LBX9_copyr_0 3).trans (by decide +kernel)) (by decide)
theorem dX9_copy_4 : decode cX9_copy 4 = .ok (.ifCond .eq 10, 3) := dk_153_ (show cX9_copy.data.toList[4]? = some 0x99 from (LBX9_copyr_0 4).trans (by decide +kernel)) (show cX9_copy.data.toList[5]? = some 0x00 from (LBX9_copyr_0 5).trans (by decide +kernel)) (show cX9_copy.data.toList[6]? = some 0x0a from (LBX9_copyr_0 6).trans (by decide +kernel)) (by decide)
theorem dX9_copy_14 : decode cX9_copy 14 = .ok (.aload_n 0, 1) := dk_42_ (show cX9_copy.data.toList[14]? = some 0x2a from (LBX9_copyr_0 14).trans (by decide +kernel))
theorem dX9_copy_15 : decode cX9_copy 15 = .ok (.ldc 56, 2) := dk_18_ (show cX9_copy.data.toList[15]? = some 0x12 from (LBX9_copyr_0 15).trans (by decide +kernel)) (show cX9_copy.data.toList[16]? = some 0x38 from (LBX9_copyr_1 0).trans (by decide +kernel)) (by decide)
theorem dX9_copy_17 : decode cX9_copy 17 = .ok (.invokevirtual 70, 3) := dk_182_ (show cX9_copy.data.toList[17]? = some 0xb6 from (LBX9_copyr_1 1).trans (by decide +kernel)) (show cX9_copy.data.toList[18]? = some 0x00 from (LBX9_copyr_1 2).trans (by decide +kernel)) (show cX9_copy.data.toList[19]? = some 0x46 from (LBX9_copyr_1 3).trans (by decide +kernel)) (by decide)
theorem dX9_copy_20 : decode cX9_copy 20 = .ok (.ireturn, 1) := dk_172_ (show cX9_copy.data.toList[20]? = some 0xac from (LBX9_copyr_1 4).trans (by decide +kernel))
theorem dX9_copy_7 : decode cX9_copy 7 = .ok (.iload_n 3, 1) := dk_29_ (show cX9_copy.data.toList[7]? = some 0x1d from (LBX9_copyr_0 7).trans (by decide +kernel))
theorem dX9_copy_8 : decode cX9_copy 8 = .ok (.invokestatic 305, 3) := dk_184_ (show cX9_copy.data.toList[8]? = some 0xb8 from (LBX9_copyr_0 8).trans (by decide +kernel)) (show cX9_copy.data.toList[9]? = some 0x01 from (LBX9_copyr_0 9).trans (by decide +kernel)) (show cX9_copy.data.toList[10]? = some 0x31 from (LBX9_copyr_0 10).trans (by decide +kernel)) (by decide)
theorem dX9_copy_11 : decode cX9_copy 11 = .ok (.ifCond .ne 10, 3) := dk_154_ (show cX9_copy.data.toList[11]? = some 0x9a from (LBX9_copyr_0 11).trans (by decide +kernel)) (show cX9_copy.data.toList[12]? = some 0x00 from (LBX9_copyr_0 12).trans (by decide +kernel)) (show cX9_copy.data.toList[13]? = some 0x0a from (LBX9_copyr_0 13).trans (by decide +kernel)) (by decide)
theorem dX9_copy_21 : decode cX9_copy 21 = .ok (.aload_n 0, 1) := dk_42_ (show cX9_copy.data.toList[21]? = some 0x2a from (LBX9_copyr_1 5).trans (by decide +kernel))
theorem dX9_copy_22 : decode cX9_copy 22 = .ok (.getfield 43, 3) := dk_180_ (show cX9_copy.data.toList[22]? = some 0xb4 from (LBX9_copyr_1 6).trans (by decide +kernel)) (show cX9_copy.data.toList[23]? = some 0x00 from (LBX9_copyr_1 7).trans (by decide +kernel)) (show cX9_copy.data.toList[24]? = some 0x2b from (LBX9_copyr_1 8).trans (by decide +kernel)) (by decide)
theorem dX9_copy_25 : decode cX9_copy 25 = .ok (.iload_n 1, 1) := dk_27_ (show cX9_copy.data.toList[25]? = some 0x1b from (LBX9_copyr_1 9).trans (by decide +kernel))
theorem dX9_copy_26 : decode cX9_copy 26 = .ok (.iaload, 1) := dk_46_ (show cX9_copy.data.toList[26]? = some 0x2e from (LBX9_copyr_1 10).trans (by decide +kernel))
theorem dX9_copy_27 : decode cX9_copy 27 = .ok (.ifCond .eq 12, 3) := dk_153_ (show cX9_copy.data.toList[27]? = some 0x99 from (LBX9_copyr_1 11).trans (by decide +kernel)) (show cX9_copy.data.toList[28]? = some 0x00 from (LBX9_copyr_1 12).trans (by decide +kernel)) (show cX9_copy.data.toList[29]? = some 0x0c from (LBX9_copyr_1 13).trans (by decide +kernel)) (by decide)
theorem dX9_copy_30 : decode cX9_copy 30 = .ok (.aload_n 0, 1) := dk_42_ (show cX9_copy.data.toList[30]? = some 0x2a from (LBX9_copyr_1 14).trans (by decide +kernel))
theorem dX9_copy_31 : decode cX9_copy 31 = .ok (.getfield 43, 3) := dk_180_ (show cX9_copy.data.toList[31]? = some 0xb4 from (LBX9_copyr_1 15).trans (by decide +kernel)) (show cX9_copy.data.toList[32]? = some 0x00 from (LBX9_copyr_2 0).trans (by decide +kernel)) (show cX9_copy.data.toList[33]? = some 0x2b from (LBX9_copyr_2 1).trans (by decide +kernel)) (by decide)
theorem dX9_copy_34 : decode cX9_copy 34 = .ok (.iload_n 3, 1) := dk_29_ (show cX9_copy.data.toList[34]? = some 0x1d from (LBX9_copyr_2 2).trans (by decide +kernel))
theorem dX9_copy_35 : decode cX9_copy 35 = .ok (.iaload, 1) := dk_46_ (show cX9_copy.data.toList[35]? = some 0x2e from (LBX9_copyr_2 3).trans (by decide +kernel))
theorem dX9_copy_36 : decode cX9_copy 36 = .ok (.ifCond .ne 11, 3) := dk_154_ (show cX9_copy.data.toList[36]? = some 0x9a from (LBX9_copyr_2 4).trans (by decide +kernel)) (show cX9_copy.data.toList[37]? = some 0x00 from (LBX9_copyr_2 5).trans (by decide +kernel)) (show cX9_copy.data.toList[38]? = some 0x0b from (LBX9_copyr_2 6).trans (by decide +kernel)) (by decide)
theorem dX9_copy_39 : decode cX9_copy 39 = .ok (.aload_n 0, 1) := dk_42_ (show cX9_copy.data.toList[39]? = some 0x2a from (LBX9_copyr_2 7).trans (by decide +kernel))
theorem dX9_copy_40 : decode cX9_copy 40 = .ok (.ldc_w 309, 3) := dk_19_ (show cX9_copy.data.toList[40]? = some 0x13 from (LBX9_copyr_2 8).trans (by decide +kernel)) (show cX9_copy.data.toList[41]? = some 0x01 from (LBX9_copyr_2 9).trans (by decide +kernel)) (show cX9_copy.data.toList[42]? = some 0x35 from (LBX9_copyr_2 10).trans (by decide +kernel)) (by decide)
theorem dX9_copy_43 : decode cX9_copy 43 = .ok (.invokevirtual 70, 3) := dk_182_ (show cX9_copy.data.toList[43]? = some 0xb6 from (LBX9_copyr_2 11).trans (by decide +kernel)) (show cX9_copy.data.toList[44]? = some 0x00 from (LBX9_copyr_2 12).trans (by decide +kernel)) (show cX9_copy.data.toList[45]? = some 0x46 from (LBX9_copyr_2 13).trans (by decide +kernel)) (by decide)
theorem dX9_copy_46 : decode cX9_copy 46 = .ok (.ireturn, 1) := dk_172_ (show cX9_copy.data.toList[46]? = some 0xac from (LBX9_copyr_2 14).trans (by decide +kernel))
theorem dX9_copy_47 : decode cX9_copy 47 = .ok (.aload_n 0, 1) := dk_42_ (show cX9_copy.data.toList[47]? = some 0x2a from (LBX9_copyr_2 15).trans (by decide +kernel))
theorem dX9_copy_48 : decode cX9_copy 48 = .ok (.getfield 43, 3) := dk_180_ (show cX9_copy.data.toList[48]? = some 0xb4 from (LBX9_copyr_3 0).trans (by decide +kernel)) (show cX9_copy.data.toList[49]? = some 0x00 from (LBX9_copyr_3 1).trans (by decide +kernel)) (show cX9_copy.data.toList[50]? = some 0x2b from (LBX9_copyr_3 2).trans (by decide +kernel)) (by decide)
theorem dX9_copy_51 : decode cX9_copy 51 = .ok (.iload_n 1, 1) := dk_27_ (show cX9_copy.data.toList[51]? = some 0x1b from (LBX9_copyr_3 3).trans (by decide +kernel))
theorem dX9_copy_52 : decode cX9_copy 52 = .ok (.iaload, 1) := dk_46_ (show cX9_copy.data.toList[52]? = some 0x2e from (LBX9_copyr_3 4).trans (by decide +kernel))
theorem dX9_copy_53 : decode cX9_copy 53 = .ok (.aload_n 0, 1) := dk_42_ (show cX9_copy.data.toList[53]? = some 0x2a from (LBX9_copyr_3 5).trans (by decide +kernel))
theorem dX9_copy_54 : decode cX9_copy 54 = .ok (.getfield 43, 3) := dk_180_ (show cX9_copy.data.toList[54]? = some 0xb4 from (LBX9_copyr_3 6).trans (by decide +kernel)) (show cX9_copy.data.toList[55]? = some 0x00 from (LBX9_copyr_3 7).trans (by decide +kernel)) (show cX9_copy.data.toList[56]? = some 0x2b from (LBX9_copyr_3 8).trans (by decide +kernel)) (by decide)
theorem dX9_copy_57 : decode cX9_copy 57 = .ok (.iload_n 3, 1) := dk_29_ (show cX9_copy.data.toList[57]? = some 0x1d from (LBX9_copyr_3 9).trans (by decide +kernel))
theorem dX9_copy_58 : decode cX9_copy 58 = .ok (.iaload, 1) := dk_46_ (show cX9_copy.data.toList[58]? = some 0x2e from (LBX9_copyr_3 10).trans (by decide +kernel))
theorem dX9_copy_59 : decode cX9_copy 59 = .ok (.if_icmp .eq 10, 3) := dk_159_ (show cX9_copy.data.toList[59]? = some 0x9f from (LBX9_copyr_3 11).trans (by decide +kernel)) (show cX9_copy.data.toList[60]? = some 0x00 from (LBX9_copyr_3 12).trans (by decide +kernel)) (show cX9_copy.data.toList[61]? = some 0x0a from (LBX9_copyr_3 13).trans (by decide +kernel)) (by decide)
theorem dX9_copy_69 : decode cX9_copy 69 = .ok (.iload_n 2, 1) := dk_28_ (show cX9_copy.data.toList[69]? = some 0x1c from (LBX9_copyr_4 5).trans (by decide +kernel))
theorem dX9_copy_70 : decode cX9_copy 70 = .ok (.ifCond .lt 40, 3) := dk_155_ (show cX9_copy.data.toList[70]? = some 0x9b from (LBX9_copyr_4 6).trans (by decide +kernel)) (show cX9_copy.data.toList[71]? = some 0x00 from (LBX9_copyr_4 7).trans (by decide +kernel)) (show cX9_copy.data.toList[72]? = some 0x28 from (LBX9_copyr_4 8).trans (by decide +kernel)) (by decide)
theorem dX9_copy_73 : decode cX9_copy 73 = .ok (.iload 4, 2) := dk_21_ (show cX9_copy.data.toList[73]? = some 0x15 from (LBX9_copyr_4 9).trans (by decide +kernel)) (show cX9_copy.data.toList[74]? = some 0x04 from (LBX9_copyr_4 10).trans (by decide +kernel)) (by decide)
theorem dX9_copy_75 : decode cX9_copy 75 = .ok (.ifCond .lt 35, 3) := dk_155_ (show cX9_copy.data.toList[75]? = some 0x9b from (LBX9_copyr_4 11).trans (by decide +kernel)) (show cX9_copy.data.toList[76]? = some 0x00 from (LBX9_copyr_4 12).trans (by decide +kernel)) (show cX9_copy.data.toList[77]? = some 0x23 from (LBX9_copyr_4 13).trans (by decide +kernel)) (by decide)
theorem dX9_copy_78 : decode cX9_copy 78 = .ok (.iload 5, 2) := dk_21_ (show cX9_copy.data.toList[78]? = some 0x15 from (LBX9_copyr_4 14).trans (by decide +kernel)) (show cX9_copy.data.toList[79]? = some 0x05 from (LBX9_copyr_4 15).trans (by decide +kernel)) (by decide)
theorem dX9_copy_80 : decode cX9_copy 80 = .ok (.ifCond .lt 30, 3) := dk_155_ (show cX9_copy.data.toList[80]? = some 0x9b from (LBX9_copyr_5 0).trans (by decide +kernel)) (show cX9_copy.data.toList[81]? = some 0x00 from (LBX9_copyr_5 1).trans (by decide +kernel)) (show cX9_copy.data.toList[82]? = some 0x1e from (LBX9_copyr_5 2).trans (by decide +kernel)) (by decide)
theorem dX9_copy_83 : decode cX9_copy 83 = .ok (.iload 5, 2) := dk_21_ (show cX9_copy.data.toList[83]? = some 0x15 from (LBX9_copyr_5 3).trans (by decide +kernel)) (show cX9_copy.data.toList[84]? = some 0x05 from (LBX9_copyr_5 4).trans (by decide +kernel)) (by decide)
theorem dX9_copy_85 : decode cX9_copy 85 = .ok (.aload_n 0, 1) := dk_42_ (show cX9_copy.data.toList[85]? = some 0x2a from (LBX9_copyr_5 5).trans (by decide +kernel))
theorem dX9_copy_86 : decode cX9_copy 86 = .ok (.getfield 46, 3) := dk_180_ (show cX9_copy.data.toList[86]? = some 0xb4 from (LBX9_copyr_5 6).trans (by decide +kernel)) (show cX9_copy.data.toList[87]? = some 0x00 from (LBX9_copyr_5 7).trans (by decide +kernel)) (show cX9_copy.data.toList[88]? = some 0x2e from (LBX9_copyr_5 8).trans (by decide +kernel)) (by decide)
theorem dX9_copy_89 : decode cX9_copy 89 = .ok (.iload_n 1, 1) := dk_27_ (show cX9_copy.data.toList[89]? = some 0x1b from (LBX9_copyr_5 9).trans (by decide +kernel))
theorem dX9_copy_90 : decode cX9_copy 90 = .ok (.iaload, 1) := dk_46_ (show cX9_copy.data.toList[90]? = some 0x2e from (LBX9_copyr_5 10).trans (by decide +kernel))
theorem dX9_copy_91 : decode cX9_copy 91 = .ok (.iload_n 2, 1) := dk_28_ (show cX9_copy.data.toList[91]? = some 0x1c from (LBX9_copyr_5 11).trans (by decide +kernel))
theorem dX9_copy_92 : decode cX9_copy 92 = .ok (.isub, 1) := dk_100_ (show cX9_copy.data.toList[92]? = some 0x64 from (LBX9_copyr_5 12).trans (by decide +kernel))
theorem dX9_copy_93 : decode cX9_copy 93 = .ok (.if_icmp .gt 17, 3) := dk_163_ (show cX9_copy.data.toList[93]? = some 0xa3 from (LBX9_copyr_5 13).trans (by decide +kernel)) (show cX9_copy.data.toList[94]? = some 0x00 from (LBX9_copyr_5 14).trans (by decide +kernel)) (show cX9_copy.data.toList[95]? = some 0x11 from (LBX9_copyr_5 15).trans (by decide +kernel)) (by decide)
theorem dX9_copy_96 : decode cX9_copy 96 = .ok (.iload 5, 2) := dk_21_ (show cX9_copy.data.toList[96]? = some 0x15 from (LBX9_copyr_6 0).trans (by decide +kernel)) (show cX9_copy.data.toList[97]? = some 0x05 from (LBX9_copyr_6 1).trans (by decide +kernel)) (by decide)
theorem dX9_copy_98 : decode cX9_copy 98 = .ok (.aload_n 0, 1) := dk_42_ (show cX9_copy.data.toList[98]? = some 0x2a from (LBX9_copyr_6 2).trans (by decide +kernel))
theorem dX9_copy_99 : decode cX9_copy 99 = .ok (.getfield 46, 3) := dk_180_ (show cX9_copy.data.toList[99]? = some 0xb4 from (LBX9_copyr_6 3).trans (by decide +kernel)) (show cX9_copy.data.toList[100]? = some 0x00 from (LBX9_copyr_6 4).trans (by decide +kernel)) (show cX9_copy.data.toList[101]? = some 0x2e from (LBX9_copyr_6 5).trans (by decide +kernel)) (by decide)
theorem dX9_copy_102 : decode cX9_copy 102 = .ok (.iload_n 3, 1) := dk_29_ (show cX9_copy.data.toList[102]? = some 0x1d from (LBX9_copyr_6 6).trans (by decide +kernel))
theorem dX9_copy_103 : decode cX9_copy 103 = .ok (.iaload, 1) := dk_46_ (show cX9_copy.data.toList[103]? = some 0x2e from (LBX9_copyr_6 7).trans (by decide +kernel))
theorem dX9_copy_104 : decode cX9_copy 104 = .ok (.iload 4, 2) := dk_21_ (show cX9_copy.data.toList[104]? = some 0x15 from (LBX9_copyr_6 8).trans (by decide +kernel)) (show cX9_copy.data.toList[105]? = some 0x04 from (LBX9_copyr_6 9).trans (by decide +kernel)) (by decide)
theorem dX9_copy_106 : decode cX9_copy 106 = .ok (.isub, 1) := dk_100_ (show cX9_copy.data.toList[106]? = some 0x64 from (LBX9_copyr_6 10).trans (by decide +kernel))
theorem dX9_copy_107 : decode cX9_copy 107 = .ok (.if_icmp .le 10, 3) := dk_164_ (show cX9_copy.data.toList[107]? = some 0xa4 from (LBX9_copyr_6 11).trans (by decide +kernel)) (show cX9_copy.data.toList[108]? = some 0x00 from (LBX9_copyr_6 12).trans (by decide +kernel)) (show cX9_copy.data.toList[109]? = some 0x0a from (LBX9_copyr_6 13).trans (by decide +kernel)) (by decide)
theorem dX9_copy_110 : decode cX9_copy 110 = .ok (.aload_n 0, 1) := dk_42_ (show cX9_copy.data.toList[110]? = some 0x2a from (LBX9_copyr_6 14).trans (by decide +kernel))
theorem dX9_copy_111 : decode cX9_copy 111 = .ok (.ldc 56, 2) := dk_18_ (show cX9_copy.data.toList[111]? = some 0x12 from (LBX9_copyr_6 15).trans (by decide +kernel)) (show cX9_copy.data.toList[112]? = some 0x38 from (LBX9_copyr_7 0).trans (by decide +kernel)) (by decide)
theorem dX9_copy_113 : decode cX9_copy 113 = .ok (.invokevirtual 70, 3) := dk_182_ (show cX9_copy.data.toList[113]? = some 0xb6 from (LBX9_copyr_7 1).trans (by decide +kernel)) (show cX9_copy.data.toList[114]? = some 0x00 from (LBX9_copyr_7 2).trans (by decide +kernel)) (show cX9_copy.data.toList[115]? = some 0x46 from (LBX9_copyr_7 3).trans (by decide +kernel)) (by decide)
theorem dX9_copy_116 : decode cX9_copy 116 = .ok (.ireturn, 1) := dk_172_ (show cX9_copy.data.toList[116]? = some 0xac from (LBX9_copyr_7 4).trans (by decide +kernel))
theorem dX9_copy_117 : decode cX9_copy 117 = .ok (.iconst 0, 1) := dk_3_ (show cX9_copy.data.toList[117]? = some 0x03 from (LBX9_copyr_7 5).trans (by decide +kernel))
theorem dX9_copy_118 : decode cX9_copy 118 = .ok (.istore 6, 2) := dk_54_ (show cX9_copy.data.toList[118]? = some 0x36 from (LBX9_copyr_7 6).trans (by decide +kernel)) (show cX9_copy.data.toList[119]? = some 0x06 from (LBX9_copyr_7 7).trans (by decide +kernel)) (by decide)
theorem dX9_copy_120 : decode cX9_copy 120 = .ok (.iload 6, 2) := dk_21_ (show cX9_copy.data.toList[120]? = some 0x15 from (LBX9_copyr_7 8).trans (by decide +kernel)) (show cX9_copy.data.toList[121]? = some 0x06 from (LBX9_copyr_7 9).trans (by decide +kernel)) (by decide)
theorem dX9_copy_122 : decode cX9_copy 122 = .ok (.iload 5, 2) := dk_21_ (show cX9_copy.data.toList[122]? = some 0x15 from (LBX9_copyr_7 10).trans (by decide +kernel)) (show cX9_copy.data.toList[123]? = some 0x05 from (LBX9_copyr_7 11).trans (by decide +kernel)) (by decide)
theorem dX9_copy_124 : decode cX9_copy 124 = .ok (.if_icmp .ge 30, 3) := dk_162_ (show cX9_copy.data.toList[124]? = some 0xa2 from (LBX9_copyr_7 12).trans (by decide +kernel)) (show cX9_copy.data.toList[125]? = some 0x00 from (LBX9_copyr_7 13).trans (by decide +kernel)) (show cX9_copy.data.toList[126]? = some 0x1e from (LBX9_copyr_7 14).trans (by decide +kernel)) (by decide)
theorem dX9_copy_127 : decode cX9_copy 127 = .ok (.aload_n 0, 1) := dk_42_ (show cX9_copy.data.toList[127]? = some 0x2a from (LBX9_copyr_7 15).trans (by decide +kernel))
theorem dX9_copy_128 : decode cX9_copy 128 = .ok (.getfield 53, 3) := dk_180_ (show cX9_copy.data.toList[128]? = some 0xb4 from (LBX9_copyr_8 0).trans (by decide +kernel)) (show cX9_copy.data.toList[129]? = some 0x00 from (LBX9_copyr_8 1).trans (by decide +kernel)) (show cX9_copy.data.toList[130]? = some 0x35 from (LBX9_copyr_8 2).trans (by decide +kernel)) (by decide)
theorem dX9_copy_131 : decode cX9_copy 131 = .ok (.iload 6, 2) := dk_21_ (show cX9_copy.data.toList[131]? = some 0x15 from (LBX9_copyr_8 3).trans (by decide +kernel)) (show cX9_copy.data.toList[132]? = some 0x06 from (LBX9_copyr_8 4).trans (by decide +kernel)) (by decide)
theorem dX9_copy_133 : decode cX9_copy 133 = .ok (.aload_n 0, 1) := dk_42_ (show cX9_copy.data.toList[133]? = some 0x2a from (LBX9_copyr_8 5).trans (by decide +kernel))
theorem dX9_copy_134 : decode cX9_copy 134 = .ok (.getfield 49, 3) := dk_180_ (show cX9_copy.data.toList[134]? = some 0xb4 from (LBX9_copyr_8 6).trans (by decide +kernel)) (show cX9_copy.data.toList[135]? = some 0x00 from (LBX9_copyr_8 7).trans (by decide +kernel)) (show cX9_copy.data.toList[136]? = some 0x31 from (LBX9_copyr_8 8).trans (by decide +kernel)) (by decide)
theorem dX9_copy_137 : decode cX9_copy 137 = .ok (.bipush 40, 2) := dk_16_ (show cX9_copy.data.toList[137]? = some 0x10 from (LBX9_copyr_8 9).trans (by decide +kernel)) (show cX9_copy.data.toList[138]? = some 0x28 from (LBX9_copyr_8 10).trans (by decide +kernel)) (by decide)
theorem dX9_copy_139 : decode cX9_copy 139 = .ok (.iload_n 1, 1) := dk_27_ (show cX9_copy.data.toList[139]? = some 0x1b from (LBX9_copyr_8 11).trans (by decide +kernel))
theorem dX9_copy_140 : decode cX9_copy 140 = .ok (.imul, 1) := dk_104_ (show cX9_copy.data.toList[140]? = some 0x68 from (LBX9_copyr_8 12).trans (by decide +kernel))
theorem dX9_copy_141 : decode cX9_copy 141 = .ok (.iload_n 2, 1) := dk_28_ (show cX9_copy.data.toList[141]? = some 0x1c from (LBX9_copyr_8 13).trans (by decide +kernel))
theorem dX9_copy_142 : decode cX9_copy 142 = .ok (.iadd, 1) := dk_96_ (show cX9_copy.data.toList[142]? = some 0x60 from (LBX9_copyr_8 14).trans (by decide +kernel))
theorem dX9_copy_143 : decode cX9_copy 143 = .ok (.iload 6, 2) := dk_21_ (show cX9_copy.data.toList[143]? = some 0x15 from (LBX9_copyr_8 15).trans (by decide +kernel)) (show cX9_copy.data.toList[144]? = some 0x06 from (LBX9_copyr_9 0).trans (by decide +kernel)) (by decide)
theorem dX9_copy_145 : decode cX9_copy 145 = .ok (.iadd, 1) := dk_96_ (show cX9_copy.data.toList[145]? = some 0x60 from (LBX9_copyr_9 1).trans (by decide +kernel))
theorem dX9_copy_146 : decode cX9_copy 146 = .ok (.laload, 1) := dk_47_ (show cX9_copy.data.toList[146]? = some 0x2f from (LBX9_copyr_9 2).trans (by decide +kernel))
theorem dX9_copy_147 : decode cX9_copy 147 = .ok (.lastore, 1) := dk_80_ (show cX9_copy.data.toList[147]? = some 0x50 from (LBX9_copyr_9 3).trans (by decide +kernel))
theorem dX9_copy_148 : decode cX9_copy 148 = .ok (.iinc 6 1, 3) := dk_132_ (show cX9_copy.data.toList[148]? = some 0x84 from (LBX9_copyr_9 4).trans (by decide +kernel)) (show cX9_copy.data.toList[149]? = some 0x06 from (LBX9_copyr_9 5).trans (by decide +kernel)) (show cX9_copy.data.toList[150]? = some 0x01 from (LBX9_copyr_9 6).trans (by decide +kernel)) (by decide) (by decide)
theorem dX9_copy_151 : decode cX9_copy 151 = .ok (.goto (-31), 3) := dk_167_ (show cX9_copy.data.toList[151]? = some 0xa7 from (LBX9_copyr_9 7).trans (by decide +kernel)) (show cX9_copy.data.toList[152]? = some 0xff from (LBX9_copyr_9 8).trans (by decide +kernel)) (show cX9_copy.data.toList[153]? = some 0xe1 from (LBX9_copyr_9 9).trans (by decide +kernel)) (by decide)
theorem dX9_copy_154 : decode cX9_copy 154 = .ok (.iconst 0, 1) := dk_3_ (show cX9_copy.data.toList[154]? = some 0x03 from (LBX9_copyr_9 10).trans (by decide +kernel))
theorem dX9_copy_155 : decode cX9_copy 155 = .ok (.istore 6, 2) := dk_54_ (show cX9_copy.data.toList[155]? = some 0x36 from (LBX9_copyr_9 11).trans (by decide +kernel)) (show cX9_copy.data.toList[156]? = some 0x06 from (LBX9_copyr_9 12).trans (by decide +kernel)) (by decide)
theorem dX9_copy_157 : decode cX9_copy 157 = .ok (.iload 6, 2) := dk_21_ (show cX9_copy.data.toList[157]? = some 0x15 from (LBX9_copyr_9 13).trans (by decide +kernel)) (show cX9_copy.data.toList[158]? = some 0x06 from (LBX9_copyr_9 14).trans (by decide +kernel)) (by decide)
theorem dX9_copy_159 : decode cX9_copy 159 = .ok (.iload 5, 2) := dk_21_ (show cX9_copy.data.toList[159]? = some 0x15 from (LBX9_copyr_9 15).trans (by decide +kernel)) (show cX9_copy.data.toList[160]? = some 0x05 from (LBX9_copyr_10 0).trans (by decide +kernel)) (by decide)
theorem dX9_copy_161 : decode cX9_copy 161 = .ok (.if_icmp .ge 31, 3) := dk_162_ (show cX9_copy.data.toList[161]? = some 0xa2 from (LBX9_copyr_10 1).trans (by decide +kernel)) (show cX9_copy.data.toList[162]? = some 0x00 from (LBX9_copyr_10 2).trans (by decide +kernel)) (show cX9_copy.data.toList[163]? = some 0x1f from (LBX9_copyr_10 3).trans (by decide +kernel)) (by decide)
theorem dX9_copy_164 : decode cX9_copy 164 = .ok (.aload_n 0, 1) := dk_42_ (show cX9_copy.data.toList[164]? = some 0x2a from (LBX9_copyr_10 4).trans (by decide +kernel))
theorem dX9_copy_165 : decode cX9_copy 165 = .ok (.getfield 49, 3) := dk_180_ (show cX9_copy.data.toList[165]? = some 0xb4 from (LBX9_copyr_10 5).trans (by decide +kernel)) (show cX9_copy.data.toList[166]? = some 0x00 from (LBX9_copyr_10 6).trans (by decide +kernel)) (show cX9_copy.data.toList[167]? = some 0x31 from (LBX9_copyr_10 7).trans (by decide +kernel)) (by decide)
theorem dX9_copy_168 : decode cX9_copy 168 = .ok (.bipush 40, 2) := dk_16_ (show cX9_copy.data.toList[168]? = some 0x10 from (LBX9_copyr_10 8).trans (by decide +kernel)) (show cX9_copy.data.toList[169]? = some 0x28 from (LBX9_copyr_10 9).trans (by decide +kernel)) (by decide)
theorem dX9_copy_170 : decode cX9_copy 170 = .ok (.iload_n 3, 1) := dk_29_ (show cX9_copy.data.toList[170]? = some 0x1d from (LBX9_copyr_10 10).trans (by decide +kernel))
theorem dX9_copy_171 : decode cX9_copy 171 = .ok (.imul, 1) := dk_104_ (show cX9_copy.data.toList[171]? = some 0x68 from (LBX9_copyr_10 11).trans (by decide +kernel))
theorem dX9_copy_172 : decode cX9_copy 172 = .ok (.iload 4, 2) := dk_21_ (show cX9_copy.data.toList[172]? = some 0x15 from (LBX9_copyr_10 12).trans (by decide +kernel)) (show cX9_copy.data.toList[173]? = some 0x04 from (LBX9_copyr_10 13).trans (by decide +kernel)) (by decide)
theorem dX9_copy_174 : decode cX9_copy 174 = .ok (.iadd, 1) := dk_96_ (show cX9_copy.data.toList[174]? = some 0x60 from (LBX9_copyr_10 14).trans (by decide +kernel))
theorem dX9_copy_175 : decode cX9_copy 175 = .ok (.iload 6, 2) := dk_21_ (show cX9_copy.data.toList[175]? = some 0x15 from (LBX9_copyr_10 15).trans (by decide +kernel)) (show cX9_copy.data.toList[176]? = some 0x06 from (LBX9_copyr_11 0).trans (by decide +kernel)) (by decide)
theorem dX9_copy_177 : decode cX9_copy 177 = .ok (.iadd, 1) := dk_96_ (show cX9_copy.data.toList[177]? = some 0x60 from (LBX9_copyr_11 1).trans (by decide +kernel))
theorem dX9_copy_178 : decode cX9_copy 178 = .ok (.aload_n 0, 1) := dk_42_ (show cX9_copy.data.toList[178]? = some 0x2a from (LBX9_copyr_11 2).trans (by decide +kernel))
theorem dX9_copy_179 : decode cX9_copy 179 = .ok (.getfield 53, 3) := dk_180_ (show cX9_copy.data.toList[179]? = some 0xb4 from (LBX9_copyr_11 3).trans (by decide +kernel)) (show cX9_copy.data.toList[180]? = some 0x00 from (LBX9_copyr_11 4).trans (by decide +kernel)) (show cX9_copy.data.toList[181]? = some 0x35 from (LBX9_copyr_11 5).trans (by decide +kernel)) (by decide)
theorem dX9_copy_182 : decode cX9_copy 182 = .ok (.iload 6, 2) := dk_21_ (show cX9_copy.data.toList[182]? = some 0x15 from (LBX9_copyr_11 6).trans (by decide +kernel)) (show cX9_copy.data.toList[183]? = some 0x06 from (LBX9_copyr_11 7).trans (by decide +kernel)) (by decide)
theorem dX9_copy_184 : decode cX9_copy 184 = .ok (.laload, 1) := dk_47_ (show cX9_copy.data.toList[184]? = some 0x2f from (LBX9_copyr_11 8).trans (by decide +kernel))
theorem dX9_copy_185 : decode cX9_copy 185 = .ok (.lastore, 1) := dk_80_ (show cX9_copy.data.toList[185]? = some 0x50 from (LBX9_copyr_11 9).trans (by decide +kernel))
theorem dX9_copy_186 : decode cX9_copy 186 = .ok (.iinc 6 1, 3) := dk_132_ (show cX9_copy.data.toList[186]? = some 0x84 from (LBX9_copyr_11 10).trans (by decide +kernel)) (show cX9_copy.data.toList[187]? = some 0x06 from (LBX9_copyr_11 11).trans (by decide +kernel)) (show cX9_copy.data.toList[188]? = some 0x01 from (LBX9_copyr_11 12).trans (by decide +kernel)) (by decide) (by decide)
theorem dX9_copy_189 : decode cX9_copy 189 = .ok (.goto (-32), 3) := dk_167_ (show cX9_copy.data.toList[189]? = some 0xa7 from (LBX9_copyr_11 13).trans (by decide +kernel)) (show cX9_copy.data.toList[190]? = some 0xff from (LBX9_copyr_11 14).trans (by decide +kernel)) (show cX9_copy.data.toList[191]? = some 0xe0 from (LBX9_copyr_11 15).trans (by decide +kernel)) (by decide)
theorem dX9_copy_192 : decode cX9_copy 192 = .ok (.iload 5, 2) := dk_21_ (show cX9_copy.data.toList[192]? = some 0x15 from (LBX9_copyr_12 0).trans (by decide +kernel)) (show cX9_copy.data.toList[193]? = some 0x05 from (LBX9_copyr_12 1).trans (by decide +kernel)) (by decide)
theorem dX9_copy_194 : decode cX9_copy 194 = .ok (.ireturn, 1) := dk_172_ (show cX9_copy.data.toList[194]? = some 0xac from (LBX9_copyr_12 2).trans (by decide +kernel))
theorem dX9_copy_62 : decode cX9_copy 62 = .ok (.aload_n 0, 1) := dk_42_ (show cX9_copy.data.toList[62]? = some 0x2a from (LBX9_copyr_3 14).trans (by decide +kernel))
theorem dX9_copy_63 : decode cX9_copy 63 = .ok (.ldc 167, 2) := dk_18_ (show cX9_copy.data.toList[63]? = some 0x12 from (LBX9_copyr_3 15).trans (by decide +kernel)) (show cX9_copy.data.toList[64]? = some 0xa7 from (LBX9_copyr_4 0).trans (by decide +kernel)) (by decide)
theorem dX9_copy_65 : decode cX9_copy 65 = .ok (.invokevirtual 70, 3) := dk_182_ (show cX9_copy.data.toList[65]? = some 0xb6 from (LBX9_copyr_4 1).trans (by decide +kernel)) (show cX9_copy.data.toList[66]? = some 0x00 from (LBX9_copyr_4 2).trans (by decide +kernel)) (show cX9_copy.data.toList[67]? = some 0x46 from (LBX9_copyr_4 3).trans (by decide +kernel)) (by decide)
theorem dX9_copy_68 : decode cX9_copy 68 = .ok (.ireturn, 1) := dk_172_ (show cX9_copy.data.toList[68]? = some 0xac from (LBX9_copyr_4 4).trans (by decide +kernel))
theorem uw928 : Cond.fieldLink RX9 53 "LongerBackModel" "moved" "[J" ∈ wsU := ut4 (List.mem_of_getElem? (i := 234) rfl) rfl
theorem kf_X9_53 : xWF RX9 53 9 26 RX9 TX9 27 := ⟨inUX9, rfl, by decide, uw928⟩
set_option maxHeartbeats 4000000 in
set_option maxRecDepth 100000 in
theorem c_X9_copy_o (l : Launch) (D : va_G) (cI cJ cZ cS : ClassId) (ta : Nat) (sa sv : Nat → Nat) (sz : Nat) (h0 : Nat) (ys : Nat) (yk : Nat) (yo : Nat) (yt : Nat) (mk0 : Int32) (yfa : Nat) (yfe : Nat) (mL : Int32) (mS : Int32) (mM : Int32) (yro : Nat) (yhe : Nat) (ygr : Nat) (mF : Int32) (mC : Int32) (mY : Int32) (yta : Nat) (mz : Nat) (mf : Nat) (mt : Nat) (mv : Int32) (mw : Int32) (ywa : Nat) (ybi : Nat) (ysi : Nat) (ynu : Nat) (ymo : Nat) (mq : Nat → Int32) (p0 : Int32) (p1 : Int32) (p2 : Int32) (p3 : Int32) (p4 : Int32) (ho : p0 < 0 ∨ 3 < p0) : Met l yX9_copy (Cond.code yX9_copy cX9_copy 7 (some .int) :: wsU) ({ frames := 2, cells := 0, slots := 0, locals := 45 }) (va_Pc [.ref h0, .int p0, .int p1, .int p2, .int p3, .int p4] (XW D (xT cI cJ cZ cS) ta sa sv [(h0, .inr (9, [.ref ys, .ref yk, .ref yo, .ref yt, .int mk0, .ref yfa, .ref yfe, .int mL, .int mS, .int mM, .ref yro, .ref yhe, .ref ygr, .int mF, .int mC, .int mY, .ref yta, .int (nI (mz)), .int (nI (mf)), .int (nI (mt)), .int mv, .int mw, .ref ywa, .ref ybi, .ref ysi, .ref ynu, .ref ymo])), (yt, .inl (cI, 7, .inl mq))] sz)) (XQi (fun (r : Int32) (mq2 : (Nat → Int32)) => ((r = (-1000000001)))) D (fun (mq2 : Nat → Int32) => [(h0, .inr (9, [.ref ys, .ref yk, .ref yo, .ref yt, .int mk0, .ref yfa, .ref yfe, .int mL, .int mS, .int mM, .ref yro, .ref yhe, .ref ygr, .int mF, .int mC, .int mY, .ref yta, .int (nI (mz)), .int (nI (mf)), .int (nI (mt)), .int mv, .int mw, .ref ywa, .ref ybi, .ref ysi, .ref ynu, .ref ymo])), (yt, .inl (cI, 7, .inl mq2))]) (va_A [(h0, .inr (9, [.ref ys, .ref yk, .ref yo, .ref yt, .int mk0, .ref yfa, .ref yfe, .int mL, .int mS, .int mM, .ref yro, .ref yhe, .ref ygr, .int mF, .int mC, .int mY, .ref yta, .int (nI (mz)), .int (nI (mf)), .int (nI (mt)), .int mv, .int mw, .ref ywa, .ref ybi, .ref ysi, .ref ynu, .ref ymo])), (yt, .inl (cI, 7, .inl mq))] sz)) 0 0 (va_A [(h0, .inr (9, [.ref ys, .ref yk, .ref yo, .ref yt, .int mk0, .ref yfa, .ref yfe, .int mL, .int mS, .int mM, .ref yro, .ref yhe, .ref ygr, .int mF, .int mC, .int mY, .ref yta, .int (nI (mz)), .int (nI (mf)), .int (nI (mt)), .int mv, .int mw, .ref ywa, .ref ybi, .ref ysi, .ref ynu, .ref ymo])), (yt, .inl (cI, 7, .inl mq))] sz) := by
  refine xh (QA := fun A => XQi (fun (r : Int32) (mq2 : (Nat → Int32)) => ((r = (-1000000001)))) D (fun (mq2 : Nat → Int32) => [(h0, .inr (9, [.ref ys, .ref yk, .ref yo, .ref yt, .int mk0, .ref yfa, .ref yfe, .int mL, .int mS, .int mM, .ref yro, .ref yhe, .ref ygr, .int mF, .int mC, .int mY, .ref yta, .int (nI (mz)), .int (nI (mf)), .int (nI (mt)), .int mv, .int mw, .ref ywa, .ref ybi, .ref ysi, .ref ynu, .ref ymo])), (yt, .inl (cI, 7, .inl mq2))]) A) (fr := fun A => A) (by decide) (Nat.le_of_ble_eq_true rfl) ?_
  intro p e s m below meth c ls A hF hr hlk hin hsz hP hK hD hN hZ hA hS hl
  have hF : CallFix p m c cX9_copy 7 s _ _ RX9 := hF
  have hx := hF.1
  have hb := hF.2.1
  have hml := hF.2.2.1
  have hown := hF.2.2.2.1
  have hu : ∀ w ∈ wsU, w.before _ s = true := fun w h => hF.2.2.2.2 w (List.mem_cons_of_mem _ h)
  have hl : lv_has ls 7 [(0, .ref h0), (1, .int p0), (2, .int p1), (3, .int p2), (4, .int p3), (5, .int p4)] := hl
  refine lv_iload_n hx hb dX9_copy_0 rfl (lv_at hl 1 rfl) ?_
  refine xc_Sr hF (c_X9_isOne l D cI cJ cZ cS ta sa sv s.heap.size p0 ) ks_X9_305 ⟨rfl, rfl, Nat.le_of_ble_eq_true rfl, Nat.le_of_ble_eq_true rfl⟩ ⟨Nat.le_of_ble_eq_true rfl, Nat.le_of_ble_eq_true rfl⟩ hK hN hZ hP hD hS hA [] rfl rfl rfl hl.1 rfl (Nat.le_of_ble_eq_true rfl) dX9_copy_1 (fun r_1 hw_r_1 => ?_)
  rcases hw_r_1 with ⟨rfl, h_2, h_3⟩ | ⟨rfl, h_4⟩
  · exact absurd ho (p_no h_2 h_3)
  · skip
    refine lv_if_eq (tgt := 14) hx hb dX9_copy_4 (by decide) (fun c_5 => ?_) (fun c_5 => absurd (by decide) c_5)
    refine lv_aload_n hx hb dX9_copy_14 rfl (lv_at hl 0 rfl) ?_
    refine lv_ldc (v := (-1000000001)) hx hb hown (hu _ uw648) dX9_copy_15 ?_
    refine xc_Vi (wr := []) hF (c_X9_finds_B l D cI cJ cZ cS ta sa sv s.heap.size h0 ys yk yo yt mk0 yfa yfe mL mS mM yro yhe ygr mF mC mY yta mz mf mt mv mw ywa ybi ysi ynu ymo mq ) kv_X9_70 ⟨rfl, rfl, Nat.le_of_ble_eq_true rfl, Nat.le_of_ble_eq_true rfl⟩ ⟨Nat.le_of_ble_eq_true rfl, Nat.le_of_ble_eq_true rfl⟩ hK hN hZ hP hD hS hA [0, 1] [] rfl rfl rfl rfl (by decide) 0 rfl rfl rfl rfl hl.1 rfl (Nat.le_of_ble_eq_true rfl) dX9_copy_17 (fun r_6 u_r_6 H locs hw_r_6 hP hD hS => ?_)
    obtain ⟨mq2_7, rfl⟩ : ∃ z, z = u_r_6 := ⟨_, rfl⟩
    try dsimp only at hw_r_6
    have hP : va_P D vwCl [(h0, .inr (9, [.ref ys, .ref yk, .ref yo, .ref yt, .int mk0, .ref yfa, .ref yfe, .int mL, .int mS, .int mM, .ref yro, .ref yhe, .ref ygr, .int mF, .int mC, .int mY, .ref yta, .int (nI (mz)), .int (nI (mf)), .int (nI (mt)), .int mv, .int mw, .ref ywa, .ref ybi, .ref ysi, .ref ynu, .ref ymo])), (yt, .inl (cI, 7, .inl mq2_7))] H := hP
    have hD : va_D A [(h0, .inr (9, [.ref ys, .ref yk, .ref yo, .ref yt, .int mk0, .ref yfa, .ref yfe, .int mL, .int mS, .int mM, .ref yro, .ref yhe, .ref ygr, .int mF, .int mC, .int mY, .ref yta, .int (nI (mz)), .int (nI (mf)), .int (nI (mt)), .int mv, .int mw, .ref ywa, .ref ybi, .ref ysi, .ref ynu, .ref ymo])), (yt, .inl (cI, 7, .inl mq2_7))] := hD
    subst hw_r_6
    exact W.iret (v := (-1000000001)) hx hb hr (fun t ht hW => ⟨⟨(-1000000001), mq2_7, rfl, (by first | exact rfl), by rw [ht]; exact hP.sub [0, 1] rfl, hD.sub [0, 1] (by decide) rfl⟩, hS.F ht⟩) hS.2.2 dX9_copy_20 hlk
set_option maxHeartbeats 4000000 in
set_option maxRecDepth 100000 in
theorem c_X9_copy_0o (l : Launch) (D : va_G) (cI cJ cZ cS : ClassId) (ta : Nat) (sa sv : Nat → Nat) (sz : Nat) (h0 : Nat) (ys : Nat) (yk : Nat) (yo : Nat) (yt : Nat) (mk0 : Int32) (yfa : Nat) (yfe : Nat) (mL : Int32) (mS : Int32) (mM : Int32) (yro : Nat) (yhe : Nat) (ygr : Nat) (mF : Int32) (mC : Int32) (mY : Int32) (yta : Nat) (mz : Nat) (mf : Nat) (mt : Nat) (mv : Int32) (mw : Int32) (ywa : Nat) (ybi : Nat) (ysi : Nat) (ynu : Nat) (ymo : Nat) (mq : Nat → Int32) (p1 : Int32) (p2 : Int32) (p3 : Int32) (p4 : Int32) (ho : p2 < 0 ∨ 3 < p2) : Met l yX9_copy (Cond.code yX9_copy cX9_copy 7 (some .int) :: wsU) ({ frames := 2, cells := 0, slots := 0, locals := 45 }) (va_Pc [.ref h0, .int 0, .int p1, .int p2, .int p3, .int p4] (XW D (xT cI cJ cZ cS) ta sa sv [(h0, .inr (9, [.ref ys, .ref yk, .ref yo, .ref yt, .int mk0, .ref yfa, .ref yfe, .int mL, .int mS, .int mM, .ref yro, .ref yhe, .ref ygr, .int mF, .int mC, .int mY, .ref yta, .int (nI (mz)), .int (nI (mf)), .int (nI (mt)), .int mv, .int mw, .ref ywa, .ref ybi, .ref ysi, .ref ynu, .ref ymo])), (yt, .inl (cI, 7, .inl mq))] sz)) (XQi (fun (r : Int32) (mq2 : (Nat → Int32)) => ((r = (-1000000001)))) D (fun (mq2 : Nat → Int32) => [(h0, .inr (9, [.ref ys, .ref yk, .ref yo, .ref yt, .int mk0, .ref yfa, .ref yfe, .int mL, .int mS, .int mM, .ref yro, .ref yhe, .ref ygr, .int mF, .int mC, .int mY, .ref yta, .int (nI (mz)), .int (nI (mf)), .int (nI (mt)), .int mv, .int mw, .ref ywa, .ref ybi, .ref ysi, .ref ynu, .ref ymo])), (yt, .inl (cI, 7, .inl mq2))]) (va_A [(h0, .inr (9, [.ref ys, .ref yk, .ref yo, .ref yt, .int mk0, .ref yfa, .ref yfe, .int mL, .int mS, .int mM, .ref yro, .ref yhe, .ref ygr, .int mF, .int mC, .int mY, .ref yta, .int (nI (mz)), .int (nI (mf)), .int (nI (mt)), .int mv, .int mw, .ref ywa, .ref ybi, .ref ysi, .ref ynu, .ref ymo])), (yt, .inl (cI, 7, .inl mq))] sz)) 0 0 (va_A [(h0, .inr (9, [.ref ys, .ref yk, .ref yo, .ref yt, .int mk0, .ref yfa, .ref yfe, .int mL, .int mS, .int mM, .ref yro, .ref yhe, .ref ygr, .int mF, .int mC, .int mY, .ref yta, .int (nI (mz)), .int (nI (mf)), .int (nI (mt)), .int mv, .int mw, .ref ywa, .ref ybi, .ref ysi, .ref ynu, .ref ymo])), (yt, .inl (cI, 7, .inl mq))] sz) := by
  refine xh (QA := fun A => XQi (fun (r : Int32) (mq2 : (Nat → Int32)) => ((r = (-1000000001)))) D (fun (mq2 : Nat → Int32) => [(h0, .inr (9, [.ref ys, .ref yk, .ref yo, .ref yt, .int mk0, .ref yfa, .ref yfe, .int mL, .int mS, .int mM, .ref yro, .ref yhe, .ref ygr, .int mF, .int mC, .int mY, .ref yta, .int (nI (mz)), .int (nI (mf)), .int (nI (mt)), .int mv, .int mw, .ref ywa, .ref ybi, .ref ysi, .ref ynu, .ref ymo])), (yt, .inl (cI, 7, .inl mq2))]) A) (fr := fun A => A) (by decide) (Nat.le_of_ble_eq_true rfl) ?_
  intro p e s m below meth c ls A hF hr hlk hin hsz hP hK hD hN hZ hA hS hl
  have hF : CallFix p m c cX9_copy 7 s _ _ RX9 := hF
  have hx := hF.1
  have hb := hF.2.1
  have hml := hF.2.2.1
  have hown := hF.2.2.2.1
  have hu : ∀ w ∈ wsU, w.before _ s = true := fun w h => hF.2.2.2.2 w (List.mem_cons_of_mem _ h)
  have hl : lv_has ls 7 [(0, .ref h0), (1, .int 0), (2, .int p1), (3, .int p2), (4, .int p3), (5, .int p4)] := hl
  refine lv_iload_n hx hb dX9_copy_0 rfl (lv_at hl 1 rfl) ?_
  refine xc_Sr hF (c_X9_isOne l D cI cJ cZ cS ta sa sv s.heap.size 0 ) ks_X9_305 ⟨rfl, rfl, Nat.le_of_ble_eq_true rfl, Nat.le_of_ble_eq_true rfl⟩ ⟨Nat.le_of_ble_eq_true rfl, Nat.le_of_ble_eq_true rfl⟩ hK hN hZ hP hD hS hA [] rfl rfl rfl hl.1 rfl (Nat.le_of_ble_eq_true rfl) dX9_copy_1 (fun r_1 hw_r_1 => ?_)
  rcases hw_r_1 with ⟨rfl, h_2, h_3⟩ | ⟨rfl, h_4⟩
  · skip
    refine lv_if_eq (tgt := 14) hx hb dX9_copy_4 (by decide) (fun c_5 => absurd c_5 (by decide)) (fun c_5 => ?_)
    refine lv_iload_n hx hb dX9_copy_7 rfl (lv_at hl 3 rfl) ?_
    refine xc_Sr hF (c_X9_isOne l D cI cJ cZ cS ta sa sv s.heap.size p2 ) ks_X9_305 ⟨rfl, rfl, Nat.le_of_ble_eq_true rfl, Nat.le_of_ble_eq_true rfl⟩ ⟨Nat.le_of_ble_eq_true rfl, Nat.le_of_ble_eq_true rfl⟩ hK hN hZ hP hD hS hA [] rfl rfl rfl hl.1 rfl (Nat.le_of_ble_eq_true rfl) dX9_copy_8 (fun r_6 hw_r_6 => ?_)
    rcases hw_r_6 with ⟨rfl, h_7, h_8⟩ | ⟨rfl, h_9⟩
    · exact absurd ho (p_no h_7 h_8)
    · skip
      refine lv_if_ne (tgt := 21) hx hb dX9_copy_11 (by decide) (fun c_10 => absurd (by decide) c_10) (fun c_10 => ?_)
      refine lv_aload_n hx hb dX9_copy_14 rfl (lv_at hl 0 rfl) ?_
      refine lv_ldc (v := (-1000000001)) hx hb hown (hu _ uw648) dX9_copy_15 ?_
      refine xc_Vi (wr := []) hF (c_X9_finds_B l D cI cJ cZ cS ta sa sv s.heap.size h0 ys yk yo yt mk0 yfa yfe mL mS mM yro yhe ygr mF mC mY yta mz mf mt mv mw ywa ybi ysi ynu ymo mq ) kv_X9_70 ⟨rfl, rfl, Nat.le_of_ble_eq_true rfl, Nat.le_of_ble_eq_true rfl⟩ ⟨Nat.le_of_ble_eq_true rfl, Nat.le_of_ble_eq_true rfl⟩ hK hN hZ hP hD hS hA [0, 1] [] rfl rfl rfl rfl (by decide) 0 rfl rfl rfl rfl hl.1 rfl (Nat.le_of_ble_eq_true rfl) dX9_copy_17 (fun r_11 u_r_11 H locs hw_r_11 hP hD hS => ?_)
      obtain ⟨mq2_12, rfl⟩ : ∃ z, z = u_r_11 := ⟨_, rfl⟩
      try dsimp only at hw_r_11
      have hP : va_P D vwCl [(h0, .inr (9, [.ref ys, .ref yk, .ref yo, .ref yt, .int mk0, .ref yfa, .ref yfe, .int mL, .int mS, .int mM, .ref yro, .ref yhe, .ref ygr, .int mF, .int mC, .int mY, .ref yta, .int (nI (mz)), .int (nI (mf)), .int (nI (mt)), .int mv, .int mw, .ref ywa, .ref ybi, .ref ysi, .ref ynu, .ref ymo])), (yt, .inl (cI, 7, .inl mq2_12))] H := hP
      have hD : va_D A [(h0, .inr (9, [.ref ys, .ref yk, .ref yo, .ref yt, .int mk0, .ref yfa, .ref yfe, .int mL, .int mS, .int mM, .ref yro, .ref yhe, .ref ygr, .int mF, .int mC, .int mY, .ref yta, .int (nI (mz)), .int (nI (mf)), .int (nI (mt)), .int mv, .int mw, .ref ywa, .ref ybi, .ref ysi, .ref ynu, .ref ymo])), (yt, .inl (cI, 7, .inl mq2_12))] := hD
      subst hw_r_11
      exact W.iret (v := (-1000000001)) hx hb hr (fun t ht hW => ⟨⟨(-1000000001), mq2_12, rfl, (by first | exact rfl), by rw [ht]; exact hP.sub [0, 1] rfl, hD.sub [0, 1] (by decide) rfl⟩, hS.F ht⟩) hS.2.2 dX9_copy_20 hlk
  · exact absurd h_4 (by decide)
set_option maxHeartbeats 4000000 in
set_option maxRecDepth 100000 in
theorem c_X9_copy_1o (l : Launch) (D : va_G) (cI cJ cZ cS : ClassId) (ta : Nat) (sa sv : Nat → Nat) (sz : Nat) (h0 : Nat) (ys : Nat) (yk : Nat) (yo : Nat) (yt : Nat) (mk0 : Int32) (yfa : Nat) (yfe : Nat) (mL : Int32) (mS : Int32) (mM : Int32) (yro : Nat) (yhe : Nat) (ygr : Nat) (mF : Int32) (mC : Int32) (mY : Int32) (yta : Nat) (mz : Nat) (mf : Nat) (mt : Nat) (mv : Int32) (mw : Int32) (ywa : Nat) (ybi : Nat) (ysi : Nat) (ynu : Nat) (ymo : Nat) (mq : Nat → Int32) (p1 : Int32) (p2 : Int32) (p3 : Int32) (p4 : Int32) (ho : p2 < 0 ∨ 3 < p2) : Met l yX9_copy (Cond.code yX9_copy cX9_copy 7 (some .int) :: wsU) ({ frames := 2, cells := 0, slots := 0, locals := 45 }) (va_Pc [.ref h0, .int 1, .int p1, .int p2, .int p3, .int p4] (XW D (xT cI cJ cZ cS) ta sa sv [(h0, .inr (9, [.ref ys, .ref yk, .ref yo, .ref yt, .int mk0, .ref yfa, .ref yfe, .int mL, .int mS, .int mM, .ref yro, .ref yhe, .ref ygr, .int mF, .int mC, .int mY, .ref yta, .int (nI (mz)), .int (nI (mf)), .int (nI (mt)), .int mv, .int mw, .ref ywa, .ref ybi, .ref ysi, .ref ynu, .ref ymo])), (yt, .inl (cI, 7, .inl mq))] sz)) (XQi (fun (r : Int32) (mq2 : (Nat → Int32)) => ((r = (-1000000001)))) D (fun (mq2 : Nat → Int32) => [(h0, .inr (9, [.ref ys, .ref yk, .ref yo, .ref yt, .int mk0, .ref yfa, .ref yfe, .int mL, .int mS, .int mM, .ref yro, .ref yhe, .ref ygr, .int mF, .int mC, .int mY, .ref yta, .int (nI (mz)), .int (nI (mf)), .int (nI (mt)), .int mv, .int mw, .ref ywa, .ref ybi, .ref ysi, .ref ynu, .ref ymo])), (yt, .inl (cI, 7, .inl mq2))]) (va_A [(h0, .inr (9, [.ref ys, .ref yk, .ref yo, .ref yt, .int mk0, .ref yfa, .ref yfe, .int mL, .int mS, .int mM, .ref yro, .ref yhe, .ref ygr, .int mF, .int mC, .int mY, .ref yta, .int (nI (mz)), .int (nI (mf)), .int (nI (mt)), .int mv, .int mw, .ref ywa, .ref ybi, .ref ysi, .ref ynu, .ref ymo])), (yt, .inl (cI, 7, .inl mq))] sz)) 0 0 (va_A [(h0, .inr (9, [.ref ys, .ref yk, .ref yo, .ref yt, .int mk0, .ref yfa, .ref yfe, .int mL, .int mS, .int mM, .ref yro, .ref yhe, .ref ygr, .int mF, .int mC, .int mY, .ref yta, .int (nI (mz)), .int (nI (mf)), .int (nI (mt)), .int mv, .int mw, .ref ywa, .ref ybi, .ref ysi, .ref ynu, .ref ymo])), (yt, .inl (cI, 7, .inl mq))] sz) := by
  refine xh (QA := fun A => XQi (fun (r : Int32) (mq2 : (Nat → Int32)) => ((r = (-1000000001)))) D (fun (mq2 : Nat → Int32) => [(h0, .inr (9, [.ref ys, .ref yk, .ref yo, .ref yt, .int mk0, .ref yfa, .ref yfe, .int mL, .int mS, .int mM, .ref yro, .ref yhe, .ref ygr, .int mF, .int mC, .int mY, .ref yta, .int (nI (mz)), .int (nI (mf)), .int (nI (mt)), .int mv, .int mw, .ref ywa, .ref ybi, .ref ysi, .ref ynu, .ref ymo])), (yt, .inl (cI, 7, .inl mq2))]) A) (fr := fun A => A) (by decide) (Nat.le_of_ble_eq_true rfl) ?_
  intro p e s m below meth c ls A hF hr hlk hin hsz hP hK hD hN hZ hA hS hl
  have hF : CallFix p m c cX9_copy 7 s _ _ RX9 := hF
  have hx := hF.1
  have hb := hF.2.1
  have hml := hF.2.2.1
  have hown := hF.2.2.2.1
  have hu : ∀ w ∈ wsU, w.before _ s = true := fun w h => hF.2.2.2.2 w (List.mem_cons_of_mem _ h)
  have hl : lv_has ls 7 [(0, .ref h0), (1, .int 1), (2, .int p1), (3, .int p2), (4, .int p3), (5, .int p4)] := hl
  refine lv_iload_n hx hb dX9_copy_0 rfl (lv_at hl 1 rfl) ?_
  refine xc_Sr hF (c_X9_isOne l D cI cJ cZ cS ta sa sv s.heap.size 1 ) ks_X9_305 ⟨rfl, rfl, Nat.le_of_ble_eq_true rfl, Nat.le_of_ble_eq_true rfl⟩ ⟨Nat.le_of_ble_eq_true rfl, Nat.le_of_ble_eq_true rfl⟩ hK hN hZ hP hD hS hA [] rfl rfl rfl hl.1 rfl (Nat.le_of_ble_eq_true rfl) dX9_copy_1 (fun r_1 hw_r_1 => ?_)
  rcases hw_r_1 with ⟨rfl, h_2, h_3⟩ | ⟨rfl, h_4⟩
  · skip
    refine lv_if_eq (tgt := 14) hx hb dX9_copy_4 (by decide) (fun c_5 => absurd c_5 (by decide)) (fun c_5 => ?_)
    refine lv_iload_n hx hb dX9_copy_7 rfl (lv_at hl 3 rfl) ?_
    refine xc_Sr hF (c_X9_isOne l D cI cJ cZ cS ta sa sv s.heap.size p2 ) ks_X9_305 ⟨rfl, rfl, Nat.le_of_ble_eq_true rfl, Nat.le_of_ble_eq_true rfl⟩ ⟨Nat.le_of_ble_eq_true rfl, Nat.le_of_ble_eq_true rfl⟩ hK hN hZ hP hD hS hA [] rfl rfl rfl hl.1 rfl (Nat.le_of_ble_eq_true rfl) dX9_copy_8 (fun r_6 hw_r_6 => ?_)
    rcases hw_r_6 with ⟨rfl, h_7, h_8⟩ | ⟨rfl, h_9⟩
    · exact absurd ho (p_no h_7 h_8)
    · skip
      refine lv_if_ne (tgt := 21) hx hb dX9_copy_11 (by decide) (fun c_10 => absurd (by decide) c_10) (fun c_10 => ?_)
      refine lv_aload_n hx hb dX9_copy_14 rfl (lv_at hl 0 rfl) ?_
      refine lv_ldc (v := (-1000000001)) hx hb hown (hu _ uw648) dX9_copy_15 ?_
      refine xc_Vi (wr := []) hF (c_X9_finds_B l D cI cJ cZ cS ta sa sv s.heap.size h0 ys yk yo yt mk0 yfa yfe mL mS mM yro yhe ygr mF mC mY yta mz mf mt mv mw ywa ybi ysi ynu ymo mq ) kv_X9_70 ⟨rfl, rfl, Nat.le_of_ble_eq_true rfl, Nat.le_of_ble_eq_true rfl⟩ ⟨Nat.le_of_ble_eq_true rfl, Nat.le_of_ble_eq_true rfl⟩ hK hN hZ hP hD hS hA [0, 1] [] rfl rfl rfl rfl (by decide) 0 rfl rfl rfl rfl hl.1 rfl (Nat.le_of_ble_eq_true rfl) dX9_copy_17 (fun r_11 u_r_11 H locs hw_r_11 hP hD hS => ?_)
      obtain ⟨mq2_12, rfl⟩ : ∃ z, z = u_r_11 := ⟨_, rfl⟩
      try dsimp only at hw_r_11
      have hP : va_P D vwCl [(h0, .inr (9, [.ref ys, .ref yk, .ref yo, .ref yt, .int mk0, .ref yfa, .ref yfe, .int mL, .int mS, .int mM, .ref yro, .ref yhe, .ref ygr, .int mF, .int mC, .int mY, .ref yta, .int (nI (mz)), .int (nI (mf)), .int (nI (mt)), .int mv, .int mw, .ref ywa, .ref ybi, .ref ysi, .ref ynu, .ref ymo])), (yt, .inl (cI, 7, .inl mq2_12))] H := hP
      have hD : va_D A [(h0, .inr (9, [.ref ys, .ref yk, .ref yo, .ref yt, .int mk0, .ref yfa, .ref yfe, .int mL, .int mS, .int mM, .ref yro, .ref yhe, .ref ygr, .int mF, .int mC, .int mY, .ref yta, .int (nI (mz)), .int (nI (mf)), .int (nI (mt)), .int mv, .int mw, .ref ywa, .ref ybi, .ref ysi, .ref ynu, .ref ymo])), (yt, .inl (cI, 7, .inl mq2_12))] := hD
      subst hw_r_11
      exact W.iret (v := (-1000000001)) hx hb hr (fun t ht hW => ⟨⟨(-1000000001), mq2_12, rfl, (by first | exact rfl), by rw [ht]; exact hP.sub [0, 1] rfl, hD.sub [0, 1] (by decide) rfl⟩, hS.F ht⟩) hS.2.2 dX9_copy_20 hlk
  · exact absurd h_4 (by decide)
set_option maxHeartbeats 4000000 in
set_option maxRecDepth 100000 in
theorem c_X9_copy_2o (l : Launch) (D : va_G) (cI cJ cZ cS : ClassId) (ta : Nat) (sa sv : Nat → Nat) (sz : Nat) (h0 : Nat) (ys : Nat) (yk : Nat) (yo : Nat) (yt : Nat) (mk0 : Int32) (yfa : Nat) (yfe : Nat) (mL : Int32) (mS : Int32) (mM : Int32) (yro : Nat) (yhe : Nat) (ygr : Nat) (mF : Int32) (mC : Int32) (mY : Int32) (yta : Nat) (mz : Nat) (mf : Nat) (mt : Nat) (mv : Int32) (mw : Int32) (ywa : Nat) (ybi : Nat) (ysi : Nat) (ynu : Nat) (ymo : Nat) (mq : Nat → Int32) (p1 : Int32) (p2 : Int32) (p3 : Int32) (p4 : Int32) (ho : p2 < 0 ∨ 3 < p2) : Met l yX9_copy (Cond.code yX9_copy cX9_copy 7 (some .int) :: wsU) ({ frames := 2, cells := 0, slots := 0, locals := 45 }) (va_Pc [.ref h0, .int 2, .int p1, .int p2, .int p3, .int p4] (XW D (xT cI cJ cZ cS) ta sa sv [(h0, .inr (9, [.ref ys, .ref yk, .ref yo, .ref yt, .int mk0, .ref yfa, .ref yfe, .int mL, .int mS, .int mM, .ref yro, .ref yhe, .ref ygr, .int mF, .int mC, .int mY, .ref yta, .int (nI (mz)), .int (nI (mf)), .int (nI (mt)), .int mv, .int mw, .ref ywa, .ref ybi, .ref ysi, .ref ynu, .ref ymo])), (yt, .inl (cI, 7, .inl mq))] sz)) (XQi (fun (r : Int32) (mq2 : (Nat → Int32)) => ((r = (-1000000001)))) D (fun (mq2 : Nat → Int32) => [(h0, .inr (9, [.ref ys, .ref yk, .ref yo, .ref yt, .int mk0, .ref yfa, .ref yfe, .int mL, .int mS, .int mM, .ref yro, .ref yhe, .ref ygr, .int mF, .int mC, .int mY, .ref yta, .int (nI (mz)), .int (nI (mf)), .int (nI (mt)), .int mv, .int mw, .ref ywa, .ref ybi, .ref ysi, .ref ynu, .ref ymo])), (yt, .inl (cI, 7, .inl mq2))]) (va_A [(h0, .inr (9, [.ref ys, .ref yk, .ref yo, .ref yt, .int mk0, .ref yfa, .ref yfe, .int mL, .int mS, .int mM, .ref yro, .ref yhe, .ref ygr, .int mF, .int mC, .int mY, .ref yta, .int (nI (mz)), .int (nI (mf)), .int (nI (mt)), .int mv, .int mw, .ref ywa, .ref ybi, .ref ysi, .ref ynu, .ref ymo])), (yt, .inl (cI, 7, .inl mq))] sz)) 0 0 (va_A [(h0, .inr (9, [.ref ys, .ref yk, .ref yo, .ref yt, .int mk0, .ref yfa, .ref yfe, .int mL, .int mS, .int mM, .ref yro, .ref yhe, .ref ygr, .int mF, .int mC, .int mY, .ref yta, .int (nI (mz)), .int (nI (mf)), .int (nI (mt)), .int mv, .int mw, .ref ywa, .ref ybi, .ref ysi, .ref ynu, .ref ymo])), (yt, .inl (cI, 7, .inl mq))] sz) := by
  refine xh (QA := fun A => XQi (fun (r : Int32) (mq2 : (Nat → Int32)) => ((r = (-1000000001)))) D (fun (mq2 : Nat → Int32) => [(h0, .inr (9, [.ref ys, .ref yk, .ref yo, .ref yt, .int mk0, .ref yfa, .ref yfe, .int mL, .int mS, .int mM, .ref yro, .ref yhe, .ref ygr, .int mF, .int mC, .int mY, .ref yta, .int (nI (mz)), .int (nI (mf)), .int (nI (mt)), .int mv, .int mw, .ref ywa, .ref ybi, .ref ysi, .ref ynu, .ref ymo])), (yt, .inl (cI, 7, .inl mq2))]) A) (fr := fun A => A) (by decide) (Nat.le_of_ble_eq_true rfl) ?_
  intro p e s m below meth c ls A hF hr hlk hin hsz hP hK hD hN hZ hA hS hl
  have hF : CallFix p m c cX9_copy 7 s _ _ RX9 := hF
  have hx := hF.1
  have hb := hF.2.1
  have hml := hF.2.2.1
  have hown := hF.2.2.2.1
  have hu : ∀ w ∈ wsU, w.before _ s = true := fun w h => hF.2.2.2.2 w (List.mem_cons_of_mem _ h)
  have hl : lv_has ls 7 [(0, .ref h0), (1, .int 2), (2, .int p1), (3, .int p2), (4, .int p3), (5, .int p4)] := hl
  refine lv_iload_n hx hb dX9_copy_0 rfl (lv_at hl 1 rfl) ?_
  refine xc_Sr hF (c_X9_isOne l D cI cJ cZ cS ta sa sv s.heap.size 2 ) ks_X9_305 ⟨rfl, rfl, Nat.le_of_ble_eq_true rfl, Nat.le_of_ble_eq_true rfl⟩ ⟨Nat.le_of_ble_eq_true rfl, Nat.le_of_ble_eq_true rfl⟩ hK hN hZ hP hD hS hA [] rfl rfl rfl hl.1 rfl (Nat.le_of_ble_eq_true rfl) dX9_copy_1 (fun r_1 hw_r_1 => ?_)
  rcases hw_r_1 with ⟨rfl, h_2, h_3⟩ | ⟨rfl, h_4⟩
  · skip
    refine lv_if_eq (tgt := 14) hx hb dX9_copy_4 (by decide) (fun c_5 => absurd c_5 (by decide)) (fun c_5 => ?_)
    refine lv_iload_n hx hb dX9_copy_7 rfl (lv_at hl 3 rfl) ?_
    refine xc_Sr hF (c_X9_isOne l D cI cJ cZ cS ta sa sv s.heap.size p2 ) ks_X9_305 ⟨rfl, rfl, Nat.le_of_ble_eq_true rfl, Nat.le_of_ble_eq_true rfl⟩ ⟨Nat.le_of_ble_eq_true rfl, Nat.le_of_ble_eq_true rfl⟩ hK hN hZ hP hD hS hA [] rfl rfl rfl hl.1 rfl (Nat.le_of_ble_eq_true rfl) dX9_copy_8 (fun r_6 hw_r_6 => ?_)
    rcases hw_r_6 with ⟨rfl, h_7, h_8⟩ | ⟨rfl, h_9⟩
    · exact absurd ho (p_no h_7 h_8)
    · skip
      refine lv_if_ne (tgt := 21) hx hb dX9_copy_11 (by decide) (fun c_10 => absurd (by decide) c_10) (fun c_10 => ?_)
      refine lv_aload_n hx hb dX9_copy_14 rfl (lv_at hl 0 rfl) ?_
      refine lv_ldc (v := (-1000000001)) hx hb hown (hu _ uw648) dX9_copy_15 ?_
      refine xc_Vi (wr := []) hF (c_X9_finds_B l D cI cJ cZ cS ta sa sv s.heap.size h0 ys yk yo yt mk0 yfa yfe mL mS mM yro yhe ygr mF mC mY yta mz mf mt mv mw ywa ybi ysi ynu ymo mq ) kv_X9_70 ⟨rfl, rfl, Nat.le_of_ble_eq_true rfl, Nat.le_of_ble_eq_true rfl⟩ ⟨Nat.le_of_ble_eq_true rfl, Nat.le_of_ble_eq_true rfl⟩ hK hN hZ hP hD hS hA [0, 1] [] rfl rfl rfl rfl (by decide) 0 rfl rfl rfl rfl hl.1 rfl (Nat.le_of_ble_eq_true rfl) dX9_copy_17 (fun r_11 u_r_11 H locs hw_r_11 hP hD hS => ?_)
      obtain ⟨mq2_12, rfl⟩ : ∃ z, z = u_r_11 := ⟨_, rfl⟩
      try dsimp only at hw_r_11
      have hP : va_P D vwCl [(h0, .inr (9, [.ref ys, .ref yk, .ref yo, .ref yt, .int mk0, .ref yfa, .ref yfe, .int mL, .int mS, .int mM, .ref yro, .ref yhe, .ref ygr, .int mF, .int mC, .int mY, .ref yta, .int (nI (mz)), .int (nI (mf)), .int (nI (mt)), .int mv, .int mw, .ref ywa, .ref ybi, .ref ysi, .ref ynu, .ref ymo])), (yt, .inl (cI, 7, .inl mq2_12))] H := hP
      have hD : va_D A [(h0, .inr (9, [.ref ys, .ref yk, .ref yo, .ref yt, .int mk0, .ref yfa, .ref yfe, .int mL, .int mS, .int mM, .ref yro, .ref yhe, .ref ygr, .int mF, .int mC, .int mY, .ref yta, .int (nI (mz)), .int (nI (mf)), .int (nI (mt)), .int mv, .int mw, .ref ywa, .ref ybi, .ref ysi, .ref ynu, .ref ymo])), (yt, .inl (cI, 7, .inl mq2_12))] := hD
      subst hw_r_11
      exact W.iret (v := (-1000000001)) hx hb hr (fun t ht hW => ⟨⟨(-1000000001), mq2_12, rfl, (by first | exact rfl), by rw [ht]; exact hP.sub [0, 1] rfl, hD.sub [0, 1] (by decide) rfl⟩, hS.F ht⟩) hS.2.2 dX9_copy_20 hlk
  · exact absurd h_4 (by decide)
set_option maxHeartbeats 4000000 in
set_option maxRecDepth 100000 in
theorem c_X9_copy_3o (l : Launch) (D : va_G) (cI cJ cZ cS : ClassId) (ta : Nat) (sa sv : Nat → Nat) (sz : Nat) (h0 : Nat) (ys : Nat) (yk : Nat) (yo : Nat) (yt : Nat) (mk0 : Int32) (yfa : Nat) (yfe : Nat) (mL : Int32) (mS : Int32) (mM : Int32) (yro : Nat) (yhe : Nat) (ygr : Nat) (mF : Int32) (mC : Int32) (mY : Int32) (yta : Nat) (mz : Nat) (mf : Nat) (mt : Nat) (mv : Int32) (mw : Int32) (ywa : Nat) (ybi : Nat) (ysi : Nat) (ynu : Nat) (ymo : Nat) (mq : Nat → Int32) (p1 : Int32) (p2 : Int32) (p3 : Int32) (p4 : Int32) (ho : p2 < 0 ∨ 3 < p2) : Met l yX9_copy (Cond.code yX9_copy cX9_copy 7 (some .int) :: wsU) ({ frames := 2, cells := 0, slots := 0, locals := 45 }) (va_Pc [.ref h0, .int 3, .int p1, .int p2, .int p3, .int p4] (XW D (xT cI cJ cZ cS) ta sa sv [(h0, .inr (9, [.ref ys, .ref yk, .ref yo, .ref yt, .int mk0, .ref yfa, .ref yfe, .int mL, .int mS, .int mM, .ref yro, .ref yhe, .ref ygr, .int mF, .int mC, .int mY, .ref yta, .int (nI (mz)), .int (nI (mf)), .int (nI (mt)), .int mv, .int mw, .ref ywa, .ref ybi, .ref ysi, .ref ynu, .ref ymo])), (yt, .inl (cI, 7, .inl mq))] sz)) (XQi (fun (r : Int32) (mq2 : (Nat → Int32)) => ((r = (-1000000001)))) D (fun (mq2 : Nat → Int32) => [(h0, .inr (9, [.ref ys, .ref yk, .ref yo, .ref yt, .int mk0, .ref yfa, .ref yfe, .int mL, .int mS, .int mM, .ref yro, .ref yhe, .ref ygr, .int mF, .int mC, .int mY, .ref yta, .int (nI (mz)), .int (nI (mf)), .int (nI (mt)), .int mv, .int mw, .ref ywa, .ref ybi, .ref ysi, .ref ynu, .ref ymo])), (yt, .inl (cI, 7, .inl mq2))]) (va_A [(h0, .inr (9, [.ref ys, .ref yk, .ref yo, .ref yt, .int mk0, .ref yfa, .ref yfe, .int mL, .int mS, .int mM, .ref yro, .ref yhe, .ref ygr, .int mF, .int mC, .int mY, .ref yta, .int (nI (mz)), .int (nI (mf)), .int (nI (mt)), .int mv, .int mw, .ref ywa, .ref ybi, .ref ysi, .ref ynu, .ref ymo])), (yt, .inl (cI, 7, .inl mq))] sz)) 0 0 (va_A [(h0, .inr (9, [.ref ys, .ref yk, .ref yo, .ref yt, .int mk0, .ref yfa, .ref yfe, .int mL, .int mS, .int mM, .ref yro, .ref yhe, .ref ygr, .int mF, .int mC, .int mY, .ref yta, .int (nI (mz)), .int (nI (mf)), .int (nI (mt)), .int mv, .int mw, .ref ywa, .ref ybi, .ref ysi, .ref ynu, .ref ymo])), (yt, .inl (cI, 7, .inl mq))] sz) := by
  refine xh (QA := fun A => XQi (fun (r : Int32) (mq2 : (Nat → Int32)) => ((r = (-1000000001)))) D (fun (mq2 : Nat → Int32) => [(h0, .inr (9, [.ref ys, .ref yk, .ref yo, .ref yt, .int mk0, .ref yfa, .ref yfe, .int mL, .int mS, .int mM, .ref yro, .ref yhe, .ref ygr, .int mF, .int mC, .int mY, .ref yta, .int (nI (mz)), .int (nI (mf)), .int (nI (mt)), .int mv, .int mw, .ref ywa, .ref ybi, .ref ysi, .ref ynu, .ref ymo])), (yt, .inl (cI, 7, .inl mq2))]) A) (fr := fun A => A) (by decide) (Nat.le_of_ble_eq_true rfl) ?_
  intro p e s m below meth c ls A hF hr hlk hin hsz hP hK hD hN hZ hA hS hl
  have hF : CallFix p m c cX9_copy 7 s _ _ RX9 := hF
  have hx := hF.1
  have hb := hF.2.1
  have hml := hF.2.2.1
  have hown := hF.2.2.2.1
  have hu : ∀ w ∈ wsU, w.before _ s = true := fun w h => hF.2.2.2.2 w (List.mem_cons_of_mem _ h)
  have hl : lv_has ls 7 [(0, .ref h0), (1, .int 3), (2, .int p1), (3, .int p2), (4, .int p3), (5, .int p4)] := hl
  refine lv_iload_n hx hb dX9_copy_0 rfl (lv_at hl 1 rfl) ?_
  refine xc_Sr hF (c_X9_isOne l D cI cJ cZ cS ta sa sv s.heap.size 3 ) ks_X9_305 ⟨rfl, rfl, Nat.le_of_ble_eq_true rfl, Nat.le_of_ble_eq_true rfl⟩ ⟨Nat.le_of_ble_eq_true rfl, Nat.le_of_ble_eq_true rfl⟩ hK hN hZ hP hD hS hA [] rfl rfl rfl hl.1 rfl (Nat.le_of_ble_eq_true rfl) dX9_copy_1 (fun r_1 hw_r_1 => ?_)
  rcases hw_r_1 with ⟨rfl, h_2, h_3⟩ | ⟨rfl, h_4⟩
  · skip
    refine lv_if_eq (tgt := 14) hx hb dX9_copy_4 (by decide) (fun c_5 => absurd c_5 (by decide)) (fun c_5 => ?_)
    refine lv_iload_n hx hb dX9_copy_7 rfl (lv_at hl 3 rfl) ?_
    refine xc_Sr hF (c_X9_isOne l D cI cJ cZ cS ta sa sv s.heap.size p2 ) ks_X9_305 ⟨rfl, rfl, Nat.le_of_ble_eq_true rfl, Nat.le_of_ble_eq_true rfl⟩ ⟨Nat.le_of_ble_eq_true rfl, Nat.le_of_ble_eq_true rfl⟩ hK hN hZ hP hD hS hA [] rfl rfl rfl hl.1 rfl (Nat.le_of_ble_eq_true rfl) dX9_copy_8 (fun r_6 hw_r_6 => ?_)
    rcases hw_r_6 with ⟨rfl, h_7, h_8⟩ | ⟨rfl, h_9⟩
    · exact absurd ho (p_no h_7 h_8)
    · skip
      refine lv_if_ne (tgt := 21) hx hb dX9_copy_11 (by decide) (fun c_10 => absurd (by decide) c_10) (fun c_10 => ?_)
      refine lv_aload_n hx hb dX9_copy_14 rfl (lv_at hl 0 rfl) ?_
      refine lv_ldc (v := (-1000000001)) hx hb hown (hu _ uw648) dX9_copy_15 ?_
      refine xc_Vi (wr := []) hF (c_X9_finds_B l D cI cJ cZ cS ta sa sv s.heap.size h0 ys yk yo yt mk0 yfa yfe mL mS mM yro yhe ygr mF mC mY yta mz mf mt mv mw ywa ybi ysi ynu ymo mq ) kv_X9_70 ⟨rfl, rfl, Nat.le_of_ble_eq_true rfl, Nat.le_of_ble_eq_true rfl⟩ ⟨Nat.le_of_ble_eq_true rfl, Nat.le_of_ble_eq_true rfl⟩ hK hN hZ hP hD hS hA [0, 1] [] rfl rfl rfl rfl (by decide) 0 rfl rfl rfl rfl hl.1 rfl (Nat.le_of_ble_eq_true rfl) dX9_copy_17 (fun r_11 u_r_11 H locs hw_r_11 hP hD hS => ?_)
      obtain ⟨mq2_12, rfl⟩ : ∃ z, z = u_r_11 := ⟨_, rfl⟩
      try dsimp only at hw_r_11
      have hP : va_P D vwCl [(h0, .inr (9, [.ref ys, .ref yk, .ref yo, .ref yt, .int mk0, .ref yfa, .ref yfe, .int mL, .int mS, .int mM, .ref yro, .ref yhe, .ref ygr, .int mF, .int mC, .int mY, .ref yta, .int (nI (mz)), .int (nI (mf)), .int (nI (mt)), .int mv, .int mw, .ref ywa, .ref ybi, .ref ysi, .ref ynu, .ref ymo])), (yt, .inl (cI, 7, .inl mq2_12))] H := hP
      have hD : va_D A [(h0, .inr (9, [.ref ys, .ref yk, .ref yo, .ref yt, .int mk0, .ref yfa, .ref yfe, .int mL, .int mS, .int mM, .ref yro, .ref yhe, .ref ygr, .int mF, .int mC, .int mY, .ref yta, .int (nI (mz)), .int (nI (mf)), .int (nI (mt)), .int mv, .int mw, .ref ywa, .ref ybi, .ref ysi, .ref ynu, .ref ymo])), (yt, .inl (cI, 7, .inl mq2_12))] := hD
      subst hw_r_11
      exact W.iret (v := (-1000000001)) hx hb hr (fun t ht hW => ⟨⟨(-1000000001), mq2_12, rfl, (by first | exact rfl), by rw [ht]; exact hP.sub [0, 1] rfl, hD.sub [0, 1] (by decide) rfl⟩, hS.F ht⟩) hS.2.2 dX9_copy_20 hlk
  · exact absurd h_4 (by decide)
set_option maxHeartbeats 4000000 in
set_option maxRecDepth 100000 in
theorem c_X9_copy_00 (l : Launch) (D : va_G) (cI cJ cZ cS : ClassId) (ta : Nat) (sa sv : Nat → Nat) (sz : Nat) (h0 : Nat) (ys : Nat) (yk : Nat) (yo : Nat) (yt : Nat) (mk0 : Int32) (yfa : Nat) (yfe : Nat) (mL : Int32) (mS : Int32) (mM : Int32) (yro : Nat) (yhe : Nat) (ygr : Nat) (mF : Int32) (mC : Int32) (mY : Int32) (yta : Nat) (mz : Nat) (mf : Nat) (mt : Nat) (mv : Int32) (mw : Int32) (ywa : Nat) (ybi : Nat) (ysi : Nat) (ynu : Nat) (ymo : Nat) (bi : Nat → Int32) (sq : Nat → Int32) (nb : Nat → Int64) (mv9 : Nat → Int64) (mq : Nat → Int32) (p1 : Int32) (p3 : Int32) (p4 : Int32) (zq : Nat) (zt : Nat) (ez : sq 0 = nI zq) (hzq : zq ≤ 40) (et : sq 0 = nI zt) (hzt : zt ≤ 40) (hsq : BA 4 41 sq) : Met l yX9_copy (Cond.code yX9_copy cX9_copy 7 (some .int) :: wsU) ({ frames := 2, cells := 0, slots := 0, locals := 45 }) (va_Pc [.ref h0, .int 0, .int p1, .int 0, .int p3, .int p4] (XW D (xT cI cJ cZ cS) ta sa sv [(h0, .inr (9, [.ref ys, .ref yk, .ref yo, .ref yt, .int mk0, .ref yfa, .ref yfe, .int mL, .int mS, .int mM, .ref yro, .ref yhe, .ref ygr, .int mF, .int mC, .int mY, .ref yta, .int (nI (mz)), .int (nI (mf)), .int (nI (mt)), .int mv, .int mw, .ref ywa, .ref ybi, .ref ysi, .ref ynu, .ref ymo])), (ybi, .inl (cI, 4, .inl bi)), (ysi, .inl (cI, 4, .inl sq)), (ynu, .inl (cJ, 160, .inr (.inl nb))), (ymo, .inl (cJ, 40, .inr (.inl mv9))), (yt, .inl (cI, 7, .inl mq))] sz)) (XQi (fun (r : Int32) (u : (Nat → Int64) × (Nat → Int64) × (Nat → Int32)) => match u with | (nb2, mv2, mq2) => ((r = sp_cr (bi 0) (bi 0) zq zt p1 p3 p4)) ∧ (∀ j, nb2 (0 + j) = sp_cn (bi 0) (bi 0) zq zt p1 p3 p4 (fun k => nb (0 + k)) j (nb (0 + j))) ∧ (∀ j, j < 0 ∨ 40 ≤ j → nb2 j = nb j)) D (fun (u : (Nat → Int64) × (Nat → Int64) × (Nat → Int32)) => match u with | (nb2, mv2, mq2) => [(h0, .inr (9, [.ref ys, .ref yk, .ref yo, .ref yt, .int mk0, .ref yfa, .ref yfe, .int mL, .int mS, .int mM, .ref yro, .ref yhe, .ref ygr, .int mF, .int mC, .int mY, .ref yta, .int (nI (mz)), .int (nI (mf)), .int (nI (mt)), .int mv, .int mw, .ref ywa, .ref ybi, .ref ysi, .ref ynu, .ref ymo])), (ybi, .inl (cI, 4, .inl bi)), (ysi, .inl (cI, 4, .inl sq)), (ynu, .inl (cJ, 160, .inr (.inl nb2))), (ymo, .inl (cJ, 40, .inr (.inl mv2))), (yt, .inl (cI, 7, .inl mq2))]) (va_A [(h0, .inr (9, [.ref ys, .ref yk, .ref yo, .ref yt, .int mk0, .ref yfa, .ref yfe, .int mL, .int mS, .int mM, .ref yro, .ref yhe, .ref ygr, .int mF, .int mC, .int mY, .ref yta, .int (nI (mz)), .int (nI (mf)), .int (nI (mt)), .int mv, .int mw, .ref ywa, .ref ybi, .ref ysi, .ref ynu, .ref ymo])), (ybi, .inl (cI, 4, .inl bi)), (ysi, .inl (cI, 4, .inl sq)), (ynu, .inl (cJ, 160, .inr (.inl nb))), (ymo, .inl (cJ, 40, .inr (.inl mv9))), (yt, .inl (cI, 7, .inl mq))] sz)) 0 0 (va_A [(h0, .inr (9, [.ref ys, .ref yk, .ref yo, .ref yt, .int mk0, .ref yfa, .ref yfe, .int mL, .int mS, .int mM, .ref yro, .ref yhe, .ref ygr, .int mF, .int mC, .int mY, .ref yta, .int (nI (mz)), .int (nI (mf)), .int (nI (mt)), .int mv, .int mw, .ref ywa, .ref ybi, .ref ysi, .ref ynu, .ref ymo])), (ybi, .inl (cI, 4, .inl bi)), (ysi, .inl (cI, 4, .inl sq)), (ynu, .inl (cJ, 160, .inr (.inl nb))), (ymo, .inl (cJ, 40, .inr (.inl mv9))), (yt, .inl (cI, 7, .inl mq))] sz) := by
  refine xh (QA := fun A => XQi (fun (r : Int32) (u : (Nat → Int64) × (Nat → Int64) × (Nat → Int32)) => match u with | (nb2, mv2, mq2) => ((r = sp_cr (bi 0) (bi 0) zq zt p1 p3 p4)) ∧ (∀ j, nb2 (0 + j) = sp_cn (bi 0) (bi 0) zq zt p1 p3 p4 (fun k => nb (0 + k)) j (nb (0 + j))) ∧ (∀ j, j < 0 ∨ 40 ≤ j → nb2 j = nb j)) D (fun (u : (Nat → Int64) × (Nat → Int64) × (Nat → Int32)) => match u with | (nb2, mv2, mq2) => [(h0, .inr (9, [.ref ys, .ref yk, .ref yo, .ref yt, .int mk0, .ref yfa, .ref yfe, .int mL, .int mS, .int mM, .ref yro, .ref yhe, .ref ygr, .int mF, .int mC, .int mY, .ref yta, .int (nI (mz)), .int (nI (mf)), .int (nI (mt)), .int mv, .int mw, .ref ywa, .ref ybi, .ref ysi, .ref ynu, .ref ymo])), (ybi, .inl (cI, 4, .inl bi)), (ysi, .inl (cI, 4, .inl sq)), (ynu, .inl (cJ, 160, .inr (.inl nb2))), (ymo, .inl (cJ, 40, .inr (.inl mv2))), (yt, .inl (cI, 7, .inl mq2))]) A) (fr := fun A => A) (by decide) (Nat.le_of_ble_eq_true rfl) ?_
  intro p e s m below meth c ls A hF hr hlk hin hsz hP hK hD hN hZ hA hS hl
  have hF : CallFix p m c cX9_copy 7 s _ _ RX9 := hF
  have hx := hF.1
  have hb := hF.2.1
  have hml := hF.2.2.1
  have hown := hF.2.2.2.1
  have hu : ∀ w ∈ wsU, w.before _ s = true := fun w h => hF.2.2.2.2 w (List.mem_cons_of_mem _ h)
  have hl : lv_has ls 7 [(0, .ref h0), (1, .int 0), (2, .int p1), (3, .int 0), (4, .int p3), (5, .int p4)] := hl
  refine lv_iload_n hx hb dX9_copy_0 rfl (lv_at hl 1 rfl) ?_
  refine xc_Sr hF (c_X9_isOne l D cI cJ cZ cS ta sa sv s.heap.size 0 ) ks_X9_305 ⟨rfl, rfl, Nat.le_of_ble_eq_true rfl, Nat.le_of_ble_eq_true rfl⟩ ⟨Nat.le_of_ble_eq_true rfl, Nat.le_of_ble_eq_true rfl⟩ hK hN hZ hP hD hS hA [] rfl rfl rfl hl.1 rfl (Nat.le_of_ble_eq_true rfl) dX9_copy_1 (fun r_1 hw_r_1 => ?_)
  rcases hw_r_1 with ⟨rfl, h_2, h_3⟩ | ⟨rfl, h_4⟩
  · skip
    refine lv_if_eq (tgt := 14) hx hb dX9_copy_4 (by decide) (fun c_5 => absurd c_5 (by decide)) (fun c_5 => ?_)
    refine lv_iload_n hx hb dX9_copy_7 rfl (lv_at hl 3 rfl) ?_
    refine xc_Sr hF (c_X9_isOne l D cI cJ cZ cS ta sa sv s.heap.size 0 ) ks_X9_305 ⟨rfl, rfl, Nat.le_of_ble_eq_true rfl, Nat.le_of_ble_eq_true rfl⟩ ⟨Nat.le_of_ble_eq_true rfl, Nat.le_of_ble_eq_true rfl⟩ hK hN hZ hP hD hS hA [] rfl rfl rfl hl.1 rfl (Nat.le_of_ble_eq_true rfl) dX9_copy_8 (fun r_6 hw_r_6 => ?_)
    rcases hw_r_6 with ⟨rfl, h_7, h_8⟩ | ⟨rfl, h_9⟩
    · skip
      refine lv_if_ne (tgt := 21) hx hb dX9_copy_11 (by decide) (fun c_10 => ?_) (fun c_10 => absurd c_10 (by decide))
      refine lv_aload_n hx hb dX9_copy_21 rfl (lv_at hl 0 rfl) ?_
      refine xg hF kf_X9_43 hK hP 0 rfl rfl dX9_copy_22 ?_
      refine lv_iload_n hx hb dX9_copy_25 rfl (lv_at hl 1 rfl) ?_
      refine va_iald hx hb hK hP 1 0 rfl rfl (xin 0 4 (by decide) (by decide)) dX9_copy_26 ?_
      refine xl_i (y := bi 0) (congrArg bi rfl) ?_
      refine lv_if_eq (tgt := 39) hx hb dX9_copy_27 (by decide) (fun c_11 => ?_) (fun c_11 => ?_)
      · skip
        refine lv_aload_n hx hb dX9_copy_39 rfl (lv_at hl 0 rfl) ?_
        refine lv_ldcw (v := (-1000000006)) hx hb hown (hu _ uw910) dX9_copy_40 ?_
        refine xc_Vi (wr := [(ybi, .inl (cI, 4, .inl bi)), (ysi, .inl (cI, 4, .inl sq)), (ynu, .inl (cJ, 160, .inr (.inl nb))), (ymo, .inl (cJ, 40, .inr (.inl mv9)))]) hF (c_X9_finds_M l D cI cJ cZ cS ta sa sv s.heap.size h0 ys yk yo yt mk0 yfa yfe mL mS mM yro yhe ygr mF mC mY yta mz mf mt mv mw ywa ybi ysi ynu ymo mq ) kv_X9_70 ⟨rfl, rfl, Nat.le_of_ble_eq_true rfl, Nat.le_of_ble_eq_true rfl⟩ ⟨Nat.le_of_ble_eq_true rfl, Nat.le_of_ble_eq_true rfl⟩ hK hN hZ hP hD hS hA [0, 5] [1, 2, 3, 4] rfl rfl rfl rfl (by decide) 0 rfl rfl rfl rfl hl.1 rfl (Nat.le_of_ble_eq_true rfl) dX9_copy_43 (fun r_12 u_r_12 H locs hw_r_12 hP hD hS => ?_)
        obtain ⟨mq2_13, rfl⟩ : ∃ z, z = u_r_12 := ⟨_, rfl⟩
        try dsimp only at hw_r_12
        have hP : va_P D vwCl [(ybi, .inl (cI, 4, .inl bi)), (ysi, .inl (cI, 4, .inl sq)), (ynu, .inl (cJ, 160, .inr (.inl nb))), (ymo, .inl (cJ, 40, .inr (.inl mv9))), (h0, .inr (9, [.ref ys, .ref yk, .ref yo, .ref yt, .int mk0, .ref yfa, .ref yfe, .int mL, .int mS, .int mM, .ref yro, .ref yhe, .ref ygr, .int mF, .int mC, .int mY, .ref yta, .int (nI (mz)), .int (nI (mf)), .int (nI (mt)), .int mv, .int mw, .ref ywa, .ref ybi, .ref ysi, .ref ynu, .ref ymo])), (yt, .inl (cI, 7, .inl mq2_13))] H := hP
        have hD : va_D A [(ybi, .inl (cI, 4, .inl bi)), (ysi, .inl (cI, 4, .inl sq)), (ynu, .inl (cJ, 160, .inr (.inl nb))), (ymo, .inl (cJ, 40, .inr (.inl mv9))), (h0, .inr (9, [.ref ys, .ref yk, .ref yo, .ref yt, .int mk0, .ref yfa, .ref yfe, .int mL, .int mS, .int mM, .ref yro, .ref yhe, .ref ygr, .int mF, .int mC, .int mY, .ref yta, .int (nI (mz)), .int (nI (mf)), .int (nI (mt)), .int mv, .int mw, .ref ywa, .ref ybi, .ref ysi, .ref ynu, .ref ymo])), (yt, .inl (cI, 7, .inl mq2_13))] := hD
        subst hw_r_12
        exact W.iret (v := (-1000000006)) hx hb hr (fun t ht hW => ⟨⟨(-1000000006), (nb, mv9, mq2_13), rfl, ⟨(sp_cr1 (Or.inl c_11)), (fun j => sp_c0 (fun h => h.1 c_11)), (fun _ _ => rfl)⟩, by rw [ht]; exact hP.sub [4, 0, 1, 2, 3, 5] rfl, hD.sub [4, 0, 1, 2, 3, 5] (by decide +kernel) rfl⟩, hS.F ht⟩) hS.2.2 dX9_copy_46 hlk
      · skip
        refine lv_aload_n hx hb dX9_copy_30 rfl (lv_at hl 0 rfl) ?_
        refine xg hF kf_X9_43 hK hP 0 rfl rfl dX9_copy_31 ?_
        refine lv_iload_n hx hb dX9_copy_34 rfl (lv_at hl 3 rfl) ?_
        refine va_iald hx hb hK hP 1 0 rfl rfl (xin 0 4 (by decide) (by decide)) dX9_copy_35 ?_
        refine xl_i (y := bi 0) (congrArg bi rfl) ?_
        refine lv_if_ne (tgt := 47) hx hb dX9_copy_36 (by decide) (fun c_14 => ?_) (fun c_14 => ?_)
        · skip
          refine lv_aload_n hx hb dX9_copy_47 rfl (lv_at hl 0 rfl) ?_
          refine xg hF kf_X9_43 hK hP 0 rfl rfl dX9_copy_48 ?_
          refine lv_iload_n hx hb dX9_copy_51 rfl (lv_at hl 1 rfl) ?_
          refine va_iald hx hb hK hP 1 0 rfl rfl (xin 0 4 (by decide) (by decide)) dX9_copy_52 ?_
          refine xl_i (y := bi 0) (congrArg bi rfl) ?_
          refine lv_aload_n hx hb dX9_copy_53 rfl (lv_at hl 0 rfl) ?_
          refine xg hF kf_X9_43 hK hP 0 rfl rfl dX9_copy_54 ?_
          refine lv_iload_n hx hb dX9_copy_57 rfl (lv_at hl 3 rfl) ?_
          refine va_iald hx hb hK hP 1 0 rfl rfl (xin 0 4 (by decide) (by decide)) dX9_copy_58 ?_
          refine xl_i (y := bi 0) (congrArg bi rfl) ?_
          refine lv_icmp_eq (tgt := 69) hx hb dX9_copy_59 (by decide) (fun c_15 => ?_) (fun c_15 => absurd rfl c_15)
          refine lv_iload_n hx hb dX9_copy_69 rfl (lv_at hl 2 rfl) ?_
          refine lv_if_lt (tgt := 110) hx hb dX9_copy_70 (by decide) (fun c_16 => ?_) (fun c_16 => ?_)
          · skip
            refine lv_aload_n hx hb dX9_copy_110 rfl (lv_at hl 0 rfl) ?_
            refine lv_ldc (v := (-1000000001)) hx hb hown (hu _ uw648) dX9_copy_111 ?_
            refine xc_Vi (wr := [(ybi, .inl (cI, 4, .inl bi)), (ysi, .inl (cI, 4, .inl sq)), (ynu, .inl (cJ, 160, .inr (.inl nb))), (ymo, .inl (cJ, 40, .inr (.inl mv9)))]) hF (c_X9_finds_B l D cI cJ cZ cS ta sa sv s.heap.size h0 ys yk yo yt mk0 yfa yfe mL mS mM yro yhe ygr mF mC mY yta mz mf mt mv mw ywa ybi ysi ynu ymo mq ) kv_X9_70 ⟨rfl, rfl, Nat.le_of_ble_eq_true rfl, Nat.le_of_ble_eq_true rfl⟩ ⟨Nat.le_of_ble_eq_true rfl, Nat.le_of_ble_eq_true rfl⟩ hK hN hZ hP hD hS hA [0, 5] [1, 2, 3, 4] rfl rfl rfl rfl (by decide) 0 rfl rfl rfl rfl hl.1 rfl (Nat.le_of_ble_eq_true rfl) dX9_copy_113 (fun r_17 u_r_17 H locs hw_r_17 hP hD hS => ?_)
            obtain ⟨mq2_18, rfl⟩ : ∃ z, z = u_r_17 := ⟨_, rfl⟩
            try dsimp only at hw_r_17
            have hP : va_P D vwCl [(ybi, .inl (cI, 4, .inl bi)), (ysi, .inl (cI, 4, .inl sq)), (ynu, .inl (cJ, 160, .inr (.inl nb))), (ymo, .inl (cJ, 40, .inr (.inl mv9))), (h0, .inr (9, [.ref ys, .ref yk, .ref yo, .ref yt, .int mk0, .ref yfa, .ref yfe, .int mL, .int mS, .int mM, .ref yro, .ref yhe, .ref ygr, .int mF, .int mC, .int mY, .ref yta, .int (nI (mz)), .int (nI (mf)), .int (nI (mt)), .int mv, .int mw, .ref ywa, .ref ybi, .ref ysi, .ref ynu, .ref ymo])), (yt, .inl (cI, 7, .inl mq2_18))] H := hP
            have hD : va_D A [(ybi, .inl (cI, 4, .inl bi)), (ysi, .inl (cI, 4, .inl sq)), (ynu, .inl (cJ, 160, .inr (.inl nb))), (ymo, .inl (cJ, 40, .inr (.inl mv9))), (h0, .inr (9, [.ref ys, .ref yk, .ref yo, .ref yt, .int mk0, .ref yfa, .ref yfe, .int mL, .int mS, .int mM, .ref yro, .ref yhe, .ref ygr, .int mF, .int mC, .int mY, .ref yta, .int (nI (mz)), .int (nI (mf)), .int (nI (mt)), .int mv, .int mw, .ref ywa, .ref ybi, .ref ysi, .ref ynu, .ref ymo])), (yt, .inl (cI, 7, .inl mq2_18))] := hD
            subst hw_r_17
            exact W.iret (v := (-1000000001)) hx hb hr (fun t ht hW => ⟨⟨(-1000000001), (nb, mv9, mq2_18), rfl, ⟨(sp_cr3 c_14 c_14 rfl (fun q => (sp_s1 c_16) q.1)), (fun j => sp_c0 (fun h => (sp_s1 c_16) h.2.2.2.1)), (fun _ _ => rfl)⟩, by rw [ht]; exact hP.sub [4, 0, 1, 2, 3, 5] rfl, hD.sub [4, 0, 1, 2, 3, 5] (by decide +kernel) rfl⟩, hS.F ht⟩) hS.2.2 dX9_copy_116 hlk
          · skip
            refine lv_iload hx hb dX9_copy_73 (lv_at hl 4 rfl) ?_
            refine lv_if_lt (tgt := 110) hx hb dX9_copy_75 (by decide) (fun c_19 => ?_) (fun c_19 => ?_)
            · skip
              refine lv_aload_n hx hb dX9_copy_110 rfl (lv_at hl 0 rfl) ?_
              refine lv_ldc (v := (-1000000001)) hx hb hown (hu _ uw648) dX9_copy_111 ?_
              refine xc_Vi (wr := [(ybi, .inl (cI, 4, .inl bi)), (ysi, .inl (cI, 4, .inl sq)), (ynu, .inl (cJ, 160, .inr (.inl nb))), (ymo, .inl (cJ, 40, .inr (.inl mv9)))]) hF (c_X9_finds_B l D cI cJ cZ cS ta sa sv s.heap.size h0 ys yk yo yt mk0 yfa yfe mL mS mM yro yhe ygr mF mC mY yta mz mf mt mv mw ywa ybi ysi ynu ymo mq ) kv_X9_70 ⟨rfl, rfl, Nat.le_of_ble_eq_true rfl, Nat.le_of_ble_eq_true rfl⟩ ⟨Nat.le_of_ble_eq_true rfl, Nat.le_of_ble_eq_true rfl⟩ hK hN hZ hP hD hS hA [0, 5] [1, 2, 3, 4] rfl rfl rfl rfl (by decide) 0 rfl rfl rfl rfl hl.1 rfl (Nat.le_of_ble_eq_true rfl) dX9_copy_113 (fun r_20 u_r_20 H locs hw_r_20 hP hD hS => ?_)
              obtain ⟨mq2_21, rfl⟩ : ∃ z, z = u_r_20 := ⟨_, rfl⟩
              try dsimp only at hw_r_20
              have hP : va_P D vwCl [(ybi, .inl (cI, 4, .inl bi)), (ysi, .inl (cI, 4, .inl sq)), (ynu, .inl (cJ, 160, .inr (.inl nb))), (ymo, .inl (cJ, 40, .inr (.inl mv9))), (h0, .inr (9, [.ref ys, .ref yk, .ref yo, .ref yt, .int mk0, .ref yfa, .ref yfe, .int mL, .int mS, .int mM, .ref yro, .ref yhe, .ref ygr, .int mF, .int mC, .int mY, .ref yta, .int (nI (mz)), .int (nI (mf)), .int (nI (mt)), .int mv, .int mw, .ref ywa, .ref ybi, .ref ysi, .ref ynu, .ref ymo])), (yt, .inl (cI, 7, .inl mq2_21))] H := hP
              have hD : va_D A [(ybi, .inl (cI, 4, .inl bi)), (ysi, .inl (cI, 4, .inl sq)), (ynu, .inl (cJ, 160, .inr (.inl nb))), (ymo, .inl (cJ, 40, .inr (.inl mv9))), (h0, .inr (9, [.ref ys, .ref yk, .ref yo, .ref yt, .int mk0, .ref yfa, .ref yfe, .int mL, .int mS, .int mM, .ref yro, .ref yhe, .ref ygr, .int mF, .int mC, .int mY, .ref yta, .int (nI (mz)), .int (nI (mf)), .int (nI (mt)), .int mv, .int mw, .ref ywa, .ref ybi, .ref ysi, .ref ynu, .ref ymo])), (yt, .inl (cI, 7, .inl mq2_21))] := hD
              subst hw_r_20
              exact W.iret (v := (-1000000001)) hx hb hr (fun t ht hW => ⟨⟨(-1000000001), (nb, mv9, mq2_21), rfl, ⟨(sp_cr3 c_14 c_14 rfl (fun q => (sp_s1 c_19) q.2)), (fun j => sp_c0 (fun h => (sp_s1 c_19) h.2.2.2.2)), (fun _ _ => rfl)⟩, by rw [ht]; exact hP.sub [4, 0, 1, 2, 3, 5] rfl, hD.sub [4, 0, 1, 2, 3, 5] (by decide +kernel) rfl⟩, hS.F ht⟩) hS.2.2 dX9_copy_116 hlk
            · skip
              refine lv_iload hx hb dX9_copy_78 (lv_at hl 5 rfl) ?_
              refine lv_if_lt (tgt := 110) hx hb dX9_copy_80 (by decide) (fun c_22 => ?_) (fun c_22 => ?_)
              · skip
                refine lv_aload_n hx hb dX9_copy_110 rfl (lv_at hl 0 rfl) ?_
                refine lv_ldc (v := (-1000000001)) hx hb hown (hu _ uw648) dX9_copy_111 ?_
                refine xc_Vi (wr := [(ybi, .inl (cI, 4, .inl bi)), (ysi, .inl (cI, 4, .inl sq)), (ynu, .inl (cJ, 160, .inr (.inl nb))), (ymo, .inl (cJ, 40, .inr (.inl mv9)))]) hF (c_X9_finds_B l D cI cJ cZ cS ta sa sv s.heap.size h0 ys yk yo yt mk0 yfa yfe mL mS mM yro yhe ygr mF mC mY yta mz mf mt mv mw ywa ybi ysi ynu ymo mq ) kv_X9_70 ⟨rfl, rfl, Nat.le_of_ble_eq_true rfl, Nat.le_of_ble_eq_true rfl⟩ ⟨Nat.le_of_ble_eq_true rfl, Nat.le_of_ble_eq_true rfl⟩ hK hN hZ hP hD hS hA [0, 5] [1, 2, 3, 4] rfl rfl rfl rfl (by decide) 0 rfl rfl rfl rfl hl.1 rfl (Nat.le_of_ble_eq_true rfl) dX9_copy_113 (fun r_23 u_r_23 H locs hw_r_23 hP hD hS => ?_)
                obtain ⟨mq2_24, rfl⟩ : ∃ z, z = u_r_23 := ⟨_, rfl⟩
                try dsimp only at hw_r_23
                have hP : va_P D vwCl [(ybi, .inl (cI, 4, .inl bi)), (ysi, .inl (cI, 4, .inl sq)), (ynu, .inl (cJ, 160, .inr (.inl nb))), (ymo, .inl (cJ, 40, .inr (.inl mv9))), (h0, .inr (9, [.ref ys, .ref yk, .ref yo, .ref yt, .int mk0, .ref yfa, .ref yfe, .int mL, .int mS, .int mM, .ref yro, .ref yhe, .ref ygr, .int mF, .int mC, .int mY, .ref yta, .int (nI (mz)), .int (nI (mf)), .int (nI (mt)), .int mv, .int mw, .ref ywa, .ref ybi, .ref ysi, .ref ynu, .ref ymo])), (yt, .inl (cI, 7, .inl mq2_24))] H := hP
                have hD : va_D A [(ybi, .inl (cI, 4, .inl bi)), (ysi, .inl (cI, 4, .inl sq)), (ynu, .inl (cJ, 160, .inr (.inl nb))), (ymo, .inl (cJ, 40, .inr (.inl mv9))), (h0, .inr (9, [.ref ys, .ref yk, .ref yo, .ref yt, .int mk0, .ref yfa, .ref yfe, .int mL, .int mS, .int mM, .ref yro, .ref yhe, .ref ygr, .int mF, .int mC, .int mY, .ref yta, .int (nI (mz)), .int (nI (mf)), .int (nI (mt)), .int mv, .int mw, .ref ywa, .ref ybi, .ref ysi, .ref ynu, .ref ymo])), (yt, .inl (cI, 7, .inl mq2_24))] := hD
                subst hw_r_23
                exact W.iret (v := (-1000000001)) hx hb hr (fun t ht hW => ⟨⟨(-1000000001), (nb, mv9, mq2_24), rfl, ⟨(sp_cr3 c_14 c_14 rfl (fun q => (sp_s2 c_22) q.1)), (fun j => sp_c0 (fun h => (sp_s2 c_22) h.2.2.2.1)), (fun _ _ => rfl)⟩, by rw [ht]; exact hP.sub [4, 0, 1, 2, 3, 5] rfl, hD.sub [4, 0, 1, 2, 3, 5] (by decide +kernel) rfl⟩, hS.F ht⟩) hS.2.2 dX9_copy_116 hlk
              · skip
                refine lv_iload hx hb dX9_copy_83 (lv_at hl 5 rfl) ?_
                refine lv_aload_n hx hb dX9_copy_85 rfl (lv_at hl 0 rfl) ?_
                refine xg hF kf_X9_46 hK hP 0 rfl rfl dX9_copy_86 ?_
                refine lv_iload_n hx hb dX9_copy_89 rfl (lv_at hl 1 rfl) ?_
                refine va_iald hx hb hK hP 2 0 rfl rfl (xin 0 4 (by decide) (by decide)) dX9_copy_90 ?_
                refine xl_i (y := sq 0) (congrArg sq rfl) ?_
                refine xl_i (y := nI (zq)) ez ?_
                refine lv_iload_n hx hb dX9_copy_91 rfl (lv_at hl 2 rfl) ?_
                refine lv_isub hx hb dX9_copy_92 ?_
                refine lv_topi (fun x_25 ex_25 => ?_)
                refine lv_icmp_gt (tgt := 110) hx hb dX9_copy_93 (by decide) (fun c_26 => ?_) (fun c_26 => ?_)
                · skip
                  refine lv_aload_n hx hb dX9_copy_110 rfl (lv_at hl 0 rfl) ?_
                  refine lv_ldc (v := (-1000000001)) hx hb hown (hu _ uw648) dX9_copy_111 ?_
                  refine xc_Vi (wr := [(ybi, .inl (cI, 4, .inl bi)), (ysi, .inl (cI, 4, .inl sq)), (ynu, .inl (cJ, 160, .inr (.inl nb))), (ymo, .inl (cJ, 40, .inr (.inl mv9)))]) hF (c_X9_finds_B l D cI cJ cZ cS ta sa sv s.heap.size h0 ys yk yo yt mk0 yfa yfe mL mS mM yro yhe ygr mF mC mY yta mz mf mt mv mw ywa ybi ysi ynu ymo mq ) kv_X9_70 ⟨rfl, rfl, Nat.le_of_ble_eq_true rfl, Nat.le_of_ble_eq_true rfl⟩ ⟨Nat.le_of_ble_eq_true rfl, Nat.le_of_ble_eq_true rfl⟩ hK hN hZ hP hD hS hA [0, 5] [1, 2, 3, 4] rfl rfl rfl rfl (by decide) 0 rfl rfl rfl rfl hl.1 rfl (Nat.le_of_ble_eq_true rfl) dX9_copy_113 (fun r_27 u_r_27 H locs hw_r_27 hP hD hS => ?_)
                  obtain ⟨mq2_28, rfl⟩ : ∃ z, z = u_r_27 := ⟨_, rfl⟩
                  try dsimp only at hw_r_27
                  have hP : va_P D vwCl [(ybi, .inl (cI, 4, .inl bi)), (ysi, .inl (cI, 4, .inl sq)), (ynu, .inl (cJ, 160, .inr (.inl nb))), (ymo, .inl (cJ, 40, .inr (.inl mv9))), (h0, .inr (9, [.ref ys, .ref yk, .ref yo, .ref yt, .int mk0, .ref yfa, .ref yfe, .int mL, .int mS, .int mM, .ref yro, .ref yhe, .ref ygr, .int mF, .int mC, .int mY, .ref yta, .int (nI (mz)), .int (nI (mf)), .int (nI (mt)), .int mv, .int mw, .ref ywa, .ref ybi, .ref ysi, .ref ynu, .ref ymo])), (yt, .inl (cI, 7, .inl mq2_28))] H := hP
                  have hD : va_D A [(ybi, .inl (cI, 4, .inl bi)), (ysi, .inl (cI, 4, .inl sq)), (ynu, .inl (cJ, 160, .inr (.inl nb))), (ymo, .inl (cJ, 40, .inr (.inl mv9))), (h0, .inr (9, [.ref ys, .ref yk, .ref yo, .ref yt, .int mk0, .ref yfa, .ref yfe, .int mL, .int mS, .int mM, .ref yro, .ref yhe, .ref ygr, .int mF, .int mC, .int mY, .ref yta, .int (nI (mz)), .int (nI (mf)), .int (nI (mt)), .int mv, .int mw, .ref ywa, .ref ybi, .ref ysi, .ref ynu, .ref ymo])), (yt, .inl (cI, 7, .inl mq2_28))] := hD
                  subst hw_r_27
                  exact W.iret (v := (-1000000001)) hx hb hr (fun t ht hW => ⟨⟨(-1000000001), (nb, mv9, mq2_28), rfl, ⟨(sp_cr3 c_14 c_14 rfl (fun q => (sp_s5 hzq c_16 c_22 ex_25 c_26) q.1)), (fun j => sp_c0 (fun h => (sp_s5 hzq c_16 c_22 ex_25 c_26) h.2.2.2.1)), (fun _ _ => rfl)⟩, by rw [ht]; exact hP.sub [4, 0, 1, 2, 3, 5] rfl, hD.sub [4, 0, 1, 2, 3, 5] (by decide +kernel) rfl⟩, hS.F ht⟩) hS.2.2 dX9_copy_116 hlk
                · skip
                  refine lv_iload hx hb dX9_copy_96 (lv_at hl 5 rfl) ?_
                  refine lv_aload_n hx hb dX9_copy_98 rfl (lv_at hl 0 rfl) ?_
                  refine xg hF kf_X9_46 hK hP 0 rfl rfl dX9_copy_99 ?_
                  refine lv_iload_n hx hb dX9_copy_102 rfl (lv_at hl 3 rfl) ?_
                  refine va_iald hx hb hK hP 2 0 rfl rfl (xin 0 4 (by decide) (by decide)) dX9_copy_103 ?_
                  refine xl_i (y := sq 0) (congrArg sq rfl) ?_
                  refine xl_i (y := nI (zt)) et ?_
                  refine lv_iload hx hb dX9_copy_104 (lv_at hl 4 rfl) ?_
                  refine lv_isub hx hb dX9_copy_106 ?_
                  refine lv_topi (fun x_29 ex_29 => ?_)
                  refine lv_icmp_le (tgt := 117) hx hb dX9_copy_107 (by decide) (fun c_30 => ?_) (fun c_30 => ?_)
                  · skip
                    obtain ⟨y_31, hy_31, rfl⟩ := x_spk (by omega) c_16 c_22 ex_25 c_26
                    obtain ⟨y_32, hy_32, rfl⟩ := x_spj (by omega) (by omega) c_16 ex_25 c_26
                    obtain ⟨y_33, hy_33, rfl⟩ := x_spj (by omega) (by omega) c_19 ex_29 (Int32.not_lt.mpr c_30)
                    refine lv_iconst (v := 0) hx hb dX9_copy_117 (by decide) ?_
                    refine lv_istore (lv' := [(6, .int 0), (0, .ref h0), (1, .int 0), (2, .int (nI (y_32))), (3, .int 0), (4, .int (nI (y_33))), (5, .int (nI (y_31)))]) hx hb dX9_copy_118 hl (by decide) rfl (fun ls hl => ?_)
                    suffices loop_120 : ∀ (n_120 : Nat) (i : Nat) (m8 : Nat → Int64) (H : Heap) (locs : List Loc) (ls : Array Slot), y_31 - i < n_120 → (i ≤ y_31) → (∀ j, j < i → m8 j = nb (0 + y_32 + j)) → va_P D vwCl [(h0, .inr (9, [.ref ys, .ref yk, .ref yo, .ref yt, .int mk0, .ref yfa, .ref yfe, .int mL, .int mS, .int mM, .ref yro, .ref yhe, .ref ygr, .int mF, .int mC, .int mY, .ref yta, .int (nI (mz)), .int (nI (mf)), .int (nI (mt)), .int mv, .int mw, .ref ywa, .ref ybi, .ref ysi, .ref ynu, .ref ymo])), (ybi, .inl (cI, 4, .inl bi)), (ysi, .inl (cI, 4, .inl sq)), (ynu, .inl (cJ, 160, .inr (.inl nb))), (ymo, .inl (cJ, 40, .inr (.inl m8))), (yt, .inl (cI, 7, .inl mq))] H → va_D A [(h0, .inr (9, [.ref ys, .ref yk, .ref yo, .ref yt, .int mk0, .ref yfa, .ref yfe, .int mL, .int mS, .int mM, .ref yro, .ref yhe, .ref ygr, .int mF, .int mC, .int mY, .ref yta, .int (nI (mz)), .int (nI (mf)), .int (nI (mt)), .int mv, .int mw, .ref ywa, .ref ybi, .ref ysi, .ref ynu, .ref ymo])), (ybi, .inl (cI, 4, .inl bi)), (ysi, .inl (cI, 4, .inl sq)), (ynu, .inl (cJ, 160, .inr (.inl nb))), (ymo, .inl (cJ, 40, .inr (.inl m8))), (yt, .inl (cI, 7, .inl mq))] → va_S A s.heap H locs → lv_has ls 7 [(6, .int (nI (i))), (0, .ref h0), (1, .int 0), (2, .int (nI (y_32))), (3, .int 0), (4, .int (nI (y_33))), (5, .int (nI (y_31)))] → W p l e ({ frames := 2, cells := 0, slots := 0, locals := 45 }) s m ([.ref h0, .int 0, .int (nI (y_32)), .int 0, .int (nI (y_33)), .int (nI (y_31))] : List Value).toArray below meth c H locs 0 0 (MQ below (XQi (fun (r : Int32) (u : (Nat → Int64) × (Nat → Int64) × (Nat → Int32)) => match u with | (nb2, mv2, mq2) => ((r = sp_cr (bi 0) (bi 0) zq zt (nI (y_32)) (nI (y_33)) (nI (y_31)))) ∧ (∀ j, nb2 (0 + j) = sp_cn (bi 0) (bi 0) zq zt (nI (y_32)) (nI (y_33)) (nI (y_31)) (fun k => nb (0 + k)) j (nb (0 + j))) ∧ (∀ j, j < 0 ∨ 40 ≤ j → nb2 j = nb j)) D (fun (u : (Nat → Int64) × (Nat → Int64) × (Nat → Int32)) => match u with | (nb2, mv2, mq2) => [(h0, .inr (9, [.ref ys, .ref yk, .ref yo, .ref yt, .int mk0, .ref yfa, .ref yfe, .int mL, .int mS, .int mM, .ref yro, .ref yhe, .ref ygr, .int mF, .int mC, .int mY, .ref yta, .int (nI (mz)), .int (nI (mf)), .int (nI (mt)), .int mv, .int mw, .ref ywa, .ref ybi, .ref ysi, .ref ynu, .ref ymo])), (ybi, .inl (cI, 4, .inl bi)), (ysi, .inl (cI, 4, .inl sq)), (ynu, .inl (cJ, 160, .inr (.inl nb2))), (ymo, .inl (cJ, 40, .inr (.inl mv2))), (yt, .inl (cI, 7, .inl mq2))]) A) ([.ref h0, .int 0, .int (nI (y_32)), .int 0, .int (nI (y_33)), .int (nI (y_31))] : List Value).toArray s 0 0 A) (F0 m 120 ls []) by
                      exact loop_120 _ 0 mv9 _ _ _ (Nat.lt_succ_self _) (by omega) (fun j hj => absurd hj (Nat.not_lt_zero _)) hP hD hS (lv_sub hl [0, 1, 2, 3, 4, 5, 6] rfl)
                    intro n_120
                    induction n_120 with
                    | zero =>
                      intro i m8 H locs ls hm_120
                      exact absurd hm_120 (Nat.not_lt_zero _)
                    | succ n_120 ih_120 =>
                      intro i m8 H locs ls hm_120 hi hm8 hP hD hS hl
                      refine lv_iload hx hb dX9_copy_120 (lv_at hl 0 rfl) ?_
                      refine lv_iload hx hb dX9_copy_122 (lv_at hl 6 rfl) ?_
                      refine lv_icmp_ge (tgt := 154) hx hb dX9_copy_124 (by decide) (fun c_34 => ?_) (fun c_34 => ?_)
                      · skip
                        have nc_34 : y_31 ≤ i := xn_le (a := y_31) (b := i) (by omega) (by omega) c_34
                        refine lv_iconst (v := 0) hx hb dX9_copy_154 (by decide) ?_
                        refine lv_istore (lv' := [(6, .int 0), (0, .ref h0), (1, .int 0), (2, .int (nI (y_32))), (3, .int 0), (4, .int (nI (y_33))), (5, .int (nI (y_31)))]) hx hb dX9_copy_155 hl (by decide) rfl (fun ls hl => ?_)
                        suffices loop_157 : ∀ (n_157 : Nat) (i2 : Nat) (n8 : Nat → Int64) (H : Heap) (locs : List Loc) (ls : Array Slot), y_31 - i2 < n_157 → (i2 ≤ y_31) → (∀ j, n8 j = if 0 + y_33 ≤ j ∧ j < 0 + y_33 + i2 then m8 (j - (0 + y_33)) else nb j) → va_P D vwCl [(h0, .inr (9, [.ref ys, .ref yk, .ref yo, .ref yt, .int mk0, .ref yfa, .ref yfe, .int mL, .int mS, .int mM, .ref yro, .ref yhe, .ref ygr, .int mF, .int mC, .int mY, .ref yta, .int (nI (mz)), .int (nI (mf)), .int (nI (mt)), .int mv, .int mw, .ref ywa, .ref ybi, .ref ysi, .ref ynu, .ref ymo])), (ybi, .inl (cI, 4, .inl bi)), (ysi, .inl (cI, 4, .inl sq)), (ynu, .inl (cJ, 160, .inr (.inl n8))), (ymo, .inl (cJ, 40, .inr (.inl m8))), (yt, .inl (cI, 7, .inl mq))] H → va_D A [(h0, .inr (9, [.ref ys, .ref yk, .ref yo, .ref yt, .int mk0, .ref yfa, .ref yfe, .int mL, .int mS, .int mM, .ref yro, .ref yhe, .ref ygr, .int mF, .int mC, .int mY, .ref yta, .int (nI (mz)), .int (nI (mf)), .int (nI (mt)), .int mv, .int mw, .ref ywa, .ref ybi, .ref ysi, .ref ynu, .ref ymo])), (ybi, .inl (cI, 4, .inl bi)), (ysi, .inl (cI, 4, .inl sq)), (ynu, .inl (cJ, 160, .inr (.inl n8))), (ymo, .inl (cJ, 40, .inr (.inl m8))), (yt, .inl (cI, 7, .inl mq))] → va_S A s.heap H locs → lv_has ls 7 [(6, .int (nI (i2))), (0, .ref h0), (1, .int 0), (2, .int (nI (y_32))), (3, .int 0), (4, .int (nI (y_33))), (5, .int (nI (y_31)))] → W p l e ({ frames := 2, cells := 0, slots := 0, locals := 45 }) s m ([.ref h0, .int 0, .int (nI (y_32)), .int 0, .int (nI (y_33)), .int (nI (y_31))] : List Value).toArray below meth c H locs 0 0 (MQ below (XQi (fun (r : Int32) (u : (Nat → Int64) × (Nat → Int64) × (Nat → Int32)) => match u with | (nb2, mv2, mq2) => ((r = sp_cr (bi 0) (bi 0) zq zt (nI (y_32)) (nI (y_33)) (nI (y_31)))) ∧ (∀ j, nb2 (0 + j) = sp_cn (bi 0) (bi 0) zq zt (nI (y_32)) (nI (y_33)) (nI (y_31)) (fun k => nb (0 + k)) j (nb (0 + j))) ∧ (∀ j, j < 0 ∨ 40 ≤ j → nb2 j = nb j)) D (fun (u : (Nat → Int64) × (Nat → Int64) × (Nat → Int32)) => match u with | (nb2, mv2, mq2) => [(h0, .inr (9, [.ref ys, .ref yk, .ref yo, .ref yt, .int mk0, .ref yfa, .ref yfe, .int mL, .int mS, .int mM, .ref yro, .ref yhe, .ref ygr, .int mF, .int mC, .int mY, .ref yta, .int (nI (mz)), .int (nI (mf)), .int (nI (mt)), .int mv, .int mw, .ref ywa, .ref ybi, .ref ysi, .ref ynu, .ref ymo])), (ybi, .inl (cI, 4, .inl bi)), (ysi, .inl (cI, 4, .inl sq)), (ynu, .inl (cJ, 160, .inr (.inl nb2))), (ymo, .inl (cJ, 40, .inr (.inl mv2))), (yt, .inl (cI, 7, .inl mq2))]) A) ([.ref h0, .int 0, .int (nI (y_32)), .int 0, .int (nI (y_33)), .int (nI (y_31))] : List Value).toArray s 0 0 A) (F0 m 157 ls []) by
                          exact loop_157 _ 0 nb _ _ _ (Nat.lt_succ_self _) (by omega) (fun j => (if_neg (by omega)).symm) hP hD hS (lv_sub hl [0, 1, 2, 3, 4, 5, 6] rfl)
                        intro n_157
                        induction n_157 with
                        | zero =>
                          intro i2 n8 H locs ls hm_157
                          exact absurd hm_157 (Nat.not_lt_zero _)
                        | succ n_157 ih_157 =>
                          intro i2 n8 H locs ls hm_157 hi2 hn8 hP hD hS hl
                          refine lv_iload hx hb dX9_copy_157 (lv_at hl 0 rfl) ?_
                          refine lv_iload hx hb dX9_copy_159 (lv_at hl 6 rfl) ?_
                          refine lv_icmp_ge (tgt := 192) hx hb dX9_copy_161 (by decide) (fun c_35 => ?_) (fun c_35 => ?_)
                          · skip
                            have nc_35 : y_31 ≤ i2 := xn_le (a := y_31) (b := i2) (by omega) (by omega) c_35
                            refine lv_iload hx hb dX9_copy_192 (lv_at hl 6 rfl) ?_
                            have hn7 : ∀ j, n8 j = if 0 + y_33 ≤ j ∧ j < 0 + y_33 + y_31 then m8 (j - (0 + y_33)) else nb j := fun j => by rw [hn8 j, show i2 = y_31 by omega]
                            have hm7 : ∀ j, j < y_31 → m8 j = nb (0 + y_32 + j) := fun j hj => hm8 j (by omega)
                            exact W.iret (v := nI (y_31)) hx hb hr (fun t ht hW => ⟨⟨nI (y_31), (n8, m8, mq), rfl, ⟨(sp_cr4 c_14 c_14 rfl (sp_nspan (by omega) (by omega)) (sp_nspan (by omega) (by omega))), (fun j9 => sp_c1 (K := 0) (M := 0) (by omega) (by omega) c_14 c_14 rfl (by omega) (by omega) (fun i9 => sp_mv3 hn7 hm7 rfl rfl)), (fun j9 hj9 => by rw [hn7 j9, if_neg (by omega)])⟩, by rw [ht]; exact hP.sub [0, 1, 2, 3, 4, 5] rfl, hD.sub [0, 1, 2, 3, 4, 5] (by decide +kernel) rfl⟩, hS.F ht⟩) hS.2.2 dX9_copy_194 hlk
                          · skip
                            have nc_35 : i2 < y_31 := xn_nle (a := y_31) (b := i2) (by omega) (by omega) c_35
                            refine lv_aload_n hx hb dX9_copy_164 rfl (lv_at hl 1 rfl) ?_
                            refine xg hF kf_X9_49 hK hP 0 rfl rfl dX9_copy_165 ?_
                            refine lv_bipush (v := 40) hx hb dX9_copy_168 (by decide) ?_
                            refine lv_iload_n hx hb dX9_copy_170 rfl (lv_at hl 4 rfl) ?_
                            refine lv_imul hx hb dX9_copy_171 ?_
                            refine xl_i (y := 0) (by decide) ?_
                            refine lv_iload hx hb dX9_copy_172 (lv_at hl 5 rfl) ?_
                            refine lv_iadd hx hb dX9_copy_174 ?_
                            refine xl_i (y := nI (0 + y_33)) (nI_add 0 y_33) ?_
                            refine lv_iload hx hb dX9_copy_175 (lv_at hl 0 rfl) ?_
                            refine lv_iadd hx hb dX9_copy_177 ?_
                            refine xl_i (y := nI (0 + y_33 + i2)) (nI_add (0 + y_33) i2) ?_
                            refine lv_aload_n hx hb dX9_copy_178 rfl (lv_at hl 1 rfl) ?_
                            refine xg hF kf_X9_53 hK hP 0 rfl rfl dX9_copy_179 ?_
                            refine lv_iload hx hb dX9_copy_182 (lv_at hl 0 rfl) ?_
                            refine va_lald hx hb hK hP 4 1 rfl rfl (vp_in_nI (show i2 < 40 by omega) (by decide)) dX9_copy_184 ?_
                            refine xl_l (y := m8 i2) (congrArg m8 (nI_clamp (show i2 < 2 ^ 31 by omega))) ?_
                            refine va_last hx hb hK hP hD hS 3 1 rfl rfl (vp_in_nI (show 0 + y_33 + i2 < 160 by omega) (by decide)) dX9_copy_185 (fun H locs hP hD hS => ?_)
                            rw [nI_clamp (show 0 + y_33 + i2 < 2 ^ 31 by omega)] at hP hD
                            obtain ⟨f_36, ef_36⟩ : ∃ g, g = vp_updL n8 (0 + y_33 + i2) (m8 i2) := ⟨_, rfl⟩
                            rw [← ef_36] at hP hD
                            have hP : va_P D vwCl [(h0, .inr (9, [.ref ys, .ref yk, .ref yo, .ref yt, .int mk0, .ref yfa, .ref yfe, .int mL, .int mS, .int mM, .ref yro, .ref yhe, .ref ygr, .int mF, .int mC, .int mY, .ref yta, .int (nI (mz)), .int (nI (mf)), .int (nI (mt)), .int mv, .int mw, .ref ywa, .ref ybi, .ref ysi, .ref ynu, .ref ymo])), (ybi, .inl (cI, 4, .inl bi)), (ysi, .inl (cI, 4, .inl sq)), (ynu, .inl (cJ, 160, .inr (.inl f_36))), (ymo, .inl (cJ, 40, .inr (.inl m8))), (yt, .inl (cI, 7, .inl mq))] H := hP
                            have hD : va_D A [(h0, .inr (9, [.ref ys, .ref yk, .ref yo, .ref yt, .int mk0, .ref yfa, .ref yfe, .int mL, .int mS, .int mM, .ref yro, .ref yhe, .ref ygr, .int mF, .int mC, .int mY, .ref yta, .int (nI (mz)), .int (nI (mf)), .int (nI (mt)), .int mv, .int mw, .ref ywa, .ref ybi, .ref ysi, .ref ynu, .ref ymo])), (ybi, .inl (cI, 4, .inl bi)), (ysi, .inl (cI, 4, .inl sq)), (ynu, .inl (cJ, 160, .inr (.inl f_36))), (ymo, .inl (cJ, 40, .inr (.inl m8))), (yt, .inl (cI, 7, .inl mq))] := hD
                            refine lv_iinc (v := nI (i2 + 1)) (lv' := [(6, .int (nI (i2 + 1))), (0, .ref h0), (1, .int 0), (2, .int (nI (y_32))), (3, .int 0), (4, .int (nI (y_33))), (5, .int (nI (y_31)))]) hx hb dX9_copy_186 hl (k := 0) rfl (nI_1 (i2)) (by decide) rfl (fun ls hl => ?_)
                            refine lv_goto (tgt := 157) hx hb dX9_copy_189 (by decide) ?_
                            exact ih_157 (i2 + 1) f_36 _ _ _ (by omega) (by omega) (sp_mv2 hn8 ef_36) (hP.sub [0, 1, 2, 3, 4, 5] rfl) (hD.sub [0, 1, 2, 3, 4, 5] (by decide +kernel) rfl) hS (lv_sub hl [0, 1, 2, 3, 4, 5, 6] rfl)
                      · skip
                        have nc_34 : i < y_31 := xn_nle (a := y_31) (b := i) (by omega) (by omega) c_34
                        refine lv_aload_n hx hb dX9_copy_127 rfl (lv_at hl 1 rfl) ?_
                        refine xg hF kf_X9_53 hK hP 0 rfl rfl dX9_copy_128 ?_
                        refine lv_iload hx hb dX9_copy_131 (lv_at hl 0 rfl) ?_
                        refine lv_aload_n hx hb dX9_copy_133 rfl (lv_at hl 1 rfl) ?_
                        refine xg hF kf_X9_49 hK hP 0 rfl rfl dX9_copy_134 ?_
                        refine lv_bipush (v := 40) hx hb dX9_copy_137 (by decide) ?_
                        refine lv_iload_n hx hb dX9_copy_139 rfl (lv_at hl 2 rfl) ?_
                        refine lv_imul hx hb dX9_copy_140 ?_
                        refine xl_i (y := 0) (by decide) ?_
                        refine lv_iload_n hx hb dX9_copy_141 rfl (lv_at hl 3 rfl) ?_
                        refine lv_iadd hx hb dX9_copy_142 ?_
                        refine xl_i (y := nI (0 + y_32)) (nI_add 0 y_32) ?_
                        refine lv_iload hx hb dX9_copy_143 (lv_at hl 0 rfl) ?_
                        refine lv_iadd hx hb dX9_copy_145 ?_
                        refine xl_i (y := nI (0 + y_32 + i)) (nI_add (0 + y_32) i) ?_
                        refine va_lald hx hb hK hP 3 1 rfl rfl (vp_in_nI (show 0 + y_32 + i < 160 by omega) (by decide)) dX9_copy_146 ?_
                        refine xl_l (y := nb (0 + y_32 + i)) (congrArg nb (nI_clamp (show 0 + y_32 + i < 2 ^ 31 by omega))) ?_
                        refine va_last hx hb hK hP hD hS 4 1 rfl rfl (vp_in_nI (show i < 40 by omega) (by decide)) dX9_copy_147 (fun H locs hP hD hS => ?_)
                        rw [nI_clamp (show i < 2 ^ 31 by omega)] at hP hD
                        obtain ⟨f_37, ef_37⟩ : ∃ g, g = vp_updL m8 i (nb (0 + y_32 + i)) := ⟨_, rfl⟩
                        rw [← ef_37] at hP hD
                        have hP : va_P D vwCl [(h0, .inr (9, [.ref ys, .ref yk, .ref yo, .ref yt, .int mk0, .ref yfa, .ref yfe, .int mL, .int mS, .int mM, .ref yro, .ref yhe, .ref ygr, .int mF, .int mC, .int mY, .ref yta, .int (nI (mz)), .int (nI (mf)), .int (nI (mt)), .int mv, .int mw, .ref ywa, .ref ybi, .ref ysi, .ref ynu, .ref ymo])), (ybi, .inl (cI, 4, .inl bi)), (ysi, .inl (cI, 4, .inl sq)), (ynu, .inl (cJ, 160, .inr (.inl nb))), (ymo, .inl (cJ, 40, .inr (.inl f_37))), (yt, .inl (cI, 7, .inl mq))] H := hP
                        have hD : va_D A [(h0, .inr (9, [.ref ys, .ref yk, .ref yo, .ref yt, .int mk0, .ref yfa, .ref yfe, .int mL, .int mS, .int mM, .ref yro, .ref yhe, .ref ygr, .int mF, .int mC, .int mY, .ref yta, .int (nI (mz)), .int (nI (mf)), .int (nI (mt)), .int mv, .int mw, .ref ywa, .ref ybi, .ref ysi, .ref ynu, .ref ymo])), (ybi, .inl (cI, 4, .inl bi)), (ysi, .inl (cI, 4, .inl sq)), (ynu, .inl (cJ, 160, .inr (.inl nb))), (ymo, .inl (cJ, 40, .inr (.inl f_37))), (yt, .inl (cI, 7, .inl mq))] := hD
                        refine lv_iinc (v := nI (i + 1)) (lv' := [(6, .int (nI (i + 1))), (0, .ref h0), (1, .int 0), (2, .int (nI (y_32))), (3, .int 0), (4, .int (nI (y_33))), (5, .int (nI (y_31)))]) hx hb dX9_copy_148 hl (k := 0) rfl (nI_1 (i)) (by decide) rfl (fun ls hl => ?_)
                        refine lv_goto (tgt := 120) hx hb dX9_copy_151 (by decide) ?_
                        exact ih_120 (i + 1) f_37 _ _ _ (by omega) (by omega) (sp_mv1 hm8 ef_37) (hP.sub [0, 1, 2, 3, 4, 5] rfl) (hD.sub [0, 1, 2, 3, 4, 5] (by decide +kernel) rfl) hS (lv_sub hl [0, 1, 2, 3, 4, 5, 6] rfl)
                  · skip
                    refine lv_aload_n hx hb dX9_copy_110 rfl (lv_at hl 0 rfl) ?_
                    refine lv_ldc (v := (-1000000001)) hx hb hown (hu _ uw648) dX9_copy_111 ?_
                    refine xc_Vi (wr := [(ybi, .inl (cI, 4, .inl bi)), (ysi, .inl (cI, 4, .inl sq)), (ynu, .inl (cJ, 160, .inr (.inl nb))), (ymo, .inl (cJ, 40, .inr (.inl mv9)))]) hF (c_X9_finds_B l D cI cJ cZ cS ta sa sv s.heap.size h0 ys yk yo yt mk0 yfa yfe mL mS mM yro yhe ygr mF mC mY yta mz mf mt mv mw ywa ybi ysi ynu ymo mq ) kv_X9_70 ⟨rfl, rfl, Nat.le_of_ble_eq_true rfl, Nat.le_of_ble_eq_true rfl⟩ ⟨Nat.le_of_ble_eq_true rfl, Nat.le_of_ble_eq_true rfl⟩ hK hN hZ hP hD hS hA [0, 5] [1, 2, 3, 4] rfl rfl rfl rfl (by decide) 0 rfl rfl rfl rfl hl.1 rfl (Nat.le_of_ble_eq_true rfl) dX9_copy_113 (fun r_38 u_r_38 H locs hw_r_38 hP hD hS => ?_)
                    obtain ⟨mq2_39, rfl⟩ : ∃ z, z = u_r_38 := ⟨_, rfl⟩
                    try dsimp only at hw_r_38
                    have hP : va_P D vwCl [(ybi, .inl (cI, 4, .inl bi)), (ysi, .inl (cI, 4, .inl sq)), (ynu, .inl (cJ, 160, .inr (.inl nb))), (ymo, .inl (cJ, 40, .inr (.inl mv9))), (h0, .inr (9, [.ref ys, .ref yk, .ref yo, .ref yt, .int mk0, .ref yfa, .ref yfe, .int mL, .int mS, .int mM, .ref yro, .ref yhe, .ref ygr, .int mF, .int mC, .int mY, .ref yta, .int (nI (mz)), .int (nI (mf)), .int (nI (mt)), .int mv, .int mw, .ref ywa, .ref ybi, .ref ysi, .ref ynu, .ref ymo])), (yt, .inl (cI, 7, .inl mq2_39))] H := hP
                    have hD : va_D A [(ybi, .inl (cI, 4, .inl bi)), (ysi, .inl (cI, 4, .inl sq)), (ynu, .inl (cJ, 160, .inr (.inl nb))), (ymo, .inl (cJ, 40, .inr (.inl mv9))), (h0, .inr (9, [.ref ys, .ref yk, .ref yo, .ref yt, .int mk0, .ref yfa, .ref yfe, .int mL, .int mS, .int mM, .ref yro, .ref yhe, .ref ygr, .int mF, .int mC, .int mY, .ref yta, .int (nI (mz)), .int (nI (mf)), .int (nI (mt)), .int mv, .int mw, .ref ywa, .ref ybi, .ref ysi, .ref ynu, .ref ymo])), (yt, .inl (cI, 7, .inl mq2_39))] := hD
                    subst hw_r_38
                    exact W.iret (v := (-1000000001)) hx hb hr (fun t ht hW => ⟨⟨(-1000000001), (nb, mv9, mq2_39), rfl, ⟨(sp_cr3 c_14 c_14 rfl (fun q => (sp_s5 hzt c_19 c_22 ex_29 (xlt c_30)) q.2)), (fun j => sp_c0 (fun h => (sp_s5 hzt c_19 c_22 ex_29 (xlt c_30)) h.2.2.2.2)), (fun _ _ => rfl)⟩, by rw [ht]; exact hP.sub [4, 0, 1, 2, 3, 5] rfl, hD.sub [4, 0, 1, 2, 3, 5] (by decide +kernel) rfl⟩, hS.F ht⟩) hS.2.2 dX9_copy_116 hlk
        · skip
          refine lv_aload_n hx hb dX9_copy_39 rfl (lv_at hl 0 rfl) ?_
          refine lv_ldcw (v := (-1000000006)) hx hb hown (hu _ uw910) dX9_copy_40 ?_
          refine xc_Vi (wr := [(ybi, .inl (cI, 4, .inl bi)), (ysi, .inl (cI, 4, .inl sq)), (ynu, .inl (cJ, 160, .inr (.inl nb))), (ymo, .inl (cJ, 40, .inr (.inl mv9)))]) hF (c_X9_finds_M l D cI cJ cZ cS ta sa sv s.heap.size h0 ys yk yo yt mk0 yfa yfe mL mS mM yro yhe ygr mF mC mY yta mz mf mt mv mw ywa ybi ysi ynu ymo mq ) kv_X9_70 ⟨rfl, rfl, Nat.le_of_ble_eq_true rfl, Nat.le_of_ble_eq_true rfl⟩ ⟨Nat.le_of_ble_eq_true rfl, Nat.le_of_ble_eq_true rfl⟩ hK hN hZ hP hD hS hA [0, 5] [1, 2, 3, 4] rfl rfl rfl rfl (by decide) 0 rfl rfl rfl rfl hl.1 rfl (Nat.le_of_ble_eq_true rfl) dX9_copy_43 (fun r_40 u_r_40 H locs hw_r_40 hP hD hS => ?_)
          obtain ⟨mq2_41, rfl⟩ : ∃ z, z = u_r_40 := ⟨_, rfl⟩
          try dsimp only at hw_r_40
          have hP : va_P D vwCl [(ybi, .inl (cI, 4, .inl bi)), (ysi, .inl (cI, 4, .inl sq)), (ynu, .inl (cJ, 160, .inr (.inl nb))), (ymo, .inl (cJ, 40, .inr (.inl mv9))), (h0, .inr (9, [.ref ys, .ref yk, .ref yo, .ref yt, .int mk0, .ref yfa, .ref yfe, .int mL, .int mS, .int mM, .ref yro, .ref yhe, .ref ygr, .int mF, .int mC, .int mY, .ref yta, .int (nI (mz)), .int (nI (mf)), .int (nI (mt)), .int mv, .int mw, .ref ywa, .ref ybi, .ref ysi, .ref ynu, .ref ymo])), (yt, .inl (cI, 7, .inl mq2_41))] H := hP
          have hD : va_D A [(ybi, .inl (cI, 4, .inl bi)), (ysi, .inl (cI, 4, .inl sq)), (ynu, .inl (cJ, 160, .inr (.inl nb))), (ymo, .inl (cJ, 40, .inr (.inl mv9))), (h0, .inr (9, [.ref ys, .ref yk, .ref yo, .ref yt, .int mk0, .ref yfa, .ref yfe, .int mL, .int mS, .int mM, .ref yro, .ref yhe, .ref ygr, .int mF, .int mC, .int mY, .ref yta, .int (nI (mz)), .int (nI (mf)), .int (nI (mt)), .int mv, .int mw, .ref ywa, .ref ybi, .ref ysi, .ref ynu, .ref ymo])), (yt, .inl (cI, 7, .inl mq2_41))] := hD
          subst hw_r_40
          exact W.iret (v := (-1000000006)) hx hb hr (fun t ht hW => ⟨⟨(-1000000006), (nb, mv9, mq2_41), rfl, ⟨(sp_cr1 (Or.inl c_14)), (fun j => sp_c0 (fun h => h.1 c_14)), (fun _ _ => rfl)⟩, by rw [ht]; exact hP.sub [4, 0, 1, 2, 3, 5] rfl, hD.sub [4, 0, 1, 2, 3, 5] (by decide +kernel) rfl⟩, hS.F ht⟩) hS.2.2 dX9_copy_46 hlk
    · exact absurd h_9 (by decide)
  · exact absurd h_4 (by decide)
set_option maxHeartbeats 4000000 in
set_option maxRecDepth 100000 in
theorem c_X9_copy_01 (l : Launch) (D : va_G) (cI cJ cZ cS : ClassId) (ta : Nat) (sa sv : Nat → Nat) (sz : Nat) (h0 : Nat) (ys : Nat) (yk : Nat) (yo : Nat) (yt : Nat) (mk0 : Int32) (yfa : Nat) (yfe : Nat) (mL : Int32) (mS : Int32) (mM : Int32) (yro : Nat) (yhe : Nat) (ygr : Nat) (mF : Int32) (mC : Int32) (mY : Int32) (yta : Nat) (mz : Nat) (mf : Nat) (mt : Nat) (mv : Int32) (mw : Int32) (ywa : Nat) (ybi : Nat) (ysi : Nat) (ynu : Nat) (ymo : Nat) (bi : Nat → Int32) (sq : Nat → Int32) (nb : Nat → Int64) (mv9 : Nat → Int64) (mq : Nat → Int32) (p1 : Int32) (p3 : Int32) (p4 : Int32) (zq : Nat) (zt : Nat) (ez : sq 0 = nI zq) (hzq : zq ≤ 40) (et : sq 1 = nI zt) (hzt : zt ≤ 40) (hsq : BA 4 41 sq) : Met l yX9_copy (Cond.code yX9_copy cX9_copy 7 (some .int) :: wsU) ({ frames := 2, cells := 0, slots := 0, locals := 45 }) (va_Pc [.ref h0, .int 0, .int p1, .int 1, .int p3, .int p4] (XW D (xT cI cJ cZ cS) ta sa sv [(h0, .inr (9, [.ref ys, .ref yk, .ref yo, .ref yt, .int mk0, .ref yfa, .ref yfe, .int mL, .int mS, .int mM, .ref yro, .ref yhe, .ref ygr, .int mF, .int mC, .int mY, .ref yta, .int (nI (mz)), .int (nI (mf)), .int (nI (mt)), .int mv, .int mw, .ref ywa, .ref ybi, .ref ysi, .ref ynu, .ref ymo])), (ybi, .inl (cI, 4, .inl bi)), (ysi, .inl (cI, 4, .inl sq)), (ynu, .inl (cJ, 160, .inr (.inl nb))), (ymo, .inl (cJ, 40, .inr (.inl mv9))), (yt, .inl (cI, 7, .inl mq))] sz)) (XQi (fun (r : Int32) (u : (Nat → Int64) × (Nat → Int64) × (Nat → Int32)) => match u with | (nb2, mv2, mq2) => ((r = sp_cr (bi 0) (bi 1) zq zt p1 p3 p4)) ∧ (∀ j, nb2 (40 + j) = sp_cn (bi 0) (bi 1) zq zt p1 p3 p4 (fun k => nb (0 + k)) j (nb (40 + j))) ∧ (∀ j, j < 40 ∨ 80 ≤ j → nb2 j = nb j)) D (fun (u : (Nat → Int64) × (Nat → Int64) × (Nat → Int32)) => match u with | (nb2, mv2, mq2) => [(h0, .inr (9, [.ref ys, .ref yk, .ref yo, .ref yt, .int mk0, .ref yfa, .ref yfe, .int mL, .int mS, .int mM, .ref yro, .ref yhe, .ref ygr, .int mF, .int mC, .int mY, .ref yta, .int (nI (mz)), .int (nI (mf)), .int (nI (mt)), .int mv, .int mw, .ref ywa, .ref ybi, .ref ysi, .ref ynu, .ref ymo])), (ybi, .inl (cI, 4, .inl bi)), (ysi, .inl (cI, 4, .inl sq)), (ynu, .inl (cJ, 160, .inr (.inl nb2))), (ymo, .inl (cJ, 40, .inr (.inl mv2))), (yt, .inl (cI, 7, .inl mq2))]) (va_A [(h0, .inr (9, [.ref ys, .ref yk, .ref yo, .ref yt, .int mk0, .ref yfa, .ref yfe, .int mL, .int mS, .int mM, .ref yro, .ref yhe, .ref ygr, .int mF, .int mC, .int mY, .ref yta, .int (nI (mz)), .int (nI (mf)), .int (nI (mt)), .int mv, .int mw, .ref ywa, .ref ybi, .ref ysi, .ref ynu, .ref ymo])), (ybi, .inl (cI, 4, .inl bi)), (ysi, .inl (cI, 4, .inl sq)), (ynu, .inl (cJ, 160, .inr (.inl nb))), (ymo, .inl (cJ, 40, .inr (.inl mv9))), (yt, .inl (cI, 7, .inl mq))] sz)) 0 0 (va_A [(h0, .inr (9, [.ref ys, .ref yk, .ref yo, .ref yt, .int mk0, .ref yfa, .ref yfe, .int mL, .int mS, .int mM, .ref yro, .ref yhe, .ref ygr, .int mF, .int mC, .int mY, .ref yta, .int (nI (mz)), .int (nI (mf)), .int (nI (mt)), .int mv, .int mw, .ref ywa, .ref ybi, .ref ysi, .ref ynu, .ref ymo])), (ybi, .inl (cI, 4, .inl bi)), (ysi, .inl (cI, 4, .inl sq)), (ynu, .inl (cJ, 160, .inr (.inl nb))), (ymo, .inl (cJ, 40, .inr (.inl mv9))), (yt, .inl (cI, 7, .inl mq))] sz) := by
  refine xh (QA := fun A => XQi (fun (r : Int32) (u : (Nat → Int64) × (Nat → Int64) × (Nat → Int32)) => match u with | (nb2, mv2, mq2) => ((r = sp_cr (bi 0) (bi 1) zq zt p1 p3 p4)) ∧ (∀ j, nb2 (40 + j) = sp_cn (bi 0) (bi 1) zq zt p1 p3 p4 (fun k => nb (0 + k)) j (nb (40 + j))) ∧ (∀ j, j < 40 ∨ 80 ≤ j → nb2 j = nb j)) D (fun (u : (Nat → Int64) × (Nat → Int64) × (Nat → Int32)) => match u with | (nb2, mv2, mq2) => [(h0, .inr (9, [.ref ys, .ref yk, .ref yo, .ref yt, .int mk0, .ref yfa, .ref yfe, .int mL, .int mS, .int mM, .ref yro, .ref yhe, .ref ygr, .int mF, .int mC, .int mY, .ref yta, .int (nI (mz)), .int (nI (mf)), .int (nI (mt)), .int mv, .int mw, .ref ywa, .ref ybi, .ref ysi, .ref ynu, .ref ymo])), (ybi, .inl (cI, 4, .inl bi)), (ysi, .inl (cI, 4, .inl sq)), (ynu, .inl (cJ, 160, .inr (.inl nb2))), (ymo, .inl (cJ, 40, .inr (.inl mv2))), (yt, .inl (cI, 7, .inl mq2))]) A) (fr := fun A => A) (by decide) (Nat.le_of_ble_eq_true rfl) ?_
  intro p e s m below meth c ls A hF hr hlk hin hsz hP hK hD hN hZ hA hS hl
  have hF : CallFix p m c cX9_copy 7 s _ _ RX9 := hF
  have hx := hF.1
  have hb := hF.2.1
  have hml := hF.2.2.1
  have hown := hF.2.2.2.1
  have hu : ∀ w ∈ wsU, w.before _ s = true := fun w h => hF.2.2.2.2 w (List.mem_cons_of_mem _ h)
  have hl : lv_has ls 7 [(0, .ref h0), (1, .int 0), (2, .int p1), (3, .int 1), (4, .int p3), (5, .int p4)] := hl
  refine lv_iload_n hx hb dX9_copy_0 rfl (lv_at hl 1 rfl) ?_
  refine xc_Sr hF (c_X9_isOne l D cI cJ cZ cS ta sa sv s.heap.size 0 ) ks_X9_305 ⟨rfl, rfl, Nat.le_of_ble_eq_true rfl, Nat.le_of_ble_eq_true rfl⟩ ⟨Nat.le_of_ble_eq_true rfl, Nat.le_of_ble_eq_true rfl⟩ hK hN hZ hP hD hS hA [] rfl rfl rfl hl.1 rfl (Nat.le_of_ble_eq_true rfl) dX9_copy_1 (fun r_1 hw_r_1 => ?_)
  rcases hw_r_1 with ⟨rfl, h_2, h_3⟩ | ⟨rfl, h_4⟩
  · skip
    refine lv_if_eq (tgt := 14) hx hb dX9_copy_4 (by decide) (fun c_5 => absurd c_5 (by decide)) (fun c_5 => ?_)
    refine lv_iload_n hx hb dX9_copy_7 rfl (lv_at hl 3 rfl) ?_
    refine xc_Sr hF (c_X9_isOne l D cI cJ cZ cS ta sa sv s.heap.size 1 ) ks_X9_305 ⟨rfl, rfl, Nat.le_of_ble_eq_true rfl, Nat.le_of_ble_eq_true rfl⟩ ⟨Nat.le_of_ble_eq_true rfl, Nat.le_of_ble_eq_true rfl⟩ hK hN hZ hP hD hS hA [] rfl rfl rfl hl.1 rfl (Nat.le_of_ble_eq_true rfl) dX9_copy_8 (fun r_6 hw_r_6 => ?_)
    rcases hw_r_6 with ⟨rfl, h_7, h_8⟩ | ⟨rfl, h_9⟩
    · skip
      refine lv_if_ne (tgt := 21) hx hb dX9_copy_11 (by decide) (fun c_10 => ?_) (fun c_10 => absurd c_10 (by decide))
      refine lv_aload_n hx hb dX9_copy_21 rfl (lv_at hl 0 rfl) ?_
      refine xg hF kf_X9_43 hK hP 0 rfl rfl dX9_copy_22 ?_
      refine lv_iload_n hx hb dX9_copy_25 rfl (lv_at hl 1 rfl) ?_
      refine va_iald hx hb hK hP 1 0 rfl rfl (xin 0 4 (by decide) (by decide)) dX9_copy_26 ?_
      refine xl_i (y := bi 0) (congrArg bi rfl) ?_
      refine lv_if_eq (tgt := 39) hx hb dX9_copy_27 (by decide) (fun c_11 => ?_) (fun c_11 => ?_)
      · skip
        refine lv_aload_n hx hb dX9_copy_39 rfl (lv_at hl 0 rfl) ?_
        refine lv_ldcw (v := (-1000000006)) hx hb hown (hu _ uw910) dX9_copy_40 ?_
        refine xc_Vi (wr := [(ybi, .inl (cI, 4, .inl bi)), (ysi, .inl (cI, 4, .inl sq)), (ynu, .inl (cJ, 160, .inr (.inl nb))), (ymo, .inl (cJ, 40, .inr (.inl mv9)))]) hF (c_X9_finds_M l D cI cJ cZ cS ta sa sv s.heap.size h0 ys yk yo yt mk0 yfa yfe mL mS mM yro yhe ygr mF mC mY yta mz mf mt mv mw ywa ybi ysi ynu ymo mq ) kv_X9_70 ⟨rfl, rfl, Nat.le_of_ble_eq_true rfl, Nat.le_of_ble_eq_true rfl⟩ ⟨Nat.le_of_ble_eq_true rfl, Nat.le_of_ble_eq_true rfl⟩ hK hN hZ hP hD hS hA [0, 5] [1, 2, 3, 4] rfl rfl rfl rfl (by decide) 0 rfl rfl rfl rfl hl.1 rfl (Nat.le_of_ble_eq_true rfl) dX9_copy_43 (fun r_12 u_r_12 H locs hw_r_12 hP hD hS => ?_)
        obtain ⟨mq2_13, rfl⟩ : ∃ z, z = u_r_12 := ⟨_, rfl⟩
        try dsimp only at hw_r_12
        have hP : va_P D vwCl [(ybi, .inl (cI, 4, .inl bi)), (ysi, .inl (cI, 4, .inl sq)), (ynu, .inl (cJ, 160, .inr (.inl nb))), (ymo, .inl (cJ, 40, .inr (.inl mv9))), (h0, .inr (9, [.ref ys, .ref yk, .ref yo, .ref yt, .int mk0, .ref yfa, .ref yfe, .int mL, .int mS, .int mM, .ref yro, .ref yhe, .ref ygr, .int mF, .int mC, .int mY, .ref yta, .int (nI (mz)), .int (nI (mf)), .int (nI (mt)), .int mv, .int mw, .ref ywa, .ref ybi, .ref ysi, .ref ynu, .ref ymo])), (yt, .inl (cI, 7, .inl mq2_13))] H := hP
        have hD : va_D A [(ybi, .inl (cI, 4, .inl bi)), (ysi, .inl (cI, 4, .inl sq)), (ynu, .inl (cJ, 160, .inr (.inl nb))), (ymo, .inl (cJ, 40, .inr (.inl mv9))), (h0, .inr (9, [.ref ys, .ref yk, .ref yo, .ref yt, .int mk0, .ref yfa, .ref yfe, .int mL, .int mS, .int mM, .ref yro, .ref yhe, .ref ygr, .int mF, .int mC, .int mY, .ref yta, .int (nI (mz)), .int (nI (mf)), .int (nI (mt)), .int mv, .int mw, .ref ywa, .ref ybi, .ref ysi, .ref ynu, .ref ymo])), (yt, .inl (cI, 7, .inl mq2_13))] := hD
        subst hw_r_12
        exact W.iret (v := (-1000000006)) hx hb hr (fun t ht hW => ⟨⟨(-1000000006), (nb, mv9, mq2_13), rfl, ⟨(sp_cr1 (Or.inl c_11)), (fun j => sp_c0 (fun h => h.1 c_11)), (fun _ _ => rfl)⟩, by rw [ht]; exact hP.sub [4, 0, 1, 2, 3, 5] rfl, hD.sub [4, 0, 1, 2, 3, 5] (by decide +kernel) rfl⟩, hS.F ht⟩) hS.2.2 dX9_copy_46 hlk
      · skip
        refine lv_aload_n hx hb dX9_copy_30 rfl (lv_at hl 0 rfl) ?_
        refine xg hF kf_X9_43 hK hP 0 rfl rfl dX9_copy_31 ?_
        refine lv_iload_n hx hb dX9_copy_34 rfl (lv_at hl 3 rfl) ?_
        refine va_iald hx hb hK hP 1 0 rfl rfl (xin 1 4 (by decide) (by decide)) dX9_copy_35 ?_
        refine xl_i (y := bi 1) (congrArg bi rfl) ?_
        refine lv_if_ne (tgt := 47) hx hb dX9_copy_36 (by decide) (fun c_14 => ?_) (fun c_14 => ?_)
        · skip
          refine lv_aload_n hx hb dX9_copy_47 rfl (lv_at hl 0 rfl) ?_
          refine xg hF kf_X9_43 hK hP 0 rfl rfl dX9_copy_48 ?_
          refine lv_iload_n hx hb dX9_copy_51 rfl (lv_at hl 1 rfl) ?_
          refine va_iald hx hb hK hP 1 0 rfl rfl (xin 0 4 (by decide) (by decide)) dX9_copy_52 ?_
          refine xl_i (y := bi 0) (congrArg bi rfl) ?_
          refine lv_aload_n hx hb dX9_copy_53 rfl (lv_at hl 0 rfl) ?_
          refine xg hF kf_X9_43 hK hP 0 rfl rfl dX9_copy_54 ?_
          refine lv_iload_n hx hb dX9_copy_57 rfl (lv_at hl 3 rfl) ?_
          refine va_iald hx hb hK hP 1 0 rfl rfl (xin 1 4 (by decide) (by decide)) dX9_copy_58 ?_
          refine xl_i (y := bi 1) (congrArg bi rfl) ?_
          refine lv_icmp_eq (tgt := 69) hx hb dX9_copy_59 (by decide) (fun c_15 => ?_) (fun c_15 => ?_)
          · skip
            refine lv_iload_n hx hb dX9_copy_69 rfl (lv_at hl 2 rfl) ?_
            refine lv_if_lt (tgt := 110) hx hb dX9_copy_70 (by decide) (fun c_16 => ?_) (fun c_16 => ?_)
            · skip
              refine lv_aload_n hx hb dX9_copy_110 rfl (lv_at hl 0 rfl) ?_
              refine lv_ldc (v := (-1000000001)) hx hb hown (hu _ uw648) dX9_copy_111 ?_
              refine xc_Vi (wr := [(ybi, .inl (cI, 4, .inl bi)), (ysi, .inl (cI, 4, .inl sq)), (ynu, .inl (cJ, 160, .inr (.inl nb))), (ymo, .inl (cJ, 40, .inr (.inl mv9)))]) hF (c_X9_finds_B l D cI cJ cZ cS ta sa sv s.heap.size h0 ys yk yo yt mk0 yfa yfe mL mS mM yro yhe ygr mF mC mY yta mz mf mt mv mw ywa ybi ysi ynu ymo mq ) kv_X9_70 ⟨rfl, rfl, Nat.le_of_ble_eq_true rfl, Nat.le_of_ble_eq_true rfl⟩ ⟨Nat.le_of_ble_eq_true rfl, Nat.le_of_ble_eq_true rfl⟩ hK hN hZ hP hD hS hA [0, 5] [1, 2, 3, 4] rfl rfl rfl rfl (by decide) 0 rfl rfl rfl rfl hl.1 rfl (Nat.le_of_ble_eq_true rfl) dX9_copy_113 (fun r_17 u_r_17 H locs hw_r_17 hP hD hS => ?_)
              obtain ⟨mq2_18, rfl⟩ : ∃ z, z = u_r_17 := ⟨_, rfl⟩
              try dsimp only at hw_r_17
              have hP : va_P D vwCl [(ybi, .inl (cI, 4, .inl bi)), (ysi, .inl (cI, 4, .inl sq)), (ynu, .inl (cJ, 160, .inr (.inl nb))), (ymo, .inl (cJ, 40, .inr (.inl mv9))), (h0, .inr (9, [.ref ys, .ref yk, .ref yo, .ref yt, .int mk0, .ref yfa, .ref yfe, .int mL, .int mS, .int mM, .ref yro, .ref yhe, .ref ygr, .int mF, .int mC, .int mY, .ref yta, .int (nI (mz)), .int (nI (mf)), .int (nI (mt)), .int mv, .int mw, .ref ywa, .ref ybi, .ref ysi, .ref ynu, .ref ymo])), (yt, .inl (cI, 7, .inl mq2_18))] H := hP
              have hD : va_D A [(ybi, .inl (cI, 4, .inl bi)), (ysi, .inl (cI, 4, .inl sq)), (ynu, .inl (cJ, 160, .inr (.inl nb))), (ymo, .inl (cJ, 40, .inr (.inl mv9))), (h0, .inr (9, [.ref ys, .ref yk, .ref yo, .ref yt, .int mk0, .ref yfa, .ref yfe, .int mL, .int mS, .int mM, .ref yro, .ref yhe, .ref ygr, .int mF, .int mC, .int mY, .ref yta, .int (nI (mz)), .int (nI (mf)), .int (nI (mt)), .int mv, .int mw, .ref ywa, .ref ybi, .ref ysi, .ref ynu, .ref ymo])), (yt, .inl (cI, 7, .inl mq2_18))] := hD
              subst hw_r_17
              exact W.iret (v := (-1000000001)) hx hb hr (fun t ht hW => ⟨⟨(-1000000001), (nb, mv9, mq2_18), rfl, ⟨(sp_cr3 c_11 c_14 c_15 (fun q => (sp_s1 c_16) q.1)), (fun j => sp_c0 (fun h => (sp_s1 c_16) h.2.2.2.1)), (fun _ _ => rfl)⟩, by rw [ht]; exact hP.sub [4, 0, 1, 2, 3, 5] rfl, hD.sub [4, 0, 1, 2, 3, 5] (by decide +kernel) rfl⟩, hS.F ht⟩) hS.2.2 dX9_copy_116 hlk
            · skip
              refine lv_iload hx hb dX9_copy_73 (lv_at hl 4 rfl) ?_
              refine lv_if_lt (tgt := 110) hx hb dX9_copy_75 (by decide) (fun c_19 => ?_) (fun c_19 => ?_)
              · skip
                refine lv_aload_n hx hb dX9_copy_110 rfl (lv_at hl 0 rfl) ?_
                refine lv_ldc (v := (-1000000001)) hx hb hown (hu _ uw648) dX9_copy_111 ?_
                refine xc_Vi (wr := [(ybi, .inl (cI, 4, .inl bi)), (ysi, .inl (cI, 4, .inl sq)), (ynu, .inl (cJ, 160, .inr (.inl nb))), (ymo, .inl (cJ, 40, .inr (.inl mv9)))]) hF (c_X9_finds_B l D cI cJ cZ cS ta sa sv s.heap.size h0 ys yk yo yt mk0 yfa yfe mL mS mM yro yhe ygr mF mC mY yta mz mf mt mv mw ywa ybi ysi ynu ymo mq ) kv_X9_70 ⟨rfl, rfl, Nat.le_of_ble_eq_true rfl, Nat.le_of_ble_eq_true rfl⟩ ⟨Nat.le_of_ble_eq_true rfl, Nat.le_of_ble_eq_true rfl⟩ hK hN hZ hP hD hS hA [0, 5] [1, 2, 3, 4] rfl rfl rfl rfl (by decide) 0 rfl rfl rfl rfl hl.1 rfl (Nat.le_of_ble_eq_true rfl) dX9_copy_113 (fun r_20 u_r_20 H locs hw_r_20 hP hD hS => ?_)
                obtain ⟨mq2_21, rfl⟩ : ∃ z, z = u_r_20 := ⟨_, rfl⟩
                try dsimp only at hw_r_20
                have hP : va_P D vwCl [(ybi, .inl (cI, 4, .inl bi)), (ysi, .inl (cI, 4, .inl sq)), (ynu, .inl (cJ, 160, .inr (.inl nb))), (ymo, .inl (cJ, 40, .inr (.inl mv9))), (h0, .inr (9, [.ref ys, .ref yk, .ref yo, .ref yt, .int mk0, .ref yfa, .ref yfe, .int mL, .int mS, .int mM, .ref yro, .ref yhe, .ref ygr, .int mF, .int mC, .int mY, .ref yta, .int (nI (mz)), .int (nI (mf)), .int (nI (mt)), .int mv, .int mw, .ref ywa, .ref ybi, .ref ysi, .ref ynu, .ref ymo])), (yt, .inl (cI, 7, .inl mq2_21))] H := hP
                have hD : va_D A [(ybi, .inl (cI, 4, .inl bi)), (ysi, .inl (cI, 4, .inl sq)), (ynu, .inl (cJ, 160, .inr (.inl nb))), (ymo, .inl (cJ, 40, .inr (.inl mv9))), (h0, .inr (9, [.ref ys, .ref yk, .ref yo, .ref yt, .int mk0, .ref yfa, .ref yfe, .int mL, .int mS, .int mM, .ref yro, .ref yhe, .ref ygr, .int mF, .int mC, .int mY, .ref yta, .int (nI (mz)), .int (nI (mf)), .int (nI (mt)), .int mv, .int mw, .ref ywa, .ref ybi, .ref ysi, .ref ynu, .ref ymo])), (yt, .inl (cI, 7, .inl mq2_21))] := hD
                subst hw_r_20
                exact W.iret (v := (-1000000001)) hx hb hr (fun t ht hW => ⟨⟨(-1000000001), (nb, mv9, mq2_21), rfl, ⟨(sp_cr3 c_11 c_14 c_15 (fun q => (sp_s1 c_19) q.2)), (fun j => sp_c0 (fun h => (sp_s1 c_19) h.2.2.2.2)), (fun _ _ => rfl)⟩, by rw [ht]; exact hP.sub [4, 0, 1, 2, 3, 5] rfl, hD.sub [4, 0, 1, 2, 3, 5] (by decide +kernel) rfl⟩, hS.F ht⟩) hS.2.2 dX9_copy_116 hlk
              · skip
                refine lv_iload hx hb dX9_copy_78 (lv_at hl 5 rfl) ?_
                refine lv_if_lt (tgt := 110) hx hb dX9_copy_80 (by decide) (fun c_22 => ?_) (fun c_22 => ?_)
                · skip
                  refine lv_aload_n hx hb dX9_copy_110 rfl (lv_at hl 0 rfl) ?_
                  refine lv_ldc (v := (-1000000001)) hx hb hown (hu _ uw648) dX9_copy_111 ?_
                  refine xc_Vi (wr := [(ybi, .inl (cI, 4, .inl bi)), (ysi, .inl (cI, 4, .inl sq)), (ynu, .inl (cJ, 160, .inr (.inl nb))), (ymo, .inl (cJ, 40, .inr (.inl mv9)))]) hF (c_X9_finds_B l D cI cJ cZ cS ta sa sv s.heap.size h0 ys yk yo yt mk0 yfa yfe mL mS mM yro yhe ygr mF mC mY yta mz mf mt mv mw ywa ybi ysi ynu ymo mq ) kv_X9_70 ⟨rfl, rfl, Nat.le_of_ble_eq_true rfl, Nat.le_of_ble_eq_true rfl⟩ ⟨Nat.le_of_ble_eq_true rfl, Nat.le_of_ble_eq_true rfl⟩ hK hN hZ hP hD hS hA [0, 5] [1, 2, 3, 4] rfl rfl rfl rfl (by decide) 0 rfl rfl rfl rfl hl.1 rfl (Nat.le_of_ble_eq_true rfl) dX9_copy_113 (fun r_23 u_r_23 H locs hw_r_23 hP hD hS => ?_)
                  obtain ⟨mq2_24, rfl⟩ : ∃ z, z = u_r_23 := ⟨_, rfl⟩
                  try dsimp only at hw_r_23
                  have hP : va_P D vwCl [(ybi, .inl (cI, 4, .inl bi)), (ysi, .inl (cI, 4, .inl sq)), (ynu, .inl (cJ, 160, .inr (.inl nb))), (ymo, .inl (cJ, 40, .inr (.inl mv9))), (h0, .inr (9, [.ref ys, .ref yk, .ref yo, .ref yt, .int mk0, .ref yfa, .ref yfe, .int mL, .int mS, .int mM, .ref yro, .ref yhe, .ref ygr, .int mF, .int mC, .int mY, .ref yta, .int (nI (mz)), .int (nI (mf)), .int (nI (mt)), .int mv, .int mw, .ref ywa, .ref ybi, .ref ysi, .ref ynu, .ref ymo])), (yt, .inl (cI, 7, .inl mq2_24))] H := hP
                  have hD : va_D A [(ybi, .inl (cI, 4, .inl bi)), (ysi, .inl (cI, 4, .inl sq)), (ynu, .inl (cJ, 160, .inr (.inl nb))), (ymo, .inl (cJ, 40, .inr (.inl mv9))), (h0, .inr (9, [.ref ys, .ref yk, .ref yo, .ref yt, .int mk0, .ref yfa, .ref yfe, .int mL, .int mS, .int mM, .ref yro, .ref yhe, .ref ygr, .int mF, .int mC, .int mY, .ref yta, .int (nI (mz)), .int (nI (mf)), .int (nI (mt)), .int mv, .int mw, .ref ywa, .ref ybi, .ref ysi, .ref ynu, .ref ymo])), (yt, .inl (cI, 7, .inl mq2_24))] := hD
                  subst hw_r_23
                  exact W.iret (v := (-1000000001)) hx hb hr (fun t ht hW => ⟨⟨(-1000000001), (nb, mv9, mq2_24), rfl, ⟨(sp_cr3 c_11 c_14 c_15 (fun q => (sp_s2 c_22) q.1)), (fun j => sp_c0 (fun h => (sp_s2 c_22) h.2.2.2.1)), (fun _ _ => rfl)⟩, by rw [ht]; exact hP.sub [4, 0, 1, 2, 3, 5] rfl, hD.sub [4, 0, 1, 2, 3, 5] (by decide +kernel) rfl⟩, hS.F ht⟩) hS.2.2 dX9_copy_116 hlk
                · skip
                  refine lv_iload hx hb dX9_copy_83 (lv_at hl 5 rfl) ?_
                  refine lv_aload_n hx hb dX9_copy_85 rfl (lv_at hl 0 rfl) ?_
                  refine xg hF kf_X9_46 hK hP 0 rfl rfl dX9_copy_86 ?_
                  refine lv_iload_n hx hb dX9_copy_89 rfl (lv_at hl 1 rfl) ?_
                  refine va_iald hx hb hK hP 2 0 rfl rfl (xin 0 4 (by decide) (by decide)) dX9_copy_90 ?_
                  refine xl_i (y := sq 0) (congrArg sq rfl) ?_
                  refine xl_i (y := nI (zq)) ez ?_
                  refine lv_iload_n hx hb dX9_copy_91 rfl (lv_at hl 2 rfl) ?_
                  refine lv_isub hx hb dX9_copy_92 ?_
                  refine lv_topi (fun x_25 ex_25 => ?_)
                  refine lv_icmp_gt (tgt := 110) hx hb dX9_copy_93 (by decide) (fun c_26 => ?_) (fun c_26 => ?_)
                  · skip
                    refine lv_aload_n hx hb dX9_copy_110 rfl (lv_at hl 0 rfl) ?_
                    refine lv_ldc (v := (-1000000001)) hx hb hown (hu _ uw648) dX9_copy_111 ?_
                    refine xc_Vi (wr := [(ybi, .inl (cI, 4, .inl bi)), (ysi, .inl (cI, 4, .inl sq)), (ynu, .inl (cJ, 160, .inr (.inl nb))), (ymo, .inl (cJ, 40, .inr (.inl mv9)))]) hF (c_X9_finds_B l D cI cJ cZ cS ta sa sv s.heap.size h0 ys yk yo yt mk0 yfa yfe mL mS mM yro yhe ygr mF mC mY yta mz mf mt mv mw ywa ybi ysi ynu ymo mq ) kv_X9_70 ⟨rfl, rfl, Nat.le_of_ble_eq_true rfl, Nat.le_of_ble_eq_true rfl⟩ ⟨Nat.le_of_ble_eq_true rfl, Nat.le_of_ble_eq_true rfl⟩ hK hN hZ hP hD hS hA [0, 5] [1, 2, 3, 4] rfl rfl rfl rfl (by decide) 0 rfl rfl rfl rfl hl.1 rfl (Nat.le_of_ble_eq_true rfl) dX9_copy_113 (fun r_27 u_r_27 H locs hw_r_27 hP hD hS => ?_)
                    obtain ⟨mq2_28, rfl⟩ : ∃ z, z = u_r_27 := ⟨_, rfl⟩
                    try dsimp only at hw_r_27
                    have hP : va_P D vwCl [(ybi, .inl (cI, 4, .inl bi)), (ysi, .inl (cI, 4, .inl sq)), (ynu, .inl (cJ, 160, .inr (.inl nb))), (ymo, .inl (cJ, 40, .inr (.inl mv9))), (h0, .inr (9, [.ref ys, .ref yk, .ref yo, .ref yt, .int mk0, .ref yfa, .ref yfe, .int mL, .int mS, .int mM, .ref yro, .ref yhe, .ref ygr, .int mF, .int mC, .int mY, .ref yta, .int (nI (mz)), .int (nI (mf)), .int (nI (mt)), .int mv, .int mw, .ref ywa, .ref ybi, .ref ysi, .ref ynu, .ref ymo])), (yt, .inl (cI, 7, .inl mq2_28))] H := hP
                    have hD : va_D A [(ybi, .inl (cI, 4, .inl bi)), (ysi, .inl (cI, 4, .inl sq)), (ynu, .inl (cJ, 160, .inr (.inl nb))), (ymo, .inl (cJ, 40, .inr (.inl mv9))), (h0, .inr (9, [.ref ys, .ref yk, .ref yo, .ref yt, .int mk0, .ref yfa, .ref yfe, .int mL, .int mS, .int mM, .ref yro, .ref yhe, .ref ygr, .int mF, .int mC, .int mY, .ref yta, .int (nI (mz)), .int (nI (mf)), .int (nI (mt)), .int mv, .int mw, .ref ywa, .ref ybi, .ref ysi, .ref ynu, .ref ymo])), (yt, .inl (cI, 7, .inl mq2_28))] := hD
                    subst hw_r_27
                    exact W.iret (v := (-1000000001)) hx hb hr (fun t ht hW => ⟨⟨(-1000000001), (nb, mv9, mq2_28), rfl, ⟨(sp_cr3 c_11 c_14 c_15 (fun q => (sp_s5 hzq c_16 c_22 ex_25 c_26) q.1)), (fun j => sp_c0 (fun h => (sp_s5 hzq c_16 c_22 ex_25 c_26) h.2.2.2.1)), (fun _ _ => rfl)⟩, by rw [ht]; exact hP.sub [4, 0, 1, 2, 3, 5] rfl, hD.sub [4, 0, 1, 2, 3, 5] (by decide +kernel) rfl⟩, hS.F ht⟩) hS.2.2 dX9_copy_116 hlk
                  · skip
                    refine lv_iload hx hb dX9_copy_96 (lv_at hl 5 rfl) ?_
                    refine lv_aload_n hx hb dX9_copy_98 rfl (lv_at hl 0 rfl) ?_
                    refine xg hF kf_X9_46 hK hP 0 rfl rfl dX9_copy_99 ?_
                    refine lv_iload_n hx hb dX9_copy_102 rfl (lv_at hl 3 rfl) ?_
                    refine va_iald hx hb hK hP 2 0 rfl rfl (xin 1 4 (by decide) (by decide)) dX9_copy_103 ?_
                    refine xl_i (y := sq 1) (congrArg sq rfl) ?_
                    refine xl_i (y := nI (zt)) et ?_
                    refine lv_iload hx hb dX9_copy_104 (lv_at hl 4 rfl) ?_
                    refine lv_isub hx hb dX9_copy_106 ?_
                    refine lv_topi (fun x_29 ex_29 => ?_)
                    refine lv_icmp_le (tgt := 117) hx hb dX9_copy_107 (by decide) (fun c_30 => ?_) (fun c_30 => ?_)
                    · skip
                      obtain ⟨y_31, hy_31, rfl⟩ := x_spk (by omega) c_16 c_22 ex_25 c_26
                      obtain ⟨y_32, hy_32, rfl⟩ := x_spj (by omega) (by omega) c_16 ex_25 c_26
                      obtain ⟨y_33, hy_33, rfl⟩ := x_spj (by omega) (by omega) c_19 ex_29 (Int32.not_lt.mpr c_30)
                      refine lv_iconst (v := 0) hx hb dX9_copy_117 (by decide) ?_
                      refine lv_istore (lv' := [(6, .int 0), (0, .ref h0), (1, .int 0), (2, .int (nI (y_32))), (3, .int 1), (4, .int (nI (y_33))), (5, .int (nI (y_31)))]) hx hb dX9_copy_118 hl (by decide) rfl (fun ls hl => ?_)
                      suffices loop_120 : ∀ (n_120 : Nat) (i : Nat) (m8 : Nat → Int64) (H : Heap) (locs : List Loc) (ls : Array Slot), y_31 - i < n_120 → (i ≤ y_31) → (∀ j, j < i → m8 j = nb (0 + y_32 + j)) → va_P D vwCl [(h0, .inr (9, [.ref ys, .ref yk, .ref yo, .ref yt, .int mk0, .ref yfa, .ref yfe, .int mL, .int mS, .int mM, .ref yro, .ref yhe, .ref ygr, .int mF, .int mC, .int mY, .ref yta, .int (nI (mz)), .int (nI (mf)), .int (nI (mt)), .int mv, .int mw, .ref ywa, .ref ybi, .ref ysi, .ref ynu, .ref ymo])), (ybi, .inl (cI, 4, .inl bi)), (ysi, .inl (cI, 4, .inl sq)), (ynu, .inl (cJ, 160, .inr (.inl nb))), (ymo, .inl (cJ, 40, .inr (.inl m8))), (yt, .inl (cI, 7, .inl mq))] H → va_D A [(h0, .inr (9, [.ref ys, .ref yk, .ref yo, .ref yt, .int mk0, .ref yfa, .ref yfe, .int mL, .int mS, .int mM, .ref yro, .ref yhe, .ref ygr, .int mF, .int mC, .int mY, .ref yta, .int (nI (mz)), .int (nI (mf)), .int (nI (mt)), .int mv, .int mw, .ref ywa, .ref ybi, .ref ysi, .ref ynu, .ref ymo])), (ybi, .inl (cI, 4, .inl bi)), (ysi, .inl (cI, 4, .inl sq)), (ynu, .inl (cJ, 160, .inr (.inl nb))), (ymo, .inl (cJ, 40, .inr (.inl m8))), (yt, .inl (cI, 7, .inl mq))] → va_S A s.heap H locs → lv_has ls 7 [(6, .int (nI (i))), (0, .ref h0), (1, .int 0), (2, .int (nI (y_32))), (3, .int 1), (4, .int (nI (y_33))), (5, .int (nI (y_31)))] → W p l e ({ frames := 2, cells := 0, slots := 0, locals := 45 }) s m ([.ref h0, .int 0, .int (nI (y_32)), .int 1, .int (nI (y_33)), .int (nI (y_31))] : List Value).toArray below meth c H locs 0 0 (MQ below (XQi (fun (r : Int32) (u : (Nat → Int64) × (Nat → Int64) × (Nat → Int32)) => match u with | (nb2, mv2, mq2) => ((r = sp_cr (bi 0) (bi 1) zq zt (nI (y_32)) (nI (y_33)) (nI (y_31)))) ∧ (∀ j, nb2 (40 + j) = sp_cn (bi 0) (bi 1) zq zt (nI (y_32)) (nI (y_33)) (nI (y_31)) (fun k => nb (0 + k)) j (nb (40 + j))) ∧ (∀ j, j < 40 ∨ 80 ≤ j → nb2 j = nb j)) D (fun (u : (Nat → Int64) × (Nat → Int64) × (Nat → Int32)) => match u with | (nb2, mv2, mq2) => [(h0, .inr (9, [.ref ys, .ref yk, .ref yo, .ref yt, .int mk0, .ref yfa, .ref yfe, .int mL, .int mS, .int mM, .ref yro, .ref yhe, .ref ygr, .int mF, .int mC, .int mY, .ref yta, .int (nI (mz)), .int (nI (mf)), .int (nI (mt)), .int mv, .int mw, .ref ywa, .ref ybi, .ref ysi, .ref ynu, .ref ymo])), (ybi, .inl (cI, 4, .inl bi)), (ysi, .inl (cI, 4, .inl sq)), (ynu, .inl (cJ, 160, .inr (.inl nb2))), (ymo, .inl (cJ, 40, .inr (.inl mv2))), (yt, .inl (cI, 7, .inl mq2))]) A) ([.ref h0, .int 0, .int (nI (y_32)), .int 1, .int (nI (y_33)), .int (nI (y_31))] : List Value).toArray s 0 0 A) (F0 m 120 ls []) by
                        exact loop_120 _ 0 mv9 _ _ _ (Nat.lt_succ_self _) (by omega) (fun j hj => absurd hj (Nat.not_lt_zero _)) hP hD hS (lv_sub hl [0, 1, 2, 3, 4, 5, 6] rfl)
                      intro n_120
                      induction n_120 with
                      | zero =>
                        intro i m8 H locs ls hm_120
                        exact absurd hm_120 (Nat.not_lt_zero _)
                      | succ n_120 ih_120 =>
                        intro i m8 H locs ls hm_120 hi hm8 hP hD hS hl
                        refine lv_iload hx hb dX9_copy_120 (lv_at hl 0 rfl) ?_
                        refine lv_iload hx hb dX9_copy_122 (lv_at hl 6 rfl) ?_
                        refine lv_icmp_ge (tgt := 154) hx hb dX9_copy_124 (by decide) (fun c_34 => ?_) (fun c_34 => ?_)
                        · skip
                          have nc_34 : y_31 ≤ i := xn_le (a := y_31) (b := i) (by omega) (by omega) c_34
                          refine lv_iconst (v := 0) hx hb dX9_copy_154 (by decide) ?_
                          refine lv_istore (lv' := [(6, .int 0), (0, .ref h0), (1, .int 0), (2, .int (nI (y_32))), (3, .int 1), (4, .int (nI (y_33))), (5, .int (nI (y_31)))]) hx hb dX9_copy_155 hl (by decide) rfl (fun ls hl => ?_)
                          suffices loop_157 : ∀ (n_157 : Nat) (i2 : Nat) (n8 : Nat → Int64) (H : Heap) (locs : List Loc) (ls : Array Slot), y_31 - i2 < n_157 → (i2 ≤ y_31) → (∀ j, n8 j = if 40 + y_33 ≤ j ∧ j < 40 + y_33 + i2 then m8 (j - (40 + y_33)) else nb j) → va_P D vwCl [(h0, .inr (9, [.ref ys, .ref yk, .ref yo, .ref yt, .int mk0, .ref yfa, .ref yfe, .int mL, .int mS, .int mM, .ref yro, .ref yhe, .ref ygr, .int mF, .int mC, .int mY, .ref yta, .int (nI (mz)), .int (nI (mf)), .int (nI (mt)), .int mv, .int mw, .ref ywa, .ref ybi, .ref ysi, .ref ynu, .ref ymo])), (ybi, .inl (cI, 4, .inl bi)), (ysi, .inl (cI, 4, .inl sq)), (ynu, .inl (cJ, 160, .inr (.inl n8))), (ymo, .inl (cJ, 40, .inr (.inl m8))), (yt, .inl (cI, 7, .inl mq))] H → va_D A [(h0, .inr (9, [.ref ys, .ref yk, .ref yo, .ref yt, .int mk0, .ref yfa, .ref yfe, .int mL, .int mS, .int mM, .ref yro, .ref yhe, .ref ygr, .int mF, .int mC, .int mY, .ref yta, .int (nI (mz)), .int (nI (mf)), .int (nI (mt)), .int mv, .int mw, .ref ywa, .ref ybi, .ref ysi, .ref ynu, .ref ymo])), (ybi, .inl (cI, 4, .inl bi)), (ysi, .inl (cI, 4, .inl sq)), (ynu, .inl (cJ, 160, .inr (.inl n8))), (ymo, .inl (cJ, 40, .inr (.inl m8))), (yt, .inl (cI, 7, .inl mq))] → va_S A s.heap H locs → lv_has ls 7 [(6, .int (nI (i2))), (0, .ref h0), (1, .int 0), (2, .int (nI (y_32))), (3, .int 1), (4, .int (nI (y_33))), (5, .int (nI (y_31)))] → W p l e ({ frames := 2, cells := 0, slots := 0, locals := 45 }) s m ([.ref h0, .int 0, .int (nI (y_32)), .int 1, .int (nI (y_33)), .int (nI (y_31))] : List Value).toArray below meth c H locs 0 0 (MQ below (XQi (fun (r : Int32) (u : (Nat → Int64) × (Nat → Int64) × (Nat → Int32)) => match u with | (nb2, mv2, mq2) => ((r = sp_cr (bi 0) (bi 1) zq zt (nI (y_32)) (nI (y_33)) (nI (y_31)))) ∧ (∀ j, nb2 (40 + j) = sp_cn (bi 0) (bi 1) zq zt (nI (y_32)) (nI (y_33)) (nI (y_31)) (fun k => nb (0 + k)) j (nb (40 + j))) ∧ (∀ j, j < 40 ∨ 80 ≤ j → nb2 j = nb j)) D (fun (u : (Nat → Int64) × (Nat → Int64) × (Nat → Int32)) => match u with | (nb2, mv2, mq2) => [(h0, .inr (9, [.ref ys, .ref yk, .ref yo, .ref yt, .int mk0, .ref yfa, .ref yfe, .int mL, .int mS, .int mM, .ref yro, .ref yhe, .ref ygr, .int mF, .int mC, .int mY, .ref yta, .int (nI (mz)), .int (nI (mf)), .int (nI (mt)), .int mv, .int mw, .ref ywa, .ref ybi, .ref ysi, .ref ynu, .ref ymo])), (ybi, .inl (cI, 4, .inl bi)), (ysi, .inl (cI, 4, .inl sq)), (ynu, .inl (cJ, 160, .inr (.inl nb2))), (ymo, .inl (cJ, 40, .inr (.inl mv2))), (yt, .inl (cI, 7, .inl mq2))]) A) ([.ref h0, .int 0, .int (nI (y_32)), .int 1, .int (nI (y_33)), .int (nI (y_31))] : List Value).toArray s 0 0 A) (F0 m 157 ls []) by
                            exact loop_157 _ 0 nb _ _ _ (Nat.lt_succ_self _) (by omega) (fun j => (if_neg (by omega)).symm) hP hD hS (lv_sub hl [0, 1, 2, 3, 4, 5, 6] rfl)
                          intro n_157
                          induction n_157 with
                          | zero =>
                            intro i2 n8 H locs ls hm_157
                            exact absurd hm_157 (Nat.not_lt_zero _)
                          | succ n_157 ih_157 =>
                            intro i2 n8 H locs ls hm_157 hi2 hn8 hP hD hS hl
                            refine lv_iload hx hb dX9_copy_157 (lv_at hl 0 rfl) ?_
                            refine lv_iload hx hb dX9_copy_159 (lv_at hl 6 rfl) ?_
                            refine lv_icmp_ge (tgt := 192) hx hb dX9_copy_161 (by decide) (fun c_35 => ?_) (fun c_35 => ?_)
                            · skip
                              have nc_35 : y_31 ≤ i2 := xn_le (a := y_31) (b := i2) (by omega) (by omega) c_35
                              refine lv_iload hx hb dX9_copy_192 (lv_at hl 6 rfl) ?_
                              have hn7 : ∀ j, n8 j = if 40 + y_33 ≤ j ∧ j < 40 + y_33 + y_31 then m8 (j - (40 + y_33)) else nb j := fun j => by rw [hn8 j, show i2 = y_31 by omega]
                              have hm7 : ∀ j, j < y_31 → m8 j = nb (0 + y_32 + j) := fun j hj => hm8 j (by omega)
                              exact W.iret (v := nI (y_31)) hx hb hr (fun t ht hW => ⟨⟨nI (y_31), (n8, m8, mq), rfl, ⟨(sp_cr4 c_11 c_14 c_15 (sp_nspan (by omega) (by omega)) (sp_nspan (by omega) (by omega))), (fun j9 => sp_c1 (K := 40) (M := 0) (by omega) (by omega) c_11 c_14 c_15 (by omega) (by omega) (fun i9 => sp_mv3 hn7 hm7 rfl rfl)), (fun j9 hj9 => by rw [hn7 j9, if_neg (by omega)])⟩, by rw [ht]; exact hP.sub [0, 1, 2, 3, 4, 5] rfl, hD.sub [0, 1, 2, 3, 4, 5] (by decide +kernel) rfl⟩, hS.F ht⟩) hS.2.2 dX9_copy_194 hlk
                            · skip
                              have nc_35 : i2 < y_31 := xn_nle (a := y_31) (b := i2) (by omega) (by omega) c_35
                              refine lv_aload_n hx hb dX9_copy_164 rfl (lv_at hl 1 rfl) ?_
                              refine xg hF kf_X9_49 hK hP 0 rfl rfl dX9_copy_165 ?_
                              refine lv_bipush (v := 40) hx hb dX9_copy_168 (by decide) ?_
                              refine lv_iload_n hx hb dX9_copy_170 rfl (lv_at hl 4 rfl) ?_
                              refine lv_imul hx hb dX9_copy_171 ?_
                              refine xl_i (y := 40) (by decide) ?_
                              refine lv_iload hx hb dX9_copy_172 (lv_at hl 5 rfl) ?_
                              refine lv_iadd hx hb dX9_copy_174 ?_
                              refine xl_i (y := nI (40 + y_33)) (nI_add 40 y_33) ?_
                              refine lv_iload hx hb dX9_copy_175 (lv_at hl 0 rfl) ?_
                              refine lv_iadd hx hb dX9_copy_177 ?_
                              refine xl_i (y := nI (40 + y_33 + i2)) (nI_add (40 + y_33) i2) ?_
                              refine lv_aload_n hx hb dX9_copy_178 rfl (lv_at hl 1 rfl) ?_
                              refine xg hF kf_X9_53 hK hP 0 rfl rfl dX9_copy_179 ?_
                              refine lv_iload hx hb dX9_copy_182 (lv_at hl 0 rfl) ?_
                              refine va_lald hx hb hK hP 4 1 rfl rfl (vp_in_nI (show i2 < 40 by omega) (by decide)) dX9_copy_184 ?_
                              refine xl_l (y := m8 i2) (congrArg m8 (nI_clamp (show i2 < 2 ^ 31 by omega))) ?_
                              refine va_last hx hb hK hP hD hS 3 1 rfl rfl (vp_in_nI (show 40 + y_33 + i2 < 160 by omega) (by decide)) dX9_copy_185 (fun H locs hP hD hS => ?_)
                              rw [nI_clamp (show 40 + y_33 + i2 < 2 ^ 31 by omega)] at hP hD
                              obtain ⟨f_36, ef_36⟩ : ∃ g, g = vp_updL n8 (40 + y_33 + i2) (m8 i2) := ⟨_, rfl⟩
                              rw [← ef_36] at hP hD
                              have hP : va_P D vwCl [(h0, .inr (9, [.ref ys, .ref yk, .ref yo, .ref yt, .int mk0, .ref yfa, .ref yfe, .int mL, .int mS, .int mM, .ref yro, .ref yhe, .ref ygr, .int mF, .int mC, .int mY, .ref yta, .int (nI (mz)), .int (nI (mf)), .int (nI (mt)), .int mv, .int mw, .ref ywa, .ref ybi, .ref ysi, .ref ynu, .ref ymo])), (ybi, .inl (cI, 4, .inl bi)), (ysi, .inl (cI, 4, .inl sq)), (ynu, .inl (cJ, 160, .inr (.inl f_36))), (ymo, .inl (cJ, 40, .inr (.inl m8))), (yt, .inl (cI, 7, .inl mq))] H := hP
                              have hD : va_D A [(h0, .inr (9, [.ref ys, .ref yk, .ref yo, .ref yt, .int mk0, .ref yfa, .ref yfe, .int mL, .int mS, .int mM, .ref yro, .ref yhe, .ref ygr, .int mF, .int mC, .int mY, .ref yta, .int (nI (mz)), .int (nI (mf)), .int (nI (mt)), .int mv, .int mw, .ref ywa, .ref ybi, .ref ysi, .ref ynu, .ref ymo])), (ybi, .inl (cI, 4, .inl bi)), (ysi, .inl (cI, 4, .inl sq)), (ynu, .inl (cJ, 160, .inr (.inl f_36))), (ymo, .inl (cJ, 40, .inr (.inl m8))), (yt, .inl (cI, 7, .inl mq))] := hD
                              refine lv_iinc (v := nI (i2 + 1)) (lv' := [(6, .int (nI (i2 + 1))), (0, .ref h0), (1, .int 0), (2, .int (nI (y_32))), (3, .int 1), (4, .int (nI (y_33))), (5, .int (nI (y_31)))]) hx hb dX9_copy_186 hl (k := 0) rfl (nI_1 (i2)) (by decide) rfl (fun ls hl => ?_)
                              refine lv_goto (tgt := 157) hx hb dX9_copy_189 (by decide) ?_
                              exact ih_157 (i2 + 1) f_36 _ _ _ (by omega) (by omega) (sp_mv2 hn8 ef_36) (hP.sub [0, 1, 2, 3, 4, 5] rfl) (hD.sub [0, 1, 2, 3, 4, 5] (by decide +kernel) rfl) hS (lv_sub hl [0, 1, 2, 3, 4, 5, 6] rfl)
                        · skip
                          have nc_34 : i < y_31 := xn_nle (a := y_31) (b := i) (by omega) (by omega) c_34
                          refine lv_aload_n hx hb dX9_copy_127 rfl (lv_at hl 1 rfl) ?_
                          refine xg hF kf_X9_53 hK hP 0 rfl rfl dX9_copy_128 ?_
                          refine lv_iload hx hb dX9_copy_131 (lv_at hl 0 rfl) ?_
                          refine lv_aload_n hx hb dX9_copy_133 rfl (lv_at hl 1 rfl) ?_
                          refine xg hF kf_X9_49 hK hP 0 rfl rfl dX9_copy_134 ?_
                          refine lv_bipush (v := 40) hx hb dX9_copy_137 (by decide) ?_
                          refine lv_iload_n hx hb dX9_copy_139 rfl (lv_at hl 2 rfl) ?_
                          refine lv_imul hx hb dX9_copy_140 ?_
                          refine xl_i (y := 0) (by decide) ?_
                          refine lv_iload_n hx hb dX9_copy_141 rfl (lv_at hl 3 rfl) ?_
                          refine lv_iadd hx hb dX9_copy_142 ?_
                          refine xl_i (y := nI (0 + y_32)) (nI_add 0 y_32) ?_
                          refine lv_iload hx hb dX9_copy_143 (lv_at hl 0 rfl) ?_
                          refine lv_iadd hx hb dX9_copy_145 ?_
                          refine xl_i (y := nI (0 + y_32 + i)) (nI_add (0 + y_32) i) ?_
                          refine va_lald hx hb hK hP 3 1 rfl rfl (vp_in_nI (show 0 + y_32 + i < 160 by omega) (by decide)) dX9_copy_146 ?_
                          refine xl_l (y := nb (0 + y_32 + i)) (congrArg nb (nI_clamp (show 0 + y_32 + i < 2 ^ 31 by omega))) ?_
                          refine va_last hx hb hK hP hD hS 4 1 rfl rfl (vp_in_nI (show i < 40 by omega) (by decide)) dX9_copy_147 (fun H locs hP hD hS => ?_)
                          rw [nI_clamp (show i < 2 ^ 31 by omega)] at hP hD
                          obtain ⟨f_37, ef_37⟩ : ∃ g, g = vp_updL m8 i (nb (0 + y_32 + i)) := ⟨_, rfl⟩
                          rw [← ef_37] at hP hD
                          have hP : va_P D vwCl [(h0, .inr (9, [.ref ys, .ref yk, .ref yo, .ref yt, .int mk0, .ref yfa, .ref yfe, .int mL, .int mS, .int mM, .ref yro, .ref yhe, .ref ygr, .int mF, .int mC, .int mY, .ref yta, .int (nI (mz)), .int (nI (mf)), .int (nI (mt)), .int mv, .int mw, .ref ywa, .ref ybi, .ref ysi, .ref ynu, .ref ymo])), (ybi, .inl (cI, 4, .inl bi)), (ysi, .inl (cI, 4, .inl sq)), (ynu, .inl (cJ, 160, .inr (.inl nb))), (ymo, .inl (cJ, 40, .inr (.inl f_37))), (yt, .inl (cI, 7, .inl mq))] H := hP
                          have hD : va_D A [(h0, .inr (9, [.ref ys, .ref yk, .ref yo, .ref yt, .int mk0, .ref yfa, .ref yfe, .int mL, .int mS, .int mM, .ref yro, .ref yhe, .ref ygr, .int mF, .int mC, .int mY, .ref yta, .int (nI (mz)), .int (nI (mf)), .int (nI (mt)), .int mv, .int mw, .ref ywa, .ref ybi, .ref ysi, .ref ynu, .ref ymo])), (ybi, .inl (cI, 4, .inl bi)), (ysi, .inl (cI, 4, .inl sq)), (ynu, .inl (cJ, 160, .inr (.inl nb))), (ymo, .inl (cJ, 40, .inr (.inl f_37))), (yt, .inl (cI, 7, .inl mq))] := hD
                          refine lv_iinc (v := nI (i + 1)) (lv' := [(6, .int (nI (i + 1))), (0, .ref h0), (1, .int 0), (2, .int (nI (y_32))), (3, .int 1), (4, .int (nI (y_33))), (5, .int (nI (y_31)))]) hx hb dX9_copy_148 hl (k := 0) rfl (nI_1 (i)) (by decide) rfl (fun ls hl => ?_)
                          refine lv_goto (tgt := 120) hx hb dX9_copy_151 (by decide) ?_
                          exact ih_120 (i + 1) f_37 _ _ _ (by omega) (by omega) (sp_mv1 hm8 ef_37) (hP.sub [0, 1, 2, 3, 4, 5] rfl) (hD.sub [0, 1, 2, 3, 4, 5] (by decide +kernel) rfl) hS (lv_sub hl [0, 1, 2, 3, 4, 5, 6] rfl)
                    · skip
                      refine lv_aload_n hx hb dX9_copy_110 rfl (lv_at hl 0 rfl) ?_
                      refine lv_ldc (v := (-1000000001)) hx hb hown (hu _ uw648) dX9_copy_111 ?_
                      refine xc_Vi (wr := [(ybi, .inl (cI, 4, .inl bi)), (ysi, .inl (cI, 4, .inl sq)), (ynu, .inl (cJ, 160, .inr (.inl nb))), (ymo, .inl (cJ, 40, .inr (.inl mv9)))]) hF (c_X9_finds_B l D cI cJ cZ cS ta sa sv s.heap.size h0 ys yk yo yt mk0 yfa yfe mL mS mM yro yhe ygr mF mC mY yta mz mf mt mv mw ywa ybi ysi ynu ymo mq ) kv_X9_70 ⟨rfl, rfl, Nat.le_of_ble_eq_true rfl, Nat.le_of_ble_eq_true rfl⟩ ⟨Nat.le_of_ble_eq_true rfl, Nat.le_of_ble_eq_true rfl⟩ hK hN hZ hP hD hS hA [0, 5] [1, 2, 3, 4] rfl rfl rfl rfl (by decide) 0 rfl rfl rfl rfl hl.1 rfl (Nat.le_of_ble_eq_true rfl) dX9_copy_113 (fun r_38 u_r_38 H locs hw_r_38 hP hD hS => ?_)
                      obtain ⟨mq2_39, rfl⟩ : ∃ z, z = u_r_38 := ⟨_, rfl⟩
                      try dsimp only at hw_r_38
                      have hP : va_P D vwCl [(ybi, .inl (cI, 4, .inl bi)), (ysi, .inl (cI, 4, .inl sq)), (ynu, .inl (cJ, 160, .inr (.inl nb))), (ymo, .inl (cJ, 40, .inr (.inl mv9))), (h0, .inr (9, [.ref ys, .ref yk, .ref yo, .ref yt, .int mk0, .ref yfa, .ref yfe, .int mL, .int mS, .int mM, .ref yro, .ref yhe, .ref ygr, .int mF, .int mC, .int mY, .ref yta, .int (nI (mz)), .int (nI (mf)), .int (nI (mt)), .int mv, .int mw, .ref ywa, .ref ybi, .ref ysi, .ref ynu, .ref ymo])), (yt, .inl (cI, 7, .inl mq2_39))] H := hP
                      have hD : va_D A [(ybi, .inl (cI, 4, .inl bi)), (ysi, .inl (cI, 4, .inl sq)), (ynu, .inl (cJ, 160, .inr (.inl nb))), (ymo, .inl (cJ, 40, .inr (.inl mv9))), (h0, .inr (9, [.ref ys, .ref yk, .ref yo, .ref yt, .int mk0, .ref yfa, .ref yfe, .int mL, .int mS, .int mM, .ref yro, .ref yhe, .ref ygr, .int mF, .int mC, .int mY, .ref yta, .int (nI (mz)), .int (nI (mf)), .int (nI (mt)), .int mv, .int mw, .ref ywa, .ref ybi, .ref ysi, .ref ynu, .ref ymo])), (yt, .inl (cI, 7, .inl mq2_39))] := hD
                      subst hw_r_38
                      exact W.iret (v := (-1000000001)) hx hb hr (fun t ht hW => ⟨⟨(-1000000001), (nb, mv9, mq2_39), rfl, ⟨(sp_cr3 c_11 c_14 c_15 (fun q => (sp_s5 hzt c_19 c_22 ex_29 (xlt c_30)) q.2)), (fun j => sp_c0 (fun h => (sp_s5 hzt c_19 c_22 ex_29 (xlt c_30)) h.2.2.2.2)), (fun _ _ => rfl)⟩, by rw [ht]; exact hP.sub [4, 0, 1, 2, 3, 5] rfl, hD.sub [4, 0, 1, 2, 3, 5] (by decide +kernel) rfl⟩, hS.F ht⟩) hS.2.2 dX9_copy_116 hlk
          · skip
            refine lv_aload_n hx hb dX9_copy_62 rfl (lv_at hl 0 rfl) ?_
            refine lv_ldc (v := (-1000000003)) hx hb hown (hu _ uw765) dX9_copy_63 ?_
            refine xc_Vi (wr := [(ybi, .inl (cI, 4, .inl bi)), (ysi, .inl (cI, 4, .inl sq)), (ynu, .inl (cJ, 160, .inr (.inl nb))), (ymo, .inl (cJ, 40, .inr (.inl mv9)))]) hF (c_X9_finds_K l D cI cJ cZ cS ta sa sv s.heap.size h0 ys yk yo yt mk0 yfa yfe mL mS mM yro yhe ygr mF mC mY yta mz mf mt mv mw ywa ybi ysi ynu ymo mq ) kv_X9_70 ⟨rfl, rfl, Nat.le_of_ble_eq_true rfl, Nat.le_of_ble_eq_true rfl⟩ ⟨Nat.le_of_ble_eq_true rfl, Nat.le_of_ble_eq_true rfl⟩ hK hN hZ hP hD hS hA [0, 5] [1, 2, 3, 4] rfl rfl rfl rfl (by decide) 0 rfl rfl rfl rfl hl.1 rfl (Nat.le_of_ble_eq_true rfl) dX9_copy_65 (fun r_40 u_r_40 H locs hw_r_40 hP hD hS => ?_)
            obtain ⟨mq2_41, rfl⟩ : ∃ z, z = u_r_40 := ⟨_, rfl⟩
            try dsimp only at hw_r_40
            have hP : va_P D vwCl [(ybi, .inl (cI, 4, .inl bi)), (ysi, .inl (cI, 4, .inl sq)), (ynu, .inl (cJ, 160, .inr (.inl nb))), (ymo, .inl (cJ, 40, .inr (.inl mv9))), (h0, .inr (9, [.ref ys, .ref yk, .ref yo, .ref yt, .int mk0, .ref yfa, .ref yfe, .int mL, .int mS, .int mM, .ref yro, .ref yhe, .ref ygr, .int mF, .int mC, .int mY, .ref yta, .int (nI (mz)), .int (nI (mf)), .int (nI (mt)), .int mv, .int mw, .ref ywa, .ref ybi, .ref ysi, .ref ynu, .ref ymo])), (yt, .inl (cI, 7, .inl mq2_41))] H := hP
            have hD : va_D A [(ybi, .inl (cI, 4, .inl bi)), (ysi, .inl (cI, 4, .inl sq)), (ynu, .inl (cJ, 160, .inr (.inl nb))), (ymo, .inl (cJ, 40, .inr (.inl mv9))), (h0, .inr (9, [.ref ys, .ref yk, .ref yo, .ref yt, .int mk0, .ref yfa, .ref yfe, .int mL, .int mS, .int mM, .ref yro, .ref yhe, .ref ygr, .int mF, .int mC, .int mY, .ref yta, .int (nI (mz)), .int (nI (mf)), .int (nI (mt)), .int mv, .int mw, .ref ywa, .ref ybi, .ref ysi, .ref ynu, .ref ymo])), (yt, .inl (cI, 7, .inl mq2_41))] := hD
            subst hw_r_40
            exact W.iret (v := (-1000000003)) hx hb hr (fun t ht hW => ⟨⟨(-1000000003), (nb, mv9, mq2_41), rfl, ⟨(sp_cr2 c_11 c_14 c_15), (fun j => sp_c0 (fun h => absurd h.2.2.1 c_15)), (fun _ _ => rfl)⟩, by rw [ht]; exact hP.sub [4, 0, 1, 2, 3, 5] rfl, hD.sub [4, 0, 1, 2, 3, 5] (by decide +kernel) rfl⟩, hS.F ht⟩) hS.2.2 dX9_copy_68 hlk
        · skip
          refine lv_aload_n hx hb dX9_copy_39 rfl (lv_at hl 0 rfl) ?_
          refine lv_ldcw (v := (-1000000006)) hx hb hown (hu _ uw910) dX9_copy_40 ?_
          refine xc_Vi (wr := [(ybi, .inl (cI, 4, .inl bi)), (ysi, .inl (cI, 4, .inl sq)), (ynu, .inl (cJ, 160, .inr (.inl nb))), (ymo, .inl (cJ, 40, .inr (.inl mv9)))]) hF (c_X9_finds_M l D cI cJ cZ cS ta sa sv s.heap.size h0 ys yk yo yt mk0 yfa yfe mL mS mM yro yhe ygr mF mC mY yta mz mf mt mv mw ywa ybi ysi ynu ymo mq ) kv_X9_70 ⟨rfl, rfl, Nat.le_of_ble_eq_true rfl, Nat.le_of_ble_eq_true rfl⟩ ⟨Nat.le_of_ble_eq_true rfl, Nat.le_of_ble_eq_true rfl⟩ hK hN hZ hP hD hS hA [0, 5] [1, 2, 3, 4] rfl rfl rfl rfl (by decide) 0 rfl rfl rfl rfl hl.1 rfl (Nat.le_of_ble_eq_true rfl) dX9_copy_43 (fun r_42 u_r_42 H locs hw_r_42 hP hD hS => ?_)
          obtain ⟨mq2_43, rfl⟩ : ∃ z, z = u_r_42 := ⟨_, rfl⟩
          try dsimp only at hw_r_42
          have hP : va_P D vwCl [(ybi, .inl (cI, 4, .inl bi)), (ysi, .inl (cI, 4, .inl sq)), (ynu, .inl (cJ, 160, .inr (.inl nb))), (ymo, .inl (cJ, 40, .inr (.inl mv9))), (h0, .inr (9, [.ref ys, .ref yk, .ref yo, .ref yt, .int mk0, .ref yfa, .ref yfe, .int mL, .int mS, .int mM, .ref yro, .ref yhe, .ref ygr, .int mF, .int mC, .int mY, .ref yta, .int (nI (mz)), .int (nI (mf)), .int (nI (mt)), .int mv, .int mw, .ref ywa, .ref ybi, .ref ysi, .ref ynu, .ref ymo])), (yt, .inl (cI, 7, .inl mq2_43))] H := hP
          have hD : va_D A [(ybi, .inl (cI, 4, .inl bi)), (ysi, .inl (cI, 4, .inl sq)), (ynu, .inl (cJ, 160, .inr (.inl nb))), (ymo, .inl (cJ, 40, .inr (.inl mv9))), (h0, .inr (9, [.ref ys, .ref yk, .ref yo, .ref yt, .int mk0, .ref yfa, .ref yfe, .int mL, .int mS, .int mM, .ref yro, .ref yhe, .ref ygr, .int mF, .int mC, .int mY, .ref yta, .int (nI (mz)), .int (nI (mf)), .int (nI (mt)), .int mv, .int mw, .ref ywa, .ref ybi, .ref ysi, .ref ynu, .ref ymo])), (yt, .inl (cI, 7, .inl mq2_43))] := hD
          subst hw_r_42
          exact W.iret (v := (-1000000006)) hx hb hr (fun t ht hW => ⟨⟨(-1000000006), (nb, mv9, mq2_43), rfl, ⟨(sp_cr1 (Or.inr c_14)), (fun j => sp_c0 (fun h => h.2.1 c_14)), (fun _ _ => rfl)⟩, by rw [ht]; exact hP.sub [4, 0, 1, 2, 3, 5] rfl, hD.sub [4, 0, 1, 2, 3, 5] (by decide +kernel) rfl⟩, hS.F ht⟩) hS.2.2 dX9_copy_46 hlk
    · exact absurd h_9 (by decide)
  · exact absurd h_4 (by decide)
set_option maxHeartbeats 4000000 in
set_option maxRecDepth 100000 in
theorem c_X9_copy_02 (l : Launch) (D : va_G) (cI cJ cZ cS : ClassId) (ta : Nat) (sa sv : Nat → Nat) (sz : Nat) (h0 : Nat) (ys : Nat) (yk : Nat) (yo : Nat) (yt : Nat) (mk0 : Int32) (yfa : Nat) (yfe : Nat) (mL : Int32) (mS : Int32) (mM : Int32) (yro : Nat) (yhe : Nat) (ygr : Nat) (mF : Int32) (mC : Int32) (mY : Int32) (yta : Nat) (mz : Nat) (mf : Nat) (mt : Nat) (mv : Int32) (mw : Int32) (ywa : Nat) (ybi : Nat) (ysi : Nat) (ynu : Nat) (ymo : Nat) (bi : Nat → Int32) (sq : Nat → Int32) (nb : Nat → Int64) (mv9 : Nat → Int64) (mq : Nat → Int32) (p1 : Int32) (p3 : Int32) (p4 : Int32) (zq : Nat) (zt : Nat) (ez : sq 0 = nI zq) (hzq : zq ≤ 40) (et : sq 2 = nI zt) (hzt : zt ≤ 40) (hsq : BA 4 41 sq) : Met l yX9_copy (Cond.code yX9_copy cX9_copy 7 (some .int) :: wsU) ({ frames := 2, cells := 0, slots := 0, locals := 45 }) (va_Pc [.ref h0, .int 0, .int p1, .int 2, .int p3, .int p4] (XW D (xT cI cJ cZ cS) ta sa sv [(h0, .inr (9, [.ref ys, .ref yk, .ref yo, .ref yt, .int mk0, .ref yfa, .ref yfe, .int mL, .int mS, .int mM, .ref yro, .ref yhe, .ref ygr, .int mF, .int mC, .int mY, .ref yta, .int (nI (mz)), .int (nI (mf)), .int (nI (mt)), .int mv, .int mw, .ref ywa, .ref ybi, .ref ysi, .ref ynu, .ref ymo])), (ybi, .inl (cI, 4, .inl bi)), (ysi, .inl (cI, 4, .inl sq)), (ynu, .inl (cJ, 160, .inr (.inl nb))), (ymo, .inl (cJ, 40, .inr (.inl mv9))), (yt, .inl (cI, 7, .inl mq))] sz)) (XQi (fun (r : Int32) (u : (Nat → Int64) × (Nat → Int64) × (Nat → Int32)) => match u with | (nb2, mv2, mq2) => ((r = sp_cr (bi 0) (bi 2) zq zt p1 p3 p4)) ∧ (∀ j, nb2 (80 + j) = sp_cn (bi 0) (bi 2) zq zt p1 p3 p4 (fun k => nb (0 + k)) j (nb (80 + j))) ∧ (∀ j, j < 80 ∨ 120 ≤ j → nb2 j = nb j)) D (fun (u : (Nat → Int64) × (Nat → Int64) × (Nat → Int32)) => match u with | (nb2, mv2, mq2) => [(h0, .inr (9, [.ref ys, .ref yk, .ref yo, .ref yt, .int mk0, .ref yfa, .ref yfe, .int mL, .int mS, .int mM, .ref yro, .ref yhe, .ref ygr, .int mF, .int mC, .int mY, .ref yta, .int (nI (mz)), .int (nI (mf)), .int (nI (mt)), .int mv, .int mw, .ref ywa, .ref ybi, .ref ysi, .ref ynu, .ref ymo])), (ybi, .inl (cI, 4, .inl bi)), (ysi, .inl (cI, 4, .inl sq)), (ynu, .inl (cJ, 160, .inr (.inl nb2))), (ymo, .inl (cJ, 40, .inr (.inl mv2))), (yt, .inl (cI, 7, .inl mq2))]) (va_A [(h0, .inr (9, [.ref ys, .ref yk, .ref yo, .ref yt, .int mk0, .ref yfa, .ref yfe, .int mL, .int mS, .int mM, .ref yro, .ref yhe, .ref ygr, .int mF, .int mC, .int mY, .ref yta, .int (nI (mz)), .int (nI (mf)), .int (nI (mt)), .int mv, .int mw, .ref ywa, .ref ybi, .ref ysi, .ref ynu, .ref ymo])), (ybi, .inl (cI, 4, .inl bi)), (ysi, .inl (cI, 4, .inl sq)), (ynu, .inl (cJ, 160, .inr (.inl nb))), (ymo, .inl (cJ, 40, .inr (.inl mv9))), (yt, .inl (cI, 7, .inl mq))] sz)) 0 0 (va_A [(h0, .inr (9, [.ref ys, .ref yk, .ref yo, .ref yt, .int mk0, .ref yfa, .ref yfe, .int mL, .int mS, .int mM, .ref yro, .ref yhe, .ref ygr, .int mF, .int mC, .int mY, .ref yta, .int (nI (mz)), .int (nI (mf)), .int (nI (mt)), .int mv, .int mw, .ref ywa, .ref ybi, .ref ysi, .ref ynu, .ref ymo])), (ybi, .inl (cI, 4, .inl bi)), (ysi, .inl (cI, 4, .inl sq)), (ynu, .inl (cJ, 160, .inr (.inl nb))), (ymo, .inl (cJ, 40, .inr (.inl mv9))), (yt, .inl (cI, 7, .inl mq))] sz) := by
  refine xh (QA := fun A => XQi (fun (r : Int32) (u : (Nat → Int64) × (Nat → Int64) × (Nat → Int32)) => match u with | (nb2, mv2, mq2) => ((r = sp_cr (bi 0) (bi 2) zq zt p1 p3 p4)) ∧ (∀ j, nb2 (80 + j) = sp_cn (bi 0) (bi 2) zq zt p1 p3 p4 (fun k => nb (0 + k)) j (nb (80 + j))) ∧ (∀ j, j < 80 ∨ 120 ≤ j → nb2 j = nb j)) D (fun (u : (Nat → Int64) × (Nat → Int64) × (Nat → Int32)) => match u with | (nb2, mv2, mq2) => [(h0, .inr (9, [.ref ys, .ref yk, .ref yo, .ref yt, .int mk0, .ref yfa, .ref yfe, .int mL, .int mS, .int mM, .ref yro, .ref yhe, .ref ygr, .int mF, .int mC, .int mY, .ref yta, .int (nI (mz)), .int (nI (mf)), .int (nI (mt)), .int mv, .int mw, .ref ywa, .ref ybi, .ref ysi, .ref ynu, .ref ymo])), (ybi, .inl (cI, 4, .inl bi)), (ysi, .inl (cI, 4, .inl sq)), (ynu, .inl (cJ, 160, .inr (.inl nb2))), (ymo, .inl (cJ, 40, .inr (.inl mv2))), (yt, .inl (cI, 7, .inl mq2))]) A) (fr := fun A => A) (by decide) (Nat.le_of_ble_eq_true rfl) ?_
  intro p e s m below meth c ls A hF hr hlk hin hsz hP hK hD hN hZ hA hS hl
  have hF : CallFix p m c cX9_copy 7 s _ _ RX9 := hF
  have hx := hF.1
  have hb := hF.2.1
  have hml := hF.2.2.1
  have hown := hF.2.2.2.1
  have hu : ∀ w ∈ wsU, w.before _ s = true := fun w h => hF.2.2.2.2 w (List.mem_cons_of_mem _ h)
  have hl : lv_has ls 7 [(0, .ref h0), (1, .int 0), (2, .int p1), (3, .int 2), (4, .int p3), (5, .int p4)] := hl
  refine lv_iload_n hx hb dX9_copy_0 rfl (lv_at hl 1 rfl) ?_
  refine xc_Sr hF (c_X9_isOne l D cI cJ cZ cS ta sa sv s.heap.size 0 ) ks_X9_305 ⟨rfl, rfl, Nat.le_of_ble_eq_true rfl, Nat.le_of_ble_eq_true rfl⟩ ⟨Nat.le_of_ble_eq_true rfl, Nat.le_of_ble_eq_true rfl⟩ hK hN hZ hP hD hS hA [] rfl rfl rfl hl.1 rfl (Nat.le_of_ble_eq_true rfl) dX9_copy_1 (fun r_1 hw_r_1 => ?_)
  rcases hw_r_1 with ⟨rfl, h_2, h_3⟩ | ⟨rfl, h_4⟩
  · skip
    refine lv_if_eq (tgt := 14) hx hb dX9_copy_4 (by decide) (fun c_5 => absurd c_5 (by decide)) (fun c_5 => ?_)
    refine lv_iload_n hx hb dX9_copy_7 rfl (lv_at hl 3 rfl) ?_
    refine xc_Sr hF (c_X9_isOne l D cI cJ cZ cS ta sa sv s.heap.size 2 ) ks_X9_305 ⟨rfl, rfl, Nat.le_of_ble_eq_true rfl, Nat.le_of_ble_eq_true rfl⟩ ⟨Nat.le_of_ble_eq_true rfl, Nat.le_of_ble_eq_true rfl⟩ hK hN hZ hP hD hS hA [] rfl rfl rfl hl.1 rfl (Nat.le_of_ble_eq_true rfl) dX9_copy_8 (fun r_6 hw_r_6 => ?_)
    rcases hw_r_6 with ⟨rfl, h_7, h_8⟩ | ⟨rfl, h_9⟩
    · skip
      refine lv_if_ne (tgt := 21) hx hb dX9_copy_11 (by decide) (fun c_10 => ?_) (fun c_10 => absurd c_10 (by decide))
      refine lv_aload_n hx hb dX9_copy_21 rfl (lv_at hl 0 rfl) ?_
      refine xg hF kf_X9_43 hK hP 0 rfl rfl dX9_copy_22 ?_
      refine lv_iload_n hx hb dX9_copy_25 rfl (lv_at hl 1 rfl) ?_
      refine va_iald hx hb hK hP 1 0 rfl rfl (xin 0 4 (by decide) (by decide)) dX9_copy_26 ?_
      refine xl_i (y := bi 0) (congrArg bi rfl) ?_
      refine lv_if_eq (tgt := 39) hx hb dX9_copy_27 (by decide) (fun c_11 => ?_) (fun c_11 => ?_)
      · skip
        refine lv_aload_n hx hb dX9_copy_39 rfl (lv_at hl 0 rfl) ?_
        refine lv_ldcw (v := (-1000000006)) hx hb hown (hu _ uw910) dX9_copy_40 ?_
        refine xc_Vi (wr := [(ybi, .inl (cI, 4, .inl bi)), (ysi, .inl (cI, 4, .inl sq)), (ynu, .inl (cJ, 160, .inr (.inl nb))), (ymo, .inl (cJ, 40, .inr (.inl mv9)))]) hF (c_X9_finds_M l D cI cJ cZ cS ta sa sv s.heap.size h0 ys yk yo yt mk0 yfa yfe mL mS mM yro yhe ygr mF mC mY yta mz mf mt mv mw ywa ybi ysi ynu ymo mq ) kv_X9_70 ⟨rfl, rfl, Nat.le_of_ble_eq_true rfl, Nat.le_of_ble_eq_true rfl⟩ ⟨Nat.le_of_ble_eq_true rfl, Nat.le_of_ble_eq_true rfl⟩ hK hN hZ hP hD hS hA [0, 5] [1, 2, 3, 4] rfl rfl rfl rfl (by decide) 0 rfl rfl rfl rfl hl.1 rfl (Nat.le_of_ble_eq_true rfl) dX9_copy_43 (fun r_12 u_r_12 H locs hw_r_12 hP hD hS => ?_)
        obtain ⟨mq2_13, rfl⟩ : ∃ z, z = u_r_12 := ⟨_, rfl⟩
        try dsimp only at hw_r_12
        have hP : va_P D vwCl [(ybi, .inl (cI, 4, .inl bi)), (ysi, .inl (cI, 4, .inl sq)), (ynu, .inl (cJ, 160, .inr (.inl nb))), (ymo, .inl (cJ, 40, .inr (.inl mv9))), (h0, .inr (9, [.ref ys, .ref yk, .ref yo, .ref yt, .int mk0, .ref yfa, .ref yfe, .int mL, .int mS, .int mM, .ref yro, .ref yhe, .ref ygr, .int mF, .int mC, .int mY, .ref yta, .int (nI (mz)), .int (nI (mf)), .int (nI (mt)), .int mv, .int mw, .ref ywa, .ref ybi, .ref ysi, .ref ynu, .ref ymo])), (yt, .inl (cI, 7, .inl mq2_13))] H := hP
        have hD : va_D A [(ybi, .inl (cI, 4, .inl bi)), (ysi, .inl (cI, 4, .inl sq)), (ynu, .inl (cJ, 160, .inr (.inl nb))), (ymo, .inl (cJ, 40, .inr (.inl mv9))), (h0, .inr (9, [.ref ys, .ref yk, .ref yo, .ref yt, .int mk0, .ref yfa, .ref yfe, .int mL, .int mS, .int mM, .ref yro, .ref yhe, .ref ygr, .int mF, .int mC, .int mY, .ref yta, .int (nI (mz)), .int (nI (mf)), .int (nI (mt)), .int mv, .int mw, .ref ywa, .ref ybi, .ref ysi, .ref ynu, .ref ymo])), (yt, .inl (cI, 7, .inl mq2_13))] := hD
        subst hw_r_12
        exact W.iret (v := (-1000000006)) hx hb hr (fun t ht hW => ⟨⟨(-1000000006), (nb, mv9, mq2_13), rfl, ⟨(sp_cr1 (Or.inl c_11)), (fun j => sp_c0 (fun h => h.1 c_11)), (fun _ _ => rfl)⟩, by rw [ht]; exact hP.sub [4, 0, 1, 2, 3, 5] rfl, hD.sub [4, 0, 1, 2, 3, 5] (by decide +kernel) rfl⟩, hS.F ht⟩) hS.2.2 dX9_copy_46 hlk
      · skip
        refine lv_aload_n hx hb dX9_copy_30 rfl (lv_at hl 0 rfl) ?_
        refine xg hF kf_X9_43 hK hP 0 rfl rfl dX9_copy_31 ?_
        refine lv_iload_n hx hb dX9_copy_34 rfl (lv_at hl 3 rfl) ?_
        refine va_iald hx hb hK hP 1 0 rfl rfl (xin 2 4 (by decide) (by decide)) dX9_copy_35 ?_
        refine xl_i (y := bi 2) (congrArg bi rfl) ?_
        refine lv_if_ne (tgt := 47) hx hb dX9_copy_36 (by decide) (fun c_14 => ?_) (fun c_14 => ?_)
        · skip
          refine lv_aload_n hx hb dX9_copy_47 rfl (lv_at hl 0 rfl) ?_
          refine xg hF kf_X9_43 hK hP 0 rfl rfl dX9_copy_48 ?_
          refine lv_iload_n hx hb dX9_copy_51 rfl (lv_at hl 1 rfl) ?_
          refine va_iald hx hb hK hP 1 0 rfl rfl (xin 0 4 (by decide) (by decide)) dX9_copy_52 ?_
          refine xl_i (y := bi 0) (congrArg bi rfl) ?_
          refine lv_aload_n hx hb dX9_copy_53 rfl (lv_at hl 0 rfl) ?_
          refine xg hF kf_X9_43 hK hP 0 rfl rfl dX9_copy_54 ?_
          refine lv_iload_n hx hb dX9_copy_57 rfl (lv_at hl 3 rfl) ?_
          refine va_iald hx hb hK hP 1 0 rfl rfl (xin 2 4 (by decide) (by decide)) dX9_copy_58 ?_
          refine xl_i (y := bi 2) (congrArg bi rfl) ?_
          refine lv_icmp_eq (tgt := 69) hx hb dX9_copy_59 (by decide) (fun c_15 => ?_) (fun c_15 => ?_)
          · skip
            refine lv_iload_n hx hb dX9_copy_69 rfl (lv_at hl 2 rfl) ?_
            refine lv_if_lt (tgt := 110) hx hb dX9_copy_70 (by decide) (fun c_16 => ?_) (fun c_16 => ?_)
            · skip
              refine lv_aload_n hx hb dX9_copy_110 rfl (lv_at hl 0 rfl) ?_
              refine lv_ldc (v := (-1000000001)) hx hb hown (hu _ uw648) dX9_copy_111 ?_
              refine xc_Vi (wr := [(ybi, .inl (cI, 4, .inl bi)), (ysi, .inl (cI, 4, .inl sq)), (ynu, .inl (cJ, 160, .inr (.inl nb))), (ymo, .inl (cJ, 40, .inr (.inl mv9)))]) hF (c_X9_finds_B l D cI cJ cZ cS ta sa sv s.heap.size h0 ys yk yo yt mk0 yfa yfe mL mS mM yro yhe ygr mF mC mY yta mz mf mt mv mw ywa ybi ysi ynu ymo mq ) kv_X9_70 ⟨rfl, rfl, Nat.le_of_ble_eq_true rfl, Nat.le_of_ble_eq_true rfl⟩ ⟨Nat.le_of_ble_eq_true rfl, Nat.le_of_ble_eq_true rfl⟩ hK hN hZ hP hD hS hA [0, 5] [1, 2, 3, 4] rfl rfl rfl rfl (by decide) 0 rfl rfl rfl rfl hl.1 rfl (Nat.le_of_ble_eq_true rfl) dX9_copy_113 (fun r_17 u_r_17 H locs hw_r_17 hP hD hS => ?_)
              obtain ⟨mq2_18, rfl⟩ : ∃ z, z = u_r_17 := ⟨_, rfl⟩
              try dsimp only at hw_r_17
              have hP : va_P D vwCl [(ybi, .inl (cI, 4, .inl bi)), (ysi, .inl (cI, 4, .inl sq)), (ynu, .inl (cJ, 160, .inr (.inl nb))), (ymo, .inl (cJ, 40, .inr (.inl mv9))), (h0, .inr (9, [.ref ys, .ref yk, .ref yo, .ref yt, .int mk0, .ref yfa, .ref yfe, .int mL, .int mS, .int mM, .ref yro, .ref yhe, .ref ygr, .int mF, .int mC, .int mY, .ref yta, .int (nI (mz)), .int (nI (mf)), .int (nI (mt)), .int mv, .int mw, .ref ywa, .ref ybi, .ref ysi, .ref ynu, .ref ymo])), (yt, .inl (cI, 7, .inl mq2_18))] H := hP
              have hD : va_D A [(ybi, .inl (cI, 4, .inl bi)), (ysi, .inl (cI, 4, .inl sq)), (ynu, .inl (cJ, 160, .inr (.inl nb))), (ymo, .inl (cJ, 40, .inr (.inl mv9))), (h0, .inr (9, [.ref ys, .ref yk, .ref yo, .ref yt, .int mk0, .ref yfa, .ref yfe, .int mL, .int mS, .int mM, .ref yro, .ref yhe, .ref ygr, .int mF, .int mC, .int mY, .ref yta, .int (nI (mz)), .int (nI (mf)), .int (nI (mt)), .int mv, .int mw, .ref ywa, .ref ybi, .ref ysi, .ref ynu, .ref ymo])), (yt, .inl (cI, 7, .inl mq2_18))] := hD
              subst hw_r_17
              exact W.iret (v := (-1000000001)) hx hb hr (fun t ht hW => ⟨⟨(-1000000001), (nb, mv9, mq2_18), rfl, ⟨(sp_cr3 c_11 c_14 c_15 (fun q => (sp_s1 c_16) q.1)), (fun j => sp_c0 (fun h => (sp_s1 c_16) h.2.2.2.1)), (fun _ _ => rfl)⟩, by rw [ht]; exact hP.sub [4, 0, 1, 2, 3, 5] rfl, hD.sub [4, 0, 1, 2, 3, 5] (by decide +kernel) rfl⟩, hS.F ht⟩) hS.2.2 dX9_copy_116 hlk
            · skip
              refine lv_iload hx hb dX9_copy_73 (lv_at hl 4 rfl) ?_
              refine lv_if_lt (tgt := 110) hx hb dX9_copy_75 (by decide) (fun c_19 => ?_) (fun c_19 => ?_)
              · skip
                refine lv_aload_n hx hb dX9_copy_110 rfl (lv_at hl 0 rfl) ?_
                refine lv_ldc (v := (-1000000001)) hx hb hown (hu _ uw648) dX9_copy_111 ?_
                refine xc_Vi (wr := [(ybi, .inl (cI, 4, .inl bi)), (ysi, .inl (cI, 4, .inl sq)), (ynu, .inl (cJ, 160, .inr (.inl nb))), (ymo, .inl (cJ, 40, .inr (.inl mv9)))]) hF (c_X9_finds_B l D cI cJ cZ cS ta sa sv s.heap.size h0 ys yk yo yt mk0 yfa yfe mL mS mM yro yhe ygr mF mC mY yta mz mf mt mv mw ywa ybi ysi ynu ymo mq ) kv_X9_70 ⟨rfl, rfl, Nat.le_of_ble_eq_true rfl, Nat.le_of_ble_eq_true rfl⟩ ⟨Nat.le_of_ble_eq_true rfl, Nat.le_of_ble_eq_true rfl⟩ hK hN hZ hP hD hS hA [0, 5] [1, 2, 3, 4] rfl rfl rfl rfl (by decide) 0 rfl rfl rfl rfl hl.1 rfl (Nat.le_of_ble_eq_true rfl) dX9_copy_113 (fun r_20 u_r_20 H locs hw_r_20 hP hD hS => ?_)
                obtain ⟨mq2_21, rfl⟩ : ∃ z, z = u_r_20 := ⟨_, rfl⟩
                try dsimp only at hw_r_20
                have hP : va_P D vwCl [(ybi, .inl (cI, 4, .inl bi)), (ysi, .inl (cI, 4, .inl sq)), (ynu, .inl (cJ, 160, .inr (.inl nb))), (ymo, .inl (cJ, 40, .inr (.inl mv9))), (h0, .inr (9, [.ref ys, .ref yk, .ref yo, .ref yt, .int mk0, .ref yfa, .ref yfe, .int mL, .int mS, .int mM, .ref yro, .ref yhe, .ref ygr, .int mF, .int mC, .int mY, .ref yta, .int (nI (mz)), .int (nI (mf)), .int (nI (mt)), .int mv, .int mw, .ref ywa, .ref ybi, .ref ysi, .ref ynu, .ref ymo])), (yt, .inl (cI, 7, .inl mq2_21))] H := hP
                have hD : va_D A [(ybi, .inl (cI, 4, .inl bi)), (ysi, .inl (cI, 4, .inl sq)), (ynu, .inl (cJ, 160, .inr (.inl nb))), (ymo, .inl (cJ, 40, .inr (.inl mv9))), (h0, .inr (9, [.ref ys, .ref yk, .ref yo, .ref yt, .int mk0, .ref yfa, .ref yfe, .int mL, .int mS, .int mM, .ref yro, .ref yhe, .ref ygr, .int mF, .int mC, .int mY, .ref yta, .int (nI (mz)), .int (nI (mf)), .int (nI (mt)), .int mv, .int mw, .ref ywa, .ref ybi, .ref ysi, .ref ynu, .ref ymo])), (yt, .inl (cI, 7, .inl mq2_21))] := hD
                subst hw_r_20
                exact W.iret (v := (-1000000001)) hx hb hr (fun t ht hW => ⟨⟨(-1000000001), (nb, mv9, mq2_21), rfl, ⟨(sp_cr3 c_11 c_14 c_15 (fun q => (sp_s1 c_19) q.2)), (fun j => sp_c0 (fun h => (sp_s1 c_19) h.2.2.2.2)), (fun _ _ => rfl)⟩, by rw [ht]; exact hP.sub [4, 0, 1, 2, 3, 5] rfl, hD.sub [4, 0, 1, 2, 3, 5] (by decide +kernel) rfl⟩, hS.F ht⟩) hS.2.2 dX9_copy_116 hlk
              · skip
                refine lv_iload hx hb dX9_copy_78 (lv_at hl 5 rfl) ?_
                refine lv_if_lt (tgt := 110) hx hb dX9_copy_80 (by decide) (fun c_22 => ?_) (fun c_22 => ?_)
                · skip
                  refine lv_aload_n hx hb dX9_copy_110 rfl (lv_at hl 0 rfl) ?_
                  refine lv_ldc (v := (-1000000001)) hx hb hown (hu _ uw648) dX9_copy_111 ?_
                  refine xc_Vi (wr := [(ybi, .inl (cI, 4, .inl bi)), (ysi, .inl (cI, 4, .inl sq)), (ynu, .inl (cJ, 160, .inr (.inl nb))), (ymo, .inl (cJ, 40, .inr (.inl mv9)))]) hF (c_X9_finds_B l D cI cJ cZ cS ta sa sv s.heap.size h0 ys yk yo yt mk0 yfa yfe mL mS mM yro yhe ygr mF mC mY yta mz mf mt mv mw ywa ybi ysi ynu ymo mq ) kv_X9_70 ⟨rfl, rfl, Nat.le_of_ble_eq_true rfl, Nat.le_of_ble_eq_true rfl⟩ ⟨Nat.le_of_ble_eq_true rfl, Nat.le_of_ble_eq_true rfl⟩ hK hN hZ hP hD hS hA [0, 5] [1, 2, 3, 4] rfl rfl rfl rfl (by decide) 0 rfl rfl rfl rfl hl.1 rfl (Nat.le_of_ble_eq_true rfl) dX9_copy_113 (fun r_23 u_r_23 H locs hw_r_23 hP hD hS => ?_)
                  obtain ⟨mq2_24, rfl⟩ : ∃ z, z = u_r_23 := ⟨_, rfl⟩
                  try dsimp only at hw_r_23
                  have hP : va_P D vwCl [(ybi, .inl (cI, 4, .inl bi)), (ysi, .inl (cI, 4, .inl sq)), (ynu, .inl (cJ, 160, .inr (.inl nb))), (ymo, .inl (cJ, 40, .inr (.inl mv9))), (h0, .inr (9, [.ref ys, .ref yk, .ref yo, .ref yt, .int mk0, .ref yfa, .ref yfe, .int mL, .int mS, .int mM, .ref yro, .ref yhe, .ref ygr, .int mF, .int mC, .int mY, .ref yta, .int (nI (mz)), .int (nI (mf)), .int (nI (mt)), .int mv, .int mw, .ref ywa, .ref ybi, .ref ysi, .ref ynu, .ref ymo])), (yt, .inl (cI, 7, .inl mq2_24))] H := hP
                  have hD : va_D A [(ybi, .inl (cI, 4, .inl bi)), (ysi, .inl (cI, 4, .inl sq)), (ynu, .inl (cJ, 160, .inr (.inl nb))), (ymo, .inl (cJ, 40, .inr (.inl mv9))), (h0, .inr (9, [.ref ys, .ref yk, .ref yo, .ref yt, .int mk0, .ref yfa, .ref yfe, .int mL, .int mS, .int mM, .ref yro, .ref yhe, .ref ygr, .int mF, .int mC, .int mY, .ref yta, .int (nI (mz)), .int (nI (mf)), .int (nI (mt)), .int mv, .int mw, .ref ywa, .ref ybi, .ref ysi, .ref ynu, .ref ymo])), (yt, .inl (cI, 7, .inl mq2_24))] := hD
                  subst hw_r_23
                  exact W.iret (v := (-1000000001)) hx hb hr (fun t ht hW => ⟨⟨(-1000000001), (nb, mv9, mq2_24), rfl, ⟨(sp_cr3 c_11 c_14 c_15 (fun q => (sp_s2 c_22) q.1)), (fun j => sp_c0 (fun h => (sp_s2 c_22) h.2.2.2.1)), (fun _ _ => rfl)⟩, by rw [ht]; exact hP.sub [4, 0, 1, 2, 3, 5] rfl, hD.sub [4, 0, 1, 2, 3, 5] (by decide +kernel) rfl⟩, hS.F ht⟩) hS.2.2 dX9_copy_116 hlk
                · skip
                  refine lv_iload hx hb dX9_copy_83 (lv_at hl 5 rfl) ?_
                  refine lv_aload_n hx hb dX9_copy_85 rfl (lv_at hl 0 rfl) ?_
                  refine xg hF kf_X9_46 hK hP 0 rfl rfl dX9_copy_86 ?_
                  refine lv_iload_n hx hb dX9_copy_89 rfl (lv_at hl 1 rfl) ?_
                  refine va_iald hx hb hK hP 2 0 rfl rfl (xin 0 4 (by decide) (by decide)) dX9_copy_90 ?_
                  refine xl_i (y := sq 0) (congrArg sq rfl) ?_
                  refine xl_i (y := nI (zq)) ez ?_
                  refine lv_iload_n hx hb dX9_copy_91 rfl (lv_at hl 2 rfl) ?_
                  refine lv_isub hx hb dX9_copy_92 ?_
                  refine lv_topi (fun x_25 ex_25 => ?_)
                  refine lv_icmp_gt (tgt := 110) hx hb dX9_copy_93 (by decide) (fun c_26 => ?_) (fun c_26 => ?_)
                  · skip
                    refine lv_aload_n hx hb dX9_copy_110 rfl (lv_at hl 0 rfl) ?_
                    refine lv_ldc (v := (-1000000001)) hx hb hown (hu _ uw648) dX9_copy_111 ?_
                    refine xc_Vi (wr := [(ybi, .inl (cI, 4, .inl bi)), (ysi, .inl (cI, 4, .inl sq)), (ynu, .inl (cJ, 160, .inr (.inl nb))), (ymo, .inl (cJ, 40, .inr (.inl mv9)))]) hF (c_X9_finds_B l D cI cJ cZ cS ta sa sv s.heap.size h0 ys yk yo yt mk0 yfa yfe mL mS mM yro yhe ygr mF mC mY yta mz mf mt mv mw ywa ybi ysi ynu ymo mq ) kv_X9_70 ⟨rfl, rfl, Nat.le_of_ble_eq_true rfl, Nat.le_of_ble_eq_true rfl⟩ ⟨Nat.le_of_ble_eq_true rfl, Nat.le_of_ble_eq_true rfl⟩ hK hN hZ hP hD hS hA [0, 5] [1, 2, 3, 4] rfl rfl rfl rfl (by decide) 0 rfl rfl rfl rfl hl.1 rfl (Nat.le_of_ble_eq_true rfl) dX9_copy_113 (fun r_27 u_r_27 H locs hw_r_27 hP hD hS => ?_)
                    obtain ⟨mq2_28, rfl⟩ : ∃ z, z = u_r_27 := ⟨_, rfl⟩
                    try dsimp only at hw_r_27
                    have hP : va_P D vwCl [(ybi, .inl (cI, 4, .inl bi)), (ysi, .inl (cI, 4, .inl sq)), (ynu, .inl (cJ, 160, .inr (.inl nb))), (ymo, .inl (cJ, 40, .inr (.inl mv9))), (h0, .inr (9, [.ref ys, .ref yk, .ref yo, .ref yt, .int mk0, .ref yfa, .ref yfe, .int mL, .int mS, .int mM, .ref yro, .ref yhe, .ref ygr, .int mF, .int mC, .int mY, .ref yta, .int (nI (mz)), .int (nI (mf)), .int (nI (mt)), .int mv, .int mw, .ref ywa, .ref ybi, .ref ysi, .ref ynu, .ref ymo])), (yt, .inl (cI, 7, .inl mq2_28))] H := hP
                    have hD : va_D A [(ybi, .inl (cI, 4, .inl bi)), (ysi, .inl (cI, 4, .inl sq)), (ynu, .inl (cJ, 160, .inr (.inl nb))), (ymo, .inl (cJ, 40, .inr (.inl mv9))), (h0, .inr (9, [.ref ys, .ref yk, .ref yo, .ref yt, .int mk0, .ref yfa, .ref yfe, .int mL, .int mS, .int mM, .ref yro, .ref yhe, .ref ygr, .int mF, .int mC, .int mY, .ref yta, .int (nI (mz)), .int (nI (mf)), .int (nI (mt)), .int mv, .int mw, .ref ywa, .ref ybi, .ref ysi, .ref ynu, .ref ymo])), (yt, .inl (cI, 7, .inl mq2_28))] := hD
                    subst hw_r_27
                    exact W.iret (v := (-1000000001)) hx hb hr (fun t ht hW => ⟨⟨(-1000000001), (nb, mv9, mq2_28), rfl, ⟨(sp_cr3 c_11 c_14 c_15 (fun q => (sp_s5 hzq c_16 c_22 ex_25 c_26) q.1)), (fun j => sp_c0 (fun h => (sp_s5 hzq c_16 c_22 ex_25 c_26) h.2.2.2.1)), (fun _ _ => rfl)⟩, by rw [ht]; exact hP.sub [4, 0, 1, 2, 3, 5] rfl, hD.sub [4, 0, 1, 2, 3, 5] (by decide +kernel) rfl⟩, hS.F ht⟩) hS.2.2 dX9_copy_116 hlk
                  · skip
                    refine lv_iload hx hb dX9_copy_96 (lv_at hl 5 rfl) ?_
                    refine lv_aload_n hx hb dX9_copy_98 rfl (lv_at hl 0 rfl) ?_
                    refine xg hF kf_X9_46 hK hP 0 rfl rfl dX9_copy_99 ?_
                    refine lv_iload_n hx hb dX9_copy_102 rfl (lv_at hl 3 rfl) ?_
                    refine va_iald hx hb hK hP 2 0 rfl rfl (xin 2 4 (by decide) (by decide)) dX9_copy_103 ?_
                    refine xl_i (y := sq 2) (congrArg sq rfl) ?_
                    refine xl_i (y := nI (zt)) et ?_
                    refine lv_iload hx hb dX9_copy_104 (lv_at hl 4 rfl) ?_
                    refine lv_isub hx hb dX9_copy_106 ?_
                    refine lv_topi (fun x_29 ex_29 => ?_)
                    refine lv_icmp_le (tgt := 117) hx hb dX9_copy_107 (by decide) (fun c_30 => ?_) (fun c_30 => ?_)
                    · skip
                      obtain ⟨y_31, hy_31, rfl⟩ := x_spk (by omega) c_16 c_22 ex_25 c_26
                      obtain ⟨y_32, hy_32, rfl⟩ := x_spj (by omega) (by omega) c_16 ex_25 c_26
                      obtain ⟨y_33, hy_33, rfl⟩ := x_spj (by omega) (by omega) c_19 ex_29 (Int32.not_lt.mpr c_30)
                      refine lv_iconst (v := 0) hx hb dX9_copy_117 (by decide) ?_
                      refine lv_istore (lv' := [(6, .int 0), (0, .ref h0), (1, .int 0), (2, .int (nI (y_32))), (3, .int 2), (4, .int (nI (y_33))), (5, .int (nI (y_31)))]) hx hb dX9_copy_118 hl (by decide) rfl (fun ls hl => ?_)
                      suffices loop_120 : ∀ (n_120 : Nat) (i : Nat) (m8 : Nat → Int64) (H : Heap) (locs : List Loc) (ls : Array Slot), y_31 - i < n_120 → (i ≤ y_31) → (∀ j, j < i → m8 j = nb (0 + y_32 + j)) → va_P D vwCl [(h0, .inr (9, [.ref ys, .ref yk, .ref yo, .ref yt, .int mk0, .ref yfa, .ref yfe, .int mL, .int mS, .int mM, .ref yro, .ref yhe, .ref ygr, .int mF, .int mC, .int mY, .ref yta, .int (nI (mz)), .int (nI (mf)), .int (nI (mt)), .int mv, .int mw, .ref ywa, .ref ybi, .ref ysi, .ref ynu, .ref ymo])), (ybi, .inl (cI, 4, .inl bi)), (ysi, .inl (cI, 4, .inl sq)), (ynu, .inl (cJ, 160, .inr (.inl nb))), (ymo, .inl (cJ, 40, .inr (.inl m8))), (yt, .inl (cI, 7, .inl mq))] H → va_D A [(h0, .inr (9, [.ref ys, .ref yk, .ref yo, .ref yt, .int mk0, .ref yfa, .ref yfe, .int mL, .int mS, .int mM, .ref yro, .ref yhe, .ref ygr, .int mF, .int mC, .int mY, .ref yta, .int (nI (mz)), .int (nI (mf)), .int (nI (mt)), .int mv, .int mw, .ref ywa, .ref ybi, .ref ysi, .ref ynu, .ref ymo])), (ybi, .inl (cI, 4, .inl bi)), (ysi, .inl (cI, 4, .inl sq)), (ynu, .inl (cJ, 160, .inr (.inl nb))), (ymo, .inl (cJ, 40, .inr (.inl m8))), (yt, .inl (cI, 7, .inl mq))] → va_S A s.heap H locs → lv_has ls 7 [(6, .int (nI (i))), (0, .ref h0), (1, .int 0), (2, .int (nI (y_32))), (3, .int 2), (4, .int (nI (y_33))), (5, .int (nI (y_31)))] → W p l e ({ frames := 2, cells := 0, slots := 0, locals := 45 }) s m ([.ref h0, .int 0, .int (nI (y_32)), .int 2, .int (nI (y_33)), .int (nI (y_31))] : List Value).toArray below meth c H locs 0 0 (MQ below (XQi (fun (r : Int32) (u : (Nat → Int64) × (Nat → Int64) × (Nat → Int32)) => match u with | (nb2, mv2, mq2) => ((r = sp_cr (bi 0) (bi 2) zq zt (nI (y_32)) (nI (y_33)) (nI (y_31)))) ∧ (∀ j, nb2 (80 + j) = sp_cn (bi 0) (bi 2) zq zt (nI (y_32)) (nI (y_33)) (nI (y_31)) (fun k => nb (0 + k)) j (nb (80 + j))) ∧ (∀ j, j < 80 ∨ 120 ≤ j → nb2 j = nb j)) D (fun (u : (Nat → Int64) × (Nat → Int64) × (Nat → Int32)) => match u with | (nb2, mv2, mq2) => [(h0, .inr (9, [.ref ys, .ref yk, .ref yo, .ref yt, .int mk0, .ref yfa, .ref yfe, .int mL, .int mS, .int mM, .ref yro, .ref yhe, .ref ygr, .int mF, .int mC, .int mY, .ref yta, .int (nI (mz)), .int (nI (mf)), .int (nI (mt)), .int mv, .int mw, .ref ywa, .ref ybi, .ref ysi, .ref ynu, .ref ymo])), (ybi, .inl (cI, 4, .inl bi)), (ysi, .inl (cI, 4, .inl sq)), (ynu, .inl (cJ, 160, .inr (.inl nb2))), (ymo, .inl (cJ, 40, .inr (.inl mv2))), (yt, .inl (cI, 7, .inl mq2))]) A) ([.ref h0, .int 0, .int (nI (y_32)), .int 2, .int (nI (y_33)), .int (nI (y_31))] : List Value).toArray s 0 0 A) (F0 m 120 ls []) by
                        exact loop_120 _ 0 mv9 _ _ _ (Nat.lt_succ_self _) (by omega) (fun j hj => absurd hj (Nat.not_lt_zero _)) hP hD hS (lv_sub hl [0, 1, 2, 3, 4, 5, 6] rfl)
                      intro n_120
                      induction n_120 with
                      | zero =>
                        intro i m8 H locs ls hm_120
                        exact absurd hm_120 (Nat.not_lt_zero _)
                      | succ n_120 ih_120 =>
                        intro i m8 H locs ls hm_120 hi hm8 hP hD hS hl
                        refine lv_iload hx hb dX9_copy_120 (lv_at hl 0 rfl) ?_
                        refine lv_iload hx hb dX9_copy_122 (lv_at hl 6 rfl) ?_
                        refine lv_icmp_ge (tgt := 154) hx hb dX9_copy_124 (by decide) (fun c_34 => ?_) (fun c_34 => ?_)
                        · skip
                          have nc_34 : y_31 ≤ i := xn_le (a := y_31) (b := i) (by omega) (by omega) c_34
                          refine lv_iconst (v := 0) hx hb dX9_copy_154 (by decide) ?_
                          refine lv_istore (lv' := [(6, .int 0), (0, .ref h0), (1, .int 0), (2, .int (nI (y_32))), (3, .int 2), (4, .int (nI (y_33))), (5, .int (nI (y_31)))]) hx hb dX9_copy_155 hl (by decide) rfl (fun ls hl => ?_)
                          suffices loop_157 : ∀ (n_157 : Nat) (i2 : Nat) (n8 : Nat → Int64) (H : Heap) (locs : List Loc) (ls : Array Slot), y_31 - i2 < n_157 → (i2 ≤ y_31) → (∀ j, n8 j = if 80 + y_33 ≤ j ∧ j < 80 + y_33 + i2 then m8 (j - (80 + y_33)) else nb j) → va_P D vwCl [(h0, .inr (9, [.ref ys, .ref yk, .ref yo, .ref yt, .int mk0, .ref yfa, .ref yfe, .int mL, .int mS, .int mM, .ref yro, .ref yhe, .ref ygr, .int mF, .int mC, .int mY, .ref yta, .int (nI (mz)), .int (nI (mf)), .int (nI (mt)), .int mv, .int mw, .ref ywa, .ref ybi, .ref ysi, .ref ynu, .ref ymo])), (ybi, .inl (cI, 4, .inl bi)), (ysi, .inl (cI, 4, .inl sq)), (ynu, .inl (cJ, 160, .inr (.inl n8))), (ymo, .inl (cJ, 40, .inr (.inl m8))), (yt, .inl (cI, 7, .inl mq))] H → va_D A [(h0, .inr (9, [.ref ys, .ref yk, .ref yo, .ref yt, .int mk0, .ref yfa, .ref yfe, .int mL, .int mS, .int mM, .ref yro, .ref yhe, .ref ygr, .int mF, .int mC, .int mY, .ref yta, .int (nI (mz)), .int (nI (mf)), .int (nI (mt)), .int mv, .int mw, .ref ywa, .ref ybi, .ref ysi, .ref ynu, .ref ymo])), (ybi, .inl (cI, 4, .inl bi)), (ysi, .inl (cI, 4, .inl sq)), (ynu, .inl (cJ, 160, .inr (.inl n8))), (ymo, .inl (cJ, 40, .inr (.inl m8))), (yt, .inl (cI, 7, .inl mq))] → va_S A s.heap H locs → lv_has ls 7 [(6, .int (nI (i2))), (0, .ref h0), (1, .int 0), (2, .int (nI (y_32))), (3, .int 2), (4, .int (nI (y_33))), (5, .int (nI (y_31)))] → W p l e ({ frames := 2, cells := 0, slots := 0, locals := 45 }) s m ([.ref h0, .int 0, .int (nI (y_32)), .int 2, .int (nI (y_33)), .int (nI (y_31))] : List Value).toArray below meth c H locs 0 0 (MQ below (XQi (fun (r : Int32) (u : (Nat → Int64) × (Nat → Int64) × (Nat → Int32)) => match u with | (nb2, mv2, mq2) => ((r = sp_cr (bi 0) (bi 2) zq zt (nI (y_32)) (nI (y_33)) (nI (y_31)))) ∧ (∀ j, nb2 (80 + j) = sp_cn (bi 0) (bi 2) zq zt (nI (y_32)) (nI (y_33)) (nI (y_31)) (fun k => nb (0 + k)) j (nb (80 + j))) ∧ (∀ j, j < 80 ∨ 120 ≤ j → nb2 j = nb j)) D (fun (u : (Nat → Int64) × (Nat → Int64) × (Nat → Int32)) => match u with | (nb2, mv2, mq2) => [(h0, .inr (9, [.ref ys, .ref yk, .ref yo, .ref yt, .int mk0, .ref yfa, .ref yfe, .int mL, .int mS, .int mM, .ref yro, .ref yhe, .ref ygr, .int mF, .int mC, .int mY, .ref yta, .int (nI (mz)), .int (nI (mf)), .int (nI (mt)), .int mv, .int mw, .ref ywa, .ref ybi, .ref ysi, .ref ynu, .ref ymo])), (ybi, .inl (cI, 4, .inl bi)), (ysi, .inl (cI, 4, .inl sq)), (ynu, .inl (cJ, 160, .inr (.inl nb2))), (ymo, .inl (cJ, 40, .inr (.inl mv2))), (yt, .inl (cI, 7, .inl mq2))]) A) ([.ref h0, .int 0, .int (nI (y_32)), .int 2, .int (nI (y_33)), .int (nI (y_31))] : List Value).toArray s 0 0 A) (F0 m 157 ls []) by
                            exact loop_157 _ 0 nb _ _ _ (Nat.lt_succ_self _) (by omega) (fun j => (if_neg (by omega)).symm) hP hD hS (lv_sub hl [0, 1, 2, 3, 4, 5, 6] rfl)
                          intro n_157
                          induction n_157 with
                          | zero =>
                            intro i2 n8 H locs ls hm_157
                            exact absurd hm_157 (Nat.not_lt_zero _)
                          | succ n_157 ih_157 =>
                            intro i2 n8 H locs ls hm_157 hi2 hn8 hP hD hS hl
                            refine lv_iload hx hb dX9_copy_157 (lv_at hl 0 rfl) ?_
                            refine lv_iload hx hb dX9_copy_159 (lv_at hl 6 rfl) ?_
                            refine lv_icmp_ge (tgt := 192) hx hb dX9_copy_161 (by decide) (fun c_35 => ?_) (fun c_35 => ?_)
                            · skip
                              have nc_35 : y_31 ≤ i2 := xn_le (a := y_31) (b := i2) (by omega) (by omega) c_35
                              refine lv_iload hx hb dX9_copy_192 (lv_at hl 6 rfl) ?_
                              have hn7 : ∀ j, n8 j = if 80 + y_33 ≤ j ∧ j < 80 + y_33 + y_31 then m8 (j - (80 + y_33)) else nb j := fun j => by rw [hn8 j, show i2 = y_31 by omega]
                              have hm7 : ∀ j, j < y_31 → m8 j = nb (0 + y_32 + j) := fun j hj => hm8 j (by omega)
                              exact W.iret (v := nI (y_31)) hx hb hr (fun t ht hW => ⟨⟨nI (y_31), (n8, m8, mq), rfl, ⟨(sp_cr4 c_11 c_14 c_15 (sp_nspan (by omega) (by omega)) (sp_nspan (by omega) (by omega))), (fun j9 => sp_c1 (K := 80) (M := 0) (by omega) (by omega) c_11 c_14 c_15 (by omega) (by omega) (fun i9 => sp_mv3 hn7 hm7 rfl rfl)), (fun j9 hj9 => by rw [hn7 j9, if_neg (by omega)])⟩, by rw [ht]; exact hP.sub [0, 1, 2, 3, 4, 5] rfl, hD.sub [0, 1, 2, 3, 4, 5] (by decide +kernel) rfl⟩, hS.F ht⟩) hS.2.2 dX9_copy_194 hlk
                            · skip
                              have nc_35 : i2 < y_31 := xn_nle (a := y_31) (b := i2) (by omega) (by omega) c_35
                              refine lv_aload_n hx hb dX9_copy_164 rfl (lv_at hl 1 rfl) ?_
                              refine xg hF kf_X9_49 hK hP 0 rfl rfl dX9_copy_165 ?_
                              refine lv_bipush (v := 40) hx hb dX9_copy_168 (by decide) ?_
                              refine lv_iload_n hx hb dX9_copy_170 rfl (lv_at hl 4 rfl) ?_
                              refine lv_imul hx hb dX9_copy_171 ?_
                              refine xl_i (y := 80) (by decide) ?_
                              refine lv_iload hx hb dX9_copy_172 (lv_at hl 5 rfl) ?_
                              refine lv_iadd hx hb dX9_copy_174 ?_
                              refine xl_i (y := nI (80 + y_33)) (nI_add 80 y_33) ?_
                              refine lv_iload hx hb dX9_copy_175 (lv_at hl 0 rfl) ?_
                              refine lv_iadd hx hb dX9_copy_177 ?_
                              refine xl_i (y := nI (80 + y_33 + i2)) (nI_add (80 + y_33) i2) ?_
                              refine lv_aload_n hx hb dX9_copy_178 rfl (lv_at hl 1 rfl) ?_
                              refine xg hF kf_X9_53 hK hP 0 rfl rfl dX9_copy_179 ?_
                              refine lv_iload hx hb dX9_copy_182 (lv_at hl 0 rfl) ?_
                              refine va_lald hx hb hK hP 4 1 rfl rfl (vp_in_nI (show i2 < 40 by omega) (by decide)) dX9_copy_184 ?_
                              refine xl_l (y := m8 i2) (congrArg m8 (nI_clamp (show i2 < 2 ^ 31 by omega))) ?_
                              refine va_last hx hb hK hP hD hS 3 1 rfl rfl (vp_in_nI (show 80 + y_33 + i2 < 160 by omega) (by decide)) dX9_copy_185 (fun H locs hP hD hS => ?_)
                              rw [nI_clamp (show 80 + y_33 + i2 < 2 ^ 31 by omega)] at hP hD
                              obtain ⟨f_36, ef_36⟩ : ∃ g, g = vp_updL n8 (80 + y_33 + i2) (m8 i2) := ⟨_, rfl⟩
                              rw [← ef_36] at hP hD
                              have hP : va_P D vwCl [(h0, .inr (9, [.ref ys, .ref yk, .ref yo, .ref yt, .int mk0, .ref yfa, .ref yfe, .int mL, .int mS, .int mM, .ref yro, .ref yhe, .ref ygr, .int mF, .int mC, .int mY, .ref yta, .int (nI (mz)), .int (nI (mf)), .int (nI (mt)), .int mv, .int mw, .ref ywa, .ref ybi, .ref ysi, .ref ynu, .ref ymo])), (ybi, .inl (cI, 4, .inl bi)), (ysi, .inl (cI, 4, .inl sq)), (ynu, .inl (cJ, 160, .inr (.inl f_36))), (ymo, .inl (cJ, 40, .inr (.inl m8))), (yt, .inl (cI, 7, .inl mq))] H := hP
                              have hD : va_D A [(h0, .inr (9, [.ref ys, .ref yk, .ref yo, .ref yt, .int mk0, .ref yfa, .ref yfe, .int mL, .int mS, .int mM, .ref yro, .ref yhe, .ref ygr, .int mF, .int mC, .int mY, .ref yta, .int (nI (mz)), .int (nI (mf)), .int (nI (mt)), .int mv, .int mw, .ref ywa, .ref ybi, .ref ysi, .ref ynu, .ref ymo])), (ybi, .inl (cI, 4, .inl bi)), (ysi, .inl (cI, 4, .inl sq)), (ynu, .inl (cJ, 160, .inr (.inl f_36))), (ymo, .inl (cJ, 40, .inr (.inl m8))), (yt, .inl (cI, 7, .inl mq))] := hD
                              refine lv_iinc (v := nI (i2 + 1)) (lv' := [(6, .int (nI (i2 + 1))), (0, .ref h0), (1, .int 0), (2, .int (nI (y_32))), (3, .int 2), (4, .int (nI (y_33))), (5, .int (nI (y_31)))]) hx hb dX9_copy_186 hl (k := 0) rfl (nI_1 (i2)) (by decide) rfl (fun ls hl => ?_)
                              refine lv_goto (tgt := 157) hx hb dX9_copy_189 (by decide) ?_
                              exact ih_157 (i2 + 1) f_36 _ _ _ (by omega) (by omega) (sp_mv2 hn8 ef_36) (hP.sub [0, 1, 2, 3, 4, 5] rfl) (hD.sub [0, 1, 2, 3, 4, 5] (by decide +kernel) rfl) hS (lv_sub hl [0, 1, 2, 3, 4, 5, 6] rfl)
                        · skip
                          have nc_34 : i < y_31 := xn_nle (a := y_31) (b := i) (by omega) (by omega) c_34
                          refine lv_aload_n hx hb dX9_copy_127 rfl (lv_at hl 1 rfl) ?_
                          refine xg hF kf_X9_53 hK hP 0 rfl rfl dX9_copy_128 ?_
                          refine lv_iload hx hb dX9_copy_131 (lv_at hl 0 rfl) ?_
                          refine lv_aload_n hx hb dX9_copy_133 rfl (lv_at hl 1 rfl) ?_
                          refine xg hF kf_X9_49 hK hP 0 rfl rfl dX9_copy_134 ?_
                          refine lv_bipush (v := 40) hx hb dX9_copy_137 (by decide) ?_
                          refine lv_iload_n hx hb dX9_copy_139 rfl (lv_at hl 2 rfl) ?_
                          refine lv_imul hx hb dX9_copy_140 ?_
                          refine xl_i (y := 0) (by decide) ?_
                          refine lv_iload_n hx hb dX9_copy_141 rfl (lv_at hl 3 rfl) ?_
                          refine lv_iadd hx hb dX9_copy_142 ?_
                          refine xl_i (y := nI (0 + y_32)) (nI_add 0 y_32) ?_
                          refine lv_iload hx hb dX9_copy_143 (lv_at hl 0 rfl) ?_
                          refine lv_iadd hx hb dX9_copy_145 ?_
                          refine xl_i (y := nI (0 + y_32 + i)) (nI_add (0 + y_32) i) ?_
                          refine va_lald hx hb hK hP 3 1 rfl rfl (vp_in_nI (show 0 + y_32 + i < 160 by omega) (by decide)) dX9_copy_146 ?_
                          refine xl_l (y := nb (0 + y_32 + i)) (congrArg nb (nI_clamp (show 0 + y_32 + i < 2 ^ 31 by omega))) ?_
                          refine va_last hx hb hK hP hD hS 4 1 rfl rfl (vp_in_nI (show i < 40 by omega) (by decide)) dX9_copy_147 (fun H locs hP hD hS => ?_)
                          rw [nI_clamp (show i < 2 ^ 31 by omega)] at hP hD
                          obtain ⟨f_37, ef_37⟩ : ∃ g, g = vp_updL m8 i (nb (0 + y_32 + i)) := ⟨_, rfl⟩
                          rw [← ef_37] at hP hD
                          have hP : va_P D vwCl [(h0, .inr (9, [.ref ys, .ref yk, .ref yo, .ref yt, .int mk0, .ref yfa, .ref yfe, .int mL, .int mS, .int mM, .ref yro, .ref yhe, .ref ygr, .int mF, .int mC, .int mY, .ref yta, .int (nI (mz)), .int (nI (mf)), .int (nI (mt)), .int mv, .int mw, .ref ywa, .ref ybi, .ref ysi, .ref ynu, .ref ymo])), (ybi, .inl (cI, 4, .inl bi)), (ysi, .inl (cI, 4, .inl sq)), (ynu, .inl (cJ, 160, .inr (.inl nb))), (ymo, .inl (cJ, 40, .inr (.inl f_37))), (yt, .inl (cI, 7, .inl mq))] H := hP
                          have hD : va_D A [(h0, .inr (9, [.ref ys, .ref yk, .ref yo, .ref yt, .int mk0, .ref yfa, .ref yfe, .int mL, .int mS, .int mM, .ref yro, .ref yhe, .ref ygr, .int mF, .int mC, .int mY, .ref yta, .int (nI (mz)), .int (nI (mf)), .int (nI (mt)), .int mv, .int mw, .ref ywa, .ref ybi, .ref ysi, .ref ynu, .ref ymo])), (ybi, .inl (cI, 4, .inl bi)), (ysi, .inl (cI, 4, .inl sq)), (ynu, .inl (cJ, 160, .inr (.inl nb))), (ymo, .inl (cJ, 40, .inr (.inl f_37))), (yt, .inl (cI, 7, .inl mq))] := hD
                          refine lv_iinc (v := nI (i + 1)) (lv' := [(6, .int (nI (i + 1))), (0, .ref h0), (1, .int 0), (2, .int (nI (y_32))), (3, .int 2), (4, .int (nI (y_33))), (5, .int (nI (y_31)))]) hx hb dX9_copy_148 hl (k := 0) rfl (nI_1 (i)) (by decide) rfl (fun ls hl => ?_)
                          refine lv_goto (tgt := 120) hx hb dX9_copy_151 (by decide) ?_
                          exact ih_120 (i + 1) f_37 _ _ _ (by omega) (by omega) (sp_mv1 hm8 ef_37) (hP.sub [0, 1, 2, 3, 4, 5] rfl) (hD.sub [0, 1, 2, 3, 4, 5] (by decide +kernel) rfl) hS (lv_sub hl [0, 1, 2, 3, 4, 5, 6] rfl)
                    · skip
                      refine lv_aload_n hx hb dX9_copy_110 rfl (lv_at hl 0 rfl) ?_
                      refine lv_ldc (v := (-1000000001)) hx hb hown (hu _ uw648) dX9_copy_111 ?_
                      refine xc_Vi (wr := [(ybi, .inl (cI, 4, .inl bi)), (ysi, .inl (cI, 4, .inl sq)), (ynu, .inl (cJ, 160, .inr (.inl nb))), (ymo, .inl (cJ, 40, .inr (.inl mv9)))]) hF (c_X9_finds_B l D cI cJ cZ cS ta sa sv s.heap.size h0 ys yk yo yt mk0 yfa yfe mL mS mM yro yhe ygr mF mC mY yta mz mf mt mv mw ywa ybi ysi ynu ymo mq ) kv_X9_70 ⟨rfl, rfl, Nat.le_of_ble_eq_true rfl, Nat.le_of_ble_eq_true rfl⟩ ⟨Nat.le_of_ble_eq_true rfl, Nat.le_of_ble_eq_true rfl⟩ hK hN hZ hP hD hS hA [0, 5] [1, 2, 3, 4] rfl rfl rfl rfl (by decide) 0 rfl rfl rfl rfl hl.1 rfl (Nat.le_of_ble_eq_true rfl) dX9_copy_113 (fun r_38 u_r_38 H locs hw_r_38 hP hD hS => ?_)
                      obtain ⟨mq2_39, rfl⟩ : ∃ z, z = u_r_38 := ⟨_, rfl⟩
                      try dsimp only at hw_r_38
                      have hP : va_P D vwCl [(ybi, .inl (cI, 4, .inl bi)), (ysi, .inl (cI, 4, .inl sq)), (ynu, .inl (cJ, 160, .inr (.inl nb))), (ymo, .inl (cJ, 40, .inr (.inl mv9))), (h0, .inr (9, [.ref ys, .ref yk, .ref yo, .ref yt, .int mk0, .ref yfa, .ref yfe, .int mL, .int mS, .int mM, .ref yro, .ref yhe, .ref ygr, .int mF, .int mC, .int mY, .ref yta, .int (nI (mz)), .int (nI (mf)), .int (nI (mt)), .int mv, .int mw, .ref ywa, .ref ybi, .ref ysi, .ref ynu, .ref ymo])), (yt, .inl (cI, 7, .inl mq2_39))] H := hP
                      have hD : va_D A [(ybi, .inl (cI, 4, .inl bi)), (ysi, .inl (cI, 4, .inl sq)), (ynu, .inl (cJ, 160, .inr (.inl nb))), (ymo, .inl (cJ, 40, .inr (.inl mv9))), (h0, .inr (9, [.ref ys, .ref yk, .ref yo, .ref yt, .int mk0, .ref yfa, .ref yfe, .int mL, .int mS, .int mM, .ref yro, .ref yhe, .ref ygr, .int mF, .int mC, .int mY, .ref yta, .int (nI (mz)), .int (nI (mf)), .int (nI (mt)), .int mv, .int mw, .ref ywa, .ref ybi, .ref ysi, .ref ynu, .ref ymo])), (yt, .inl (cI, 7, .inl mq2_39))] := hD
                      subst hw_r_38
                      exact W.iret (v := (-1000000001)) hx hb hr (fun t ht hW => ⟨⟨(-1000000001), (nb, mv9, mq2_39), rfl, ⟨(sp_cr3 c_11 c_14 c_15 (fun q => (sp_s5 hzt c_19 c_22 ex_29 (xlt c_30)) q.2)), (fun j => sp_c0 (fun h => (sp_s5 hzt c_19 c_22 ex_29 (xlt c_30)) h.2.2.2.2)), (fun _ _ => rfl)⟩, by rw [ht]; exact hP.sub [4, 0, 1, 2, 3, 5] rfl, hD.sub [4, 0, 1, 2, 3, 5] (by decide +kernel) rfl⟩, hS.F ht⟩) hS.2.2 dX9_copy_116 hlk
          · skip
            refine lv_aload_n hx hb dX9_copy_62 rfl (lv_at hl 0 rfl) ?_
            refine lv_ldc (v := (-1000000003)) hx hb hown (hu _ uw765) dX9_copy_63 ?_
            refine xc_Vi (wr := [(ybi, .inl (cI, 4, .inl bi)), (ysi, .inl (cI, 4, .inl sq)), (ynu, .inl (cJ, 160, .inr (.inl nb))), (ymo, .inl (cJ, 40, .inr (.inl mv9)))]) hF (c_X9_finds_K l D cI cJ cZ cS ta sa sv s.heap.size h0 ys yk yo yt mk0 yfa yfe mL mS mM yro yhe ygr mF mC mY yta mz mf mt mv mw ywa ybi ysi ynu ymo mq ) kv_X9_70 ⟨rfl, rfl, Nat.le_of_ble_eq_true rfl, Nat.le_of_ble_eq_true rfl⟩ ⟨Nat.le_of_ble_eq_true rfl, Nat.le_of_ble_eq_true rfl⟩ hK hN hZ hP hD hS hA [0, 5] [1, 2, 3, 4] rfl rfl rfl rfl (by decide) 0 rfl rfl rfl rfl hl.1 rfl (Nat.le_of_ble_eq_true rfl) dX9_copy_65 (fun r_40 u_r_40 H locs hw_r_40 hP hD hS => ?_)
            obtain ⟨mq2_41, rfl⟩ : ∃ z, z = u_r_40 := ⟨_, rfl⟩
            try dsimp only at hw_r_40
            have hP : va_P D vwCl [(ybi, .inl (cI, 4, .inl bi)), (ysi, .inl (cI, 4, .inl sq)), (ynu, .inl (cJ, 160, .inr (.inl nb))), (ymo, .inl (cJ, 40, .inr (.inl mv9))), (h0, .inr (9, [.ref ys, .ref yk, .ref yo, .ref yt, .int mk0, .ref yfa, .ref yfe, .int mL, .int mS, .int mM, .ref yro, .ref yhe, .ref ygr, .int mF, .int mC, .int mY, .ref yta, .int (nI (mz)), .int (nI (mf)), .int (nI (mt)), .int mv, .int mw, .ref ywa, .ref ybi, .ref ysi, .ref ynu, .ref ymo])), (yt, .inl (cI, 7, .inl mq2_41))] H := hP
            have hD : va_D A [(ybi, .inl (cI, 4, .inl bi)), (ysi, .inl (cI, 4, .inl sq)), (ynu, .inl (cJ, 160, .inr (.inl nb))), (ymo, .inl (cJ, 40, .inr (.inl mv9))), (h0, .inr (9, [.ref ys, .ref yk, .ref yo, .ref yt, .int mk0, .ref yfa, .ref yfe, .int mL, .int mS, .int mM, .ref yro, .ref yhe, .ref ygr, .int mF, .int mC, .int mY, .ref yta, .int (nI (mz)), .int (nI (mf)), .int (nI (mt)), .int mv, .int mw, .ref ywa, .ref ybi, .ref ysi, .ref ynu, .ref ymo])), (yt, .inl (cI, 7, .inl mq2_41))] := hD
            subst hw_r_40
            exact W.iret (v := (-1000000003)) hx hb hr (fun t ht hW => ⟨⟨(-1000000003), (nb, mv9, mq2_41), rfl, ⟨(sp_cr2 c_11 c_14 c_15), (fun j => sp_c0 (fun h => absurd h.2.2.1 c_15)), (fun _ _ => rfl)⟩, by rw [ht]; exact hP.sub [4, 0, 1, 2, 3, 5] rfl, hD.sub [4, 0, 1, 2, 3, 5] (by decide +kernel) rfl⟩, hS.F ht⟩) hS.2.2 dX9_copy_68 hlk
        · skip
          refine lv_aload_n hx hb dX9_copy_39 rfl (lv_at hl 0 rfl) ?_
          refine lv_ldcw (v := (-1000000006)) hx hb hown (hu _ uw910) dX9_copy_40 ?_
          refine xc_Vi (wr := [(ybi, .inl (cI, 4, .inl bi)), (ysi, .inl (cI, 4, .inl sq)), (ynu, .inl (cJ, 160, .inr (.inl nb))), (ymo, .inl (cJ, 40, .inr (.inl mv9)))]) hF (c_X9_finds_M l D cI cJ cZ cS ta sa sv s.heap.size h0 ys yk yo yt mk0 yfa yfe mL mS mM yro yhe ygr mF mC mY yta mz mf mt mv mw ywa ybi ysi ynu ymo mq ) kv_X9_70 ⟨rfl, rfl, Nat.le_of_ble_eq_true rfl, Nat.le_of_ble_eq_true rfl⟩ ⟨Nat.le_of_ble_eq_true rfl, Nat.le_of_ble_eq_true rfl⟩ hK hN hZ hP hD hS hA [0, 5] [1, 2, 3, 4] rfl rfl rfl rfl (by decide) 0 rfl rfl rfl rfl hl.1 rfl (Nat.le_of_ble_eq_true rfl) dX9_copy_43 (fun r_42 u_r_42 H locs hw_r_42 hP hD hS => ?_)
          obtain ⟨mq2_43, rfl⟩ : ∃ z, z = u_r_42 := ⟨_, rfl⟩
          try dsimp only at hw_r_42
          have hP : va_P D vwCl [(ybi, .inl (cI, 4, .inl bi)), (ysi, .inl (cI, 4, .inl sq)), (ynu, .inl (cJ, 160, .inr (.inl nb))), (ymo, .inl (cJ, 40, .inr (.inl mv9))), (h0, .inr (9, [.ref ys, .ref yk, .ref yo, .ref yt, .int mk0, .ref yfa, .ref yfe, .int mL, .int mS, .int mM, .ref yro, .ref yhe, .ref ygr, .int mF, .int mC, .int mY, .ref yta, .int (nI (mz)), .int (nI (mf)), .int (nI (mt)), .int mv, .int mw, .ref ywa, .ref ybi, .ref ysi, .ref ynu, .ref ymo])), (yt, .inl (cI, 7, .inl mq2_43))] H := hP
          have hD : va_D A [(ybi, .inl (cI, 4, .inl bi)), (ysi, .inl (cI, 4, .inl sq)), (ynu, .inl (cJ, 160, .inr (.inl nb))), (ymo, .inl (cJ, 40, .inr (.inl mv9))), (h0, .inr (9, [.ref ys, .ref yk, .ref yo, .ref yt, .int mk0, .ref yfa, .ref yfe, .int mL, .int mS, .int mM, .ref yro, .ref yhe, .ref ygr, .int mF, .int mC, .int mY, .ref yta, .int (nI (mz)), .int (nI (mf)), .int (nI (mt)), .int mv, .int mw, .ref ywa, .ref ybi, .ref ysi, .ref ynu, .ref ymo])), (yt, .inl (cI, 7, .inl mq2_43))] := hD
          subst hw_r_42
          exact W.iret (v := (-1000000006)) hx hb hr (fun t ht hW => ⟨⟨(-1000000006), (nb, mv9, mq2_43), rfl, ⟨(sp_cr1 (Or.inr c_14)), (fun j => sp_c0 (fun h => h.2.1 c_14)), (fun _ _ => rfl)⟩, by rw [ht]; exact hP.sub [4, 0, 1, 2, 3, 5] rfl, hD.sub [4, 0, 1, 2, 3, 5] (by decide +kernel) rfl⟩, hS.F ht⟩) hS.2.2 dX9_copy_46 hlk
    · exact absurd h_9 (by decide)
  · exact absurd h_4 (by decide)
set_option maxHeartbeats 4000000 in
set_option maxRecDepth 100000 in
theorem c_X9_copy_03 (l : Launch) (D : va_G) (cI cJ cZ cS : ClassId) (ta : Nat) (sa sv : Nat → Nat) (sz : Nat) (h0 : Nat) (ys : Nat) (yk : Nat) (yo : Nat) (yt : Nat) (mk0 : Int32) (yfa : Nat) (yfe : Nat) (mL : Int32) (mS : Int32) (mM : Int32) (yro : Nat) (yhe : Nat) (ygr : Nat) (mF : Int32) (mC : Int32) (mY : Int32) (yta : Nat) (mz : Nat) (mf : Nat) (mt : Nat) (mv : Int32) (mw : Int32) (ywa : Nat) (ybi : Nat) (ysi : Nat) (ynu : Nat) (ymo : Nat) (bi : Nat → Int32) (sq : Nat → Int32) (nb : Nat → Int64) (mv9 : Nat → Int64) (mq : Nat → Int32) (p1 : Int32) (p3 : Int32) (p4 : Int32) (zq : Nat) (zt : Nat) (ez : sq 0 = nI zq) (hzq : zq ≤ 40) (et : sq 3 = nI zt) (hzt : zt ≤ 40) (hsq : BA 4 41 sq) : Met l yX9_copy (Cond.code yX9_copy cX9_copy 7 (some .int) :: wsU) ({ frames := 2, cells := 0, slots := 0, locals := 45 }) (va_Pc [.ref h0, .int 0, .int p1, .int 3, .int p3, .int p4] (XW D (xT cI cJ cZ cS) ta sa sv [(h0, .inr (9, [.ref ys, .ref yk, .ref yo, .ref yt, .int mk0, .ref yfa, .ref yfe, .int mL, .int mS, .int mM, .ref yro, .ref yhe, .ref ygr, .int mF, .int mC, .int mY, .ref yta, .int (nI (mz)), .int (nI (mf)), .int (nI (mt)), .int mv, .int mw, .ref ywa, .ref ybi, .ref ysi, .ref ynu, .ref ymo])), (ybi, .inl (cI, 4, .inl bi)), (ysi, .inl (cI, 4, .inl sq)), (ynu, .inl (cJ, 160, .inr (.inl nb))), (ymo, .inl (cJ, 40, .inr (.inl mv9))), (yt, .inl (cI, 7, .inl mq))] sz)) (XQi (fun (r : Int32) (u : (Nat → Int64) × (Nat → Int64) × (Nat → Int32)) => match u with | (nb2, mv2, mq2) => ((r = sp_cr (bi 0) (bi 3) zq zt p1 p3 p4)) ∧ (∀ j, nb2 (120 + j) = sp_cn (bi 0) (bi 3) zq zt p1 p3 p4 (fun k => nb (0 + k)) j (nb (120 + j))) ∧ (∀ j, j < 120 ∨ 160 ≤ j → nb2 j = nb j)) D (fun (u : (Nat → Int64) × (Nat → Int64) × (Nat → Int32)) => match u with | (nb2, mv2, mq2) => [(h0, .inr (9, [.ref ys, .ref yk, .ref yo, .ref yt, .int mk0, .ref yfa, .ref yfe, .int mL, .int mS, .int mM, .ref yro, .ref yhe, .ref ygr, .int mF, .int mC, .int mY, .ref yta, .int (nI (mz)), .int (nI (mf)), .int (nI (mt)), .int mv, .int mw, .ref ywa, .ref ybi, .ref ysi, .ref ynu, .ref ymo])), (ybi, .inl (cI, 4, .inl bi)), (ysi, .inl (cI, 4, .inl sq)), (ynu, .inl (cJ, 160, .inr (.inl nb2))), (ymo, .inl (cJ, 40, .inr (.inl mv2))), (yt, .inl (cI, 7, .inl mq2))]) (va_A [(h0, .inr (9, [.ref ys, .ref yk, .ref yo, .ref yt, .int mk0, .ref yfa, .ref yfe, .int mL, .int mS, .int mM, .ref yro, .ref yhe, .ref ygr, .int mF, .int mC, .int mY, .ref yta, .int (nI (mz)), .int (nI (mf)), .int (nI (mt)), .int mv, .int mw, .ref ywa, .ref ybi, .ref ysi, .ref ynu, .ref ymo])), (ybi, .inl (cI, 4, .inl bi)), (ysi, .inl (cI, 4, .inl sq)), (ynu, .inl (cJ, 160, .inr (.inl nb))), (ymo, .inl (cJ, 40, .inr (.inl mv9))), (yt, .inl (cI, 7, .inl mq))] sz)) 0 0 (va_A [(h0, .inr (9, [.ref ys, .ref yk, .ref yo, .ref yt, .int mk0, .ref yfa, .ref yfe, .int mL, .int mS, .int mM, .ref yro, .ref yhe, .ref ygr, .int mF, .int mC, .int mY, .ref yta, .int (nI (mz)), .int (nI (mf)), .int (nI (mt)), .int mv, .int mw, .ref ywa, .ref ybi, .ref ysi, .ref ynu, .ref ymo])), (ybi, .inl (cI, 4, .inl bi)), (ysi, .inl (cI, 4, .inl sq)), (ynu, .inl (cJ, 160, .inr (.inl nb))), (ymo, .inl (cJ, 40, .inr (.inl mv9))), (yt, .inl (cI, 7, .inl mq))] sz) := by
  refine xh (QA := fun A => XQi (fun (r : Int32) (u : (Nat → Int64) × (Nat → Int64) × (Nat → Int32)) => match u with | (nb2, mv2, mq2) => ((r = sp_cr (bi 0) (bi 3) zq zt p1 p3 p4)) ∧ (∀ j, nb2 (120 + j) = sp_cn (bi 0) (bi 3) zq zt p1 p3 p4 (fun k => nb (0 + k)) j (nb (120 + j))) ∧ (∀ j, j < 120 ∨ 160 ≤ j → nb2 j = nb j)) D (fun (u : (Nat → Int64) × (Nat → Int64) × (Nat → Int32)) => match u with | (nb2, mv2, mq2) => [(h0, .inr (9, [.ref ys, .ref yk, .ref yo, .ref yt, .int mk0, .ref yfa, .ref yfe, .int mL, .int mS, .int mM, .ref yro, .ref yhe, .ref ygr, .int mF, .int mC, .int mY, .ref yta, .int (nI (mz)), .int (nI (mf)), .int (nI (mt)), .int mv, .int mw, .ref ywa, .ref ybi, .ref ysi, .ref ynu, .ref ymo])), (ybi, .inl (cI, 4, .inl bi)), (ysi, .inl (cI, 4, .inl sq)), (ynu, .inl (cJ, 160, .inr (.inl nb2))), (ymo, .inl (cJ, 40, .inr (.inl mv2))), (yt, .inl (cI, 7, .inl mq2))]) A) (fr := fun A => A) (by decide) (Nat.le_of_ble_eq_true rfl) ?_
  intro p e s m below meth c ls A hF hr hlk hin hsz hP hK hD hN hZ hA hS hl
  have hF : CallFix p m c cX9_copy 7 s _ _ RX9 := hF
  have hx := hF.1
  have hb := hF.2.1
  have hml := hF.2.2.1
  have hown := hF.2.2.2.1
  have hu : ∀ w ∈ wsU, w.before _ s = true := fun w h => hF.2.2.2.2 w (List.mem_cons_of_mem _ h)
  have hl : lv_has ls 7 [(0, .ref h0), (1, .int 0), (2, .int p1), (3, .int 3), (4, .int p3), (5, .int p4)] := hl
  refine lv_iload_n hx hb dX9_copy_0 rfl (lv_at hl 1 rfl) ?_
  refine xc_Sr hF (c_X9_isOne l D cI cJ cZ cS ta sa sv s.heap.size 0 ) ks_X9_305 ⟨rfl, rfl, Nat.le_of_ble_eq_true rfl, Nat.le_of_ble_eq_true rfl⟩ ⟨Nat.le_of_ble_eq_true rfl, Nat.le_of_ble_eq_true rfl⟩ hK hN hZ hP hD hS hA [] rfl rfl rfl hl.1 rfl (Nat.le_of_ble_eq_true rfl) dX9_copy_1 (fun r_1 hw_r_1 => ?_)
  rcases hw_r_1 with ⟨rfl, h_2, h_3⟩ | ⟨rfl, h_4⟩
  · skip
    refine lv_if_eq (tgt := 14) hx hb dX9_copy_4 (by decide) (fun c_5 => absurd c_5 (by decide)) (fun c_5 => ?_)
    refine lv_iload_n hx hb dX9_copy_7 rfl (lv_at hl 3 rfl) ?_
    refine xc_Sr hF (c_X9_isOne l D cI cJ cZ cS ta sa sv s.heap.size 3 ) ks_X9_305 ⟨rfl, rfl, Nat.le_of_ble_eq_true rfl, Nat.le_of_ble_eq_true rfl⟩ ⟨Nat.le_of_ble_eq_true rfl, Nat.le_of_ble_eq_true rfl⟩ hK hN hZ hP hD hS hA [] rfl rfl rfl hl.1 rfl (Nat.le_of_ble_eq_true rfl) dX9_copy_8 (fun r_6 hw_r_6 => ?_)
    rcases hw_r_6 with ⟨rfl, h_7, h_8⟩ | ⟨rfl, h_9⟩
    · skip
      refine lv_if_ne (tgt := 21) hx hb dX9_copy_11 (by decide) (fun c_10 => ?_) (fun c_10 => absurd c_10 (by decide))
      refine lv_aload_n hx hb dX9_copy_21 rfl (lv_at hl 0 rfl) ?_
      refine xg hF kf_X9_43 hK hP 0 rfl rfl dX9_copy_22 ?_
      refine lv_iload_n hx hb dX9_copy_25 rfl (lv_at hl 1 rfl) ?_
      refine va_iald hx hb hK hP 1 0 rfl rfl (xin 0 4 (by decide) (by decide)) dX9_copy_26 ?_
      refine xl_i (y := bi 0) (congrArg bi rfl) ?_
      refine lv_if_eq (tgt := 39) hx hb dX9_copy_27 (by decide) (fun c_11 => ?_) (fun c_11 => ?_)
      · skip
        refine lv_aload_n hx hb dX9_copy_39 rfl (lv_at hl 0 rfl) ?_
        refine lv_ldcw (v := (-1000000006)) hx hb hown (hu _ uw910) dX9_copy_40 ?_
        refine xc_Vi (wr := [(ybi, .inl (cI, 4, .inl bi)), (ysi, .inl (cI, 4, .inl sq)), (ynu, .inl (cJ, 160, .inr (.inl nb))), (ymo, .inl (cJ, 40, .inr (.inl mv9)))]) hF (c_X9_finds_M l D cI cJ cZ cS ta sa sv s.heap.size h0 ys yk yo yt mk0 yfa yfe mL mS mM yro yhe ygr mF mC mY yta mz mf mt mv mw ywa ybi ysi ynu ymo mq ) kv_X9_70 ⟨rfl, rfl, Nat.le_of_ble_eq_true rfl, Nat.le_of_ble_eq_true rfl⟩ ⟨Nat.le_of_ble_eq_true rfl, Nat.le_of_ble_eq_true rfl⟩ hK hN hZ hP hD hS hA [0, 5] [1, 2, 3, 4] rfl rfl rfl rfl (by decide) 0 rfl rfl rfl rfl hl.1 rfl (Nat.le_of_ble_eq_true rfl) dX9_copy_43 (fun r_12 u_r_12 H locs hw_r_12 hP hD hS => ?_)
        obtain ⟨mq2_13, rfl⟩ : ∃ z, z = u_r_12 := ⟨_, rfl⟩
        try dsimp only at hw_r_12
        have hP : va_P D vwCl [(ybi, .inl (cI, 4, .inl bi)), (ysi, .inl (cI, 4, .inl sq)), (ynu, .inl (cJ, 160, .inr (.inl nb))), (ymo, .inl (cJ, 40, .inr (.inl mv9))), (h0, .inr (9, [.ref ys, .ref yk, .ref yo, .ref yt, .int mk0, .ref yfa, .ref yfe, .int mL, .int mS, .int mM, .ref yro, .ref yhe, .ref ygr, .int mF, .int mC, .int mY, .ref yta, .int (nI (mz)), .int (nI (mf)), .int (nI (mt)), .int mv, .int mw, .ref ywa, .ref ybi, .ref ysi, .ref ynu, .ref ymo])), (yt, .inl (cI, 7, .inl mq2_13))] H := hP
        have hD : va_D A [(ybi, .inl (cI, 4, .inl bi)), (ysi, .inl (cI, 4, .inl sq)), (ynu, .inl (cJ, 160, .inr (.inl nb))), (ymo, .inl (cJ, 40, .inr (.inl mv9))), (h0, .inr (9, [.ref ys, .ref yk, .ref yo, .ref yt, .int mk0, .ref yfa, .ref yfe, .int mL, .int mS, .int mM, .ref yro, .ref yhe, .ref ygr, .int mF, .int mC, .int mY, .ref yta, .int (nI (mz)), .int (nI (mf)), .int (nI (mt)), .int mv, .int mw, .ref ywa, .ref ybi, .ref ysi, .ref ynu, .ref ymo])), (yt, .inl (cI, 7, .inl mq2_13))] := hD
        subst hw_r_12
        exact W.iret (v := (-1000000006)) hx hb hr (fun t ht hW => ⟨⟨(-1000000006), (nb, mv9, mq2_13), rfl, ⟨(sp_cr1 (Or.inl c_11)), (fun j => sp_c0 (fun h => h.1 c_11)), (fun _ _ => rfl)⟩, by rw [ht]; exact hP.sub [4, 0, 1, 2, 3, 5] rfl, hD.sub [4, 0, 1, 2, 3, 5] (by decide +kernel) rfl⟩, hS.F ht⟩) hS.2.2 dX9_copy_46 hlk
      · skip
        refine lv_aload_n hx hb dX9_copy_30 rfl (lv_at hl 0 rfl) ?_
        refine xg hF kf_X9_43 hK hP 0 rfl rfl dX9_copy_31 ?_
        refine lv_iload_n hx hb dX9_copy_34 rfl (lv_at hl 3 rfl) ?_
        refine va_iald hx hb hK hP 1 0 rfl rfl (xin 3 4 (by decide) (by decide)) dX9_copy_35 ?_
        refine xl_i (y := bi 3) (congrArg bi rfl) ?_
        refine lv_if_ne (tgt := 47) hx hb dX9_copy_36 (by decide) (fun c_14 => ?_) (fun c_14 => ?_)
        · skip
          refine lv_aload_n hx hb dX9_copy_47 rfl (lv_at hl 0 rfl) ?_
          refine xg hF kf_X9_43 hK hP 0 rfl rfl dX9_copy_48 ?_
          refine lv_iload_n hx hb dX9_copy_51 rfl (lv_at hl 1 rfl) ?_
          refine va_iald hx hb hK hP 1 0 rfl rfl (xin 0 4 (by decide) (by decide)) dX9_copy_52 ?_
          refine xl_i (y := bi 0) (congrArg bi rfl) ?_
          refine lv_aload_n hx hb dX9_copy_53 rfl (lv_at hl 0 rfl) ?_
          refine xg hF kf_X9_43 hK hP 0 rfl rfl dX9_copy_54 ?_
          refine lv_iload_n hx hb dX9_copy_57 rfl (lv_at hl 3 rfl) ?_
          refine va_iald hx hb hK hP 1 0 rfl rfl (xin 3 4 (by decide) (by decide)) dX9_copy_58 ?_
          refine xl_i (y := bi 3) (congrArg bi rfl) ?_
          refine lv_icmp_eq (tgt := 69) hx hb dX9_copy_59 (by decide) (fun c_15 => ?_) (fun c_15 => ?_)
          · skip
            refine lv_iload_n hx hb dX9_copy_69 rfl (lv_at hl 2 rfl) ?_
            refine lv_if_lt (tgt := 110) hx hb dX9_copy_70 (by decide) (fun c_16 => ?_) (fun c_16 => ?_)
            · skip
              refine lv_aload_n hx hb dX9_copy_110 rfl (lv_at hl 0 rfl) ?_
              refine lv_ldc (v := (-1000000001)) hx hb hown (hu _ uw648) dX9_copy_111 ?_
              refine xc_Vi (wr := [(ybi, .inl (cI, 4, .inl bi)), (ysi, .inl (cI, 4, .inl sq)), (ynu, .inl (cJ, 160, .inr (.inl nb))), (ymo, .inl (cJ, 40, .inr (.inl mv9)))]) hF (c_X9_finds_B l D cI cJ cZ cS ta sa sv s.heap.size h0 ys yk yo yt mk0 yfa yfe mL mS mM yro yhe ygr mF mC mY yta mz mf mt mv mw ywa ybi ysi ynu ymo mq ) kv_X9_70 ⟨rfl, rfl, Nat.le_of_ble_eq_true rfl, Nat.le_of_ble_eq_true rfl⟩ ⟨Nat.le_of_ble_eq_true rfl, Nat.le_of_ble_eq_true rfl⟩ hK hN hZ hP hD hS hA [0, 5] [1, 2, 3, 4] rfl rfl rfl rfl (by decide) 0 rfl rfl rfl rfl hl.1 rfl (Nat.le_of_ble_eq_true rfl) dX9_copy_113 (fun r_17 u_r_17 H locs hw_r_17 hP hD hS => ?_)
              obtain ⟨mq2_18, rfl⟩ : ∃ z, z = u_r_17 := ⟨_, rfl⟩
              try dsimp only at hw_r_17
              have hP : va_P D vwCl [(ybi, .inl (cI, 4, .inl bi)), (ysi, .inl (cI, 4, .inl sq)), (ynu, .inl (cJ, 160, .inr (.inl nb))), (ymo, .inl (cJ, 40, .inr (.inl mv9))), (h0, .inr (9, [.ref ys, .ref yk, .ref yo, .ref yt, .int mk0, .ref yfa, .ref yfe, .int mL, .int mS, .int mM, .ref yro, .ref yhe, .ref ygr, .int mF, .int mC, .int mY, .ref yta, .int (nI (mz)), .int (nI (mf)), .int (nI (mt)), .int mv, .int mw, .ref ywa, .ref ybi, .ref ysi, .ref ynu, .ref ymo])), (yt, .inl (cI, 7, .inl mq2_18))] H := hP
              have hD : va_D A [(ybi, .inl (cI, 4, .inl bi)), (ysi, .inl (cI, 4, .inl sq)), (ynu, .inl (cJ, 160, .inr (.inl nb))), (ymo, .inl (cJ, 40, .inr (.inl mv9))), (h0, .inr (9, [.ref ys, .ref yk, .ref yo, .ref yt, .int mk0, .ref yfa, .ref yfe, .int mL, .int mS, .int mM, .ref yro, .ref yhe, .ref ygr, .int mF, .int mC, .int mY, .ref yta, .int (nI (mz)), .int (nI (mf)), .int (nI (mt)), .int mv, .int mw, .ref ywa, .ref ybi, .ref ysi, .ref ynu, .ref ymo])), (yt, .inl (cI, 7, .inl mq2_18))] := hD
              subst hw_r_17
              exact W.iret (v := (-1000000001)) hx hb hr (fun t ht hW => ⟨⟨(-1000000001), (nb, mv9, mq2_18), rfl, ⟨(sp_cr3 c_11 c_14 c_15 (fun q => (sp_s1 c_16) q.1)), (fun j => sp_c0 (fun h => (sp_s1 c_16) h.2.2.2.1)), (fun _ _ => rfl)⟩, by rw [ht]; exact hP.sub [4, 0, 1, 2, 3, 5] rfl, hD.sub [4, 0, 1, 2, 3, 5] (by decide +kernel) rfl⟩, hS.F ht⟩) hS.2.2 dX9_copy_116 hlk
            · skip
              refine lv_iload hx hb dX9_copy_73 (lv_at hl 4 rfl) ?_
              refine lv_if_lt (tgt := 110) hx hb dX9_copy_75 (by decide) (fun c_19 => ?_) (fun c_19 => ?_)
              · skip
                refine lv_aload_n hx hb dX9_copy_110 rfl (lv_at hl 0 rfl) ?_
                refine lv_ldc (v := (-1000000001)) hx hb hown (hu _ uw648) dX9_copy_111 ?_
                refine xc_Vi (wr := [(ybi, .inl (cI, 4, .inl bi)), (ysi, .inl (cI, 4, .inl sq)), (ynu, .inl (cJ, 160, .inr (.inl nb))), (ymo, .inl (cJ, 40, .inr (.inl mv9)))]) hF (c_X9_finds_B l D cI cJ cZ cS ta sa sv s.heap.size h0 ys yk yo yt mk0 yfa yfe mL mS mM yro yhe ygr mF mC mY yta mz mf mt mv mw ywa ybi ysi ynu ymo mq ) kv_X9_70 ⟨rfl, rfl, Nat.le_of_ble_eq_true rfl, Nat.le_of_ble_eq_true rfl⟩ ⟨Nat.le_of_ble_eq_true rfl, Nat.le_of_ble_eq_true rfl⟩ hK hN hZ hP hD hS hA [0, 5] [1, 2, 3, 4] rfl rfl rfl rfl (by decide) 0 rfl rfl rfl rfl hl.1 rfl (Nat.le_of_ble_eq_true rfl) dX9_copy_113 (fun r_20 u_r_20 H locs hw_r_20 hP hD hS => ?_)
                obtain ⟨mq2_21, rfl⟩ : ∃ z, z = u_r_20 := ⟨_, rfl⟩
                try dsimp only at hw_r_20
                have hP : va_P D vwCl [(ybi, .inl (cI, 4, .inl bi)), (ysi, .inl (cI, 4, .inl sq)), (ynu, .inl (cJ, 160, .inr (.inl nb))), (ymo, .inl (cJ, 40, .inr (.inl mv9))), (h0, .inr (9, [.ref ys, .ref yk, .ref yo, .ref yt, .int mk0, .ref yfa, .ref yfe, .int mL, .int mS, .int mM, .ref yro, .ref yhe, .ref ygr, .int mF, .int mC, .int mY, .ref yta, .int (nI (mz)), .int (nI (mf)), .int (nI (mt)), .int mv, .int mw, .ref ywa, .ref ybi, .ref ysi, .ref ynu, .ref ymo])), (yt, .inl (cI, 7, .inl mq2_21))] H := hP
                have hD : va_D A [(ybi, .inl (cI, 4, .inl bi)), (ysi, .inl (cI, 4, .inl sq)), (ynu, .inl (cJ, 160, .inr (.inl nb))), (ymo, .inl (cJ, 40, .inr (.inl mv9))), (h0, .inr (9, [.ref ys, .ref yk, .ref yo, .ref yt, .int mk0, .ref yfa, .ref yfe, .int mL, .int mS, .int mM, .ref yro, .ref yhe, .ref ygr, .int mF, .int mC, .int mY, .ref yta, .int (nI (mz)), .int (nI (mf)), .int (nI (mt)), .int mv, .int mw, .ref ywa, .ref ybi, .ref ysi, .ref ynu, .ref ymo])), (yt, .inl (cI, 7, .inl mq2_21))] := hD
                subst hw_r_20
                exact W.iret (v := (-1000000001)) hx hb hr (fun t ht hW => ⟨⟨(-1000000001), (nb, mv9, mq2_21), rfl, ⟨(sp_cr3 c_11 c_14 c_15 (fun q => (sp_s1 c_19) q.2)), (fun j => sp_c0 (fun h => (sp_s1 c_19) h.2.2.2.2)), (fun _ _ => rfl)⟩, by rw [ht]; exact hP.sub [4, 0, 1, 2, 3, 5] rfl, hD.sub [4, 0, 1, 2, 3, 5] (by decide +kernel) rfl⟩, hS.F ht⟩) hS.2.2 dX9_copy_116 hlk
              · skip
                refine lv_iload hx hb dX9_copy_78 (lv_at hl 5 rfl) ?_
                refine lv_if_lt (tgt := 110) hx hb dX9_copy_80 (by decide) (fun c_22 => ?_) (fun c_22 => ?_)
                · skip
                  refine lv_aload_n hx hb dX9_copy_110 rfl (lv_at hl 0 rfl) ?_
                  refine lv_ldc (v := (-1000000001)) hx hb hown (hu _ uw648) dX9_copy_111 ?_
                  refine xc_Vi (wr := [(ybi, .inl (cI, 4, .inl bi)), (ysi, .inl (cI, 4, .inl sq)), (ynu, .inl (cJ, 160, .inr (.inl nb))), (ymo, .inl (cJ, 40, .inr (.inl mv9)))]) hF (c_X9_finds_B l D cI cJ cZ cS ta sa sv s.heap.size h0 ys yk yo yt mk0 yfa yfe mL mS mM yro yhe ygr mF mC mY yta mz mf mt mv mw ywa ybi ysi ynu ymo mq ) kv_X9_70 ⟨rfl, rfl, Nat.le_of_ble_eq_true rfl, Nat.le_of_ble_eq_true rfl⟩ ⟨Nat.le_of_ble_eq_true rfl, Nat.le_of_ble_eq_true rfl⟩ hK hN hZ hP hD hS hA [0, 5] [1, 2, 3, 4] rfl rfl rfl rfl (by decide) 0 rfl rfl rfl rfl hl.1 rfl (Nat.le_of_ble_eq_true rfl) dX9_copy_113 (fun r_23 u_r_23 H locs hw_r_23 hP hD hS => ?_)
                  obtain ⟨mq2_24, rfl⟩ : ∃ z, z = u_r_23 := ⟨_, rfl⟩
                  try dsimp only at hw_r_23
                  have hP : va_P D vwCl [(ybi, .inl (cI, 4, .inl bi)), (ysi, .inl (cI, 4, .inl sq)), (ynu, .inl (cJ, 160, .inr (.inl nb))), (ymo, .inl (cJ, 40, .inr (.inl mv9))), (h0, .inr (9, [.ref ys, .ref yk, .ref yo, .ref yt, .int mk0, .ref yfa, .ref yfe, .int mL, .int mS, .int mM, .ref yro, .ref yhe, .ref ygr, .int mF, .int mC, .int mY, .ref yta, .int (nI (mz)), .int (nI (mf)), .int (nI (mt)), .int mv, .int mw, .ref ywa, .ref ybi, .ref ysi, .ref ynu, .ref ymo])), (yt, .inl (cI, 7, .inl mq2_24))] H := hP
                  have hD : va_D A [(ybi, .inl (cI, 4, .inl bi)), (ysi, .inl (cI, 4, .inl sq)), (ynu, .inl (cJ, 160, .inr (.inl nb))), (ymo, .inl (cJ, 40, .inr (.inl mv9))), (h0, .inr (9, [.ref ys, .ref yk, .ref yo, .ref yt, .int mk0, .ref yfa, .ref yfe, .int mL, .int mS, .int mM, .ref yro, .ref yhe, .ref ygr, .int mF, .int mC, .int mY, .ref yta, .int (nI (mz)), .int (nI (mf)), .int (nI (mt)), .int mv, .int mw, .ref ywa, .ref ybi, .ref ysi, .ref ynu, .ref ymo])), (yt, .inl (cI, 7, .inl mq2_24))] := hD
                  subst hw_r_23
                  exact W.iret (v := (-1000000001)) hx hb hr (fun t ht hW => ⟨⟨(-1000000001), (nb, mv9, mq2_24), rfl, ⟨(sp_cr3 c_11 c_14 c_15 (fun q => (sp_s2 c_22) q.1)), (fun j => sp_c0 (fun h => (sp_s2 c_22) h.2.2.2.1)), (fun _ _ => rfl)⟩, by rw [ht]; exact hP.sub [4, 0, 1, 2, 3, 5] rfl, hD.sub [4, 0, 1, 2, 3, 5] (by decide +kernel) rfl⟩, hS.F ht⟩) hS.2.2 dX9_copy_116 hlk
                · skip
                  refine lv_iload hx hb dX9_copy_83 (lv_at hl 5 rfl) ?_
                  refine lv_aload_n hx hb dX9_copy_85 rfl (lv_at hl 0 rfl) ?_
                  refine xg hF kf_X9_46 hK hP 0 rfl rfl dX9_copy_86 ?_
                  refine lv_iload_n hx hb dX9_copy_89 rfl (lv_at hl 1 rfl) ?_
                  refine va_iald hx hb hK hP 2 0 rfl rfl (xin 0 4 (by decide) (by decide)) dX9_copy_90 ?_
                  refine xl_i (y := sq 0) (congrArg sq rfl) ?_
                  refine xl_i (y := nI (zq)) ez ?_
                  refine lv_iload_n hx hb dX9_copy_91 rfl (lv_at hl 2 rfl) ?_
                  refine lv_isub hx hb dX9_copy_92 ?_
                  refine lv_topi (fun x_25 ex_25 => ?_)
                  refine lv_icmp_gt (tgt := 110) hx hb dX9_copy_93 (by decide) (fun c_26 => ?_) (fun c_26 => ?_)
                  · skip
                    refine lv_aload_n hx hb dX9_copy_110 rfl (lv_at hl 0 rfl) ?_
                    refine lv_ldc (v := (-1000000001)) hx hb hown (hu _ uw648) dX9_copy_111 ?_
                    refine xc_Vi (wr := [(ybi, .inl (cI, 4, .inl bi)), (ysi, .inl (cI, 4, .inl sq)), (ynu, .inl (cJ, 160, .inr (.inl nb))), (ymo, .inl (cJ, 40, .inr (.inl mv9)))]) hF (c_X9_finds_B l D cI cJ cZ cS ta sa sv s.heap.size h0 ys yk yo yt mk0 yfa yfe mL mS mM yro yhe ygr mF mC mY yta mz mf mt mv mw ywa ybi ysi ynu ymo mq ) kv_X9_70 ⟨rfl, rfl, Nat.le_of_ble_eq_true rfl, Nat.le_of_ble_eq_true rfl⟩ ⟨Nat.le_of_ble_eq_true rfl, Nat.le_of_ble_eq_true rfl⟩ hK hN hZ hP hD hS hA [0, 5] [1, 2, 3, 4] rfl rfl rfl rfl (by decide) 0 rfl rfl rfl rfl hl.1 rfl (Nat.le_of_ble_eq_true rfl) dX9_copy_113 (fun r_27 u_r_27 H locs hw_r_27 hP hD hS => ?_)
                    obtain ⟨mq2_28, rfl⟩ : ∃ z, z = u_r_27 := ⟨_, rfl⟩
                    try dsimp only at hw_r_27
                    have hP : va_P D vwCl [(ybi, .inl (cI, 4, .inl bi)), (ysi, .inl (cI, 4, .inl sq)), (ynu, .inl (cJ, 160, .inr (.inl nb))), (ymo, .inl (cJ, 40, .inr (.inl mv9))), (h0, .inr (9, [.ref ys, .ref yk, .ref yo, .ref yt, .int mk0, .ref yfa, .ref yfe, .int mL, .int mS, .int mM, .ref yro, .ref yhe, .ref ygr, .int mF, .int mC, .int mY, .ref yta, .int (nI (mz)), .int (nI (mf)), .int (nI (mt)), .int mv, .int mw, .ref ywa, .ref ybi, .ref ysi, .ref ynu, .ref ymo])), (yt, .inl (cI, 7, .inl mq2_28))] H := hP
                    have hD : va_D A [(ybi, .inl (cI, 4, .inl bi)), (ysi, .inl (cI, 4, .inl sq)), (ynu, .inl (cJ, 160, .inr (.inl nb))), (ymo, .inl (cJ, 40, .inr (.inl mv9))), (h0, .inr (9, [.ref ys, .ref yk, .ref yo, .ref yt, .int mk0, .ref yfa, .ref yfe, .int mL, .int mS, .int mM, .ref yro, .ref yhe, .ref ygr, .int mF, .int mC, .int mY, .ref yta, .int (nI (mz)), .int (nI (mf)), .int (nI (mt)), .int mv, .int mw, .ref ywa, .ref ybi, .ref ysi, .ref ynu, .ref ymo])), (yt, .inl (cI, 7, .inl mq2_28))] := hD
                    subst hw_r_27
                    exact W.iret (v := (-1000000001)) hx hb hr (fun t ht hW => ⟨⟨(-1000000001), (nb, mv9, mq2_28), rfl, ⟨(sp_cr3 c_11 c_14 c_15 (fun q => (sp_s5 hzq c_16 c_22 ex_25 c_26) q.1)), (fun j => sp_c0 (fun h => (sp_s5 hzq c_16 c_22 ex_25 c_26) h.2.2.2.1)), (fun _ _ => rfl)⟩, by rw [ht]; exact hP.sub [4, 0, 1, 2, 3, 5] rfl, hD.sub [4, 0, 1, 2, 3, 5] (by decide +kernel) rfl⟩, hS.F ht⟩) hS.2.2 dX9_copy_116 hlk
                  · skip
                    refine lv_iload hx hb dX9_copy_96 (lv_at hl 5 rfl) ?_
                    refine lv_aload_n hx hb dX9_copy_98 rfl (lv_at hl 0 rfl) ?_
                    refine xg hF kf_X9_46 hK hP 0 rfl rfl dX9_copy_99 ?_
                    refine lv_iload_n hx hb dX9_copy_102 rfl (lv_at hl 3 rfl) ?_
                    refine va_iald hx hb hK hP 2 0 rfl rfl (xin 3 4 (by decide) (by decide)) dX9_copy_103 ?_
                    refine xl_i (y := sq 3) (congrArg sq rfl) ?_
                    refine xl_i (y := nI (zt)) et ?_
                    refine lv_iload hx hb dX9_copy_104 (lv_at hl 4 rfl) ?_
                    refine lv_isub hx hb dX9_copy_106 ?_
                    refine lv_topi (fun x_29 ex_29 => ?_)
                    refine lv_icmp_le (tgt := 117) hx hb dX9_copy_107 (by decide) (fun c_30 => ?_) (fun c_30 => ?_)
                    · skip
                      obtain ⟨y_31, hy_31, rfl⟩ := x_spk (by omega) c_16 c_22 ex_25 c_26
                      obtain ⟨y_32, hy_32, rfl⟩ := x_spj (by omega) (by omega) c_16 ex_25 c_26
                      obtain ⟨y_33, hy_33, rfl⟩ := x_spj (by omega) (by omega) c_19 ex_29 (Int32.not_lt.mpr c_30)
                      refine lv_iconst (v := 0) hx hb dX9_copy_117 (by decide) ?_
                      refine lv_istore (lv' := [(6, .int 0), (0, .ref h0), (1, .int 0), (2, .int (nI (y_32))), (3, .int 3), (4, .int (nI (y_33))), (5, .int (nI (y_31)))]) hx hb dX9_copy_118 hl (by decide) rfl (fun ls hl => ?_)
                      suffices loop_120 : ∀ (n_120 : Nat) (i : Nat) (m8 : Nat → Int64) (H : Heap) (locs : List Loc) (ls : Array Slot), y_31 - i < n_120 → (i ≤ y_31) → (∀ j, j < i → m8 j = nb (0 + y_32 + j)) → va_P D vwCl [(h0, .inr (9, [.ref ys, .ref yk, .ref yo, .ref yt, .int mk0, .ref yfa, .ref yfe, .int mL, .int mS, .int mM, .ref yro, .ref yhe, .ref ygr, .int mF, .int mC, .int mY, .ref yta, .int (nI (mz)), .int (nI (mf)), .int (nI (mt)), .int mv, .int mw, .ref ywa, .ref ybi, .ref ysi, .ref ynu, .ref ymo])), (ybi, .inl (cI, 4, .inl bi)), (ysi, .inl (cI, 4, .inl sq)), (ynu, .inl (cJ, 160, .inr (.inl nb))), (ymo, .inl (cJ, 40, .inr (.inl m8))), (yt, .inl (cI, 7, .inl mq))] H → va_D A [(h0, .inr (9, [.ref ys, .ref yk, .ref yo, .ref yt, .int mk0, .ref yfa, .ref yfe, .int mL, .int mS, .int mM, .ref yro, .ref yhe, .ref ygr, .int mF, .int mC, .int mY, .ref yta, .int (nI (mz)), .int (nI (mf)), .int (nI (mt)), .int mv, .int mw, .ref ywa, .ref ybi, .ref ysi, .ref ynu, .ref ymo])), (ybi, .inl (cI, 4, .inl bi)), (ysi, .inl (cI, 4, .inl sq)), (ynu, .inl (cJ, 160, .inr (.inl nb))), (ymo, .inl (cJ, 40, .inr (.inl m8))), (yt, .inl (cI, 7, .inl mq))] → va_S A s.heap H locs → lv_has ls 7 [(6, .int (nI (i))), (0, .ref h0), (1, .int 0), (2, .int (nI (y_32))), (3, .int 3), (4, .int (nI (y_33))), (5, .int (nI (y_31)))] → W p l e ({ frames := 2, cells := 0, slots := 0, locals := 45 }) s m ([.ref h0, .int 0, .int (nI (y_32)), .int 3, .int (nI (y_33)), .int (nI (y_31))] : List Value).toArray below meth c H locs 0 0 (MQ below (XQi (fun (r : Int32) (u : (Nat → Int64) × (Nat → Int64) × (Nat → Int32)) => match u with | (nb2, mv2, mq2) => ((r = sp_cr (bi 0) (bi 3) zq zt (nI (y_32)) (nI (y_33)) (nI (y_31)))) ∧ (∀ j, nb2 (120 + j) = sp_cn (bi 0) (bi 3) zq zt (nI (y_32)) (nI (y_33)) (nI (y_31)) (fun k => nb (0 + k)) j (nb (120 + j))) ∧ (∀ j, j < 120 ∨ 160 ≤ j → nb2 j = nb j)) D (fun (u : (Nat → Int64) × (Nat → Int64) × (Nat → Int32)) => match u with | (nb2, mv2, mq2) => [(h0, .inr (9, [.ref ys, .ref yk, .ref yo, .ref yt, .int mk0, .ref yfa, .ref yfe, .int mL, .int mS, .int mM, .ref yro, .ref yhe, .ref ygr, .int mF, .int mC, .int mY, .ref yta, .int (nI (mz)), .int (nI (mf)), .int (nI (mt)), .int mv, .int mw, .ref ywa, .ref ybi, .ref ysi, .ref ynu, .ref ymo])), (ybi, .inl (cI, 4, .inl bi)), (ysi, .inl (cI, 4, .inl sq)), (ynu, .inl (cJ, 160, .inr (.inl nb2))), (ymo, .inl (cJ, 40, .inr (.inl mv2))), (yt, .inl (cI, 7, .inl mq2))]) A) ([.ref h0, .int 0, .int (nI (y_32)), .int 3, .int (nI (y_33)), .int (nI (y_31))] : List Value).toArray s 0 0 A) (F0 m 120 ls []) by
                        exact loop_120 _ 0 mv9 _ _ _ (Nat.lt_succ_self _) (by omega) (fun j hj => absurd hj (Nat.not_lt_zero _)) hP hD hS (lv_sub hl [0, 1, 2, 3, 4, 5, 6] rfl)
                      intro n_120
                      induction n_120 with
                      | zero =>
                        intro i m8 H locs ls hm_120
                        exact absurd hm_120 (Nat.not_lt_zero _)
                      | succ n_120 ih_120 =>
                        intro i m8 H locs ls hm_120 hi hm8 hP hD hS hl
                        refine lv_iload hx hb dX9_copy_120 (lv_at hl 0 rfl) ?_
                        refine lv_iload hx hb dX9_copy_122 (lv_at hl 6 rfl) ?_
                        refine lv_icmp_ge (tgt := 154) hx hb dX9_copy_124 (by decide) (fun c_34 => ?_) (fun c_34 => ?_)
                        · skip
                          have nc_34 : y_31 ≤ i := xn_le (a := y_31) (b := i) (by omega) (by omega) c_34
                          refine lv_iconst (v := 0) hx hb dX9_copy_154 (by decide) ?_
                          refine lv_istore (lv' := [(6, .int 0), (0, .ref h0), (1, .int 0), (2, .int (nI (y_32))), (3, .int 3), (4, .int (nI (y_33))), (5, .int (nI (y_31)))]) hx hb dX9_copy_155 hl (by decide) rfl (fun ls hl => ?_)
                          suffices loop_157 : ∀ (n_157 : Nat) (i2 : Nat) (n8 : Nat → Int64) (H : Heap) (locs : List Loc) (ls : Array Slot), y_31 - i2 < n_157 → (i2 ≤ y_31) → (∀ j, n8 j = if 120 + y_33 ≤ j ∧ j < 120 + y_33 + i2 then m8 (j - (120 + y_33)) else nb j) → va_P D vwCl [(h0, .inr (9, [.ref ys, .ref yk, .ref yo, .ref yt, .int mk0, .ref yfa, .ref yfe, .int mL, .int mS, .int mM, .ref yro, .ref yhe, .ref ygr, .int mF, .int mC, .int mY, .ref yta, .int (nI (mz)), .int (nI (mf)), .int (nI (mt)), .int mv, .int mw, .ref ywa, .ref ybi, .ref ysi, .ref ynu, .ref ymo])), (ybi, .inl (cI, 4, .inl bi)), (ysi, .inl (cI, 4, .inl sq)), (ynu, .inl (cJ, 160, .inr (.inl n8))), (ymo, .inl (cJ, 40, .inr (.inl m8))), (yt, .inl (cI, 7, .inl mq))] H → va_D A [(h0, .inr (9, [.ref ys, .ref yk, .ref yo, .ref yt, .int mk0, .ref yfa, .ref yfe, .int mL, .int mS, .int mM, .ref yro, .ref yhe, .ref ygr, .int mF, .int mC, .int mY, .ref yta, .int (nI (mz)), .int (nI (mf)), .int (nI (mt)), .int mv, .int mw, .ref ywa, .ref ybi, .ref ysi, .ref ynu, .ref ymo])), (ybi, .inl (cI, 4, .inl bi)), (ysi, .inl (cI, 4, .inl sq)), (ynu, .inl (cJ, 160, .inr (.inl n8))), (ymo, .inl (cJ, 40, .inr (.inl m8))), (yt, .inl (cI, 7, .inl mq))] → va_S A s.heap H locs → lv_has ls 7 [(6, .int (nI (i2))), (0, .ref h0), (1, .int 0), (2, .int (nI (y_32))), (3, .int 3), (4, .int (nI (y_33))), (5, .int (nI (y_31)))] → W p l e ({ frames := 2, cells := 0, slots := 0, locals := 45 }) s m ([.ref h0, .int 0, .int (nI (y_32)), .int 3, .int (nI (y_33)), .int (nI (y_31))] : List Value).toArray below meth c H locs 0 0 (MQ below (XQi (fun (r : Int32) (u : (Nat → Int64) × (Nat → Int64) × (Nat → Int32)) => match u with | (nb2, mv2, mq2) => ((r = sp_cr (bi 0) (bi 3) zq zt (nI (y_32)) (nI (y_33)) (nI (y_31)))) ∧ (∀ j, nb2 (120 + j) = sp_cn (bi 0) (bi 3) zq zt (nI (y_32)) (nI (y_33)) (nI (y_31)) (fun k => nb (0 + k)) j (nb (120 + j))) ∧ (∀ j, j < 120 ∨ 160 ≤ j → nb2 j = nb j)) D (fun (u : (Nat → Int64) × (Nat → Int64) × (Nat → Int32)) => match u with | (nb2, mv2, mq2) => [(h0, .inr (9, [.ref ys, .ref yk, .ref yo, .ref yt, .int mk0, .ref yfa, .ref yfe, .int mL, .int mS, .int mM, .ref yro, .ref yhe, .ref ygr, .int mF, .int mC, .int mY, .ref yta, .int (nI (mz)), .int (nI (mf)), .int (nI (mt)), .int mv, .int mw, .ref ywa, .ref ybi, .ref ysi, .ref ynu, .ref ymo])), (ybi, .inl (cI, 4, .inl bi)), (ysi, .inl (cI, 4, .inl sq)), (ynu, .inl (cJ, 160, .inr (.inl nb2))), (ymo, .inl (cJ, 40, .inr (.inl mv2))), (yt, .inl (cI, 7, .inl mq2))]) A) ([.ref h0, .int 0, .int (nI (y_32)), .int 3, .int (nI (y_33)), .int (nI (y_31))] : List Value).toArray s 0 0 A) (F0 m 157 ls []) by
                            exact loop_157 _ 0 nb _ _ _ (Nat.lt_succ_self _) (by omega) (fun j => (if_neg (by omega)).symm) hP hD hS (lv_sub hl [0, 1, 2, 3, 4, 5, 6] rfl)
                          intro n_157
                          induction n_157 with
                          | zero =>
                            intro i2 n8 H locs ls hm_157
                            exact absurd hm_157 (Nat.not_lt_zero _)
                          | succ n_157 ih_157 =>
                            intro i2 n8 H locs ls hm_157 hi2 hn8 hP hD hS hl
                            refine lv_iload hx hb dX9_copy_157 (lv_at hl 0 rfl) ?_
                            refine lv_iload hx hb dX9_copy_159 (lv_at hl 6 rfl) ?_
                            refine lv_icmp_ge (tgt := 192) hx hb dX9_copy_161 (by decide) (fun c_35 => ?_) (fun c_35 => ?_)
                            · skip
                              have nc_35 : y_31 ≤ i2 := xn_le (a := y_31) (b := i2) (by omega) (by omega) c_35
                              refine lv_iload hx hb dX9_copy_192 (lv_at hl 6 rfl) ?_
                              have hn7 : ∀ j, n8 j = if 120 + y_33 ≤ j ∧ j < 120 + y_33 + y_31 then m8 (j - (120 + y_33)) else nb j := fun j => by rw [hn8 j, show i2 = y_31 by omega]
                              have hm7 : ∀ j, j < y_31 → m8 j = nb (0 + y_32 + j) := fun j hj => hm8 j (by omega)
                              exact W.iret (v := nI (y_31)) hx hb hr (fun t ht hW => ⟨⟨nI (y_31), (n8, m8, mq), rfl, ⟨(sp_cr4 c_11 c_14 c_15 (sp_nspan (by omega) (by omega)) (sp_nspan (by omega) (by omega))), (fun j9 => sp_c1 (K := 120) (M := 0) (by omega) (by omega) c_11 c_14 c_15 (by omega) (by omega) (fun i9 => sp_mv3 hn7 hm7 rfl rfl)), (fun j9 hj9 => by rw [hn7 j9, if_neg (by omega)])⟩, by rw [ht]; exact hP.sub [0, 1, 2, 3, 4, 5] rfl, hD.sub [0, 1, 2, 3, 4, 5] (by decide +kernel) rfl⟩, hS.F ht⟩) hS.2.2 dX9_copy_194 hlk
                            · skip
                              have nc_35 : i2 < y_31 := xn_nle (a := y_31) (b := i2) (by omega) (by omega) c_35
                              refine lv_aload_n hx hb dX9_copy_164 rfl (lv_at hl 1 rfl) ?_
                              refine xg hF kf_X9_49 hK hP 0 rfl rfl dX9_copy_165 ?_
                              refine lv_bipush (v := 40) hx hb dX9_copy_168 (by decide) ?_
                              refine lv_iload_n hx hb dX9_copy_170 rfl (lv_at hl 4 rfl) ?_
                              refine lv_imul hx hb dX9_copy_171 ?_
                              refine xl_i (y := 120) (by decide) ?_
                              refine lv_iload hx hb dX9_copy_172 (lv_at hl 5 rfl) ?_
                              refine lv_iadd hx hb dX9_copy_174 ?_
                              refine xl_i (y := nI (120 + y_33)) (nI_add 120 y_33) ?_
                              refine lv_iload hx hb dX9_copy_175 (lv_at hl 0 rfl) ?_
                              refine lv_iadd hx hb dX9_copy_177 ?_
                              refine xl_i (y := nI (120 + y_33 + i2)) (nI_add (120 + y_33) i2) ?_
                              refine lv_aload_n hx hb dX9_copy_178 rfl (lv_at hl 1 rfl) ?_
                              refine xg hF kf_X9_53 hK hP 0 rfl rfl dX9_copy_179 ?_
                              refine lv_iload hx hb dX9_copy_182 (lv_at hl 0 rfl) ?_
                              refine va_lald hx hb hK hP 4 1 rfl rfl (vp_in_nI (show i2 < 40 by omega) (by decide)) dX9_copy_184 ?_
                              refine xl_l (y := m8 i2) (congrArg m8 (nI_clamp (show i2 < 2 ^ 31 by omega))) ?_
                              refine va_last hx hb hK hP hD hS 3 1 rfl rfl (vp_in_nI (show 120 + y_33 + i2 < 160 by omega) (by decide)) dX9_copy_185 (fun H locs hP hD hS => ?_)
                              rw [nI_clamp (show 120 + y_33 + i2 < 2 ^ 31 by omega)] at hP hD
                              obtain ⟨f_36, ef_36⟩ : ∃ g, g = vp_updL n8 (120 + y_33 + i2) (m8 i2) := ⟨_, rfl⟩
                              rw [← ef_36] at hP hD
                              have hP : va_P D vwCl [(h0, .inr (9, [.ref ys, .ref yk, .ref yo, .ref yt, .int mk0, .ref yfa, .ref yfe, .int mL, .int mS, .int mM, .ref yro, .ref yhe, .ref ygr, .int mF, .int mC, .int mY, .ref yta, .int (nI (mz)), .int (nI (mf)), .int (nI (mt)), .int mv, .int mw, .ref ywa, .ref ybi, .ref ysi, .ref ynu, .ref ymo])), (ybi, .inl (cI, 4, .inl bi)), (ysi, .inl (cI, 4, .inl sq)), (ynu, .inl (cJ, 160, .inr (.inl f_36))), (ymo, .inl (cJ, 40, .inr (.inl m8))), (yt, .inl (cI, 7, .inl mq))] H := hP
                              have hD : va_D A [(h0, .inr (9, [.ref ys, .ref yk, .ref yo, .ref yt, .int mk0, .ref yfa, .ref yfe, .int mL, .int mS, .int mM, .ref yro, .ref yhe, .ref ygr, .int mF, .int mC, .int mY, .ref yta, .int (nI (mz)), .int (nI (mf)), .int (nI (mt)), .int mv, .int mw, .ref ywa, .ref ybi, .ref ysi, .ref ynu, .ref ymo])), (ybi, .inl (cI, 4, .inl bi)), (ysi, .inl (cI, 4, .inl sq)), (ynu, .inl (cJ, 160, .inr (.inl f_36))), (ymo, .inl (cJ, 40, .inr (.inl m8))), (yt, .inl (cI, 7, .inl mq))] := hD
                              refine lv_iinc (v := nI (i2 + 1)) (lv' := [(6, .int (nI (i2 + 1))), (0, .ref h0), (1, .int 0), (2, .int (nI (y_32))), (3, .int 3), (4, .int (nI (y_33))), (5, .int (nI (y_31)))]) hx hb dX9_copy_186 hl (k := 0) rfl (nI_1 (i2)) (by decide) rfl (fun ls hl => ?_)
                              refine lv_goto (tgt := 157) hx hb dX9_copy_189 (by decide) ?_
                              exact ih_157 (i2 + 1) f_36 _ _ _ (by omega) (by omega) (sp_mv2 hn8 ef_36) (hP.sub [0, 1, 2, 3, 4, 5] rfl) (hD.sub [0, 1, 2, 3, 4, 5] (by decide +kernel) rfl) hS (lv_sub hl [0, 1, 2, 3, 4, 5, 6] rfl)
                        · skip
                          have nc_34 : i < y_31 := xn_nle (a := y_31) (b := i) (by omega) (by omega) c_34
                          refine lv_aload_n hx hb dX9_copy_127 rfl (lv_at hl 1 rfl) ?_
                          refine xg hF kf_X9_53 hK hP 0 rfl rfl dX9_copy_128 ?_
                          refine lv_iload hx hb dX9_copy_131 (lv_at hl 0 rfl) ?_
                          refine lv_aload_n hx hb dX9_copy_133 rfl (lv_at hl 1 rfl) ?_
                          refine xg hF kf_X9_49 hK hP 0 rfl rfl dX9_copy_134 ?_
                          refine lv_bipush (v := 40) hx hb dX9_copy_137 (by decide) ?_
                          refine lv_iload_n hx hb dX9_copy_139 rfl (lv_at hl 2 rfl) ?_
                          refine lv_imul hx hb dX9_copy_140 ?_
                          refine xl_i (y := 0) (by decide) ?_
                          refine lv_iload_n hx hb dX9_copy_141 rfl (lv_at hl 3 rfl) ?_
                          refine lv_iadd hx hb dX9_copy_142 ?_
                          refine xl_i (y := nI (0 + y_32)) (nI_add 0 y_32) ?_
                          refine lv_iload hx hb dX9_copy_143 (lv_at hl 0 rfl) ?_
                          refine lv_iadd hx hb dX9_copy_145 ?_
                          refine xl_i (y := nI (0 + y_32 + i)) (nI_add (0 + y_32) i) ?_
                          refine va_lald hx hb hK hP 3 1 rfl rfl (vp_in_nI (show 0 + y_32 + i < 160 by omega) (by decide)) dX9_copy_146 ?_
                          refine xl_l (y := nb (0 + y_32 + i)) (congrArg nb (nI_clamp (show 0 + y_32 + i < 2 ^ 31 by omega))) ?_
                          refine va_last hx hb hK hP hD hS 4 1 rfl rfl (vp_in_nI (show i < 40 by omega) (by decide)) dX9_copy_147 (fun H locs hP hD hS => ?_)
                          rw [nI_clamp (show i < 2 ^ 31 by omega)] at hP hD
                          obtain ⟨f_37, ef_37⟩ : ∃ g, g = vp_updL m8 i (nb (0 + y_32 + i)) := ⟨_, rfl⟩
                          rw [← ef_37] at hP hD
                          have hP : va_P D vwCl [(h0, .inr (9, [.ref ys, .ref yk, .ref yo, .ref yt, .int mk0, .ref yfa, .ref yfe, .int mL, .int mS, .int mM, .ref yro, .ref yhe, .ref ygr, .int mF, .int mC, .int mY, .ref yta, .int (nI (mz)), .int (nI (mf)), .int (nI (mt)), .int mv, .int mw, .ref ywa, .ref ybi, .ref ysi, .ref ynu, .ref ymo])), (ybi, .inl (cI, 4, .inl bi)), (ysi, .inl (cI, 4, .inl sq)), (ynu, .inl (cJ, 160, .inr (.inl nb))), (ymo, .inl (cJ, 40, .inr (.inl f_37))), (yt, .inl (cI, 7, .inl mq))] H := hP
                          have hD : va_D A [(h0, .inr (9, [.ref ys, .ref yk, .ref yo, .ref yt, .int mk0, .ref yfa, .ref yfe, .int mL, .int mS, .int mM, .ref yro, .ref yhe, .ref ygr, .int mF, .int mC, .int mY, .ref yta, .int (nI (mz)), .int (nI (mf)), .int (nI (mt)), .int mv, .int mw, .ref ywa, .ref ybi, .ref ysi, .ref ynu, .ref ymo])), (ybi, .inl (cI, 4, .inl bi)), (ysi, .inl (cI, 4, .inl sq)), (ynu, .inl (cJ, 160, .inr (.inl nb))), (ymo, .inl (cJ, 40, .inr (.inl f_37))), (yt, .inl (cI, 7, .inl mq))] := hD
                          refine lv_iinc (v := nI (i + 1)) (lv' := [(6, .int (nI (i + 1))), (0, .ref h0), (1, .int 0), (2, .int (nI (y_32))), (3, .int 3), (4, .int (nI (y_33))), (5, .int (nI (y_31)))]) hx hb dX9_copy_148 hl (k := 0) rfl (nI_1 (i)) (by decide) rfl (fun ls hl => ?_)
                          refine lv_goto (tgt := 120) hx hb dX9_copy_151 (by decide) ?_
                          exact ih_120 (i + 1) f_37 _ _ _ (by omega) (by omega) (sp_mv1 hm8 ef_37) (hP.sub [0, 1, 2, 3, 4, 5] rfl) (hD.sub [0, 1, 2, 3, 4, 5] (by decide +kernel) rfl) hS (lv_sub hl [0, 1, 2, 3, 4, 5, 6] rfl)
                    · skip
                      refine lv_aload_n hx hb dX9_copy_110 rfl (lv_at hl 0 rfl) ?_
                      refine lv_ldc (v := (-1000000001)) hx hb hown (hu _ uw648) dX9_copy_111 ?_
                      refine xc_Vi (wr := [(ybi, .inl (cI, 4, .inl bi)), (ysi, .inl (cI, 4, .inl sq)), (ynu, .inl (cJ, 160, .inr (.inl nb))), (ymo, .inl (cJ, 40, .inr (.inl mv9)))]) hF (c_X9_finds_B l D cI cJ cZ cS ta sa sv s.heap.size h0 ys yk yo yt mk0 yfa yfe mL mS mM yro yhe ygr mF mC mY yta mz mf mt mv mw ywa ybi ysi ynu ymo mq ) kv_X9_70 ⟨rfl, rfl, Nat.le_of_ble_eq_true rfl, Nat.le_of_ble_eq_true rfl⟩ ⟨Nat.le_of_ble_eq_true rfl, Nat.le_of_ble_eq_true rfl⟩ hK hN hZ hP hD hS hA [0, 5] [1, 2, 3, 4] rfl rfl rfl rfl (by decide) 0 rfl rfl rfl rfl hl.1 rfl (Nat.le_of_ble_eq_true rfl) dX9_copy_113 (fun r_38 u_r_38 H locs hw_r_38 hP hD hS => ?_)
                      obtain ⟨mq2_39, rfl⟩ : ∃ z, z = u_r_38 := ⟨_, rfl⟩
                      try dsimp only at hw_r_38
                      have hP : va_P D vwCl [(ybi, .inl (cI, 4, .inl bi)), (ysi, .inl (cI, 4, .inl sq)), (ynu, .inl (cJ, 160, .inr (.inl nb))), (ymo, .inl (cJ, 40, .inr (.inl mv9))), (h0, .inr (9, [.ref ys, .ref yk, .ref yo, .ref yt, .int mk0, .ref yfa, .ref yfe, .int mL, .int mS, .int mM, .ref yro, .ref yhe, .ref ygr, .int mF, .int mC, .int mY, .ref yta, .int (nI (mz)), .int (nI (mf)), .int (nI (mt)), .int mv, .int mw, .ref ywa, .ref ybi, .ref ysi, .ref ynu, .ref ymo])), (yt, .inl (cI, 7, .inl mq2_39))] H := hP
                      have hD : va_D A [(ybi, .inl (cI, 4, .inl bi)), (ysi, .inl (cI, 4, .inl sq)), (ynu, .inl (cJ, 160, .inr (.inl nb))), (ymo, .inl (cJ, 40, .inr (.inl mv9))), (h0, .inr (9, [.ref ys, .ref yk, .ref yo, .ref yt, .int mk0, .ref yfa, .ref yfe, .int mL, .int mS, .int mM, .ref yro, .ref yhe, .ref ygr, .int mF, .int mC, .int mY, .ref yta, .int (nI (mz)), .int (nI (mf)), .int (nI (mt)), .int mv, .int mw, .ref ywa, .ref ybi, .ref ysi, .ref ynu, .ref ymo])), (yt, .inl (cI, 7, .inl mq2_39))] := hD
                      subst hw_r_38
                      exact W.iret (v := (-1000000001)) hx hb hr (fun t ht hW => ⟨⟨(-1000000001), (nb, mv9, mq2_39), rfl, ⟨(sp_cr3 c_11 c_14 c_15 (fun q => (sp_s5 hzt c_19 c_22 ex_29 (xlt c_30)) q.2)), (fun j => sp_c0 (fun h => (sp_s5 hzt c_19 c_22 ex_29 (xlt c_30)) h.2.2.2.2)), (fun _ _ => rfl)⟩, by rw [ht]; exact hP.sub [4, 0, 1, 2, 3, 5] rfl, hD.sub [4, 0, 1, 2, 3, 5] (by decide +kernel) rfl⟩, hS.F ht⟩) hS.2.2 dX9_copy_116 hlk
          · skip
            refine lv_aload_n hx hb dX9_copy_62 rfl (lv_at hl 0 rfl) ?_
            refine lv_ldc (v := (-1000000003)) hx hb hown (hu _ uw765) dX9_copy_63 ?_
            refine xc_Vi (wr := [(ybi, .inl (cI, 4, .inl bi)), (ysi, .inl (cI, 4, .inl sq)), (ynu, .inl (cJ, 160, .inr (.inl nb))), (ymo, .inl (cJ, 40, .inr (.inl mv9)))]) hF (c_X9_finds_K l D cI cJ cZ cS ta sa sv s.heap.size h0 ys yk yo yt mk0 yfa yfe mL mS mM yro yhe ygr mF mC mY yta mz mf mt mv mw ywa ybi ysi ynu ymo mq ) kv_X9_70 ⟨rfl, rfl, Nat.le_of_ble_eq_true rfl, Nat.le_of_ble_eq_true rfl⟩ ⟨Nat.le_of_ble_eq_true rfl, Nat.le_of_ble_eq_true rfl⟩ hK hN hZ hP hD hS hA [0, 5] [1, 2, 3, 4] rfl rfl rfl rfl (by decide) 0 rfl rfl rfl rfl hl.1 rfl (Nat.le_of_ble_eq_true rfl) dX9_copy_65 (fun r_40 u_r_40 H locs hw_r_40 hP hD hS => ?_)
            obtain ⟨mq2_41, rfl⟩ : ∃ z, z = u_r_40 := ⟨_, rfl⟩
            try dsimp only at hw_r_40
            have hP : va_P D vwCl [(ybi, .inl (cI, 4, .inl bi)), (ysi, .inl (cI, 4, .inl sq)), (ynu, .inl (cJ, 160, .inr (.inl nb))), (ymo, .inl (cJ, 40, .inr (.inl mv9))), (h0, .inr (9, [.ref ys, .ref yk, .ref yo, .ref yt, .int mk0, .ref yfa, .ref yfe, .int mL, .int mS, .int mM, .ref yro, .ref yhe, .ref ygr, .int mF, .int mC, .int mY, .ref yta, .int (nI (mz)), .int (nI (mf)), .int (nI (mt)), .int mv, .int mw, .ref ywa, .ref ybi, .ref ysi, .ref ynu, .ref ymo])), (yt, .inl (cI, 7, .inl mq2_41))] H := hP
            have hD : va_D A [(ybi, .inl (cI, 4, .inl bi)), (ysi, .inl (cI, 4, .inl sq)), (ynu, .inl (cJ, 160, .inr (.inl nb))), (ymo, .inl (cJ, 40, .inr (.inl mv9))), (h0, .inr (9, [.ref ys, .ref yk, .ref yo, .ref yt, .int mk0, .ref yfa, .ref yfe, .int mL, .int mS, .int mM, .ref yro, .ref yhe, .ref ygr, .int mF, .int mC, .int mY, .ref yta, .int (nI (mz)), .int (nI (mf)), .int (nI (mt)), .int mv, .int mw, .ref ywa, .ref ybi, .ref ysi, .ref ynu, .ref ymo])), (yt, .inl (cI, 7, .inl mq2_41))] := hD
            subst hw_r_40
            exact W.iret (v := (-1000000003)) hx hb hr (fun t ht hW => ⟨⟨(-1000000003), (nb, mv9, mq2_41), rfl, ⟨(sp_cr2 c_11 c_14 c_15), (fun j => sp_c0 (fun h => absurd h.2.2.1 c_15)), (fun _ _ => rfl)⟩, by rw [ht]; exact hP.sub [4, 0, 1, 2, 3, 5] rfl, hD.sub [4, 0, 1, 2, 3, 5] (by decide +kernel) rfl⟩, hS.F ht⟩) hS.2.2 dX9_copy_68 hlk
        · skip
          refine lv_aload_n hx hb dX9_copy_39 rfl (lv_at hl 0 rfl) ?_
          refine lv_ldcw (v := (-1000000006)) hx hb hown (hu _ uw910) dX9_copy_40 ?_
          refine xc_Vi (wr := [(ybi, .inl (cI, 4, .inl bi)), (ysi, .inl (cI, 4, .inl sq)), (ynu, .inl (cJ, 160, .inr (.inl nb))), (ymo, .inl (cJ, 40, .inr (.inl mv9)))]) hF (c_X9_finds_M l D cI cJ cZ cS ta sa sv s.heap.size h0 ys yk yo yt mk0 yfa yfe mL mS mM yro yhe ygr mF mC mY yta mz mf mt mv mw ywa ybi ysi ynu ymo mq ) kv_X9_70 ⟨rfl, rfl, Nat.le_of_ble_eq_true rfl, Nat.le_of_ble_eq_true rfl⟩ ⟨Nat.le_of_ble_eq_true rfl, Nat.le_of_ble_eq_true rfl⟩ hK hN hZ hP hD hS hA [0, 5] [1, 2, 3, 4] rfl rfl rfl rfl (by decide) 0 rfl rfl rfl rfl hl.1 rfl (Nat.le_of_ble_eq_true rfl) dX9_copy_43 (fun r_42 u_r_42 H locs hw_r_42 hP hD hS => ?_)
          obtain ⟨mq2_43, rfl⟩ : ∃ z, z = u_r_42 := ⟨_, rfl⟩
          try dsimp only at hw_r_42
          have hP : va_P D vwCl [(ybi, .inl (cI, 4, .inl bi)), (ysi, .inl (cI, 4, .inl sq)), (ynu, .inl (cJ, 160, .inr (.inl nb))), (ymo, .inl (cJ, 40, .inr (.inl mv9))), (h0, .inr (9, [.ref ys, .ref yk, .ref yo, .ref yt, .int mk0, .ref yfa, .ref yfe, .int mL, .int mS, .int mM, .ref yro, .ref yhe, .ref ygr, .int mF, .int mC, .int mY, .ref yta, .int (nI (mz)), .int (nI (mf)), .int (nI (mt)), .int mv, .int mw, .ref ywa, .ref ybi, .ref ysi, .ref ynu, .ref ymo])), (yt, .inl (cI, 7, .inl mq2_43))] H := hP
          have hD : va_D A [(ybi, .inl (cI, 4, .inl bi)), (ysi, .inl (cI, 4, .inl sq)), (ynu, .inl (cJ, 160, .inr (.inl nb))), (ymo, .inl (cJ, 40, .inr (.inl mv9))), (h0, .inr (9, [.ref ys, .ref yk, .ref yo, .ref yt, .int mk0, .ref yfa, .ref yfe, .int mL, .int mS, .int mM, .ref yro, .ref yhe, .ref ygr, .int mF, .int mC, .int mY, .ref yta, .int (nI (mz)), .int (nI (mf)), .int (nI (mt)), .int mv, .int mw, .ref ywa, .ref ybi, .ref ysi, .ref ynu, .ref ymo])), (yt, .inl (cI, 7, .inl mq2_43))] := hD
          subst hw_r_42
          exact W.iret (v := (-1000000006)) hx hb hr (fun t ht hW => ⟨⟨(-1000000006), (nb, mv9, mq2_43), rfl, ⟨(sp_cr1 (Or.inr c_14)), (fun j => sp_c0 (fun h => h.2.1 c_14)), (fun _ _ => rfl)⟩, by rw [ht]; exact hP.sub [4, 0, 1, 2, 3, 5] rfl, hD.sub [4, 0, 1, 2, 3, 5] (by decide +kernel) rfl⟩, hS.F ht⟩) hS.2.2 dX9_copy_46 hlk
    · exact absurd h_9 (by decide)
  · exact absurd h_4 (by decide)
set_option maxHeartbeats 4000000 in
set_option maxRecDepth 100000 in
theorem c_X9_copy_10 (l : Launch) (D : va_G) (cI cJ cZ cS : ClassId) (ta : Nat) (sa sv : Nat → Nat) (sz : Nat) (h0 : Nat) (ys : Nat) (yk : Nat) (yo : Nat) (yt : Nat) (mk0 : Int32) (yfa : Nat) (yfe : Nat) (mL : Int32) (mS : Int32) (mM : Int32) (yro : Nat) (yhe : Nat) (ygr : Nat) (mF : Int32) (mC : Int32) (mY : Int32) (yta : Nat) (mz : Nat) (mf : Nat) (mt : Nat) (mv : Int32) (mw : Int32) (ywa : Nat) (ybi : Nat) (ysi : Nat) (ynu : Nat) (ymo : Nat) (bi : Nat → Int32) (sq : Nat → Int32) (nb : Nat → Int64) (mv9 : Nat → Int64) (mq : Nat → Int32) (p1 : Int32) (p3 : Int32) (p4 : Int32) (zq : Nat) (zt : Nat) (ez : sq 1 = nI zq) (hzq : zq ≤ 40) (et : sq 0 = nI zt) (hzt : zt ≤ 40) (hsq : BA 4 41 sq) : Met l yX9_copy (Cond.code yX9_copy cX9_copy 7 (some .int) :: wsU) ({ frames := 2, cells := 0, slots := 0, locals := 45 }) (va_Pc [.ref h0, .int 1, .int p1, .int 0, .int p3, .int p4] (XW D (xT cI cJ cZ cS) ta sa sv [(h0, .inr (9, [.ref ys, .ref yk, .ref yo, .ref yt, .int mk0, .ref yfa, .ref yfe, .int mL, .int mS, .int mM, .ref yro, .ref yhe, .ref ygr, .int mF, .int mC, .int mY, .ref yta, .int (nI (mz)), .int (nI (mf)), .int (nI (mt)), .int mv, .int mw, .ref ywa, .ref ybi, .ref ysi, .ref ynu, .ref ymo])), (ybi, .inl (cI, 4, .inl bi)), (ysi, .inl (cI, 4, .inl sq)), (ynu, .inl (cJ, 160, .inr (.inl nb))), (ymo, .inl (cJ, 40, .inr (.inl mv9))), (yt, .inl (cI, 7, .inl mq))] sz)) (XQi (fun (r : Int32) (u : (Nat → Int64) × (Nat → Int64) × (Nat → Int32)) => match u with | (nb2, mv2, mq2) => ((r = sp_cr (bi 1) (bi 0) zq zt p1 p3 p4)) ∧ (∀ j, nb2 (0 + j) = sp_cn (bi 1) (bi 0) zq zt p1 p3 p4 (fun k => nb (40 + k)) j (nb (0 + j))) ∧ (∀ j, j < 0 ∨ 40 ≤ j → nb2 j = nb j)) D (fun (u : (Nat → Int64) × (Nat → Int64) × (Nat → Int32)) => match u with | (nb2, mv2, mq2) => [(h0, .inr (9, [.ref ys, .ref yk, .ref yo, .ref yt, .int mk0, .ref yfa, .ref yfe, .int mL, .int mS, .int mM, .ref yro, .ref yhe, .ref ygr, .int mF, .int mC, .int mY, .ref yta, .int (nI (mz)), .int (nI (mf)), .int (nI (mt)), .int mv, .int mw, .ref ywa, .ref ybi, .ref ysi, .ref ynu, .ref ymo])), (ybi, .inl (cI, 4, .inl bi)), (ysi, .inl (cI, 4, .inl sq)), (ynu, .inl (cJ, 160, .inr (.inl nb2))), (ymo, .inl (cJ, 40, .inr (.inl mv2))), (yt, .inl (cI, 7, .inl mq2))]) (va_A [(h0, .inr (9, [.ref ys, .ref yk, .ref yo, .ref yt, .int mk0, .ref yfa, .ref yfe, .int mL, .int mS, .int mM, .ref yro, .ref yhe, .ref ygr, .int mF, .int mC, .int mY, .ref yta, .int (nI (mz)), .int (nI (mf)), .int (nI (mt)), .int mv, .int mw, .ref ywa, .ref ybi, .ref ysi, .ref ynu, .ref ymo])), (ybi, .inl (cI, 4, .inl bi)), (ysi, .inl (cI, 4, .inl sq)), (ynu, .inl (cJ, 160, .inr (.inl nb))), (ymo, .inl (cJ, 40, .inr (.inl mv9))), (yt, .inl (cI, 7, .inl mq))] sz)) 0 0 (va_A [(h0, .inr (9, [.ref ys, .ref yk, .ref yo, .ref yt, .int mk0, .ref yfa, .ref yfe, .int mL, .int mS, .int mM, .ref yro, .ref yhe, .ref ygr, .int mF, .int mC, .int mY, .ref yta, .int (nI (mz)), .int (nI (mf)), .int (nI (mt)), .int mv, .int mw, .ref ywa, .ref ybi, .ref ysi, .ref ynu, .ref ymo])), (ybi, .inl (cI, 4, .inl bi)), (ysi, .inl (cI, 4, .inl sq)), (ynu, .inl (cJ, 160, .inr (.inl nb))), (ymo, .inl (cJ, 40, .inr (.inl mv9))), (yt, .inl (cI, 7, .inl mq))] sz) := by
  refine xh (QA := fun A => XQi (fun (r : Int32) (u : (Nat → Int64) × (Nat → Int64) × (Nat → Int32)) => match u with | (nb2, mv2, mq2) => ((r = sp_cr (bi 1) (bi 0) zq zt p1 p3 p4)) ∧ (∀ j, nb2 (0 + j) = sp_cn (bi 1) (bi 0) zq zt p1 p3 p4 (fun k => nb (40 + k)) j (nb (0 + j))) ∧ (∀ j, j < 0 ∨ 40 ≤ j → nb2 j = nb j)) D (fun (u : (Nat → Int64) × (Nat → Int64) × (Nat → Int32)) => match u with | (nb2, mv2, mq2) => [(h0, .inr (9, [.ref ys, .ref yk, .ref yo, .ref yt, .int mk0, .ref yfa, .ref yfe, .int mL, .int mS, .int mM, .ref yro, .ref yhe, .ref ygr, .int mF, .int mC, .int mY, .ref yta, .int (nI (mz)), .int (nI (mf)), .int (nI (mt)), .int mv, .int mw, .ref ywa, .ref ybi, .ref ysi, .ref ynu, .ref ymo])), (ybi, .inl (cI, 4, .inl bi)), (ysi, .inl (cI, 4, .inl sq)), (ynu, .inl (cJ, 160, .inr (.inl nb2))), (ymo, .inl (cJ, 40, .inr (.inl mv2))), (yt, .inl (cI, 7, .inl mq2))]) A) (fr := fun A => A) (by decide) (Nat.le_of_ble_eq_true rfl) ?_
  intro p e s m below meth c ls A hF hr hlk hin hsz hP hK hD hN hZ hA hS hl
  have hF : CallFix p m c cX9_copy 7 s _ _ RX9 := hF
  have hx := hF.1
  have hb := hF.2.1
  have hml := hF.2.2.1
  have hown := hF.2.2.2.1
  have hu : ∀ w ∈ wsU, w.before _ s = true := fun w h => hF.2.2.2.2 w (List.mem_cons_of_mem _ h)
  have hl : lv_has ls 7 [(0, .ref h0), (1, .int 1), (2, .int p1), (3, .int 0), (4, .int p3), (5, .int p4)] := hl
  refine lv_iload_n hx hb dX9_copy_0 rfl (lv_at hl 1 rfl) ?_
  refine xc_Sr hF (c_X9_isOne l D cI cJ cZ cS ta sa sv s.heap.size 1 ) ks_X9_305 ⟨rfl, rfl, Nat.le_of_ble_eq_true rfl, Nat.le_of_ble_eq_true rfl⟩ ⟨Nat.le_of_ble_eq_true rfl, Nat.le_of_ble_eq_true rfl⟩ hK hN hZ hP hD hS hA [] rfl rfl rfl hl.1 rfl (Nat.le_of_ble_eq_true rfl) dX9_copy_1 (fun r_1 hw_r_1 => ?_)
  rcases hw_r_1 with ⟨rfl, h_2, h_3⟩ | ⟨rfl, h_4⟩
  · skip
    refine lv_if_eq (tgt := 14) hx hb dX9_copy_4 (by decide) (fun c_5 => absurd c_5 (by decide)) (fun c_5 => ?_)
    refine lv_iload_n hx hb dX9_copy_7 rfl (lv_at hl 3 rfl) ?_
    refine xc_Sr hF (c_X9_isOne l D cI cJ cZ cS ta sa sv s.heap.size 0 ) ks_X9_305 ⟨rfl, rfl, Nat.le_of_ble_eq_true rfl, Nat.le_of_ble_eq_true rfl⟩ ⟨Nat.le_of_ble_eq_true rfl, Nat.le_of_ble_eq_true rfl⟩ hK hN hZ hP hD hS hA [] rfl rfl rfl hl.1 rfl (Nat.le_of_ble_eq_true rfl) dX9_copy_8 (fun r_6 hw_r_6 => ?_)
    rcases hw_r_6 with ⟨rfl, h_7, h_8⟩ | ⟨rfl, h_9⟩
    · skip
      refine lv_if_ne (tgt := 21) hx hb dX9_copy_11 (by decide) (fun c_10 => ?_) (fun c_10 => absurd c_10 (by decide))
      refine lv_aload_n hx hb dX9_copy_21 rfl (lv_at hl 0 rfl) ?_
      refine xg hF kf_X9_43 hK hP 0 rfl rfl dX9_copy_22 ?_
      refine lv_iload_n hx hb dX9_copy_25 rfl (lv_at hl 1 rfl) ?_
      refine va_iald hx hb hK hP 1 0 rfl rfl (xin 1 4 (by decide) (by decide)) dX9_copy_26 ?_
      refine xl_i (y := bi 1) (congrArg bi rfl) ?_
      refine lv_if_eq (tgt := 39) hx hb dX9_copy_27 (by decide) (fun c_11 => ?_) (fun c_11 => ?_)
      · skip
        refine lv_aload_n hx hb dX9_copy_39 rfl (lv_at hl 0 rfl) ?_
        refine lv_ldcw (v := (-1000000006)) hx hb hown (hu _ uw910) dX9_copy_40 ?_
        refine xc_Vi (wr := [(ybi, .inl (cI, 4, .inl bi)), (ysi, .inl (cI, 4, .inl sq)), (ynu, .inl (cJ, 160, .inr (.inl nb))), (ymo, .inl (cJ, 40, .inr (.inl mv9)))]) hF (c_X9_finds_M l D cI cJ cZ cS ta sa sv s.heap.size h0 ys yk yo yt mk0 yfa yfe mL mS mM yro yhe ygr mF mC mY yta mz mf mt mv mw ywa ybi ysi ynu ymo mq ) kv_X9_70 ⟨rfl, rfl, Nat.le_of_ble_eq_true rfl, Nat.le_of_ble_eq_true rfl⟩ ⟨Nat.le_of_ble_eq_true rfl, Nat.le_of_ble_eq_true rfl⟩ hK hN hZ hP hD hS hA [0, 5] [1, 2, 3, 4] rfl rfl rfl rfl (by decide) 0 rfl rfl rfl rfl hl.1 rfl (Nat.le_of_ble_eq_true rfl) dX9_copy_43 (fun r_12 u_r_12 H locs hw_r_12 hP hD hS => ?_)
        obtain ⟨mq2_13, rfl⟩ : ∃ z, z = u_r_12 := ⟨_, rfl⟩
        try dsimp only at hw_r_12
        have hP : va_P D vwCl [(ybi, .inl (cI, 4, .inl bi)), (ysi, .inl (cI, 4, .inl sq)), (ynu, .inl (cJ, 160, .inr (.inl nb))), (ymo, .inl (cJ, 40, .inr (.inl mv9))), (h0, .inr (9, [.ref ys, .ref yk, .ref yo, .ref yt, .int mk0, .ref yfa, .ref yfe, .int mL, .int mS, .int mM, .ref yro, .ref yhe, .ref ygr, .int mF, .int mC, .int mY, .ref yta, .int (nI (mz)), .int (nI (mf)), .int (nI (mt)), .int mv, .int mw, .ref ywa, .ref ybi, .ref ysi, .ref ynu, .ref ymo])), (yt, .inl (cI, 7, .inl mq2_13))] H := hP
        have hD : va_D A [(ybi, .inl (cI, 4, .inl bi)), (ysi, .inl (cI, 4, .inl sq)), (ynu, .inl (cJ, 160, .inr (.inl nb))), (ymo, .inl (cJ, 40, .inr (.inl mv9))), (h0, .inr (9, [.ref ys, .ref yk, .ref yo, .ref yt, .int mk0, .ref yfa, .ref yfe, .int mL, .int mS, .int mM, .ref yro, .ref yhe, .ref ygr, .int mF, .int mC, .int mY, .ref yta, .int (nI (mz)), .int (nI (mf)), .int (nI (mt)), .int mv, .int mw, .ref ywa, .ref ybi, .ref ysi, .ref ynu, .ref ymo])), (yt, .inl (cI, 7, .inl mq2_13))] := hD
        subst hw_r_12
        exact W.iret (v := (-1000000006)) hx hb hr (fun t ht hW => ⟨⟨(-1000000006), (nb, mv9, mq2_13), rfl, ⟨(sp_cr1 (Or.inl c_11)), (fun j => sp_c0 (fun h => h.1 c_11)), (fun _ _ => rfl)⟩, by rw [ht]; exact hP.sub [4, 0, 1, 2, 3, 5] rfl, hD.sub [4, 0, 1, 2, 3, 5] (by decide +kernel) rfl⟩, hS.F ht⟩) hS.2.2 dX9_copy_46 hlk
      · skip
        refine lv_aload_n hx hb dX9_copy_30 rfl (lv_at hl 0 rfl) ?_
        refine xg hF kf_X9_43 hK hP 0 rfl rfl dX9_copy_31 ?_
        refine lv_iload_n hx hb dX9_copy_34 rfl (lv_at hl 3 rfl) ?_
        refine va_iald hx hb hK hP 1 0 rfl rfl (xin 0 4 (by decide) (by decide)) dX9_copy_35 ?_
        refine xl_i (y := bi 0) (congrArg bi rfl) ?_
        refine lv_if_ne (tgt := 47) hx hb dX9_copy_36 (by decide) (fun c_14 => ?_) (fun c_14 => ?_)
        · skip
          refine lv_aload_n hx hb dX9_copy_47 rfl (lv_at hl 0 rfl) ?_
          refine xg hF kf_X9_43 hK hP 0 rfl rfl dX9_copy_48 ?_
          refine lv_iload_n hx hb dX9_copy_51 rfl (lv_at hl 1 rfl) ?_
          refine va_iald hx hb hK hP 1 0 rfl rfl (xin 1 4 (by decide) (by decide)) dX9_copy_52 ?_
          refine xl_i (y := bi 1) (congrArg bi rfl) ?_
          refine lv_aload_n hx hb dX9_copy_53 rfl (lv_at hl 0 rfl) ?_
          refine xg hF kf_X9_43 hK hP 0 rfl rfl dX9_copy_54 ?_
          refine lv_iload_n hx hb dX9_copy_57 rfl (lv_at hl 3 rfl) ?_
          refine va_iald hx hb hK hP 1 0 rfl rfl (xin 0 4 (by decide) (by decide)) dX9_copy_58 ?_
          refine xl_i (y := bi 0) (congrArg bi rfl) ?_
          refine lv_icmp_eq (tgt := 69) hx hb dX9_copy_59 (by decide) (fun c_15 => ?_) (fun c_15 => ?_)
          · skip
            refine lv_iload_n hx hb dX9_copy_69 rfl (lv_at hl 2 rfl) ?_
            refine lv_if_lt (tgt := 110) hx hb dX9_copy_70 (by decide) (fun c_16 => ?_) (fun c_16 => ?_)
            · skip
              refine lv_aload_n hx hb dX9_copy_110 rfl (lv_at hl 0 rfl) ?_
              refine lv_ldc (v := (-1000000001)) hx hb hown (hu _ uw648) dX9_copy_111 ?_
              refine xc_Vi (wr := [(ybi, .inl (cI, 4, .inl bi)), (ysi, .inl (cI, 4, .inl sq)), (ynu, .inl (cJ, 160, .inr (.inl nb))), (ymo, .inl (cJ, 40, .inr (.inl mv9)))]) hF (c_X9_finds_B l D cI cJ cZ cS ta sa sv s.heap.size h0 ys yk yo yt mk0 yfa yfe mL mS mM yro yhe ygr mF mC mY yta mz mf mt mv mw ywa ybi ysi ynu ymo mq ) kv_X9_70 ⟨rfl, rfl, Nat.le_of_ble_eq_true rfl, Nat.le_of_ble_eq_true rfl⟩ ⟨Nat.le_of_ble_eq_true rfl, Nat.le_of_ble_eq_true rfl⟩ hK hN hZ hP hD hS hA [0, 5] [1, 2, 3, 4] rfl rfl rfl rfl (by decide) 0 rfl rfl rfl rfl hl.1 rfl (Nat.le_of_ble_eq_true rfl) dX9_copy_113 (fun r_17 u_r_17 H locs hw_r_17 hP hD hS => ?_)
              obtain ⟨mq2_18, rfl⟩ : ∃ z, z = u_r_17 := ⟨_, rfl⟩
              try dsimp only at hw_r_17
              have hP : va_P D vwCl [(ybi, .inl (cI, 4, .inl bi)), (ysi, .inl (cI, 4, .inl sq)), (ynu, .inl (cJ, 160, .inr (.inl nb))), (ymo, .inl (cJ, 40, .inr (.inl mv9))), (h0, .inr (9, [.ref ys, .ref yk, .ref yo, .ref yt, .int mk0, .ref yfa, .ref yfe, .int mL, .int mS, .int mM, .ref yro, .ref yhe, .ref ygr, .int mF, .int mC, .int mY, .ref yta, .int (nI (mz)), .int (nI (mf)), .int (nI (mt)), .int mv, .int mw, .ref ywa, .ref ybi, .ref ysi, .ref ynu, .ref ymo])), (yt, .inl (cI, 7, .inl mq2_18))] H := hP
              have hD : va_D A [(ybi, .inl (cI, 4, .inl bi)), (ysi, .inl (cI, 4, .inl sq)), (ynu, .inl (cJ, 160, .inr (.inl nb))), (ymo, .inl (cJ, 40, .inr (.inl mv9))), (h0, .inr (9, [.ref ys, .ref yk, .ref yo, .ref yt, .int mk0, .ref yfa, .ref yfe, .int mL, .int mS, .int mM, .ref yro, .ref yhe, .ref ygr, .int mF, .int mC, .int mY, .ref yta, .int (nI (mz)), .int (nI (mf)), .int (nI (mt)), .int mv, .int mw, .ref ywa, .ref ybi, .ref ysi, .ref ynu, .ref ymo])), (yt, .inl (cI, 7, .inl mq2_18))] := hD
              subst hw_r_17
              exact W.iret (v := (-1000000001)) hx hb hr (fun t ht hW => ⟨⟨(-1000000001), (nb, mv9, mq2_18), rfl, ⟨(sp_cr3 c_11 c_14 c_15 (fun q => (sp_s1 c_16) q.1)), (fun j => sp_c0 (fun h => (sp_s1 c_16) h.2.2.2.1)), (fun _ _ => rfl)⟩, by rw [ht]; exact hP.sub [4, 0, 1, 2, 3, 5] rfl, hD.sub [4, 0, 1, 2, 3, 5] (by decide +kernel) rfl⟩, hS.F ht⟩) hS.2.2 dX9_copy_116 hlk
            · skip
              refine lv_iload hx hb dX9_copy_73 (lv_at hl 4 rfl) ?_
              refine lv_if_lt (tgt := 110) hx hb dX9_copy_75 (by decide) (fun c_19 => ?_) (fun c_19 => ?_)
              · skip
                refine lv_aload_n hx hb dX9_copy_110 rfl (lv_at hl 0 rfl) ?_
                refine lv_ldc (v := (-1000000001)) hx hb hown (hu _ uw648) dX9_copy_111 ?_
                refine xc_Vi (wr := [(ybi, .inl (cI, 4, .inl bi)), (ysi, .inl (cI, 4, .inl sq)), (ynu, .inl (cJ, 160, .inr (.inl nb))), (ymo, .inl (cJ, 40, .inr (.inl mv9)))]) hF (c_X9_finds_B l D cI cJ cZ cS ta sa sv s.heap.size h0 ys yk yo yt mk0 yfa yfe mL mS mM yro yhe ygr mF mC mY yta mz mf mt mv mw ywa ybi ysi ynu ymo mq ) kv_X9_70 ⟨rfl, rfl, Nat.le_of_ble_eq_true rfl, Nat.le_of_ble_eq_true rfl⟩ ⟨Nat.le_of_ble_eq_true rfl, Nat.le_of_ble_eq_true rfl⟩ hK hN hZ hP hD hS hA [0, 5] [1, 2, 3, 4] rfl rfl rfl rfl (by decide) 0 rfl rfl rfl rfl hl.1 rfl (Nat.le_of_ble_eq_true rfl) dX9_copy_113 (fun r_20 u_r_20 H locs hw_r_20 hP hD hS => ?_)
                obtain ⟨mq2_21, rfl⟩ : ∃ z, z = u_r_20 := ⟨_, rfl⟩
                try dsimp only at hw_r_20
                have hP : va_P D vwCl [(ybi, .inl (cI, 4, .inl bi)), (ysi, .inl (cI, 4, .inl sq)), (ynu, .inl (cJ, 160, .inr (.inl nb))), (ymo, .inl (cJ, 40, .inr (.inl mv9))), (h0, .inr (9, [.ref ys, .ref yk, .ref yo, .ref yt, .int mk0, .ref yfa, .ref yfe, .int mL, .int mS, .int mM, .ref yro, .ref yhe, .ref ygr, .int mF, .int mC, .int mY, .ref yta, .int (nI (mz)), .int (nI (mf)), .int (nI (mt)), .int mv, .int mw, .ref ywa, .ref ybi, .ref ysi, .ref ynu, .ref ymo])), (yt, .inl (cI, 7, .inl mq2_21))] H := hP
                have hD : va_D A [(ybi, .inl (cI, 4, .inl bi)), (ysi, .inl (cI, 4, .inl sq)), (ynu, .inl (cJ, 160, .inr (.inl nb))), (ymo, .inl (cJ, 40, .inr (.inl mv9))), (h0, .inr (9, [.ref ys, .ref yk, .ref yo, .ref yt, .int mk0, .ref yfa, .ref yfe, .int mL, .int mS, .int mM, .ref yro, .ref yhe, .ref ygr, .int mF, .int mC, .int mY, .ref yta, .int (nI (mz)), .int (nI (mf)), .int (nI (mt)), .int mv, .int mw, .ref ywa, .ref ybi, .ref ysi, .ref ynu, .ref ymo])), (yt, .inl (cI, 7, .inl mq2_21))] := hD
                subst hw_r_20
                exact W.iret (v := (-1000000001)) hx hb hr (fun t ht hW => ⟨⟨(-1000000001), (nb, mv9, mq2_21), rfl, ⟨(sp_cr3 c_11 c_14 c_15 (fun q => (sp_s1 c_19) q.2)), (fun j => sp_c0 (fun h => (sp_s1 c_19) h.2.2.2.2)), (fun _ _ => rfl)⟩, by rw [ht]; exact hP.sub [4, 0, 1, 2, 3, 5] rfl, hD.sub [4, 0, 1, 2, 3, 5] (by decide +kernel) rfl⟩, hS.F ht⟩) hS.2.2 dX9_copy_116 hlk
              · skip
                refine lv_iload hx hb dX9_copy_78 (lv_at hl 5 rfl) ?_
                refine lv_if_lt (tgt := 110) hx hb dX9_copy_80 (by decide) (fun c_22 => ?_) (fun c_22 => ?_)
                · skip
                  refine lv_aload_n hx hb dX9_copy_110 rfl (lv_at hl 0 rfl) ?_
                  refine lv_ldc (v := (-1000000001)) hx hb hown (hu _ uw648) dX9_copy_111 ?_
                  refine xc_Vi (wr := [(ybi, .inl (cI, 4, .inl bi)), (ysi, .inl (cI, 4, .inl sq)), (ynu, .inl (cJ, 160, .inr (.inl nb))), (ymo, .inl (cJ, 40, .inr (.inl mv9)))]) hF (c_X9_finds_B l D cI cJ cZ cS ta sa sv s.heap.size h0 ys yk yo yt mk0 yfa yfe mL mS mM yro yhe ygr mF mC mY yta mz mf mt mv mw ywa ybi ysi ynu ymo mq ) kv_X9_70 ⟨rfl, rfl, Nat.le_of_ble_eq_true rfl, Nat.le_of_ble_eq_true rfl⟩ ⟨Nat.le_of_ble_eq_true rfl, Nat.le_of_ble_eq_true rfl⟩ hK hN hZ hP hD hS hA [0, 5] [1, 2, 3, 4] rfl rfl rfl rfl (by decide) 0 rfl rfl rfl rfl hl.1 rfl (Nat.le_of_ble_eq_true rfl) dX9_copy_113 (fun r_23 u_r_23 H locs hw_r_23 hP hD hS => ?_)
                  obtain ⟨mq2_24, rfl⟩ : ∃ z, z = u_r_23 := ⟨_, rfl⟩
                  try dsimp only at hw_r_23
                  have hP : va_P D vwCl [(ybi, .inl (cI, 4, .inl bi)), (ysi, .inl (cI, 4, .inl sq)), (ynu, .inl (cJ, 160, .inr (.inl nb))), (ymo, .inl (cJ, 40, .inr (.inl mv9))), (h0, .inr (9, [.ref ys, .ref yk, .ref yo, .ref yt, .int mk0, .ref yfa, .ref yfe, .int mL, .int mS, .int mM, .ref yro, .ref yhe, .ref ygr, .int mF, .int mC, .int mY, .ref yta, .int (nI (mz)), .int (nI (mf)), .int (nI (mt)), .int mv, .int mw, .ref ywa, .ref ybi, .ref ysi, .ref ynu, .ref ymo])), (yt, .inl (cI, 7, .inl mq2_24))] H := hP
                  have hD : va_D A [(ybi, .inl (cI, 4, .inl bi)), (ysi, .inl (cI, 4, .inl sq)), (ynu, .inl (cJ, 160, .inr (.inl nb))), (ymo, .inl (cJ, 40, .inr (.inl mv9))), (h0, .inr (9, [.ref ys, .ref yk, .ref yo, .ref yt, .int mk0, .ref yfa, .ref yfe, .int mL, .int mS, .int mM, .ref yro, .ref yhe, .ref ygr, .int mF, .int mC, .int mY, .ref yta, .int (nI (mz)), .int (nI (mf)), .int (nI (mt)), .int mv, .int mw, .ref ywa, .ref ybi, .ref ysi, .ref ynu, .ref ymo])), (yt, .inl (cI, 7, .inl mq2_24))] := hD
                  subst hw_r_23
                  exact W.iret (v := (-1000000001)) hx hb hr (fun t ht hW => ⟨⟨(-1000000001), (nb, mv9, mq2_24), rfl, ⟨(sp_cr3 c_11 c_14 c_15 (fun q => (sp_s2 c_22) q.1)), (fun j => sp_c0 (fun h => (sp_s2 c_22) h.2.2.2.1)), (fun _ _ => rfl)⟩, by rw [ht]; exact hP.sub [4, 0, 1, 2, 3, 5] rfl, hD.sub [4, 0, 1, 2, 3, 5] (by decide +kernel) rfl⟩, hS.F ht⟩) hS.2.2 dX9_copy_116 hlk
                · skip
                  refine lv_iload hx hb dX9_copy_83 (lv_at hl 5 rfl) ?_
                  refine lv_aload_n hx hb dX9_copy_85 rfl (lv_at hl 0 rfl) ?_
                  refine xg hF kf_X9_46 hK hP 0 rfl rfl dX9_copy_86 ?_
                  refine lv_iload_n hx hb dX9_copy_89 rfl (lv_at hl 1 rfl) ?_
                  refine va_iald hx hb hK hP 2 0 rfl rfl (xin 1 4 (by decide) (by decide)) dX9_copy_90 ?_
                  refine xl_i (y := sq 1) (congrArg sq rfl) ?_
                  refine xl_i (y := nI (zq)) ez ?_
                  refine lv_iload_n hx hb dX9_copy_91 rfl (lv_at hl 2 rfl) ?_
                  refine lv_isub hx hb dX9_copy_92 ?_
                  refine lv_topi (fun x_25 ex_25 => ?_)
                  refine lv_icmp_gt (tgt := 110) hx hb dX9_copy_93 (by decide) (fun c_26 => ?_) (fun c_26 => ?_)
                  · skip
                    refine lv_aload_n hx hb dX9_copy_110 rfl (lv_at hl 0 rfl) ?_
                    refine lv_ldc (v := (-1000000001)) hx hb hown (hu _ uw648) dX9_copy_111 ?_
                    refine xc_Vi (wr := [(ybi, .inl (cI, 4, .inl bi)), (ysi, .inl (cI, 4, .inl sq)), (ynu, .inl (cJ, 160, .inr (.inl nb))), (ymo, .inl (cJ, 40, .inr (.inl mv9)))]) hF (c_X9_finds_B l D cI cJ cZ cS ta sa sv s.heap.size h0 ys yk yo yt mk0 yfa yfe mL mS mM yro yhe ygr mF mC mY yta mz mf mt mv mw ywa ybi ysi ynu ymo mq ) kv_X9_70 ⟨rfl, rfl, Nat.le_of_ble_eq_true rfl, Nat.le_of_ble_eq_true rfl⟩ ⟨Nat.le_of_ble_eq_true rfl, Nat.le_of_ble_eq_true rfl⟩ hK hN hZ hP hD hS hA [0, 5] [1, 2, 3, 4] rfl rfl rfl rfl (by decide) 0 rfl rfl rfl rfl hl.1 rfl (Nat.le_of_ble_eq_true rfl) dX9_copy_113 (fun r_27 u_r_27 H locs hw_r_27 hP hD hS => ?_)
                    obtain ⟨mq2_28, rfl⟩ : ∃ z, z = u_r_27 := ⟨_, rfl⟩
                    try dsimp only at hw_r_27
                    have hP : va_P D vwCl [(ybi, .inl (cI, 4, .inl bi)), (ysi, .inl (cI, 4, .inl sq)), (ynu, .inl (cJ, 160, .inr (.inl nb))), (ymo, .inl (cJ, 40, .inr (.inl mv9))), (h0, .inr (9, [.ref ys, .ref yk, .ref yo, .ref yt, .int mk0, .ref yfa, .ref yfe, .int mL, .int mS, .int mM, .ref yro, .ref yhe, .ref ygr, .int mF, .int mC, .int mY, .ref yta, .int (nI (mz)), .int (nI (mf)), .int (nI (mt)), .int mv, .int mw, .ref ywa, .ref ybi, .ref ysi, .ref ynu, .ref ymo])), (yt, .inl (cI, 7, .inl mq2_28))] H := hP
                    have hD : va_D A [(ybi, .inl (cI, 4, .inl bi)), (ysi, .inl (cI, 4, .inl sq)), (ynu, .inl (cJ, 160, .inr (.inl nb))), (ymo, .inl (cJ, 40, .inr (.inl mv9))), (h0, .inr (9, [.ref ys, .ref yk, .ref yo, .ref yt, .int mk0, .ref yfa, .ref yfe, .int mL, .int mS, .int mM, .ref yro, .ref yhe, .ref ygr, .int mF, .int mC, .int mY, .ref yta, .int (nI (mz)), .int (nI (mf)), .int (nI (mt)), .int mv, .int mw, .ref ywa, .ref ybi, .ref ysi, .ref ynu, .ref ymo])), (yt, .inl (cI, 7, .inl mq2_28))] := hD
                    subst hw_r_27
                    exact W.iret (v := (-1000000001)) hx hb hr (fun t ht hW => ⟨⟨(-1000000001), (nb, mv9, mq2_28), rfl, ⟨(sp_cr3 c_11 c_14 c_15 (fun q => (sp_s5 hzq c_16 c_22 ex_25 c_26) q.1)), (fun j => sp_c0 (fun h => (sp_s5 hzq c_16 c_22 ex_25 c_26) h.2.2.2.1)), (fun _ _ => rfl)⟩, by rw [ht]; exact hP.sub [4, 0, 1, 2, 3, 5] rfl, hD.sub [4, 0, 1, 2, 3, 5] (by decide +kernel) rfl⟩, hS.F ht⟩) hS.2.2 dX9_copy_116 hlk
                  · skip
                    refine lv_iload hx hb dX9_copy_96 (lv_at hl 5 rfl) ?_
                    refine lv_aload_n hx hb dX9_copy_98 rfl (lv_at hl 0 rfl) ?_
                    refine xg hF kf_X9_46 hK hP 0 rfl rfl dX9_copy_99 ?_
                    refine lv_iload_n hx hb dX9_copy_102 rfl (lv_at hl 3 rfl) ?_
                    refine va_iald hx hb hK hP 2 0 rfl rfl (xin 0 4 (by decide) (by decide)) dX9_copy_103 ?_
                    refine xl_i (y := sq 0) (congrArg sq rfl) ?_
                    refine xl_i (y := nI (zt)) et ?_
                    refine lv_iload hx hb dX9_copy_104 (lv_at hl 4 rfl) ?_
                    refine lv_isub hx hb dX9_copy_106 ?_
                    refine lv_topi (fun x_29 ex_29 => ?_)
                    refine lv_icmp_le (tgt := 117) hx hb dX9_copy_107 (by decide) (fun c_30 => ?_) (fun c_30 => ?_)
                    · skip
                      obtain ⟨y_31, hy_31, rfl⟩ := x_spk (by omega) c_16 c_22 ex_25 c_26
                      obtain ⟨y_32, hy_32, rfl⟩ := x_spj (by omega) (by omega) c_16 ex_25 c_26
                      obtain ⟨y_33, hy_33, rfl⟩ := x_spj (by omega) (by omega) c_19 ex_29 (Int32.not_lt.mpr c_30)
                      refine lv_iconst (v := 0) hx hb dX9_copy_117 (by decide) ?_
                      refine lv_istore (lv' := [(6, .int 0), (0, .ref h0), (1, .int 1), (2, .int (nI (y_32))), (3, .int 0), (4, .int (nI (y_33))), (5, .int (nI (y_31)))]) hx hb dX9_copy_118 hl (by decide) rfl (fun ls hl => ?_)
                      suffices loop_120 : ∀ (n_120 : Nat) (i : Nat) (m8 : Nat → Int64) (H : Heap) (locs : List Loc) (ls : Array Slot), y_31 - i < n_120 → (i ≤ y_31) → (∀ j, j < i → m8 j = nb (40 + y_32 + j)) → va_P D vwCl [(h0, .inr (9, [.ref ys, .ref yk, .ref yo, .ref yt, .int mk0, .ref yfa, .ref yfe, .int mL, .int mS, .int mM, .ref yro, .ref yhe, .ref ygr, .int mF, .int mC, .int mY, .ref yta, .int (nI (mz)), .int (nI (mf)), .int (nI (mt)), .int mv, .int mw, .ref ywa, .ref ybi, .ref ysi, .ref ynu, .ref ymo])), (ybi, .inl (cI, 4, .inl bi)), (ysi, .inl (cI, 4, .inl sq)), (ynu, .inl (cJ, 160, .inr (.inl nb))), (ymo, .inl (cJ, 40, .inr (.inl m8))), (yt, .inl (cI, 7, .inl mq))] H → va_D A [(h0, .inr (9, [.ref ys, .ref yk, .ref yo, .ref yt, .int mk0, .ref yfa, .ref yfe, .int mL, .int mS, .int mM, .ref yro, .ref yhe, .ref ygr, .int mF, .int mC, .int mY, .ref yta, .int (nI (mz)), .int (nI (mf)), .int (nI (mt)), .int mv, .int mw, .ref ywa, .ref ybi, .ref ysi, .ref ynu, .ref ymo])), (ybi, .inl (cI, 4, .inl bi)), (ysi, .inl (cI, 4, .inl sq)), (ynu, .inl (cJ, 160, .inr (.inl nb))), (ymo, .inl (cJ, 40, .inr (.inl m8))), (yt, .inl (cI, 7, .inl mq))] → va_S A s.heap H locs → lv_has ls 7 [(6, .int (nI (i))), (0, .ref h0), (1, .int 1), (2, .int (nI (y_32))), (3, .int 0), (4, .int (nI (y_33))), (5, .int (nI (y_31)))] → W p l e ({ frames := 2, cells := 0, slots := 0, locals := 45 }) s m ([.ref h0, .int 1, .int (nI (y_32)), .int 0, .int (nI (y_33)), .int (nI (y_31))] : List Value).toArray below meth c H locs 0 0 (MQ below (XQi (fun (r : Int32) (u : (Nat → Int64) × (Nat → Int64) × (Nat → Int32)) => match u with | (nb2, mv2, mq2) => ((r = sp_cr (bi 1) (bi 0) zq zt (nI (y_32)) (nI (y_33)) (nI (y_31)))) ∧ (∀ j, nb2 (0 + j) = sp_cn (bi 1) (bi 0) zq zt (nI (y_32)) (nI (y_33)) (nI (y_31)) (fun k => nb (40 + k)) j (nb (0 + j))) ∧ (∀ j, j < 0 ∨ 40 ≤ j → nb2 j = nb j)) D (fun (u : (Nat → Int64) × (Nat → Int64) × (Nat → Int32)) => match u with | (nb2, mv2, mq2) => [(h0, .inr (9, [.ref ys, .ref yk, .ref yo, .ref yt, .int mk0, .ref yfa, .ref yfe, .int mL, .int mS, .int mM, .ref yro, .ref yhe, .ref ygr, .int mF, .int mC, .int mY, .ref yta, .int (nI (mz)), .int (nI (mf)), .int (nI (mt)), .int mv, .int mw, .ref ywa, .ref ybi, .ref ysi, .ref ynu, .ref ymo])), (ybi, .inl (cI, 4, .inl bi)), (ysi, .inl (cI, 4, .inl sq)), (ynu, .inl (cJ, 160, .inr (.inl nb2))), (ymo, .inl (cJ, 40, .inr (.inl mv2))), (yt, .inl (cI, 7, .inl mq2))]) A) ([.ref h0, .int 1, .int (nI (y_32)), .int 0, .int (nI (y_33)), .int (nI (y_31))] : List Value).toArray s 0 0 A) (F0 m 120 ls []) by
                        exact loop_120 _ 0 mv9 _ _ _ (Nat.lt_succ_self _) (by omega) (fun j hj => absurd hj (Nat.not_lt_zero _)) hP hD hS (lv_sub hl [0, 1, 2, 3, 4, 5, 6] rfl)
                      intro n_120
                      induction n_120 with
                      | zero =>
                        intro i m8 H locs ls hm_120
                        exact absurd hm_120 (Nat.not_lt_zero _)
                      | succ n_120 ih_120 =>
                        intro i m8 H locs ls hm_120 hi hm8 hP hD hS hl
                        refine lv_iload hx hb dX9_copy_120 (lv_at hl 0 rfl) ?_
                        refine lv_iload hx hb dX9_copy_122 (lv_at hl 6 rfl) ?_
                        refine lv_icmp_ge (tgt := 154) hx hb dX9_copy_124 (by decide) (fun c_34 => ?_) (fun c_34 => ?_)
                        · skip
                          have nc_34 : y_31 ≤ i := xn_le (a := y_31) (b := i) (by omega) (by omega) c_34
                          refine lv_iconst (v := 0) hx hb dX9_copy_154 (by decide) ?_
                          refine lv_istore (lv' := [(6, .int 0), (0, .ref h0), (1, .int 1), (2, .int (nI (y_32))), (3, .int 0), (4, .int (nI (y_33))), (5, .int (nI (y_31)))]) hx hb dX9_copy_155 hl (by decide) rfl (fun ls hl => ?_)
                          suffices loop_157 : ∀ (n_157 : Nat) (i2 : Nat) (n8 : Nat → Int64) (H : Heap) (locs : List Loc) (ls : Array Slot), y_31 - i2 < n_157 → (i2 ≤ y_31) → (∀ j, n8 j = if 0 + y_33 ≤ j ∧ j < 0 + y_33 + i2 then m8 (j - (0 + y_33)) else nb j) → va_P D vwCl [(h0, .inr (9, [.ref ys, .ref yk, .ref yo, .ref yt, .int mk0, .ref yfa, .ref yfe, .int mL, .int mS, .int mM, .ref yro, .ref yhe, .ref ygr, .int mF, .int mC, .int mY, .ref yta, .int (nI (mz)), .int (nI (mf)), .int (nI (mt)), .int mv, .int mw, .ref ywa, .ref ybi, .ref ysi, .ref ynu, .ref ymo])), (ybi, .inl (cI, 4, .inl bi)), (ysi, .inl (cI, 4, .inl sq)), (ynu, .inl (cJ, 160, .inr (.inl n8))), (ymo, .inl (cJ, 40, .inr (.inl m8))), (yt, .inl (cI, 7, .inl mq))] H → va_D A [(h0, .inr (9, [.ref ys, .ref yk, .ref yo, .ref yt, .int mk0, .ref yfa, .ref yfe, .int mL, .int mS, .int mM, .ref yro, .ref yhe, .ref ygr, .int mF, .int mC, .int mY, .ref yta, .int (nI (mz)), .int (nI (mf)), .int (nI (mt)), .int mv, .int mw, .ref ywa, .ref ybi, .ref ysi, .ref ynu, .ref ymo])), (ybi, .inl (cI, 4, .inl bi)), (ysi, .inl (cI, 4, .inl sq)), (ynu, .inl (cJ, 160, .inr (.inl n8))), (ymo, .inl (cJ, 40, .inr (.inl m8))), (yt, .inl (cI, 7, .inl mq))] → va_S A s.heap H locs → lv_has ls 7 [(6, .int (nI (i2))), (0, .ref h0), (1, .int 1), (2, .int (nI (y_32))), (3, .int 0), (4, .int (nI (y_33))), (5, .int (nI (y_31)))] → W p l e ({ frames := 2, cells := 0, slots := 0, locals := 45 }) s m ([.ref h0, .int 1, .int (nI (y_32)), .int 0, .int (nI (y_33)), .int (nI (y_31))] : List Value).toArray below meth c H locs 0 0 (MQ below (XQi (fun (r : Int32) (u : (Nat → Int64) × (Nat → Int64) × (Nat → Int32)) => match u with | (nb2, mv2, mq2) => ((r = sp_cr (bi 1) (bi 0) zq zt (nI (y_32)) (nI (y_33)) (nI (y_31)))) ∧ (∀ j, nb2 (0 + j) = sp_cn (bi 1) (bi 0) zq zt (nI (y_32)) (nI (y_33)) (nI (y_31)) (fun k => nb (40 + k)) j (nb (0 + j))) ∧ (∀ j, j < 0 ∨ 40 ≤ j → nb2 j = nb j)) D (fun (u : (Nat → Int64) × (Nat → Int64) × (Nat → Int32)) => match u with | (nb2, mv2, mq2) => [(h0, .inr (9, [.ref ys, .ref yk, .ref yo, .ref yt, .int mk0, .ref yfa, .ref yfe, .int mL, .int mS, .int mM, .ref yro, .ref yhe, .ref ygr, .int mF, .int mC, .int mY, .ref yta, .int (nI (mz)), .int (nI (mf)), .int (nI (mt)), .int mv, .int mw, .ref ywa, .ref ybi, .ref ysi, .ref ynu, .ref ymo])), (ybi, .inl (cI, 4, .inl bi)), (ysi, .inl (cI, 4, .inl sq)), (ynu, .inl (cJ, 160, .inr (.inl nb2))), (ymo, .inl (cJ, 40, .inr (.inl mv2))), (yt, .inl (cI, 7, .inl mq2))]) A) ([.ref h0, .int 1, .int (nI (y_32)), .int 0, .int (nI (y_33)), .int (nI (y_31))] : List Value).toArray s 0 0 A) (F0 m 157 ls []) by
                            exact loop_157 _ 0 nb _ _ _ (Nat.lt_succ_self _) (by omega) (fun j => (if_neg (by omega)).symm) hP hD hS (lv_sub hl [0, 1, 2, 3, 4, 5, 6] rfl)
                          intro n_157
                          induction n_157 with
                          | zero =>
                            intro i2 n8 H locs ls hm_157
                            exact absurd hm_157 (Nat.not_lt_zero _)
                          | succ n_157 ih_157 =>
                            intro i2 n8 H locs ls hm_157 hi2 hn8 hP hD hS hl
                            refine lv_iload hx hb dX9_copy_157 (lv_at hl 0 rfl) ?_
                            refine lv_iload hx hb dX9_copy_159 (lv_at hl 6 rfl) ?_
                            refine lv_icmp_ge (tgt := 192) hx hb dX9_copy_161 (by decide) (fun c_35 => ?_) (fun c_35 => ?_)
                            · skip
                              have nc_35 : y_31 ≤ i2 := xn_le (a := y_31) (b := i2) (by omega) (by omega) c_35
                              refine lv_iload hx hb dX9_copy_192 (lv_at hl 6 rfl) ?_
                              have hn7 : ∀ j, n8 j = if 0 + y_33 ≤ j ∧ j < 0 + y_33 + y_31 then m8 (j - (0 + y_33)) else nb j := fun j => by rw [hn8 j, show i2 = y_31 by omega]
                              have hm7 : ∀ j, j < y_31 → m8 j = nb (40 + y_32 + j) := fun j hj => hm8 j (by omega)
                              exact W.iret (v := nI (y_31)) hx hb hr (fun t ht hW => ⟨⟨nI (y_31), (n8, m8, mq), rfl, ⟨(sp_cr4 c_11 c_14 c_15 (sp_nspan (by omega) (by omega)) (sp_nspan (by omega) (by omega))), (fun j9 => sp_c1 (K := 0) (M := 40) (by omega) (by omega) c_11 c_14 c_15 (by omega) (by omega) (fun i9 => sp_mv3 hn7 hm7 rfl rfl)), (fun j9 hj9 => by rw [hn7 j9, if_neg (by omega)])⟩, by rw [ht]; exact hP.sub [0, 1, 2, 3, 4, 5] rfl, hD.sub [0, 1, 2, 3, 4, 5] (by decide +kernel) rfl⟩, hS.F ht⟩) hS.2.2 dX9_copy_194 hlk
                            · skip
                              have nc_35 : i2 < y_31 := xn_nle (a := y_31) (b := i2) (by omega) (by omega) c_35
                              refine lv_aload_n hx hb dX9_copy_164 rfl (lv_at hl 1 rfl) ?_
                              refine xg hF kf_X9_49 hK hP 0 rfl rfl dX9_copy_165 ?_
                              refine lv_bipush (v := 40) hx hb dX9_copy_168 (by decide) ?_
                              refine lv_iload_n hx hb dX9_copy_170 rfl (lv_at hl 4 rfl) ?_
                              refine lv_imul hx hb dX9_copy_171 ?_
                              refine xl_i (y := 0) (by decide) ?_
                              refine lv_iload hx hb dX9_copy_172 (lv_at hl 5 rfl) ?_
                              refine lv_iadd hx hb dX9_copy_174 ?_
                              refine xl_i (y := nI (0 + y_33)) (nI_add 0 y_33) ?_
                              refine lv_iload hx hb dX9_copy_175 (lv_at hl 0 rfl) ?_
                              refine lv_iadd hx hb dX9_copy_177 ?_
                              refine xl_i (y := nI (0 + y_33 + i2)) (nI_add (0 + y_33) i2) ?_
                              refine lv_aload_n hx hb dX9_copy_178 rfl (lv_at hl 1 rfl) ?_
                              refine xg hF kf_X9_53 hK hP 0 rfl rfl dX9_copy_179 ?_
                              refine lv_iload hx hb dX9_copy_182 (lv_at hl 0 rfl) ?_
                              refine va_lald hx hb hK hP 4 1 rfl rfl (vp_in_nI (show i2 < 40 by omega) (by decide)) dX9_copy_184 ?_
                              refine xl_l (y := m8 i2) (congrArg m8 (nI_clamp (show i2 < 2 ^ 31 by omega))) ?_
                              refine va_last hx hb hK hP hD hS 3 1 rfl rfl (vp_in_nI (show 0 + y_33 + i2 < 160 by omega) (by decide)) dX9_copy_185 (fun H locs hP hD hS => ?_)
                              rw [nI_clamp (show 0 + y_33 + i2 < 2 ^ 31 by omega)] at hP hD
                              obtain ⟨f_36, ef_36⟩ : ∃ g, g = vp_updL n8 (0 + y_33 + i2) (m8 i2) := ⟨_, rfl⟩
                              rw [← ef_36] at hP hD
                              have hP : va_P D vwCl [(h0, .inr (9, [.ref ys, .ref yk, .ref yo, .ref yt, .int mk0, .ref yfa, .ref yfe, .int mL, .int mS, .int mM, .ref yro, .ref yhe, .ref ygr, .int mF, .int mC, .int mY, .ref yta, .int (nI (mz)), .int (nI (mf)), .int (nI (mt)), .int mv, .int mw, .ref ywa, .ref ybi, .ref ysi, .ref ynu, .ref ymo])), (ybi, .inl (cI, 4, .inl bi)), (ysi, .inl (cI, 4, .inl sq)), (ynu, .inl (cJ, 160, .inr (.inl f_36))), (ymo, .inl (cJ, 40, .inr (.inl m8))), (yt, .inl (cI, 7, .inl mq))] H := hP
                              have hD : va_D A [(h0, .inr (9, [.ref ys, .ref yk, .ref yo, .ref yt, .int mk0, .ref yfa, .ref yfe, .int mL, .int mS, .int mM, .ref yro, .ref yhe, .ref ygr, .int mF, .int mC, .int mY, .ref yta, .int (nI (mz)), .int (nI (mf)), .int (nI (mt)), .int mv, .int mw, .ref ywa, .ref ybi, .ref ysi, .ref ynu, .ref ymo])), (ybi, .inl (cI, 4, .inl bi)), (ysi, .inl (cI, 4, .inl sq)), (ynu, .inl (cJ, 160, .inr (.inl f_36))), (ymo, .inl (cJ, 40, .inr (.inl m8))), (yt, .inl (cI, 7, .inl mq))] := hD
                              refine lv_iinc (v := nI (i2 + 1)) (lv' := [(6, .int (nI (i2 + 1))), (0, .ref h0), (1, .int 1), (2, .int (nI (y_32))), (3, .int 0), (4, .int (nI (y_33))), (5, .int (nI (y_31)))]) hx hb dX9_copy_186 hl (k := 0) rfl (nI_1 (i2)) (by decide) rfl (fun ls hl => ?_)
                              refine lv_goto (tgt := 157) hx hb dX9_copy_189 (by decide) ?_
                              exact ih_157 (i2 + 1) f_36 _ _ _ (by omega) (by omega) (sp_mv2 hn8 ef_36) (hP.sub [0, 1, 2, 3, 4, 5] rfl) (hD.sub [0, 1, 2, 3, 4, 5] (by decide +kernel) rfl) hS (lv_sub hl [0, 1, 2, 3, 4, 5, 6] rfl)
                        · skip
                          have nc_34 : i < y_31 := xn_nle (a := y_31) (b := i) (by omega) (by omega) c_34
                          refine lv_aload_n hx hb dX9_copy_127 rfl (lv_at hl 1 rfl) ?_
                          refine xg hF kf_X9_53 hK hP 0 rfl rfl dX9_copy_128 ?_
                          refine lv_iload hx hb dX9_copy_131 (lv_at hl 0 rfl) ?_
                          refine lv_aload_n hx hb dX9_copy_133 rfl (lv_at hl 1 rfl) ?_
                          refine xg hF kf_X9_49 hK hP 0 rfl rfl dX9_copy_134 ?_
                          refine lv_bipush (v := 40) hx hb dX9_copy_137 (by decide) ?_
                          refine lv_iload_n hx hb dX9_copy_139 rfl (lv_at hl 2 rfl) ?_
                          refine lv_imul hx hb dX9_copy_140 ?_
                          refine xl_i (y := 40) (by decide) ?_
                          refine lv_iload_n hx hb dX9_copy_141 rfl (lv_at hl 3 rfl) ?_
                          refine lv_iadd hx hb dX9_copy_142 ?_
                          refine xl_i (y := nI (40 + y_32)) (nI_add 40 y_32) ?_
                          refine lv_iload hx hb dX9_copy_143 (lv_at hl 0 rfl) ?_
                          refine lv_iadd hx hb dX9_copy_145 ?_
                          refine xl_i (y := nI (40 + y_32 + i)) (nI_add (40 + y_32) i) ?_
                          refine va_lald hx hb hK hP 3 1 rfl rfl (vp_in_nI (show 40 + y_32 + i < 160 by omega) (by decide)) dX9_copy_146 ?_
                          refine xl_l (y := nb (40 + y_32 + i)) (congrArg nb (nI_clamp (show 40 + y_32 + i < 2 ^ 31 by omega))) ?_
                          refine va_last hx hb hK hP hD hS 4 1 rfl rfl (vp_in_nI (show i < 40 by omega) (by decide)) dX9_copy_147 (fun H locs hP hD hS => ?_)
                          rw [nI_clamp (show i < 2 ^ 31 by omega)] at hP hD
                          obtain ⟨f_37, ef_37⟩ : ∃ g, g = vp_updL m8 i (nb (40 + y_32 + i)) := ⟨_, rfl⟩
                          rw [← ef_37] at hP hD
                          have hP : va_P D vwCl [(h0, .inr (9, [.ref ys, .ref yk, .ref yo, .ref yt, .int mk0, .ref yfa, .ref yfe, .int mL, .int mS, .int mM, .ref yro, .ref yhe, .ref ygr, .int mF, .int mC, .int mY, .ref yta, .int (nI (mz)), .int (nI (mf)), .int (nI (mt)), .int mv, .int mw, .ref ywa, .ref ybi, .ref ysi, .ref ynu, .ref ymo])), (ybi, .inl (cI, 4, .inl bi)), (ysi, .inl (cI, 4, .inl sq)), (ynu, .inl (cJ, 160, .inr (.inl nb))), (ymo, .inl (cJ, 40, .inr (.inl f_37))), (yt, .inl (cI, 7, .inl mq))] H := hP
                          have hD : va_D A [(h0, .inr (9, [.ref ys, .ref yk, .ref yo, .ref yt, .int mk0, .ref yfa, .ref yfe, .int mL, .int mS, .int mM, .ref yro, .ref yhe, .ref ygr, .int mF, .int mC, .int mY, .ref yta, .int (nI (mz)), .int (nI (mf)), .int (nI (mt)), .int mv, .int mw, .ref ywa, .ref ybi, .ref ysi, .ref ynu, .ref ymo])), (ybi, .inl (cI, 4, .inl bi)), (ysi, .inl (cI, 4, .inl sq)), (ynu, .inl (cJ, 160, .inr (.inl nb))), (ymo, .inl (cJ, 40, .inr (.inl f_37))), (yt, .inl (cI, 7, .inl mq))] := hD
                          refine lv_iinc (v := nI (i + 1)) (lv' := [(6, .int (nI (i + 1))), (0, .ref h0), (1, .int 1), (2, .int (nI (y_32))), (3, .int 0), (4, .int (nI (y_33))), (5, .int (nI (y_31)))]) hx hb dX9_copy_148 hl (k := 0) rfl (nI_1 (i)) (by decide) rfl (fun ls hl => ?_)
                          refine lv_goto (tgt := 120) hx hb dX9_copy_151 (by decide) ?_
                          exact ih_120 (i + 1) f_37 _ _ _ (by omega) (by omega) (sp_mv1 hm8 ef_37) (hP.sub [0, 1, 2, 3, 4, 5] rfl) (hD.sub [0, 1, 2, 3, 4, 5] (by decide +kernel) rfl) hS (lv_sub hl [0, 1, 2, 3, 4, 5, 6] rfl)
                    · skip
                      refine lv_aload_n hx hb dX9_copy_110 rfl (lv_at hl 0 rfl) ?_
                      refine lv_ldc (v := (-1000000001)) hx hb hown (hu _ uw648) dX9_copy_111 ?_
                      refine xc_Vi (wr := [(ybi, .inl (cI, 4, .inl bi)), (ysi, .inl (cI, 4, .inl sq)), (ynu, .inl (cJ, 160, .inr (.inl nb))), (ymo, .inl (cJ, 40, .inr (.inl mv9)))]) hF (c_X9_finds_B l D cI cJ cZ cS ta sa sv s.heap.size h0 ys yk yo yt mk0 yfa yfe mL mS mM yro yhe ygr mF mC mY yta mz mf mt mv mw ywa ybi ysi ynu ymo mq ) kv_X9_70 ⟨rfl, rfl, Nat.le_of_ble_eq_true rfl, Nat.le_of_ble_eq_true rfl⟩ ⟨Nat.le_of_ble_eq_true rfl, Nat.le_of_ble_eq_true rfl⟩ hK hN hZ hP hD hS hA [0, 5] [1, 2, 3, 4] rfl rfl rfl rfl (by decide) 0 rfl rfl rfl rfl hl.1 rfl (Nat.le_of_ble_eq_true rfl) dX9_copy_113 (fun r_38 u_r_38 H locs hw_r_38 hP hD hS => ?_)
                      obtain ⟨mq2_39, rfl⟩ : ∃ z, z = u_r_38 := ⟨_, rfl⟩
                      try dsimp only at hw_r_38
                      have hP : va_P D vwCl [(ybi, .inl (cI, 4, .inl bi)), (ysi, .inl (cI, 4, .inl sq)), (ynu, .inl (cJ, 160, .inr (.inl nb))), (ymo, .inl (cJ, 40, .inr (.inl mv9))), (h0, .inr (9, [.ref ys, .ref yk, .ref yo, .ref yt, .int mk0, .ref yfa, .ref yfe, .int mL, .int mS, .int mM, .ref yro, .ref yhe, .ref ygr, .int mF, .int mC, .int mY, .ref yta, .int (nI (mz)), .int (nI (mf)), .int (nI (mt)), .int mv, .int mw, .ref ywa, .ref ybi, .ref ysi, .ref ynu, .ref ymo])), (yt, .inl (cI, 7, .inl mq2_39))] H := hP
                      have hD : va_D A [(ybi, .inl (cI, 4, .inl bi)), (ysi, .inl (cI, 4, .inl sq)), (ynu, .inl (cJ, 160, .inr (.inl nb))), (ymo, .inl (cJ, 40, .inr (.inl mv9))), (h0, .inr (9, [.ref ys, .ref yk, .ref yo, .ref yt, .int mk0, .ref yfa, .ref yfe, .int mL, .int mS, .int mM, .ref yro, .ref yhe, .ref ygr, .int mF, .int mC, .int mY, .ref yta, .int (nI (mz)), .int (nI (mf)), .int (nI (mt)), .int mv, .int mw, .ref ywa, .ref ybi, .ref ysi, .ref ynu, .ref ymo])), (yt, .inl (cI, 7, .inl mq2_39))] := hD
                      subst hw_r_38
                      exact W.iret (v := (-1000000001)) hx hb hr (fun t ht hW => ⟨⟨(-1000000001), (nb, mv9, mq2_39), rfl, ⟨(sp_cr3 c_11 c_14 c_15 (fun q => (sp_s5 hzt c_19 c_22 ex_29 (xlt c_30)) q.2)), (fun j => sp_c0 (fun h => (sp_s5 hzt c_19 c_22 ex_29 (xlt c_30)) h.2.2.2.2)), (fun _ _ => rfl)⟩, by rw [ht]; exact hP.sub [4, 0, 1, 2, 3, 5] rfl, hD.sub [4, 0, 1, 2, 3, 5] (by decide +kernel) rfl⟩, hS.F ht⟩) hS.2.2 dX9_copy_116 hlk
          · skip
            refine lv_aload_n hx hb dX9_copy_62 rfl (lv_at hl 0 rfl) ?_
            refine lv_ldc (v := (-1000000003)) hx hb hown (hu _ uw765) dX9_copy_63 ?_
            refine xc_Vi (wr := [(ybi, .inl (cI, 4, .inl bi)), (ysi, .inl (cI, 4, .inl sq)), (ynu, .inl (cJ, 160, .inr (.inl nb))), (ymo, .inl (cJ, 40, .inr (.inl mv9)))]) hF (c_X9_finds_K l D cI cJ cZ cS ta sa sv s.heap.size h0 ys yk yo yt mk0 yfa yfe mL mS mM yro yhe ygr mF mC mY yta mz mf mt mv mw ywa ybi ysi ynu ymo mq ) kv_X9_70 ⟨rfl, rfl, Nat.le_of_ble_eq_true rfl, Nat.le_of_ble_eq_true rfl⟩ ⟨Nat.le_of_ble_eq_true rfl, Nat.le_of_ble_eq_true rfl⟩ hK hN hZ hP hD hS hA [0, 5] [1, 2, 3, 4] rfl rfl rfl rfl (by decide) 0 rfl rfl rfl rfl hl.1 rfl (Nat.le_of_ble_eq_true rfl) dX9_copy_65 (fun r_40 u_r_40 H locs hw_r_40 hP hD hS => ?_)
            obtain ⟨mq2_41, rfl⟩ : ∃ z, z = u_r_40 := ⟨_, rfl⟩
            try dsimp only at hw_r_40
            have hP : va_P D vwCl [(ybi, .inl (cI, 4, .inl bi)), (ysi, .inl (cI, 4, .inl sq)), (ynu, .inl (cJ, 160, .inr (.inl nb))), (ymo, .inl (cJ, 40, .inr (.inl mv9))), (h0, .inr (9, [.ref ys, .ref yk, .ref yo, .ref yt, .int mk0, .ref yfa, .ref yfe, .int mL, .int mS, .int mM, .ref yro, .ref yhe, .ref ygr, .int mF, .int mC, .int mY, .ref yta, .int (nI (mz)), .int (nI (mf)), .int (nI (mt)), .int mv, .int mw, .ref ywa, .ref ybi, .ref ysi, .ref ynu, .ref ymo])), (yt, .inl (cI, 7, .inl mq2_41))] H := hP
            have hD : va_D A [(ybi, .inl (cI, 4, .inl bi)), (ysi, .inl (cI, 4, .inl sq)), (ynu, .inl (cJ, 160, .inr (.inl nb))), (ymo, .inl (cJ, 40, .inr (.inl mv9))), (h0, .inr (9, [.ref ys, .ref yk, .ref yo, .ref yt, .int mk0, .ref yfa, .ref yfe, .int mL, .int mS, .int mM, .ref yro, .ref yhe, .ref ygr, .int mF, .int mC, .int mY, .ref yta, .int (nI (mz)), .int (nI (mf)), .int (nI (mt)), .int mv, .int mw, .ref ywa, .ref ybi, .ref ysi, .ref ynu, .ref ymo])), (yt, .inl (cI, 7, .inl mq2_41))] := hD
            subst hw_r_40
            exact W.iret (v := (-1000000003)) hx hb hr (fun t ht hW => ⟨⟨(-1000000003), (nb, mv9, mq2_41), rfl, ⟨(sp_cr2 c_11 c_14 c_15), (fun j => sp_c0 (fun h => absurd h.2.2.1 c_15)), (fun _ _ => rfl)⟩, by rw [ht]; exact hP.sub [4, 0, 1, 2, 3, 5] rfl, hD.sub [4, 0, 1, 2, 3, 5] (by decide +kernel) rfl⟩, hS.F ht⟩) hS.2.2 dX9_copy_68 hlk
        · skip
          refine lv_aload_n hx hb dX9_copy_39 rfl (lv_at hl 0 rfl) ?_
          refine lv_ldcw (v := (-1000000006)) hx hb hown (hu _ uw910) dX9_copy_40 ?_
          refine xc_Vi (wr := [(ybi, .inl (cI, 4, .inl bi)), (ysi, .inl (cI, 4, .inl sq)), (ynu, .inl (cJ, 160, .inr (.inl nb))), (ymo, .inl (cJ, 40, .inr (.inl mv9)))]) hF (c_X9_finds_M l D cI cJ cZ cS ta sa sv s.heap.size h0 ys yk yo yt mk0 yfa yfe mL mS mM yro yhe ygr mF mC mY yta mz mf mt mv mw ywa ybi ysi ynu ymo mq ) kv_X9_70 ⟨rfl, rfl, Nat.le_of_ble_eq_true rfl, Nat.le_of_ble_eq_true rfl⟩ ⟨Nat.le_of_ble_eq_true rfl, Nat.le_of_ble_eq_true rfl⟩ hK hN hZ hP hD hS hA [0, 5] [1, 2, 3, 4] rfl rfl rfl rfl (by decide) 0 rfl rfl rfl rfl hl.1 rfl (Nat.le_of_ble_eq_true rfl) dX9_copy_43 (fun r_42 u_r_42 H locs hw_r_42 hP hD hS => ?_)
          obtain ⟨mq2_43, rfl⟩ : ∃ z, z = u_r_42 := ⟨_, rfl⟩
          try dsimp only at hw_r_42
          have hP : va_P D vwCl [(ybi, .inl (cI, 4, .inl bi)), (ysi, .inl (cI, 4, .inl sq)), (ynu, .inl (cJ, 160, .inr (.inl nb))), (ymo, .inl (cJ, 40, .inr (.inl mv9))), (h0, .inr (9, [.ref ys, .ref yk, .ref yo, .ref yt, .int mk0, .ref yfa, .ref yfe, .int mL, .int mS, .int mM, .ref yro, .ref yhe, .ref ygr, .int mF, .int mC, .int mY, .ref yta, .int (nI (mz)), .int (nI (mf)), .int (nI (mt)), .int mv, .int mw, .ref ywa, .ref ybi, .ref ysi, .ref ynu, .ref ymo])), (yt, .inl (cI, 7, .inl mq2_43))] H := hP
          have hD : va_D A [(ybi, .inl (cI, 4, .inl bi)), (ysi, .inl (cI, 4, .inl sq)), (ynu, .inl (cJ, 160, .inr (.inl nb))), (ymo, .inl (cJ, 40, .inr (.inl mv9))), (h0, .inr (9, [.ref ys, .ref yk, .ref yo, .ref yt, .int mk0, .ref yfa, .ref yfe, .int mL, .int mS, .int mM, .ref yro, .ref yhe, .ref ygr, .int mF, .int mC, .int mY, .ref yta, .int (nI (mz)), .int (nI (mf)), .int (nI (mt)), .int mv, .int mw, .ref ywa, .ref ybi, .ref ysi, .ref ynu, .ref ymo])), (yt, .inl (cI, 7, .inl mq2_43))] := hD
          subst hw_r_42
          exact W.iret (v := (-1000000006)) hx hb hr (fun t ht hW => ⟨⟨(-1000000006), (nb, mv9, mq2_43), rfl, ⟨(sp_cr1 (Or.inr c_14)), (fun j => sp_c0 (fun h => h.2.1 c_14)), (fun _ _ => rfl)⟩, by rw [ht]; exact hP.sub [4, 0, 1, 2, 3, 5] rfl, hD.sub [4, 0, 1, 2, 3, 5] (by decide +kernel) rfl⟩, hS.F ht⟩) hS.2.2 dX9_copy_46 hlk
    · exact absurd h_9 (by decide)
  · exact absurd h_4 (by decide)
set_option maxHeartbeats 4000000 in
set_option maxRecDepth 100000 in
theorem c_X9_copy_11 (l : Launch) (D : va_G) (cI cJ cZ cS : ClassId) (ta : Nat) (sa sv : Nat → Nat) (sz : Nat) (h0 : Nat) (ys : Nat) (yk : Nat) (yo : Nat) (yt : Nat) (mk0 : Int32) (yfa : Nat) (yfe : Nat) (mL : Int32) (mS : Int32) (mM : Int32) (yro : Nat) (yhe : Nat) (ygr : Nat) (mF : Int32) (mC : Int32) (mY : Int32) (yta : Nat) (mz : Nat) (mf : Nat) (mt : Nat) (mv : Int32) (mw : Int32) (ywa : Nat) (ybi : Nat) (ysi : Nat) (ynu : Nat) (ymo : Nat) (bi : Nat → Int32) (sq : Nat → Int32) (nb : Nat → Int64) (mv9 : Nat → Int64) (mq : Nat → Int32) (p1 : Int32) (p3 : Int32) (p4 : Int32) (zq : Nat) (zt : Nat) (ez : sq 1 = nI zq) (hzq : zq ≤ 40) (et : sq 1 = nI zt) (hzt : zt ≤ 40) (hsq : BA 4 41 sq) : Met l yX9_copy (Cond.code yX9_copy cX9_copy 7 (some .int) :: wsU) ({ frames := 2, cells := 0, slots := 0, locals := 45 }) (va_Pc [.ref h0, .int 1, .int p1, .int 1, .int p3, .int p4] (XW D (xT cI cJ cZ cS) ta sa sv [(h0, .inr (9, [.ref ys, .ref yk, .ref yo, .ref yt, .int mk0, .ref yfa, .ref yfe, .int mL, .int mS, .int mM, .ref yro, .ref yhe, .ref ygr, .int mF, .int mC, .int mY, .ref yta, .int (nI (mz)), .int (nI (mf)), .int (nI (mt)), .int mv, .int mw, .ref ywa, .ref ybi, .ref ysi, .ref ynu, .ref ymo])), (ybi, .inl (cI, 4, .inl bi)), (ysi, .inl (cI, 4, .inl sq)), (ynu, .inl (cJ, 160, .inr (.inl nb))), (ymo, .inl (cJ, 40, .inr (.inl mv9))), (yt, .inl (cI, 7, .inl mq))] sz)) (XQi (fun (r : Int32) (u : (Nat → Int64) × (Nat → Int64) × (Nat → Int32)) => match u with | (nb2, mv2, mq2) => ((r = sp_cr (bi 1) (bi 1) zq zt p1 p3 p4)) ∧ (∀ j, nb2 (40 + j) = sp_cn (bi 1) (bi 1) zq zt p1 p3 p4 (fun k => nb (40 + k)) j (nb (40 + j))) ∧ (∀ j, j < 40 ∨ 80 ≤ j → nb2 j = nb j)) D (fun (u : (Nat → Int64) × (Nat → Int64) × (Nat → Int32)) => match u with | (nb2, mv2, mq2) => [(h0, .inr (9, [.ref ys, .ref yk, .ref yo, .ref yt, .int mk0, .ref yfa, .ref yfe, .int mL, .int mS, .int mM, .ref yro, .ref yhe, .ref ygr, .int mF, .int mC, .int mY, .ref yta, .int (nI (mz)), .int (nI (mf)), .int (nI (mt)), .int mv, .int mw, .ref ywa, .ref ybi, .ref ysi, .ref ynu, .ref ymo])), (ybi, .inl (cI, 4, .inl bi)), (ysi, .inl (cI, 4, .inl sq)), (ynu, .inl (cJ, 160, .inr (.inl nb2))), (ymo, .inl (cJ, 40, .inr (.inl mv2))), (yt, .inl (cI, 7, .inl mq2))]) (va_A [(h0, .inr (9, [.ref ys, .ref yk, .ref yo, .ref yt, .int mk0, .ref yfa, .ref yfe, .int mL, .int mS, .int mM, .ref yro, .ref yhe, .ref ygr, .int mF, .int mC, .int mY, .ref yta, .int (nI (mz)), .int (nI (mf)), .int (nI (mt)), .int mv, .int mw, .ref ywa, .ref ybi, .ref ysi, .ref ynu, .ref ymo])), (ybi, .inl (cI, 4, .inl bi)), (ysi, .inl (cI, 4, .inl sq)), (ynu, .inl (cJ, 160, .inr (.inl nb))), (ymo, .inl (cJ, 40, .inr (.inl mv9))), (yt, .inl (cI, 7, .inl mq))] sz)) 0 0 (va_A [(h0, .inr (9, [.ref ys, .ref yk, .ref yo, .ref yt, .int mk0, .ref yfa, .ref yfe, .int mL, .int mS, .int mM, .ref yro, .ref yhe, .ref ygr, .int mF, .int mC, .int mY, .ref yta, .int (nI (mz)), .int (nI (mf)), .int (nI (mt)), .int mv, .int mw, .ref ywa, .ref ybi, .ref ysi, .ref ynu, .ref ymo])), (ybi, .inl (cI, 4, .inl bi)), (ysi, .inl (cI, 4, .inl sq)), (ynu, .inl (cJ, 160, .inr (.inl nb))), (ymo, .inl (cJ, 40, .inr (.inl mv9))), (yt, .inl (cI, 7, .inl mq))] sz) := by
  refine xh (QA := fun A => XQi (fun (r : Int32) (u : (Nat → Int64) × (Nat → Int64) × (Nat → Int32)) => match u with | (nb2, mv2, mq2) => ((r = sp_cr (bi 1) (bi 1) zq zt p1 p3 p4)) ∧ (∀ j, nb2 (40 + j) = sp_cn (bi 1) (bi 1) zq zt p1 p3 p4 (fun k => nb (40 + k)) j (nb (40 + j))) ∧ (∀ j, j < 40 ∨ 80 ≤ j → nb2 j = nb j)) D (fun (u : (Nat → Int64) × (Nat → Int64) × (Nat → Int32)) => match u with | (nb2, mv2, mq2) => [(h0, .inr (9, [.ref ys, .ref yk, .ref yo, .ref yt, .int mk0, .ref yfa, .ref yfe, .int mL, .int mS, .int mM, .ref yro, .ref yhe, .ref ygr, .int mF, .int mC, .int mY, .ref yta, .int (nI (mz)), .int (nI (mf)), .int (nI (mt)), .int mv, .int mw, .ref ywa, .ref ybi, .ref ysi, .ref ynu, .ref ymo])), (ybi, .inl (cI, 4, .inl bi)), (ysi, .inl (cI, 4, .inl sq)), (ynu, .inl (cJ, 160, .inr (.inl nb2))), (ymo, .inl (cJ, 40, .inr (.inl mv2))), (yt, .inl (cI, 7, .inl mq2))]) A) (fr := fun A => A) (by decide) (Nat.le_of_ble_eq_true rfl) ?_
  intro p e s m below meth c ls A hF hr hlk hin hsz hP hK hD hN hZ hA hS hl
  have hF : CallFix p m c cX9_copy 7 s _ _ RX9 := hF
  have hx := hF.1
  have hb := hF.2.1
  have hml := hF.2.2.1
  have hown := hF.2.2.2.1
  have hu : ∀ w ∈ wsU, w.before _ s = true := fun w h => hF.2.2.2.2 w (List.mem_cons_of_mem _ h)
  have hl : lv_has ls 7 [(0, .ref h0), (1, .int 1), (2, .int p1), (3, .int 1), (4, .int p3), (5, .int p4)] := hl
  refine lv_iload_n hx hb dX9_copy_0 rfl (lv_at hl 1 rfl) ?_
  refine xc_Sr hF (c_X9_isOne l D cI cJ cZ cS ta sa sv s.heap.size 1 ) ks_X9_305 ⟨rfl, rfl, Nat.le_of_ble_eq_true rfl, Nat.le_of_ble_eq_true rfl⟩ ⟨Nat.le_of_ble_eq_true rfl, Nat.le_of_ble_eq_true rfl⟩ hK hN hZ hP hD hS hA [] rfl rfl rfl hl.1 rfl (Nat.le_of_ble_eq_true rfl) dX9_copy_1 (fun r_1 hw_r_1 => ?_)
  rcases hw_r_1 with ⟨rfl, h_2, h_3⟩ | ⟨rfl, h_4⟩
  · skip
    refine lv_if_eq (tgt := 14) hx hb dX9_copy_4 (by decide) (fun c_5 => absurd c_5 (by decide)) (fun c_5 => ?_)
    refine lv_iload_n hx hb dX9_copy_7 rfl (lv_at hl 3 rfl) ?_
    refine xc_Sr hF (c_X9_isOne l D cI cJ cZ cS ta sa sv s.heap.size 1 ) ks_X9_305 ⟨rfl, rfl, Nat.le_of_ble_eq_true rfl, Nat.le_of_ble_eq_true rfl⟩ ⟨Nat.le_of_ble_eq_true rfl, Nat.le_of_ble_eq_true rfl⟩ hK hN hZ hP hD hS hA [] rfl rfl rfl hl.1 rfl (Nat.le_of_ble_eq_true rfl) dX9_copy_8 (fun r_6 hw_r_6 => ?_)
    rcases hw_r_6 with ⟨rfl, h_7, h_8⟩ | ⟨rfl, h_9⟩
    · skip
      refine lv_if_ne (tgt := 21) hx hb dX9_copy_11 (by decide) (fun c_10 => ?_) (fun c_10 => absurd c_10 (by decide))
      refine lv_aload_n hx hb dX9_copy_21 rfl (lv_at hl 0 rfl) ?_
      refine xg hF kf_X9_43 hK hP 0 rfl rfl dX9_copy_22 ?_
      refine lv_iload_n hx hb dX9_copy_25 rfl (lv_at hl 1 rfl) ?_
      refine va_iald hx hb hK hP 1 0 rfl rfl (xin 1 4 (by decide) (by decide)) dX9_copy_26 ?_
      refine xl_i (y := bi 1) (congrArg bi rfl) ?_
      refine lv_if_eq (tgt := 39) hx hb dX9_copy_27 (by decide) (fun c_11 => ?_) (fun c_11 => ?_)
      · skip
        refine lv_aload_n hx hb dX9_copy_39 rfl (lv_at hl 0 rfl) ?_
        refine lv_ldcw (v := (-1000000006)) hx hb hown (hu _ uw910) dX9_copy_40 ?_
        refine xc_Vi (wr := [(ybi, .inl (cI, 4, .inl bi)), (ysi, .inl (cI, 4, .inl sq)), (ynu, .inl (cJ, 160, .inr (.inl nb))), (ymo, .inl (cJ, 40, .inr (.inl mv9)))]) hF (c_X9_finds_M l D cI cJ cZ cS ta sa sv s.heap.size h0 ys yk yo yt mk0 yfa yfe mL mS mM yro yhe ygr mF mC mY yta mz mf mt mv mw ywa ybi ysi ynu ymo mq ) kv_X9_70 ⟨rfl, rfl, Nat.le_of_ble_eq_true rfl, Nat.le_of_ble_eq_true rfl⟩ ⟨Nat.le_of_ble_eq_true rfl, Nat.le_of_ble_eq_true rfl⟩ hK hN hZ hP hD hS hA [0, 5] [1, 2, 3, 4] rfl rfl rfl rfl (by decide) 0 rfl rfl rfl rfl hl.1 rfl (Nat.le_of_ble_eq_true rfl) dX9_copy_43 (fun r_12 u_r_12 H locs hw_r_12 hP hD hS => ?_)
        obtain ⟨mq2_13, rfl⟩ : ∃ z, z = u_r_12 := ⟨_, rfl⟩
        try dsimp only at hw_r_12
        have hP : va_P D vwCl [(ybi, .inl (cI, 4, .inl bi)), (ysi, .inl (cI, 4, .inl sq)), (ynu, .inl (cJ, 160, .inr (.inl nb))), (ymo, .inl (cJ, 40, .inr (.inl mv9))), (h0, .inr (9, [.ref ys, .ref yk, .ref yo, .ref yt, .int mk0, .ref yfa, .ref yfe, .int mL, .int mS, .int mM, .ref yro, .ref yhe, .ref ygr, .int mF, .int mC, .int mY, .ref yta, .int (nI (mz)), .int (nI (mf)), .int (nI (mt)), .int mv, .int mw, .ref ywa, .ref ybi, .ref ysi, .ref ynu, .ref ymo])), (yt, .inl (cI, 7, .inl mq2_13))] H := hP
        have hD : va_D A [(ybi, .inl (cI, 4, .inl bi)), (ysi, .inl (cI, 4, .inl sq)), (ynu, .inl (cJ, 160, .inr (.inl nb))), (ymo, .inl (cJ, 40, .inr (.inl mv9))), (h0, .inr (9, [.ref ys, .ref yk, .ref yo, .ref yt, .int mk0, .ref yfa, .ref yfe, .int mL, .int mS, .int mM, .ref yro, .ref yhe, .ref ygr, .int mF, .int mC, .int mY, .ref yta, .int (nI (mz)), .int (nI (mf)), .int (nI (mt)), .int mv, .int mw, .ref ywa, .ref ybi, .ref ysi, .ref ynu, .ref ymo])), (yt, .inl (cI, 7, .inl mq2_13))] := hD
        subst hw_r_12
        exact W.iret (v := (-1000000006)) hx hb hr (fun t ht hW => ⟨⟨(-1000000006), (nb, mv9, mq2_13), rfl, ⟨(sp_cr1 (Or.inl c_11)), (fun j => sp_c0 (fun h => h.1 c_11)), (fun _ _ => rfl)⟩, by rw [ht]; exact hP.sub [4, 0, 1, 2, 3, 5] rfl, hD.sub [4, 0, 1, 2, 3, 5] (by decide +kernel) rfl⟩, hS.F ht⟩) hS.2.2 dX9_copy_46 hlk
      · skip
        refine lv_aload_n hx hb dX9_copy_30 rfl (lv_at hl 0 rfl) ?_
        refine xg hF kf_X9_43 hK hP 0 rfl rfl dX9_copy_31 ?_
        refine lv_iload_n hx hb dX9_copy_34 rfl (lv_at hl 3 rfl) ?_
        refine va_iald hx hb hK hP 1 0 rfl rfl (xin 1 4 (by decide) (by decide)) dX9_copy_35 ?_
        refine xl_i (y := bi 1) (congrArg bi rfl) ?_
        refine lv_if_ne (tgt := 47) hx hb dX9_copy_36 (by decide) (fun c_14 => ?_) (fun c_14 => ?_)
        · skip
          refine lv_aload_n hx hb dX9_copy_47 rfl (lv_at hl 0 rfl) ?_
          refine xg hF kf_X9_43 hK hP 0 rfl rfl dX9_copy_48 ?_
          refine lv_iload_n hx hb dX9_copy_51 rfl (lv_at hl 1 rfl) ?_
          refine va_iald hx hb hK hP 1 0 rfl rfl (xin 1 4 (by decide) (by decide)) dX9_copy_52 ?_
          refine xl_i (y := bi 1) (congrArg bi rfl) ?_
          refine lv_aload_n hx hb dX9_copy_53 rfl (lv_at hl 0 rfl) ?_
          refine xg hF kf_X9_43 hK hP 0 rfl rfl dX9_copy_54 ?_
          refine lv_iload_n hx hb dX9_copy_57 rfl (lv_at hl 3 rfl) ?_
          refine va_iald hx hb hK hP 1 0 rfl rfl (xin 1 4 (by decide) (by decide)) dX9_copy_58 ?_
          refine xl_i (y := bi 1) (congrArg bi rfl) ?_
          refine lv_icmp_eq (tgt := 69) hx hb dX9_copy_59 (by decide) (fun c_15 => ?_) (fun c_15 => absurd rfl c_15)
          refine lv_iload_n hx hb dX9_copy_69 rfl (lv_at hl 2 rfl) ?_
          refine lv_if_lt (tgt := 110) hx hb dX9_copy_70 (by decide) (fun c_16 => ?_) (fun c_16 => ?_)
          · skip
            refine lv_aload_n hx hb dX9_copy_110 rfl (lv_at hl 0 rfl) ?_
            refine lv_ldc (v := (-1000000001)) hx hb hown (hu _ uw648) dX9_copy_111 ?_
            refine xc_Vi (wr := [(ybi, .inl (cI, 4, .inl bi)), (ysi, .inl (cI, 4, .inl sq)), (ynu, .inl (cJ, 160, .inr (.inl nb))), (ymo, .inl (cJ, 40, .inr (.inl mv9)))]) hF (c_X9_finds_B l D cI cJ cZ cS ta sa sv s.heap.size h0 ys yk yo yt mk0 yfa yfe mL mS mM yro yhe ygr mF mC mY yta mz mf mt mv mw ywa ybi ysi ynu ymo mq ) kv_X9_70 ⟨rfl, rfl, Nat.le_of_ble_eq_true rfl, Nat.le_of_ble_eq_true rfl⟩ ⟨Nat.le_of_ble_eq_true rfl, Nat.le_of_ble_eq_true rfl⟩ hK hN hZ hP hD hS hA [0, 5] [1, 2, 3, 4] rfl rfl rfl rfl (by decide) 0 rfl rfl rfl rfl hl.1 rfl (Nat.le_of_ble_eq_true rfl) dX9_copy_113 (fun r_17 u_r_17 H locs hw_r_17 hP hD hS => ?_)
            obtain ⟨mq2_18, rfl⟩ : ∃ z, z = u_r_17 := ⟨_, rfl⟩
            try dsimp only at hw_r_17
            have hP : va_P D vwCl [(ybi, .inl (cI, 4, .inl bi)), (ysi, .inl (cI, 4, .inl sq)), (ynu, .inl (cJ, 160, .inr (.inl nb))), (ymo, .inl (cJ, 40, .inr (.inl mv9))), (h0, .inr (9, [.ref ys, .ref yk, .ref yo, .ref yt, .int mk0, .ref yfa, .ref yfe, .int mL, .int mS, .int mM, .ref yro, .ref yhe, .ref ygr, .int mF, .int mC, .int mY, .ref yta, .int (nI (mz)), .int (nI (mf)), .int (nI (mt)), .int mv, .int mw, .ref ywa, .ref ybi, .ref ysi, .ref ynu, .ref ymo])), (yt, .inl (cI, 7, .inl mq2_18))] H := hP
            have hD : va_D A [(ybi, .inl (cI, 4, .inl bi)), (ysi, .inl (cI, 4, .inl sq)), (ynu, .inl (cJ, 160, .inr (.inl nb))), (ymo, .inl (cJ, 40, .inr (.inl mv9))), (h0, .inr (9, [.ref ys, .ref yk, .ref yo, .ref yt, .int mk0, .ref yfa, .ref yfe, .int mL, .int mS, .int mM, .ref yro, .ref yhe, .ref ygr, .int mF, .int mC, .int mY, .ref yta, .int (nI (mz)), .int (nI (mf)), .int (nI (mt)), .int mv, .int mw, .ref ywa, .ref ybi, .ref ysi, .ref ynu, .ref ymo])), (yt, .inl (cI, 7, .inl mq2_18))] := hD
            subst hw_r_17
            exact W.iret (v := (-1000000001)) hx hb hr (fun t ht hW => ⟨⟨(-1000000001), (nb, mv9, mq2_18), rfl, ⟨(sp_cr3 c_14 c_14 rfl (fun q => (sp_s1 c_16) q.1)), (fun j => sp_c0 (fun h => (sp_s1 c_16) h.2.2.2.1)), (fun _ _ => rfl)⟩, by rw [ht]; exact hP.sub [4, 0, 1, 2, 3, 5] rfl, hD.sub [4, 0, 1, 2, 3, 5] (by decide +kernel) rfl⟩, hS.F ht⟩) hS.2.2 dX9_copy_116 hlk
          · skip
            refine lv_iload hx hb dX9_copy_73 (lv_at hl 4 rfl) ?_
            refine lv_if_lt (tgt := 110) hx hb dX9_copy_75 (by decide) (fun c_19 => ?_) (fun c_19 => ?_)
            · skip
              refine lv_aload_n hx hb dX9_copy_110 rfl (lv_at hl 0 rfl) ?_
              refine lv_ldc (v := (-1000000001)) hx hb hown (hu _ uw648) dX9_copy_111 ?_
              refine xc_Vi (wr := [(ybi, .inl (cI, 4, .inl bi)), (ysi, .inl (cI, 4, .inl sq)), (ynu, .inl (cJ, 160, .inr (.inl nb))), (ymo, .inl (cJ, 40, .inr (.inl mv9)))]) hF (c_X9_finds_B l D cI cJ cZ cS ta sa sv s.heap.size h0 ys yk yo yt mk0 yfa yfe mL mS mM yro yhe ygr mF mC mY yta mz mf mt mv mw ywa ybi ysi ynu ymo mq ) kv_X9_70 ⟨rfl, rfl, Nat.le_of_ble_eq_true rfl, Nat.le_of_ble_eq_true rfl⟩ ⟨Nat.le_of_ble_eq_true rfl, Nat.le_of_ble_eq_true rfl⟩ hK hN hZ hP hD hS hA [0, 5] [1, 2, 3, 4] rfl rfl rfl rfl (by decide) 0 rfl rfl rfl rfl hl.1 rfl (Nat.le_of_ble_eq_true rfl) dX9_copy_113 (fun r_20 u_r_20 H locs hw_r_20 hP hD hS => ?_)
              obtain ⟨mq2_21, rfl⟩ : ∃ z, z = u_r_20 := ⟨_, rfl⟩
              try dsimp only at hw_r_20
              have hP : va_P D vwCl [(ybi, .inl (cI, 4, .inl bi)), (ysi, .inl (cI, 4, .inl sq)), (ynu, .inl (cJ, 160, .inr (.inl nb))), (ymo, .inl (cJ, 40, .inr (.inl mv9))), (h0, .inr (9, [.ref ys, .ref yk, .ref yo, .ref yt, .int mk0, .ref yfa, .ref yfe, .int mL, .int mS, .int mM, .ref yro, .ref yhe, .ref ygr, .int mF, .int mC, .int mY, .ref yta, .int (nI (mz)), .int (nI (mf)), .int (nI (mt)), .int mv, .int mw, .ref ywa, .ref ybi, .ref ysi, .ref ynu, .ref ymo])), (yt, .inl (cI, 7, .inl mq2_21))] H := hP
              have hD : va_D A [(ybi, .inl (cI, 4, .inl bi)), (ysi, .inl (cI, 4, .inl sq)), (ynu, .inl (cJ, 160, .inr (.inl nb))), (ymo, .inl (cJ, 40, .inr (.inl mv9))), (h0, .inr (9, [.ref ys, .ref yk, .ref yo, .ref yt, .int mk0, .ref yfa, .ref yfe, .int mL, .int mS, .int mM, .ref yro, .ref yhe, .ref ygr, .int mF, .int mC, .int mY, .ref yta, .int (nI (mz)), .int (nI (mf)), .int (nI (mt)), .int mv, .int mw, .ref ywa, .ref ybi, .ref ysi, .ref ynu, .ref ymo])), (yt, .inl (cI, 7, .inl mq2_21))] := hD
              subst hw_r_20
              exact W.iret (v := (-1000000001)) hx hb hr (fun t ht hW => ⟨⟨(-1000000001), (nb, mv9, mq2_21), rfl, ⟨(sp_cr3 c_14 c_14 rfl (fun q => (sp_s1 c_19) q.2)), (fun j => sp_c0 (fun h => (sp_s1 c_19) h.2.2.2.2)), (fun _ _ => rfl)⟩, by rw [ht]; exact hP.sub [4, 0, 1, 2, 3, 5] rfl, hD.sub [4, 0, 1, 2, 3, 5] (by decide +kernel) rfl⟩, hS.F ht⟩) hS.2.2 dX9_copy_116 hlk
            · skip
              refine lv_iload hx hb dX9_copy_78 (lv_at hl 5 rfl) ?_
              refine lv_if_lt (tgt := 110) hx hb dX9_copy_80 (by decide) (fun c_22 => ?_) (fun c_22 => ?_)
              · skip
                refine lv_aload_n hx hb dX9_copy_110 rfl (lv_at hl 0 rfl) ?_
                refine lv_ldc (v := (-1000000001)) hx hb hown (hu _ uw648) dX9_copy_111 ?_
                refine xc_Vi (wr := [(ybi, .inl (cI, 4, .inl bi)), (ysi, .inl (cI, 4, .inl sq)), (ynu, .inl (cJ, 160, .inr (.inl nb))), (ymo, .inl (cJ, 40, .inr (.inl mv9)))]) hF (c_X9_finds_B l D cI cJ cZ cS ta sa sv s.heap.size h0 ys yk yo yt mk0 yfa yfe mL mS mM yro yhe ygr mF mC mY yta mz mf mt mv mw ywa ybi ysi ynu ymo mq ) kv_X9_70 ⟨rfl, rfl, Nat.le_of_ble_eq_true rfl, Nat.le_of_ble_eq_true rfl⟩ ⟨Nat.le_of_ble_eq_true rfl, Nat.le_of_ble_eq_true rfl⟩ hK hN hZ hP hD hS hA [0, 5] [1, 2, 3, 4] rfl rfl rfl rfl (by decide) 0 rfl rfl rfl rfl hl.1 rfl (Nat.le_of_ble_eq_true rfl) dX9_copy_113 (fun r_23 u_r_23 H locs hw_r_23 hP hD hS => ?_)
                obtain ⟨mq2_24, rfl⟩ : ∃ z, z = u_r_23 := ⟨_, rfl⟩
                try dsimp only at hw_r_23
                have hP : va_P D vwCl [(ybi, .inl (cI, 4, .inl bi)), (ysi, .inl (cI, 4, .inl sq)), (ynu, .inl (cJ, 160, .inr (.inl nb))), (ymo, .inl (cJ, 40, .inr (.inl mv9))), (h0, .inr (9, [.ref ys, .ref yk, .ref yo, .ref yt, .int mk0, .ref yfa, .ref yfe, .int mL, .int mS, .int mM, .ref yro, .ref yhe, .ref ygr, .int mF, .int mC, .int mY, .ref yta, .int (nI (mz)), .int (nI (mf)), .int (nI (mt)), .int mv, .int mw, .ref ywa, .ref ybi, .ref ysi, .ref ynu, .ref ymo])), (yt, .inl (cI, 7, .inl mq2_24))] H := hP
                have hD : va_D A [(ybi, .inl (cI, 4, .inl bi)), (ysi, .inl (cI, 4, .inl sq)), (ynu, .inl (cJ, 160, .inr (.inl nb))), (ymo, .inl (cJ, 40, .inr (.inl mv9))), (h0, .inr (9, [.ref ys, .ref yk, .ref yo, .ref yt, .int mk0, .ref yfa, .ref yfe, .int mL, .int mS, .int mM, .ref yro, .ref yhe, .ref ygr, .int mF, .int mC, .int mY, .ref yta, .int (nI (mz)), .int (nI (mf)), .int (nI (mt)), .int mv, .int mw, .ref ywa, .ref ybi, .ref ysi, .ref ynu, .ref ymo])), (yt, .inl (cI, 7, .inl mq2_24))] := hD
                subst hw_r_23
                exact W.iret (v := (-1000000001)) hx hb hr (fun t ht hW => ⟨⟨(-1000000001), (nb, mv9, mq2_24), rfl, ⟨(sp_cr3 c_14 c_14 rfl (fun q => (sp_s2 c_22) q.1)), (fun j => sp_c0 (fun h => (sp_s2 c_22) h.2.2.2.1)), (fun _ _ => rfl)⟩, by rw [ht]; exact hP.sub [4, 0, 1, 2, 3, 5] rfl, hD.sub [4, 0, 1, 2, 3, 5] (by decide +kernel) rfl⟩, hS.F ht⟩) hS.2.2 dX9_copy_116 hlk
              · skip
                refine lv_iload hx hb dX9_copy_83 (lv_at hl 5 rfl) ?_
                refine lv_aload_n hx hb dX9_copy_85 rfl (lv_at hl 0 rfl) ?_
                refine xg hF kf_X9_46 hK hP 0 rfl rfl dX9_copy_86 ?_
                refine lv_iload_n hx hb dX9_copy_89 rfl (lv_at hl 1 rfl) ?_
                refine va_iald hx hb hK hP 2 0 rfl rfl (xin 1 4 (by decide) (by decide)) dX9_copy_90 ?_
                refine xl_i (y := sq 1) (congrArg sq rfl) ?_
                refine xl_i (y := nI (zq)) ez ?_
                refine lv_iload_n hx hb dX9_copy_91 rfl (lv_at hl 2 rfl) ?_
                refine lv_isub hx hb dX9_copy_92 ?_
                refine lv_topi (fun x_25 ex_25 => ?_)
                refine lv_icmp_gt (tgt := 110) hx hb dX9_copy_93 (by decide) (fun c_26 => ?_) (fun c_26 => ?_)
                · skip
                  refine lv_aload_n hx hb dX9_copy_110 rfl (lv_at hl 0 rfl) ?_
                  refine lv_ldc (v := (-1000000001)) hx hb hown (hu _ uw648) dX9_copy_111 ?_
                  refine xc_Vi (wr := [(ybi, .inl (cI, 4, .inl bi)), (ysi, .inl (cI, 4, .inl sq)), (ynu, .inl (cJ, 160, .inr (.inl nb))), (ymo, .inl (cJ, 40, .inr (.inl mv9)))]) hF (c_X9_finds_B l D cI cJ cZ cS ta sa sv s.heap.size h0 ys yk yo yt mk0 yfa yfe mL mS mM yro yhe ygr mF mC mY yta mz mf mt mv mw ywa ybi ysi ynu ymo mq ) kv_X9_70 ⟨rfl, rfl, Nat.le_of_ble_eq_true rfl, Nat.le_of_ble_eq_true rfl⟩ ⟨Nat.le_of_ble_eq_true rfl, Nat.le_of_ble_eq_true rfl⟩ hK hN hZ hP hD hS hA [0, 5] [1, 2, 3, 4] rfl rfl rfl rfl (by decide) 0 rfl rfl rfl rfl hl.1 rfl (Nat.le_of_ble_eq_true rfl) dX9_copy_113 (fun r_27 u_r_27 H locs hw_r_27 hP hD hS => ?_)
                  obtain ⟨mq2_28, rfl⟩ : ∃ z, z = u_r_27 := ⟨_, rfl⟩
                  try dsimp only at hw_r_27
                  have hP : va_P D vwCl [(ybi, .inl (cI, 4, .inl bi)), (ysi, .inl (cI, 4, .inl sq)), (ynu, .inl (cJ, 160, .inr (.inl nb))), (ymo, .inl (cJ, 40, .inr (.inl mv9))), (h0, .inr (9, [.ref ys, .ref yk, .ref yo, .ref yt, .int mk0, .ref yfa, .ref yfe, .int mL, .int mS, .int mM, .ref yro, .ref yhe, .ref ygr, .int mF, .int mC, .int mY, .ref yta, .int (nI (mz)), .int (nI (mf)), .int (nI (mt)), .int mv, .int mw, .ref ywa, .ref ybi, .ref ysi, .ref ynu, .ref ymo])), (yt, .inl (cI, 7, .inl mq2_28))] H := hP
                  have hD : va_D A [(ybi, .inl (cI, 4, .inl bi)), (ysi, .inl (cI, 4, .inl sq)), (ynu, .inl (cJ, 160, .inr (.inl nb))), (ymo, .inl (cJ, 40, .inr (.inl mv9))), (h0, .inr (9, [.ref ys, .ref yk, .ref yo, .ref yt, .int mk0, .ref yfa, .ref yfe, .int mL, .int mS, .int mM, .ref yro, .ref yhe, .ref ygr, .int mF, .int mC, .int mY, .ref yta, .int (nI (mz)), .int (nI (mf)), .int (nI (mt)), .int mv, .int mw, .ref ywa, .ref ybi, .ref ysi, .ref ynu, .ref ymo])), (yt, .inl (cI, 7, .inl mq2_28))] := hD
                  subst hw_r_27
                  exact W.iret (v := (-1000000001)) hx hb hr (fun t ht hW => ⟨⟨(-1000000001), (nb, mv9, mq2_28), rfl, ⟨(sp_cr3 c_14 c_14 rfl (fun q => (sp_s5 hzq c_16 c_22 ex_25 c_26) q.1)), (fun j => sp_c0 (fun h => (sp_s5 hzq c_16 c_22 ex_25 c_26) h.2.2.2.1)), (fun _ _ => rfl)⟩, by rw [ht]; exact hP.sub [4, 0, 1, 2, 3, 5] rfl, hD.sub [4, 0, 1, 2, 3, 5] (by decide +kernel) rfl⟩, hS.F ht⟩) hS.2.2 dX9_copy_116 hlk
                · skip
                  refine lv_iload hx hb dX9_copy_96 (lv_at hl 5 rfl) ?_
                  refine lv_aload_n hx hb dX9_copy_98 rfl (lv_at hl 0 rfl) ?_
                  refine xg hF kf_X9_46 hK hP 0 rfl rfl dX9_copy_99 ?_
                  refine lv_iload_n hx hb dX9_copy_102 rfl (lv_at hl 3 rfl) ?_
                  refine va_iald hx hb hK hP 2 0 rfl rfl (xin 1 4 (by decide) (by decide)) dX9_copy_103 ?_
                  refine xl_i (y := sq 1) (congrArg sq rfl) ?_
                  refine xl_i (y := nI (zt)) et ?_
                  refine lv_iload hx hb dX9_copy_104 (lv_at hl 4 rfl) ?_
                  refine lv_isub hx hb dX9_copy_106 ?_
                  refine lv_topi (fun x_29 ex_29 => ?_)
                  refine lv_icmp_le (tgt := 117) hx hb dX9_copy_107 (by decide) (fun c_30 => ?_) (fun c_30 => ?_)
                  · skip
                    obtain ⟨y_31, hy_31, rfl⟩ := x_spk (by omega) c_16 c_22 ex_25 c_26
                    obtain ⟨y_32, hy_32, rfl⟩ := x_spj (by omega) (by omega) c_16 ex_25 c_26
                    obtain ⟨y_33, hy_33, rfl⟩ := x_spj (by omega) (by omega) c_19 ex_29 (Int32.not_lt.mpr c_30)
                    refine lv_iconst (v := 0) hx hb dX9_copy_117 (by decide) ?_
                    refine lv_istore (lv' := [(6, .int 0), (0, .ref h0), (1, .int 1), (2, .int (nI (y_32))), (3, .int 1), (4, .int (nI (y_33))), (5, .int (nI (y_31)))]) hx hb dX9_copy_118 hl (by decide) rfl (fun ls hl => ?_)
                    suffices loop_120 : ∀ (n_120 : Nat) (i : Nat) (m8 : Nat → Int64) (H : Heap) (locs : List Loc) (ls : Array Slot), y_31 - i < n_120 → (i ≤ y_31) → (∀ j, j < i → m8 j = nb (40 + y_32 + j)) → va_P D vwCl [(h0, .inr (9, [.ref ys, .ref yk, .ref yo, .ref yt, .int mk0, .ref yfa, .ref yfe, .int mL, .int mS, .int mM, .ref yro, .ref yhe, .ref ygr, .int mF, .int mC, .int mY, .ref yta, .int (nI (mz)), .int (nI (mf)), .int (nI (mt)), .int mv, .int mw, .ref ywa, .ref ybi, .ref ysi, .ref ynu, .ref ymo])), (ybi, .inl (cI, 4, .inl bi)), (ysi, .inl (cI, 4, .inl sq)), (ynu, .inl (cJ, 160, .inr (.inl nb))), (ymo, .inl (cJ, 40, .inr (.inl m8))), (yt, .inl (cI, 7, .inl mq))] H → va_D A [(h0, .inr (9, [.ref ys, .ref yk, .ref yo, .ref yt, .int mk0, .ref yfa, .ref yfe, .int mL, .int mS, .int mM, .ref yro, .ref yhe, .ref ygr, .int mF, .int mC, .int mY, .ref yta, .int (nI (mz)), .int (nI (mf)), .int (nI (mt)), .int mv, .int mw, .ref ywa, .ref ybi, .ref ysi, .ref ynu, .ref ymo])), (ybi, .inl (cI, 4, .inl bi)), (ysi, .inl (cI, 4, .inl sq)), (ynu, .inl (cJ, 160, .inr (.inl nb))), (ymo, .inl (cJ, 40, .inr (.inl m8))), (yt, .inl (cI, 7, .inl mq))] → va_S A s.heap H locs → lv_has ls 7 [(6, .int (nI (i))), (0, .ref h0), (1, .int 1), (2, .int (nI (y_32))), (3, .int 1), (4, .int (nI (y_33))), (5, .int (nI (y_31)))] → W p l e ({ frames := 2, cells := 0, slots := 0, locals := 45 }) s m ([.ref h0, .int 1, .int (nI (y_32)), .int 1, .int (nI (y_33)), .int (nI (y_31))] : List Value).toArray below meth c H locs 0 0 (MQ below (XQi (fun (r : Int32) (u : (Nat → Int64) × (Nat → Int64) × (Nat → Int32)) => match u with | (nb2, mv2, mq2) => ((r = sp_cr (bi 1) (bi 1) zq zt (nI (y_32)) (nI (y_33)) (nI (y_31)))) ∧ (∀ j, nb2 (40 + j) = sp_cn (bi 1) (bi 1) zq zt (nI (y_32)) (nI (y_33)) (nI (y_31)) (fun k => nb (40 + k)) j (nb (40 + j))) ∧ (∀ j, j < 40 ∨ 80 ≤ j → nb2 j = nb j)) D (fun (u : (Nat → Int64) × (Nat → Int64) × (Nat → Int32)) => match u with | (nb2, mv2, mq2) => [(h0, .inr (9, [.ref ys, .ref yk, .ref yo, .ref yt, .int mk0, .ref yfa, .ref yfe, .int mL, .int mS, .int mM, .ref yro, .ref yhe, .ref ygr, .int mF, .int mC, .int mY, .ref yta, .int (nI (mz)), .int (nI (mf)), .int (nI (mt)), .int mv, .int mw, .ref ywa, .ref ybi, .ref ysi, .ref ynu, .ref ymo])), (ybi, .inl (cI, 4, .inl bi)), (ysi, .inl (cI, 4, .inl sq)), (ynu, .inl (cJ, 160, .inr (.inl nb2))), (ymo, .inl (cJ, 40, .inr (.inl mv2))), (yt, .inl (cI, 7, .inl mq2))]) A) ([.ref h0, .int 1, .int (nI (y_32)), .int 1, .int (nI (y_33)), .int (nI (y_31))] : List Value).toArray s 0 0 A) (F0 m 120 ls []) by
                      exact loop_120 _ 0 mv9 _ _ _ (Nat.lt_succ_self _) (by omega) (fun j hj => absurd hj (Nat.not_lt_zero _)) hP hD hS (lv_sub hl [0, 1, 2, 3, 4, 5, 6] rfl)
                    intro n_120
                    induction n_120 with
                    | zero =>
                      intro i m8 H locs ls hm_120
                      exact absurd hm_120 (Nat.not_lt_zero _)
                    | succ n_120 ih_120 =>
                      intro i m8 H locs ls hm_120 hi hm8 hP hD hS hl
                      refine lv_iload hx hb dX9_copy_120 (lv_at hl 0 rfl) ?_
                      refine lv_iload hx hb dX9_copy_122 (lv_at hl 6 rfl) ?_
                      refine lv_icmp_ge (tgt := 154) hx hb dX9_copy_124 (by decide) (fun c_34 => ?_) (fun c_34 => ?_)
                      · skip
                        have nc_34 : y_31 ≤ i := xn_le (a := y_31) (b := i) (by omega) (by omega) c_34
                        refine lv_iconst (v := 0) hx hb dX9_copy_154 (by decide) ?_
                        refine lv_istore (lv' := [(6, .int 0), (0, .ref h0), (1, .int 1), (2, .int (nI (y_32))), (3, .int 1), (4, .int (nI (y_33))), (5, .int (nI (y_31)))]) hx hb dX9_copy_155 hl (by decide) rfl (fun ls hl => ?_)
                        suffices loop_157 : ∀ (n_157 : Nat) (i2 : Nat) (n8 : Nat → Int64) (H : Heap) (locs : List Loc) (ls : Array Slot), y_31 - i2 < n_157 → (i2 ≤ y_31) → (∀ j, n8 j = if 40 + y_33 ≤ j ∧ j < 40 + y_33 + i2 then m8 (j - (40 + y_33)) else nb j) → va_P D vwCl [(h0, .inr (9, [.ref ys, .ref yk, .ref yo, .ref yt, .int mk0, .ref yfa, .ref yfe, .int mL, .int mS, .int mM, .ref yro, .ref yhe, .ref ygr, .int mF, .int mC, .int mY, .ref yta, .int (nI (mz)), .int (nI (mf)), .int (nI (mt)), .int mv, .int mw, .ref ywa, .ref ybi, .ref ysi, .ref ynu, .ref ymo])), (ybi, .inl (cI, 4, .inl bi)), (ysi, .inl (cI, 4, .inl sq)), (ynu, .inl (cJ, 160, .inr (.inl n8))), (ymo, .inl (cJ, 40, .inr (.inl m8))), (yt, .inl (cI, 7, .inl mq))] H → va_D A [(h0, .inr (9, [.ref ys, .ref yk, .ref yo, .ref yt, .int mk0, .ref yfa, .ref yfe, .int mL, .int mS, .int mM, .ref yro, .ref yhe, .ref ygr, .int mF, .int mC, .int mY, .ref yta, .int (nI (mz)), .int (nI (mf)), .int (nI (mt)), .int mv, .int mw, .ref ywa, .ref ybi, .ref ysi, .ref ynu, .ref ymo])), (ybi, .inl (cI, 4, .inl bi)), (ysi, .inl (cI, 4, .inl sq)), (ynu, .inl (cJ, 160, .inr (.inl n8))), (ymo, .inl (cJ, 40, .inr (.inl m8))), (yt, .inl (cI, 7, .inl mq))] → va_S A s.heap H locs → lv_has ls 7 [(6, .int (nI (i2))), (0, .ref h0), (1, .int 1), (2, .int (nI (y_32))), (3, .int 1), (4, .int (nI (y_33))), (5, .int (nI (y_31)))] → W p l e ({ frames := 2, cells := 0, slots := 0, locals := 45 }) s m ([.ref h0, .int 1, .int (nI (y_32)), .int 1, .int (nI (y_33)), .int (nI (y_31))] : List Value).toArray below meth c H locs 0 0 (MQ below (XQi (fun (r : Int32) (u : (Nat → Int64) × (Nat → Int64) × (Nat → Int32)) => match u with | (nb2, mv2, mq2) => ((r = sp_cr (bi 1) (bi 1) zq zt (nI (y_32)) (nI (y_33)) (nI (y_31)))) ∧ (∀ j, nb2 (40 + j) = sp_cn (bi 1) (bi 1) zq zt (nI (y_32)) (nI (y_33)) (nI (y_31)) (fun k => nb (40 + k)) j (nb (40 + j))) ∧ (∀ j, j < 40 ∨ 80 ≤ j → nb2 j = nb j)) D (fun (u : (Nat → Int64) × (Nat → Int64) × (Nat → Int32)) => match u with | (nb2, mv2, mq2) => [(h0, .inr (9, [.ref ys, .ref yk, .ref yo, .ref yt, .int mk0, .ref yfa, .ref yfe, .int mL, .int mS, .int mM, .ref yro, .ref yhe, .ref ygr, .int mF, .int mC, .int mY, .ref yta, .int (nI (mz)), .int (nI (mf)), .int (nI (mt)), .int mv, .int mw, .ref ywa, .ref ybi, .ref ysi, .ref ynu, .ref ymo])), (ybi, .inl (cI, 4, .inl bi)), (ysi, .inl (cI, 4, .inl sq)), (ynu, .inl (cJ, 160, .inr (.inl nb2))), (ymo, .inl (cJ, 40, .inr (.inl mv2))), (yt, .inl (cI, 7, .inl mq2))]) A) ([.ref h0, .int 1, .int (nI (y_32)), .int 1, .int (nI (y_33)), .int (nI (y_31))] : List Value).toArray s 0 0 A) (F0 m 157 ls []) by
                          exact loop_157 _ 0 nb _ _ _ (Nat.lt_succ_self _) (by omega) (fun j => (if_neg (by omega)).symm) hP hD hS (lv_sub hl [0, 1, 2, 3, 4, 5, 6] rfl)
                        intro n_157
                        induction n_157 with
                        | zero =>
                          intro i2 n8 H locs ls hm_157
                          exact absurd hm_157 (Nat.not_lt_zero _)
                        | succ n_157 ih_157 =>
                          intro i2 n8 H locs ls hm_157 hi2 hn8 hP hD hS hl
                          refine lv_iload hx hb dX9_copy_157 (lv_at hl 0 rfl) ?_
                          refine lv_iload hx hb dX9_copy_159 (lv_at hl 6 rfl) ?_
                          refine lv_icmp_ge (tgt := 192) hx hb dX9_copy_161 (by decide) (fun c_35 => ?_) (fun c_35 => ?_)
                          · skip
                            have nc_35 : y_31 ≤ i2 := xn_le (a := y_31) (b := i2) (by omega) (by omega) c_35
                            refine lv_iload hx hb dX9_copy_192 (lv_at hl 6 rfl) ?_
                            have hn7 : ∀ j, n8 j = if 40 + y_33 ≤ j ∧ j < 40 + y_33 + y_31 then m8 (j - (40 + y_33)) else nb j := fun j => by rw [hn8 j, show i2 = y_31 by omega]
                            have hm7 : ∀ j, j < y_31 → m8 j = nb (40 + y_32 + j) := fun j hj => hm8 j (by omega)
                            exact W.iret (v := nI (y_31)) hx hb hr (fun t ht hW => ⟨⟨nI (y_31), (n8, m8, mq), rfl, ⟨(sp_cr4 c_14 c_14 rfl (sp_nspan (by omega) (by omega)) (sp_nspan (by omega) (by omega))), (fun j9 => sp_c1 (K := 40) (M := 40) (by omega) (by omega) c_14 c_14 rfl (by omega) (by omega) (fun i9 => sp_mv3 hn7 hm7 rfl rfl)), (fun j9 hj9 => by rw [hn7 j9, if_neg (by omega)])⟩, by rw [ht]; exact hP.sub [0, 1, 2, 3, 4, 5] rfl, hD.sub [0, 1, 2, 3, 4, 5] (by decide +kernel) rfl⟩, hS.F ht⟩) hS.2.2 dX9_copy_194 hlk
                          · skip
                            have nc_35 : i2 < y_31 := xn_nle (a := y_31) (b := i2) (by omega) (by omega) c_35
                            refine lv_aload_n hx hb dX9_copy_164 rfl (lv_at hl 1 rfl) ?_
                            refine xg hF kf_X9_49 hK hP 0 rfl rfl dX9_copy_165 ?_
                            refine lv_bipush (v := 40) hx hb dX9_copy_168 (by decide) ?_
                            refine lv_iload_n hx hb dX9_copy_170 rfl (lv_at hl 4 rfl) ?_
                            refine lv_imul hx hb dX9_copy_171 ?_
                            refine xl_i (y := 40) (by decide) ?_
                            refine lv_iload hx hb dX9_copy_172 (lv_at hl 5 rfl) ?_
                            refine lv_iadd hx hb dX9_copy_174 ?_
                            refine xl_i (y := nI (40 + y_33)) (nI_add 40 y_33) ?_
                            refine lv_iload hx hb dX9_copy_175 (lv_at hl 0 rfl) ?_
                            refine lv_iadd hx hb dX9_copy_177 ?_
                            refine xl_i (y := nI (40 + y_33 + i2)) (nI_add (40 + y_33) i2) ?_
                            refine lv_aload_n hx hb dX9_copy_178 rfl (lv_at hl 1 rfl) ?_
                            refine xg hF kf_X9_53 hK hP 0 rfl rfl dX9_copy_179 ?_
                            refine lv_iload hx hb dX9_copy_182 (lv_at hl 0 rfl) ?_
                            refine va_lald hx hb hK hP 4 1 rfl rfl (vp_in_nI (show i2 < 40 by omega) (by decide)) dX9_copy_184 ?_
                            refine xl_l (y := m8 i2) (congrArg m8 (nI_clamp (show i2 < 2 ^ 31 by omega))) ?_
                            refine va_last hx hb hK hP hD hS 3 1 rfl rfl (vp_in_nI (show 40 + y_33 + i2 < 160 by omega) (by decide)) dX9_copy_185 (fun H locs hP hD hS => ?_)
                            rw [nI_clamp (show 40 + y_33 + i2 < 2 ^ 31 by omega)] at hP hD
                            obtain ⟨f_36, ef_36⟩ : ∃ g, g = vp_updL n8 (40 + y_33 + i2) (m8 i2) := ⟨_, rfl⟩
                            rw [← ef_36] at hP hD
                            have hP : va_P D vwCl [(h0, .inr (9, [.ref ys, .ref yk, .ref yo, .ref yt, .int mk0, .ref yfa, .ref yfe, .int mL, .int mS, .int mM, .ref yro, .ref yhe, .ref ygr, .int mF, .int mC, .int mY, .ref yta, .int (nI (mz)), .int (nI (mf)), .int (nI (mt)), .int mv, .int mw, .ref ywa, .ref ybi, .ref ysi, .ref ynu, .ref ymo])), (ybi, .inl (cI, 4, .inl bi)), (ysi, .inl (cI, 4, .inl sq)), (ynu, .inl (cJ, 160, .inr (.inl f_36))), (ymo, .inl (cJ, 40, .inr (.inl m8))), (yt, .inl (cI, 7, .inl mq))] H := hP
                            have hD : va_D A [(h0, .inr (9, [.ref ys, .ref yk, .ref yo, .ref yt, .int mk0, .ref yfa, .ref yfe, .int mL, .int mS, .int mM, .ref yro, .ref yhe, .ref ygr, .int mF, .int mC, .int mY, .ref yta, .int (nI (mz)), .int (nI (mf)), .int (nI (mt)), .int mv, .int mw, .ref ywa, .ref ybi, .ref ysi, .ref ynu, .ref ymo])), (ybi, .inl (cI, 4, .inl bi)), (ysi, .inl (cI, 4, .inl sq)), (ynu, .inl (cJ, 160, .inr (.inl f_36))), (ymo, .inl (cJ, 40, .inr (.inl m8))), (yt, .inl (cI, 7, .inl mq))] := hD
                            refine lv_iinc (v := nI (i2 + 1)) (lv' := [(6, .int (nI (i2 + 1))), (0, .ref h0), (1, .int 1), (2, .int (nI (y_32))), (3, .int 1), (4, .int (nI (y_33))), (5, .int (nI (y_31)))]) hx hb dX9_copy_186 hl (k := 0) rfl (nI_1 (i2)) (by decide) rfl (fun ls hl => ?_)
                            refine lv_goto (tgt := 157) hx hb dX9_copy_189 (by decide) ?_
                            exact ih_157 (i2 + 1) f_36 _ _ _ (by omega) (by omega) (sp_mv2 hn8 ef_36) (hP.sub [0, 1, 2, 3, 4, 5] rfl) (hD.sub [0, 1, 2, 3, 4, 5] (by decide +kernel) rfl) hS (lv_sub hl [0, 1, 2, 3, 4, 5, 6] rfl)
                      · skip
                        have nc_34 : i < y_31 := xn_nle (a := y_31) (b := i) (by omega) (by omega) c_34
                        refine lv_aload_n hx hb dX9_copy_127 rfl (lv_at hl 1 rfl) ?_
                        refine xg hF kf_X9_53 hK hP 0 rfl rfl dX9_copy_128 ?_
                        refine lv_iload hx hb dX9_copy_131 (lv_at hl 0 rfl) ?_
                        refine lv_aload_n hx hb dX9_copy_133 rfl (lv_at hl 1 rfl) ?_
                        refine xg hF kf_X9_49 hK hP 0 rfl rfl dX9_copy_134 ?_
                        refine lv_bipush (v := 40) hx hb dX9_copy_137 (by decide) ?_
                        refine lv_iload_n hx hb dX9_copy_139 rfl (lv_at hl 2 rfl) ?_
                        refine lv_imul hx hb dX9_copy_140 ?_
                        refine xl_i (y := 40) (by decide) ?_
                        refine lv_iload_n hx hb dX9_copy_141 rfl (lv_at hl 3 rfl) ?_
                        refine lv_iadd hx hb dX9_copy_142 ?_
                        refine xl_i (y := nI (40 + y_32)) (nI_add 40 y_32) ?_
                        refine lv_iload hx hb dX9_copy_143 (lv_at hl 0 rfl) ?_
                        refine lv_iadd hx hb dX9_copy_145 ?_
                        refine xl_i (y := nI (40 + y_32 + i)) (nI_add (40 + y_32) i) ?_
                        refine va_lald hx hb hK hP 3 1 rfl rfl (vp_in_nI (show 40 + y_32 + i < 160 by omega) (by decide)) dX9_copy_146 ?_
                        refine xl_l (y := nb (40 + y_32 + i)) (congrArg nb (nI_clamp (show 40 + y_32 + i < 2 ^ 31 by omega))) ?_
                        refine va_last hx hb hK hP hD hS 4 1 rfl rfl (vp_in_nI (show i < 40 by omega) (by decide)) dX9_copy_147 (fun H locs hP hD hS => ?_)
                        rw [nI_clamp (show i < 2 ^ 31 by omega)] at hP hD
                        obtain ⟨f_37, ef_37⟩ : ∃ g, g = vp_updL m8 i (nb (40 + y_32 + i)) := ⟨_, rfl⟩
                        rw [← ef_37] at hP hD
                        have hP : va_P D vwCl [(h0, .inr (9, [.ref ys, .ref yk, .ref yo, .ref yt, .int mk0, .ref yfa, .ref yfe, .int mL, .int mS, .int mM, .ref yro, .ref yhe, .ref ygr, .int mF, .int mC, .int mY, .ref yta, .int (nI (mz)), .int (nI (mf)), .int (nI (mt)), .int mv, .int mw, .ref ywa, .ref ybi, .ref ysi, .ref ynu, .ref ymo])), (ybi, .inl (cI, 4, .inl bi)), (ysi, .inl (cI, 4, .inl sq)), (ynu, .inl (cJ, 160, .inr (.inl nb))), (ymo, .inl (cJ, 40, .inr (.inl f_37))), (yt, .inl (cI, 7, .inl mq))] H := hP
                        have hD : va_D A [(h0, .inr (9, [.ref ys, .ref yk, .ref yo, .ref yt, .int mk0, .ref yfa, .ref yfe, .int mL, .int mS, .int mM, .ref yro, .ref yhe, .ref ygr, .int mF, .int mC, .int mY, .ref yta, .int (nI (mz)), .int (nI (mf)), .int (nI (mt)), .int mv, .int mw, .ref ywa, .ref ybi, .ref ysi, .ref ynu, .ref ymo])), (ybi, .inl (cI, 4, .inl bi)), (ysi, .inl (cI, 4, .inl sq)), (ynu, .inl (cJ, 160, .inr (.inl nb))), (ymo, .inl (cJ, 40, .inr (.inl f_37))), (yt, .inl (cI, 7, .inl mq))] := hD
                        refine lv_iinc (v := nI (i + 1)) (lv' := [(6, .int (nI (i + 1))), (0, .ref h0), (1, .int 1), (2, .int (nI (y_32))), (3, .int 1), (4, .int (nI (y_33))), (5, .int (nI (y_31)))]) hx hb dX9_copy_148 hl (k := 0) rfl (nI_1 (i)) (by decide) rfl (fun ls hl => ?_)
                        refine lv_goto (tgt := 120) hx hb dX9_copy_151 (by decide) ?_
                        exact ih_120 (i + 1) f_37 _ _ _ (by omega) (by omega) (sp_mv1 hm8 ef_37) (hP.sub [0, 1, 2, 3, 4, 5] rfl) (hD.sub [0, 1, 2, 3, 4, 5] (by decide +kernel) rfl) hS (lv_sub hl [0, 1, 2, 3, 4, 5, 6] rfl)
                  · skip
                    refine lv_aload_n hx hb dX9_copy_110 rfl (lv_at hl 0 rfl) ?_
                    refine lv_ldc (v := (-1000000001)) hx hb hown (hu _ uw648) dX9_copy_111 ?_
                    refine xc_Vi (wr := [(ybi, .inl (cI, 4, .inl bi)), (ysi, .inl (cI, 4, .inl sq)), (ynu, .inl (cJ, 160, .inr (.inl nb))), (ymo, .inl (cJ, 40, .inr (.inl mv9)))]) hF (c_X9_finds_B l D cI cJ cZ cS ta sa sv s.heap.size h0 ys yk yo yt mk0 yfa yfe mL mS mM yro yhe ygr mF mC mY yta mz mf mt mv mw ywa ybi ysi ynu ymo mq ) kv_X9_70 ⟨rfl, rfl, Nat.le_of_ble_eq_true rfl, Nat.le_of_ble_eq_true rfl⟩ ⟨Nat.le_of_ble_eq_true rfl, Nat.le_of_ble_eq_true rfl⟩ hK hN hZ hP hD hS hA [0, 5] [1, 2, 3, 4] rfl rfl rfl rfl (by decide) 0 rfl rfl rfl rfl hl.1 rfl (Nat.le_of_ble_eq_true rfl) dX9_copy_113 (fun r_38 u_r_38 H locs hw_r_38 hP hD hS => ?_)
                    obtain ⟨mq2_39, rfl⟩ : ∃ z, z = u_r_38 := ⟨_, rfl⟩
                    try dsimp only at hw_r_38
                    have hP : va_P D vwCl [(ybi, .inl (cI, 4, .inl bi)), (ysi, .inl (cI, 4, .inl sq)), (ynu, .inl (cJ, 160, .inr (.inl nb))), (ymo, .inl (cJ, 40, .inr (.inl mv9))), (h0, .inr (9, [.ref ys, .ref yk, .ref yo, .ref yt, .int mk0, .ref yfa, .ref yfe, .int mL, .int mS, .int mM, .ref yro, .ref yhe, .ref ygr, .int mF, .int mC, .int mY, .ref yta, .int (nI (mz)), .int (nI (mf)), .int (nI (mt)), .int mv, .int mw, .ref ywa, .ref ybi, .ref ysi, .ref ynu, .ref ymo])), (yt, .inl (cI, 7, .inl mq2_39))] H := hP
                    have hD : va_D A [(ybi, .inl (cI, 4, .inl bi)), (ysi, .inl (cI, 4, .inl sq)), (ynu, .inl (cJ, 160, .inr (.inl nb))), (ymo, .inl (cJ, 40, .inr (.inl mv9))), (h0, .inr (9, [.ref ys, .ref yk, .ref yo, .ref yt, .int mk0, .ref yfa, .ref yfe, .int mL, .int mS, .int mM, .ref yro, .ref yhe, .ref ygr, .int mF, .int mC, .int mY, .ref yta, .int (nI (mz)), .int (nI (mf)), .int (nI (mt)), .int mv, .int mw, .ref ywa, .ref ybi, .ref ysi, .ref ynu, .ref ymo])), (yt, .inl (cI, 7, .inl mq2_39))] := hD
                    subst hw_r_38
                    exact W.iret (v := (-1000000001)) hx hb hr (fun t ht hW => ⟨⟨(-1000000001), (nb, mv9, mq2_39), rfl, ⟨(sp_cr3 c_14 c_14 rfl (fun q => (sp_s5 hzt c_19 c_22 ex_29 (xlt c_30)) q.2)), (fun j => sp_c0 (fun h => (sp_s5 hzt c_19 c_22 ex_29 (xlt c_30)) h.2.2.2.2)), (fun _ _ => rfl)⟩, by rw [ht]; exact hP.sub [4, 0, 1, 2, 3, 5] rfl, hD.sub [4, 0, 1, 2, 3, 5] (by decide +kernel) rfl⟩, hS.F ht⟩) hS.2.2 dX9_copy_116 hlk
        · skip
          refine lv_aload_n hx hb dX9_copy_39 rfl (lv_at hl 0 rfl) ?_
          refine lv_ldcw (v := (-1000000006)) hx hb hown (hu _ uw910) dX9_copy_40 ?_
          refine xc_Vi (wr := [(ybi, .inl (cI, 4, .inl bi)), (ysi, .inl (cI, 4, .inl sq)), (ynu, .inl (cJ, 160, .inr (.inl nb))), (ymo, .inl (cJ, 40, .inr (.inl mv9)))]) hF (c_X9_finds_M l D cI cJ cZ cS ta sa sv s.heap.size h0 ys yk yo yt mk0 yfa yfe mL mS mM yro yhe ygr mF mC mY yta mz mf mt mv mw ywa ybi ysi ynu ymo mq ) kv_X9_70 ⟨rfl, rfl, Nat.le_of_ble_eq_true rfl, Nat.le_of_ble_eq_true rfl⟩ ⟨Nat.le_of_ble_eq_true rfl, Nat.le_of_ble_eq_true rfl⟩ hK hN hZ hP hD hS hA [0, 5] [1, 2, 3, 4] rfl rfl rfl rfl (by decide) 0 rfl rfl rfl rfl hl.1 rfl (Nat.le_of_ble_eq_true rfl) dX9_copy_43 (fun r_40 u_r_40 H locs hw_r_40 hP hD hS => ?_)
          obtain ⟨mq2_41, rfl⟩ : ∃ z, z = u_r_40 := ⟨_, rfl⟩
          try dsimp only at hw_r_40
          have hP : va_P D vwCl [(ybi, .inl (cI, 4, .inl bi)), (ysi, .inl (cI, 4, .inl sq)), (ynu, .inl (cJ, 160, .inr (.inl nb))), (ymo, .inl (cJ, 40, .inr (.inl mv9))), (h0, .inr (9, [.ref ys, .ref yk, .ref yo, .ref yt, .int mk0, .ref yfa, .ref yfe, .int mL, .int mS, .int mM, .ref yro, .ref yhe, .ref ygr, .int mF, .int mC, .int mY, .ref yta, .int (nI (mz)), .int (nI (mf)), .int (nI (mt)), .int mv, .int mw, .ref ywa, .ref ybi, .ref ysi, .ref ynu, .ref ymo])), (yt, .inl (cI, 7, .inl mq2_41))] H := hP
          have hD : va_D A [(ybi, .inl (cI, 4, .inl bi)), (ysi, .inl (cI, 4, .inl sq)), (ynu, .inl (cJ, 160, .inr (.inl nb))), (ymo, .inl (cJ, 40, .inr (.inl mv9))), (h0, .inr (9, [.ref ys, .ref yk, .ref yo, .ref yt, .int mk0, .ref yfa, .ref yfe, .int mL, .int mS, .int mM, .ref yro, .ref yhe, .ref ygr, .int mF, .int mC, .int mY, .ref yta, .int (nI (mz)), .int (nI (mf)), .int (nI (mt)), .int mv, .int mw, .ref ywa, .ref ybi, .ref ysi, .ref ynu, .ref ymo])), (yt, .inl (cI, 7, .inl mq2_41))] := hD
          subst hw_r_40
          exact W.iret (v := (-1000000006)) hx hb hr (fun t ht hW => ⟨⟨(-1000000006), (nb, mv9, mq2_41), rfl, ⟨(sp_cr1 (Or.inl c_14)), (fun j => sp_c0 (fun h => h.1 c_14)), (fun _ _ => rfl)⟩, by rw [ht]; exact hP.sub [4, 0, 1, 2, 3, 5] rfl, hD.sub [4, 0, 1, 2, 3, 5] (by decide +kernel) rfl⟩, hS.F ht⟩) hS.2.2 dX9_copy_46 hlk
    · exact absurd h_9 (by decide)
  · exact absurd h_4 (by decide)
set_option maxHeartbeats 4000000 in
set_option maxRecDepth 100000 in
theorem c_X9_copy_12 (l : Launch) (D : va_G) (cI cJ cZ cS : ClassId) (ta : Nat) (sa sv : Nat → Nat) (sz : Nat) (h0 : Nat) (ys : Nat) (yk : Nat) (yo : Nat) (yt : Nat) (mk0 : Int32) (yfa : Nat) (yfe : Nat) (mL : Int32) (mS : Int32) (mM : Int32) (yro : Nat) (yhe : Nat) (ygr : Nat) (mF : Int32) (mC : Int32) (mY : Int32) (yta : Nat) (mz : Nat) (mf : Nat) (mt : Nat) (mv : Int32) (mw : Int32) (ywa : Nat) (ybi : Nat) (ysi : Nat) (ynu : Nat) (ymo : Nat) (bi : Nat → Int32) (sq : Nat → Int32) (nb : Nat → Int64) (mv9 : Nat → Int64) (mq : Nat → Int32) (p1 : Int32) (p3 : Int32) (p4 : Int32) (zq : Nat) (zt : Nat) (ez : sq 1 = nI zq) (hzq : zq ≤ 40) (et : sq 2 = nI zt) (hzt : zt ≤ 40) (hsq : BA 4 41 sq) : Met l yX9_copy (Cond.code yX9_copy cX9_copy 7 (some .int) :: wsU) ({ frames := 2, cells := 0, slots := 0, locals := 45 }) (va_Pc [.ref h0, .int 1, .int p1, .int 2, .int p3, .int p4] (XW D (xT cI cJ cZ cS) ta sa sv [(h0, .inr (9, [.ref ys, .ref yk, .ref yo, .ref yt, .int mk0, .ref yfa, .ref yfe, .int mL, .int mS, .int mM, .ref yro, .ref yhe, .ref ygr, .int mF, .int mC, .int mY, .ref yta, .int (nI (mz)), .int (nI (mf)), .int (nI (mt)), .int mv, .int mw, .ref ywa, .ref ybi, .ref ysi, .ref ynu, .ref ymo])), (ybi, .inl (cI, 4, .inl bi)), (ysi, .inl (cI, 4, .inl sq)), (ynu, .inl (cJ, 160, .inr (.inl nb))), (ymo, .inl (cJ, 40, .inr (.inl mv9))), (yt, .inl (cI, 7, .inl mq))] sz)) (XQi (fun (r : Int32) (u : (Nat → Int64) × (Nat → Int64) × (Nat → Int32)) => match u with | (nb2, mv2, mq2) => ((r = sp_cr (bi 1) (bi 2) zq zt p1 p3 p4)) ∧ (∀ j, nb2 (80 + j) = sp_cn (bi 1) (bi 2) zq zt p1 p3 p4 (fun k => nb (40 + k)) j (nb (80 + j))) ∧ (∀ j, j < 80 ∨ 120 ≤ j → nb2 j = nb j)) D (fun (u : (Nat → Int64) × (Nat → Int64) × (Nat → Int32)) => match u with | (nb2, mv2, mq2) => [(h0, .inr (9, [.ref ys, .ref yk, .ref yo, .ref yt, .int mk0, .ref yfa, .ref yfe, .int mL, .int mS, .int mM, .ref yro, .ref yhe, .ref ygr, .int mF, .int mC, .int mY, .ref yta, .int (nI (mz)), .int (nI (mf)), .int (nI (mt)), .int mv, .int mw, .ref ywa, .ref ybi, .ref ysi, .ref ynu, .ref ymo])), (ybi, .inl (cI, 4, .inl bi)), (ysi, .inl (cI, 4, .inl sq)), (ynu, .inl (cJ, 160, .inr (.inl nb2))), (ymo, .inl (cJ, 40, .inr (.inl mv2))), (yt, .inl (cI, 7, .inl mq2))]) (va_A [(h0, .inr (9, [.ref ys, .ref yk, .ref yo, .ref yt, .int mk0, .ref yfa, .ref yfe, .int mL, .int mS, .int mM, .ref yro, .ref yhe, .ref ygr, .int mF, .int mC, .int mY, .ref yta, .int (nI (mz)), .int (nI (mf)), .int (nI (mt)), .int mv, .int mw, .ref ywa, .ref ybi, .ref ysi, .ref ynu, .ref ymo])), (ybi, .inl (cI, 4, .inl bi)), (ysi, .inl (cI, 4, .inl sq)), (ynu, .inl (cJ, 160, .inr (.inl nb))), (ymo, .inl (cJ, 40, .inr (.inl mv9))), (yt, .inl (cI, 7, .inl mq))] sz)) 0 0 (va_A [(h0, .inr (9, [.ref ys, .ref yk, .ref yo, .ref yt, .int mk0, .ref yfa, .ref yfe, .int mL, .int mS, .int mM, .ref yro, .ref yhe, .ref ygr, .int mF, .int mC, .int mY, .ref yta, .int (nI (mz)), .int (nI (mf)), .int (nI (mt)), .int mv, .int mw, .ref ywa, .ref ybi, .ref ysi, .ref ynu, .ref ymo])), (ybi, .inl (cI, 4, .inl bi)), (ysi, .inl (cI, 4, .inl sq)), (ynu, .inl (cJ, 160, .inr (.inl nb))), (ymo, .inl (cJ, 40, .inr (.inl mv9))), (yt, .inl (cI, 7, .inl mq))] sz) := by
  refine xh (QA := fun A => XQi (fun (r : Int32) (u : (Nat → Int64) × (Nat → Int64) × (Nat → Int32)) => match u with | (nb2, mv2, mq2) => ((r = sp_cr (bi 1) (bi 2) zq zt p1 p3 p4)) ∧ (∀ j, nb2 (80 + j) = sp_cn (bi 1) (bi 2) zq zt p1 p3 p4 (fun k => nb (40 + k)) j (nb (80 + j))) ∧ (∀ j, j < 80 ∨ 120 ≤ j → nb2 j = nb j)) D (fun (u : (Nat → Int64) × (Nat → Int64) × (Nat → Int32)) => match u with | (nb2, mv2, mq2) => [(h0, .inr (9, [.ref ys, .ref yk, .ref yo, .ref yt, .int mk0, .ref yfa, .ref yfe, .int mL, .int mS, .int mM, .ref yro, .ref yhe, .ref ygr, .int mF, .int mC, .int mY, .ref yta, .int (nI (mz)), .int (nI (mf)), .int (nI (mt)), .int mv, .int mw, .ref ywa, .ref ybi, .ref ysi, .ref ynu, .ref ymo])), (ybi, .inl (cI, 4, .inl bi)), (ysi, .inl (cI, 4, .inl sq)), (ynu, .inl (cJ, 160, .inr (.inl nb2))), (ymo, .inl (cJ, 40, .inr (.inl mv2))), (yt, .inl (cI, 7, .inl mq2))]) A) (fr := fun A => A) (by decide) (Nat.le_of_ble_eq_true rfl) ?_
  intro p e s m below meth c ls A hF hr hlk hin hsz hP hK hD hN hZ hA hS hl
  have hF : CallFix p m c cX9_copy 7 s _ _ RX9 := hF
  have hx := hF.1
  have hb := hF.2.1
  have hml := hF.2.2.1
  have hown := hF.2.2.2.1
  have hu : ∀ w ∈ wsU, w.before _ s = true := fun w h => hF.2.2.2.2 w (List.mem_cons_of_mem _ h)
  have hl : lv_has ls 7 [(0, .ref h0), (1, .int 1), (2, .int p1), (3, .int 2), (4, .int p3), (5, .int p4)] := hl
  refine lv_iload_n hx hb dX9_copy_0 rfl (lv_at hl 1 rfl) ?_
  refine xc_Sr hF (c_X9_isOne l D cI cJ cZ cS ta sa sv s.heap.size 1 ) ks_X9_305 ⟨rfl, rfl, Nat.le_of_ble_eq_true rfl, Nat.le_of_ble_eq_true rfl⟩ ⟨Nat.le_of_ble_eq_true rfl, Nat.le_of_ble_eq_true rfl⟩ hK hN hZ hP hD hS hA [] rfl rfl rfl hl.1 rfl (Nat.le_of_ble_eq_true rfl) dX9_copy_1 (fun r_1 hw_r_1 => ?_)
  rcases hw_r_1 with ⟨rfl, h_2, h_3⟩ | ⟨rfl, h_4⟩
  · skip
    refine lv_if_eq (tgt := 14) hx hb dX9_copy_4 (by decide) (fun c_5 => absurd c_5 (by decide)) (fun c_5 => ?_)
    refine lv_iload_n hx hb dX9_copy_7 rfl (lv_at hl 3 rfl) ?_
    refine xc_Sr hF (c_X9_isOne l D cI cJ cZ cS ta sa sv s.heap.size 2 ) ks_X9_305 ⟨rfl, rfl, Nat.le_of_ble_eq_true rfl, Nat.le_of_ble_eq_true rfl⟩ ⟨Nat.le_of_ble_eq_true rfl, Nat.le_of_ble_eq_true rfl⟩ hK hN hZ hP hD hS hA [] rfl rfl rfl hl.1 rfl (Nat.le_of_ble_eq_true rfl) dX9_copy_8 (fun r_6 hw_r_6 => ?_)
    rcases hw_r_6 with ⟨rfl, h_7, h_8⟩ | ⟨rfl, h_9⟩
    · skip
      refine lv_if_ne (tgt := 21) hx hb dX9_copy_11 (by decide) (fun c_10 => ?_) (fun c_10 => absurd c_10 (by decide))
      refine lv_aload_n hx hb dX9_copy_21 rfl (lv_at hl 0 rfl) ?_
      refine xg hF kf_X9_43 hK hP 0 rfl rfl dX9_copy_22 ?_
      refine lv_iload_n hx hb dX9_copy_25 rfl (lv_at hl 1 rfl) ?_
      refine va_iald hx hb hK hP 1 0 rfl rfl (xin 1 4 (by decide) (by decide)) dX9_copy_26 ?_
      refine xl_i (y := bi 1) (congrArg bi rfl) ?_
      refine lv_if_eq (tgt := 39) hx hb dX9_copy_27 (by decide) (fun c_11 => ?_) (fun c_11 => ?_)
      · skip
        refine lv_aload_n hx hb dX9_copy_39 rfl (lv_at hl 0 rfl) ?_
        refine lv_ldcw (v := (-1000000006)) hx hb hown (hu _ uw910) dX9_copy_40 ?_
        refine xc_Vi (wr := [(ybi, .inl (cI, 4, .inl bi)), (ysi, .inl (cI, 4, .inl sq)), (ynu, .inl (cJ, 160, .inr (.inl nb))), (ymo, .inl (cJ, 40, .inr (.inl mv9)))]) hF (c_X9_finds_M l D cI cJ cZ cS ta sa sv s.heap.size h0 ys yk yo yt mk0 yfa yfe mL mS mM yro yhe ygr mF mC mY yta mz mf mt mv mw ywa ybi ysi ynu ymo mq ) kv_X9_70 ⟨rfl, rfl, Nat.le_of_ble_eq_true rfl, Nat.le_of_ble_eq_true rfl⟩ ⟨Nat.le_of_ble_eq_true rfl, Nat.le_of_ble_eq_true rfl⟩ hK hN hZ hP hD hS hA [0, 5] [1, 2, 3, 4] rfl rfl rfl rfl (by decide) 0 rfl rfl rfl rfl hl.1 rfl (Nat.le_of_ble_eq_true rfl) dX9_copy_43 (fun r_12 u_r_12 H locs hw_r_12 hP hD hS => ?_)
        obtain ⟨mq2_13, rfl⟩ : ∃ z, z = u_r_12 := ⟨_, rfl⟩
        try dsimp only at hw_r_12
        have hP : va_P D vwCl [(ybi, .inl (cI, 4, .inl bi)), (ysi, .inl (cI, 4, .inl sq)), (ynu, .inl (cJ, 160, .inr (.inl nb))), (ymo, .inl (cJ, 40, .inr (.inl mv9))), (h0, .inr (9, [.ref ys, .ref yk, .ref yo, .ref yt, .int mk0, .ref yfa, .ref yfe, .int mL, .int mS, .int mM, .ref yro, .ref yhe, .ref ygr, .int mF, .int mC, .int mY, .ref yta, .int (nI (mz)), .int (nI (mf)), .int (nI (mt)), .int mv, .int mw, .ref ywa, .ref ybi, .ref ysi, .ref ynu, .ref ymo])), (yt, .inl (cI, 7, .inl mq2_13))] H := hP
        have hD : va_D A [(ybi, .inl (cI, 4, .inl bi)), (ysi, .inl (cI, 4, .inl sq)), (ynu, .inl (cJ, 160, .inr (.inl nb))), (ymo, .inl (cJ, 40, .inr (.inl mv9))), (h0, .inr (9, [.ref ys, .ref yk, .ref yo, .ref yt, .int mk0, .ref yfa, .ref yfe, .int mL, .int mS, .int mM, .ref yro, .ref yhe, .ref ygr, .int mF, .int mC, .int mY, .ref yta, .int (nI (mz)), .int (nI (mf)), .int (nI (mt)), .int mv, .int mw, .ref ywa, .ref ybi, .ref ysi, .ref ynu, .ref ymo])), (yt, .inl (cI, 7, .inl mq2_13))] := hD
        subst hw_r_12
        exact W.iret (v := (-1000000006)) hx hb hr (fun t ht hW => ⟨⟨(-1000000006), (nb, mv9, mq2_13), rfl, ⟨(sp_cr1 (Or.inl c_11)), (fun j => sp_c0 (fun h => h.1 c_11)), (fun _ _ => rfl)⟩, by rw [ht]; exact hP.sub [4, 0, 1, 2, 3, 5] rfl, hD.sub [4, 0, 1, 2, 3, 5] (by decide +kernel) rfl⟩, hS.F ht⟩) hS.2.2 dX9_copy_46 hlk
      · skip
        refine lv_aload_n hx hb dX9_copy_30 rfl (lv_at hl 0 rfl) ?_
        refine xg hF kf_X9_43 hK hP 0 rfl rfl dX9_copy_31 ?_
        refine lv_iload_n hx hb dX9_copy_34 rfl (lv_at hl 3 rfl) ?_
        refine va_iald hx hb hK hP 1 0 rfl rfl (xin 2 4 (by decide) (by decide)) dX9_copy_35 ?_
        refine xl_i (y := bi 2) (congrArg bi rfl) ?_
        refine lv_if_ne (tgt := 47) hx hb dX9_copy_36 (by decide) (fun c_14 => ?_) (fun c_14 => ?_)
        · skip
          refine lv_aload_n hx hb dX9_copy_47 rfl (lv_at hl 0 rfl) ?_
          refine xg hF kf_X9_43 hK hP 0 rfl rfl dX9_copy_48 ?_
          refine lv_iload_n hx hb dX9_copy_51 rfl (lv_at hl 1 rfl) ?_
          refine va_iald hx hb hK hP 1 0 rfl rfl (xin 1 4 (by decide) (by decide)) dX9_copy_52 ?_
          refine xl_i (y := bi 1) (congrArg bi rfl) ?_
          refine lv_aload_n hx hb dX9_copy_53 rfl (lv_at hl 0 rfl) ?_
          refine xg hF kf_X9_43 hK hP 0 rfl rfl dX9_copy_54 ?_
          refine lv_iload_n hx hb dX9_copy_57 rfl (lv_at hl 3 rfl) ?_
          refine va_iald hx hb hK hP 1 0 rfl rfl (xin 2 4 (by decide) (by decide)) dX9_copy_58 ?_
          refine xl_i (y := bi 2) (congrArg bi rfl) ?_
          refine lv_icmp_eq (tgt := 69) hx hb dX9_copy_59 (by decide) (fun c_15 => ?_) (fun c_15 => ?_)
          · skip
            refine lv_iload_n hx hb dX9_copy_69 rfl (lv_at hl 2 rfl) ?_
            refine lv_if_lt (tgt := 110) hx hb dX9_copy_70 (by decide) (fun c_16 => ?_) (fun c_16 => ?_)
            · skip
              refine lv_aload_n hx hb dX9_copy_110 rfl (lv_at hl 0 rfl) ?_
              refine lv_ldc (v := (-1000000001)) hx hb hown (hu _ uw648) dX9_copy_111 ?_
              refine xc_Vi (wr := [(ybi, .inl (cI, 4, .inl bi)), (ysi, .inl (cI, 4, .inl sq)), (ynu, .inl (cJ, 160, .inr (.inl nb))), (ymo, .inl (cJ, 40, .inr (.inl mv9)))]) hF (c_X9_finds_B l D cI cJ cZ cS ta sa sv s.heap.size h0 ys yk yo yt mk0 yfa yfe mL mS mM yro yhe ygr mF mC mY yta mz mf mt mv mw ywa ybi ysi ynu ymo mq ) kv_X9_70 ⟨rfl, rfl, Nat.le_of_ble_eq_true rfl, Nat.le_of_ble_eq_true rfl⟩ ⟨Nat.le_of_ble_eq_true rfl, Nat.le_of_ble_eq_true rfl⟩ hK hN hZ hP hD hS hA [0, 5] [1, 2, 3, 4] rfl rfl rfl rfl (by decide) 0 rfl rfl rfl rfl hl.1 rfl (Nat.le_of_ble_eq_true rfl) dX9_copy_113 (fun r_17 u_r_17 H locs hw_r_17 hP hD hS => ?_)
              obtain ⟨mq2_18, rfl⟩ : ∃ z, z = u_r_17 := ⟨_, rfl⟩
              try dsimp only at hw_r_17
              have hP : va_P D vwCl [(ybi, .inl (cI, 4, .inl bi)), (ysi, .inl (cI, 4, .inl sq)), (ynu, .inl (cJ, 160, .inr (.inl nb))), (ymo, .inl (cJ, 40, .inr (.inl mv9))), (h0, .inr (9, [.ref ys, .ref yk, .ref yo, .ref yt, .int mk0, .ref yfa, .ref yfe, .int mL, .int mS, .int mM, .ref yro, .ref yhe, .ref ygr, .int mF, .int mC, .int mY, .ref yta, .int (nI (mz)), .int (nI (mf)), .int (nI (mt)), .int mv, .int mw, .ref ywa, .ref ybi, .ref ysi, .ref ynu, .ref ymo])), (yt, .inl (cI, 7, .inl mq2_18))] H := hP
              have hD : va_D A [(ybi, .inl (cI, 4, .inl bi)), (ysi, .inl (cI, 4, .inl sq)), (ynu, .inl (cJ, 160, .inr (.inl nb))), (ymo, .inl (cJ, 40, .inr (.inl mv9))), (h0, .inr (9, [.ref ys, .ref yk, .ref yo, .ref yt, .int mk0, .ref yfa, .ref yfe, .int mL, .int mS, .int mM, .ref yro, .ref yhe, .ref ygr, .int mF, .int mC, .int mY, .ref yta, .int (nI (mz)), .int (nI (mf)), .int (nI (mt)), .int mv, .int mw, .ref ywa, .ref ybi, .ref ysi, .ref ynu, .ref ymo])), (yt, .inl (cI, 7, .inl mq2_18))] := hD
              subst hw_r_17
              exact W.iret (v := (-1000000001)) hx hb hr (fun t ht hW => ⟨⟨(-1000000001), (nb, mv9, mq2_18), rfl, ⟨(sp_cr3 c_11 c_14 c_15 (fun q => (sp_s1 c_16) q.1)), (fun j => sp_c0 (fun h => (sp_s1 c_16) h.2.2.2.1)), (fun _ _ => rfl)⟩, by rw [ht]; exact hP.sub [4, 0, 1, 2, 3, 5] rfl, hD.sub [4, 0, 1, 2, 3, 5] (by decide +kernel) rfl⟩, hS.F ht⟩) hS.2.2 dX9_copy_116 hlk
            · skip
              refine lv_iload hx hb dX9_copy_73 (lv_at hl 4 rfl) ?_
              refine lv_if_lt (tgt := 110) hx hb dX9_copy_75 (by decide) (fun c_19 => ?_) (fun c_19 => ?_)
              · skip
                refine lv_aload_n hx hb dX9_copy_110 rfl (lv_at hl 0 rfl) ?_
                refine lv_ldc (v := (-1000000001)) hx hb hown (hu _ uw648) dX9_copy_111 ?_
                refine xc_Vi (wr := [(ybi, .inl (cI, 4, .inl bi)), (ysi, .inl (cI, 4, .inl sq)), (ynu, .inl (cJ, 160, .inr (.inl nb))), (ymo, .inl (cJ, 40, .inr (.inl mv9)))]) hF (c_X9_finds_B l D cI cJ cZ cS ta sa sv s.heap.size h0 ys yk yo yt mk0 yfa yfe mL mS mM yro yhe ygr mF mC mY yta mz mf mt mv mw ywa ybi ysi ynu ymo mq ) kv_X9_70 ⟨rfl, rfl, Nat.le_of_ble_eq_true rfl, Nat.le_of_ble_eq_true rfl⟩ ⟨Nat.le_of_ble_eq_true rfl, Nat.le_of_ble_eq_true rfl⟩ hK hN hZ hP hD hS hA [0, 5] [1, 2, 3, 4] rfl rfl rfl rfl (by decide) 0 rfl rfl rfl rfl hl.1 rfl (Nat.le_of_ble_eq_true rfl) dX9_copy_113 (fun r_20 u_r_20 H locs hw_r_20 hP hD hS => ?_)
                obtain ⟨mq2_21, rfl⟩ : ∃ z, z = u_r_20 := ⟨_, rfl⟩
                try dsimp only at hw_r_20
                have hP : va_P D vwCl [(ybi, .inl (cI, 4, .inl bi)), (ysi, .inl (cI, 4, .inl sq)), (ynu, .inl (cJ, 160, .inr (.inl nb))), (ymo, .inl (cJ, 40, .inr (.inl mv9))), (h0, .inr (9, [.ref ys, .ref yk, .ref yo, .ref yt, .int mk0, .ref yfa, .ref yfe, .int mL, .int mS, .int mM, .ref yro, .ref yhe, .ref ygr, .int mF, .int mC, .int mY, .ref yta, .int (nI (mz)), .int (nI (mf)), .int (nI (mt)), .int mv, .int mw, .ref ywa, .ref ybi, .ref ysi, .ref ynu, .ref ymo])), (yt, .inl (cI, 7, .inl mq2_21))] H := hP
                have hD : va_D A [(ybi, .inl (cI, 4, .inl bi)), (ysi, .inl (cI, 4, .inl sq)), (ynu, .inl (cJ, 160, .inr (.inl nb))), (ymo, .inl (cJ, 40, .inr (.inl mv9))), (h0, .inr (9, [.ref ys, .ref yk, .ref yo, .ref yt, .int mk0, .ref yfa, .ref yfe, .int mL, .int mS, .int mM, .ref yro, .ref yhe, .ref ygr, .int mF, .int mC, .int mY, .ref yta, .int (nI (mz)), .int (nI (mf)), .int (nI (mt)), .int mv, .int mw, .ref ywa, .ref ybi, .ref ysi, .ref ynu, .ref ymo])), (yt, .inl (cI, 7, .inl mq2_21))] := hD
                subst hw_r_20
                exact W.iret (v := (-1000000001)) hx hb hr (fun t ht hW => ⟨⟨(-1000000001), (nb, mv9, mq2_21), rfl, ⟨(sp_cr3 c_11 c_14 c_15 (fun q => (sp_s1 c_19) q.2)), (fun j => sp_c0 (fun h => (sp_s1 c_19) h.2.2.2.2)), (fun _ _ => rfl)⟩, by rw [ht]; exact hP.sub [4, 0, 1, 2, 3, 5] rfl, hD.sub [4, 0, 1, 2, 3, 5] (by decide +kernel) rfl⟩, hS.F ht⟩) hS.2.2 dX9_copy_116 hlk
              · skip
                refine lv_iload hx hb dX9_copy_78 (lv_at hl 5 rfl) ?_
                refine lv_if_lt (tgt := 110) hx hb dX9_copy_80 (by decide) (fun c_22 => ?_) (fun c_22 => ?_)
                · skip
                  refine lv_aload_n hx hb dX9_copy_110 rfl (lv_at hl 0 rfl) ?_
                  refine lv_ldc (v := (-1000000001)) hx hb hown (hu _ uw648) dX9_copy_111 ?_
                  refine xc_Vi (wr := [(ybi, .inl (cI, 4, .inl bi)), (ysi, .inl (cI, 4, .inl sq)), (ynu, .inl (cJ, 160, .inr (.inl nb))), (ymo, .inl (cJ, 40, .inr (.inl mv9)))]) hF (c_X9_finds_B l D cI cJ cZ cS ta sa sv s.heap.size h0 ys yk yo yt mk0 yfa yfe mL mS mM yro yhe ygr mF mC mY yta mz mf mt mv mw ywa ybi ysi ynu ymo mq ) kv_X9_70 ⟨rfl, rfl, Nat.le_of_ble_eq_true rfl, Nat.le_of_ble_eq_true rfl⟩ ⟨Nat.le_of_ble_eq_true rfl, Nat.le_of_ble_eq_true rfl⟩ hK hN hZ hP hD hS hA [0, 5] [1, 2, 3, 4] rfl rfl rfl rfl (by decide) 0 rfl rfl rfl rfl hl.1 rfl (Nat.le_of_ble_eq_true rfl) dX9_copy_113 (fun r_23 u_r_23 H locs hw_r_23 hP hD hS => ?_)
                  obtain ⟨mq2_24, rfl⟩ : ∃ z, z = u_r_23 := ⟨_, rfl⟩
                  try dsimp only at hw_r_23
                  have hP : va_P D vwCl [(ybi, .inl (cI, 4, .inl bi)), (ysi, .inl (cI, 4, .inl sq)), (ynu, .inl (cJ, 160, .inr (.inl nb))), (ymo, .inl (cJ, 40, .inr (.inl mv9))), (h0, .inr (9, [.ref ys, .ref yk, .ref yo, .ref yt, .int mk0, .ref yfa, .ref yfe, .int mL, .int mS, .int mM, .ref yro, .ref yhe, .ref ygr, .int mF, .int mC, .int mY, .ref yta, .int (nI (mz)), .int (nI (mf)), .int (nI (mt)), .int mv, .int mw, .ref ywa, .ref ybi, .ref ysi, .ref ynu, .ref ymo])), (yt, .inl (cI, 7, .inl mq2_24))] H := hP
                  have hD : va_D A [(ybi, .inl (cI, 4, .inl bi)), (ysi, .inl (cI, 4, .inl sq)), (ynu, .inl (cJ, 160, .inr (.inl nb))), (ymo, .inl (cJ, 40, .inr (.inl mv9))), (h0, .inr (9, [.ref ys, .ref yk, .ref yo, .ref yt, .int mk0, .ref yfa, .ref yfe, .int mL, .int mS, .int mM, .ref yro, .ref yhe, .ref ygr, .int mF, .int mC, .int mY, .ref yta, .int (nI (mz)), .int (nI (mf)), .int (nI (mt)), .int mv, .int mw, .ref ywa, .ref ybi, .ref ysi, .ref ynu, .ref ymo])), (yt, .inl (cI, 7, .inl mq2_24))] := hD
                  subst hw_r_23
                  exact W.iret (v := (-1000000001)) hx hb hr (fun t ht hW => ⟨⟨(-1000000001), (nb, mv9, mq2_24), rfl, ⟨(sp_cr3 c_11 c_14 c_15 (fun q => (sp_s2 c_22) q.1)), (fun j => sp_c0 (fun h => (sp_s2 c_22) h.2.2.2.1)), (fun _ _ => rfl)⟩, by rw [ht]; exact hP.sub [4, 0, 1, 2, 3, 5] rfl, hD.sub [4, 0, 1, 2, 3, 5] (by decide +kernel) rfl⟩, hS.F ht⟩) hS.2.2 dX9_copy_116 hlk
                · skip
                  refine lv_iload hx hb dX9_copy_83 (lv_at hl 5 rfl) ?_
                  refine lv_aload_n hx hb dX9_copy_85 rfl (lv_at hl 0 rfl) ?_
                  refine xg hF kf_X9_46 hK hP 0 rfl rfl dX9_copy_86 ?_
                  refine lv_iload_n hx hb dX9_copy_89 rfl (lv_at hl 1 rfl) ?_
                  refine va_iald hx hb hK hP 2 0 rfl rfl (xin 1 4 (by decide) (by decide)) dX9_copy_90 ?_
                  refine xl_i (y := sq 1) (congrArg sq rfl) ?_
                  refine xl_i (y := nI (zq)) ez ?_
                  refine lv_iload_n hx hb dX9_copy_91 rfl (lv_at hl 2 rfl) ?_
                  refine lv_isub hx hb dX9_copy_92 ?_
                  refine lv_topi (fun x_25 ex_25 => ?_)
                  refine lv_icmp_gt (tgt := 110) hx hb dX9_copy_93 (by decide) (fun c_26 => ?_) (fun c_26 => ?_)
                  · skip
                    refine lv_aload_n hx hb dX9_copy_110 rfl (lv_at hl 0 rfl) ?_
                    refine lv_ldc (v := (-1000000001)) hx hb hown (hu _ uw648) dX9_copy_111 ?_
                    refine xc_Vi (wr := [(ybi, .inl (cI, 4, .inl bi)), (ysi, .inl (cI, 4, .inl sq)), (ynu, .inl (cJ, 160, .inr (.inl nb))), (ymo, .inl (cJ, 40, .inr (.inl mv9)))]) hF (c_X9_finds_B l D cI cJ cZ cS ta sa sv s.heap.size h0 ys yk yo yt mk0 yfa yfe mL mS mM yro yhe ygr mF mC mY yta mz mf mt mv mw ywa ybi ysi ynu ymo mq ) kv_X9_70 ⟨rfl, rfl, Nat.le_of_ble_eq_true rfl, Nat.le_of_ble_eq_true rfl⟩ ⟨Nat.le_of_ble_eq_true rfl, Nat.le_of_ble_eq_true rfl⟩ hK hN hZ hP hD hS hA [0, 5] [1, 2, 3, 4] rfl rfl rfl rfl (by decide) 0 rfl rfl rfl rfl hl.1 rfl (Nat.le_of_ble_eq_true rfl) dX9_copy_113 (fun r_27 u_r_27 H locs hw_r_27 hP hD hS => ?_)
                    obtain ⟨mq2_28, rfl⟩ : ∃ z, z = u_r_27 := ⟨_, rfl⟩
                    try dsimp only at hw_r_27
                    have hP : va_P D vwCl [(ybi, .inl (cI, 4, .inl bi)), (ysi, .inl (cI, 4, .inl sq)), (ynu, .inl (cJ, 160, .inr (.inl nb))), (ymo, .inl (cJ, 40, .inr (.inl mv9))), (h0, .inr (9, [.ref ys, .ref yk, .ref yo, .ref yt, .int mk0, .ref yfa, .ref yfe, .int mL, .int mS, .int mM, .ref yro, .ref yhe, .ref ygr, .int mF, .int mC, .int mY, .ref yta, .int (nI (mz)), .int (nI (mf)), .int (nI (mt)), .int mv, .int mw, .ref ywa, .ref ybi, .ref ysi, .ref ynu, .ref ymo])), (yt, .inl (cI, 7, .inl mq2_28))] H := hP
                    have hD : va_D A [(ybi, .inl (cI, 4, .inl bi)), (ysi, .inl (cI, 4, .inl sq)), (ynu, .inl (cJ, 160, .inr (.inl nb))), (ymo, .inl (cJ, 40, .inr (.inl mv9))), (h0, .inr (9, [.ref ys, .ref yk, .ref yo, .ref yt, .int mk0, .ref yfa, .ref yfe, .int mL, .int mS, .int mM, .ref yro, .ref yhe, .ref ygr, .int mF, .int mC, .int mY, .ref yta, .int (nI (mz)), .int (nI (mf)), .int (nI (mt)), .int mv, .int mw, .ref ywa, .ref ybi, .ref ysi, .ref ynu, .ref ymo])), (yt, .inl (cI, 7, .inl mq2_28))] := hD
                    subst hw_r_27
                    exact W.iret (v := (-1000000001)) hx hb hr (fun t ht hW => ⟨⟨(-1000000001), (nb, mv9, mq2_28), rfl, ⟨(sp_cr3 c_11 c_14 c_15 (fun q => (sp_s5 hzq c_16 c_22 ex_25 c_26) q.1)), (fun j => sp_c0 (fun h => (sp_s5 hzq c_16 c_22 ex_25 c_26) h.2.2.2.1)), (fun _ _ => rfl)⟩, by rw [ht]; exact hP.sub [4, 0, 1, 2, 3, 5] rfl, hD.sub [4, 0, 1, 2, 3, 5] (by decide +kernel) rfl⟩, hS.F ht⟩) hS.2.2 dX9_copy_116 hlk
                  · skip
                    refine lv_iload hx hb dX9_copy_96 (lv_at hl 5 rfl) ?_
                    refine lv_aload_n hx hb dX9_copy_98 rfl (lv_at hl 0 rfl) ?_
                    refine xg hF kf_X9_46 hK hP 0 rfl rfl dX9_copy_99 ?_
                    refine lv_iload_n hx hb dX9_copy_102 rfl (lv_at hl 3 rfl) ?_
                    refine va_iald hx hb hK hP 2 0 rfl rfl (xin 2 4 (by decide) (by decide)) dX9_copy_103 ?_
                    refine xl_i (y := sq 2) (congrArg sq rfl) ?_
                    refine xl_i (y := nI (zt)) et ?_
                    refine lv_iload hx hb dX9_copy_104 (lv_at hl 4 rfl) ?_
                    refine lv_isub hx hb dX9_copy_106 ?_
                    refine lv_topi (fun x_29 ex_29 => ?_)
                    refine lv_icmp_le (tgt := 117) hx hb dX9_copy_107 (by decide) (fun c_30 => ?_) (fun c_30 => ?_)
                    · skip
                      obtain ⟨y_31, hy_31, rfl⟩ := x_spk (by omega) c_16 c_22 ex_25 c_26
                      obtain ⟨y_32, hy_32, rfl⟩ := x_spj (by omega) (by omega) c_16 ex_25 c_26
                      obtain ⟨y_33, hy_33, rfl⟩ := x_spj (by omega) (by omega) c_19 ex_29 (Int32.not_lt.mpr c_30)
                      refine lv_iconst (v := 0) hx hb dX9_copy_117 (by decide) ?_
                      refine lv_istore (lv' := [(6, .int 0), (0, .ref h0), (1, .int 1), (2, .int (nI (y_32))), (3, .int 2), (4, .int (nI (y_33))), (5, .int (nI (y_31)))]) hx hb dX9_copy_118 hl (by decide) rfl (fun ls hl => ?_)
                      suffices loop_120 : ∀ (n_120 : Nat) (i : Nat) (m8 : Nat → Int64) (H : Heap) (locs : List Loc) (ls : Array Slot), y_31 - i < n_120 → (i ≤ y_31) → (∀ j, j < i → m8 j = nb (40 + y_32 + j)) → va_P D vwCl [(h0, .inr (9, [.ref ys, .ref yk, .ref yo, .ref yt, .int mk0, .ref yfa, .ref yfe, .int mL, .int mS, .int mM, .ref yro, .ref yhe, .ref ygr, .int mF, .int mC, .int mY, .ref yta, .int (nI (mz)), .int (nI (mf)), .int (nI (mt)), .int mv, .int mw, .ref ywa, .ref ybi, .ref ysi, .ref ynu, .ref ymo])), (ybi, .inl (cI, 4, .inl bi)), (ysi, .inl (cI, 4, .inl sq)), (ynu, .inl (cJ, 160, .inr (.inl nb))), (ymo, .inl (cJ, 40, .inr (.inl m8))), (yt, .inl (cI, 7, .inl mq))] H → va_D A [(h0, .inr (9, [.ref ys, .ref yk, .ref yo, .ref yt, .int mk0, .ref yfa, .ref yfe, .int mL, .int mS, .int mM, .ref yro, .ref yhe, .ref ygr, .int mF, .int mC, .int mY, .ref yta, .int (nI (mz)), .int (nI (mf)), .int (nI (mt)), .int mv, .int mw, .ref ywa, .ref ybi, .ref ysi, .ref ynu, .ref ymo])), (ybi, .inl (cI, 4, .inl bi)), (ysi, .inl (cI, 4, .inl sq)), (ynu, .inl (cJ, 160, .inr (.inl nb))), (ymo, .inl (cJ, 40, .inr (.inl m8))), (yt, .inl (cI, 7, .inl mq))] → va_S A s.heap H locs → lv_has ls 7 [(6, .int (nI (i))), (0, .ref h0), (1, .int 1), (2, .int (nI (y_32))), (3, .int 2), (4, .int (nI (y_33))), (5, .int (nI (y_31)))] → W p l e ({ frames := 2, cells := 0, slots := 0, locals := 45 }) s m ([.ref h0, .int 1, .int (nI (y_32)), .int 2, .int (nI (y_33)), .int (nI (y_31))] : List Value).toArray below meth c H locs 0 0 (MQ below (XQi (fun (r : Int32) (u : (Nat → Int64) × (Nat → Int64) × (Nat → Int32)) => match u with | (nb2, mv2, mq2) => ((r = sp_cr (bi 1) (bi 2) zq zt (nI (y_32)) (nI (y_33)) (nI (y_31)))) ∧ (∀ j, nb2 (80 + j) = sp_cn (bi 1) (bi 2) zq zt (nI (y_32)) (nI (y_33)) (nI (y_31)) (fun k => nb (40 + k)) j (nb (80 + j))) ∧ (∀ j, j < 80 ∨ 120 ≤ j → nb2 j = nb j)) D (fun (u : (Nat → Int64) × (Nat → Int64) × (Nat → Int32)) => match u with | (nb2, mv2, mq2) => [(h0, .inr (9, [.ref ys, .ref yk, .ref yo, .ref yt, .int mk0, .ref yfa, .ref yfe, .int mL, .int mS, .int mM, .ref yro, .ref yhe, .ref ygr, .int mF, .int mC, .int mY, .ref yta, .int (nI (mz)), .int (nI (mf)), .int (nI (mt)), .int mv, .int mw, .ref ywa, .ref ybi, .ref ysi, .ref ynu, .ref ymo])), (ybi, .inl (cI, 4, .inl bi)), (ysi, .inl (cI, 4, .inl sq)), (ynu, .inl (cJ, 160, .inr (.inl nb2))), (ymo, .inl (cJ, 40, .inr (.inl mv2))), (yt, .inl (cI, 7, .inl mq2))]) A) ([.ref h0, .int 1, .int (nI (y_32)), .int 2, .int (nI (y_33)), .int (nI (y_31))] : List Value).toArray s 0 0 A) (F0 m 120 ls []) by
                        exact loop_120 _ 0 mv9 _ _ _ (Nat.lt_succ_self _) (by omega) (fun j hj => absurd hj (Nat.not_lt_zero _)) hP hD hS (lv_sub hl [0, 1, 2, 3, 4, 5, 6] rfl)
                      intro n_120
                      induction n_120 with
                      | zero =>
                        intro i m8 H locs ls hm_120
                        exact absurd hm_120 (Nat.not_lt_zero _)
                      | succ n_120 ih_120 =>
                        intro i m8 H locs ls hm_120 hi hm8 hP hD hS hl
                        refine lv_iload hx hb dX9_copy_120 (lv_at hl 0 rfl) ?_
                        refine lv_iload hx hb dX9_copy_122 (lv_at hl 6 rfl) ?_
                        refine lv_icmp_ge (tgt := 154) hx hb dX9_copy_124 (by decide) (fun c_34 => ?_) (fun c_34 => ?_)
                        · skip
                          have nc_34 : y_31 ≤ i := xn_le (a := y_31) (b := i) (by omega) (by omega) c_34
                          refine lv_iconst (v := 0) hx hb dX9_copy_154 (by decide) ?_
                          refine lv_istore (lv' := [(6, .int 0), (0, .ref h0), (1, .int 1), (2, .int (nI (y_32))), (3, .int 2), (4, .int (nI (y_33))), (5, .int (nI (y_31)))]) hx hb dX9_copy_155 hl (by decide) rfl (fun ls hl => ?_)
                          suffices loop_157 : ∀ (n_157 : Nat) (i2 : Nat) (n8 : Nat → Int64) (H : Heap) (locs : List Loc) (ls : Array Slot), y_31 - i2 < n_157 → (i2 ≤ y_31) → (∀ j, n8 j = if 80 + y_33 ≤ j ∧ j < 80 + y_33 + i2 then m8 (j - (80 + y_33)) else nb j) → va_P D vwCl [(h0, .inr (9, [.ref ys, .ref yk, .ref yo, .ref yt, .int mk0, .ref yfa, .ref yfe, .int mL, .int mS, .int mM, .ref yro, .ref yhe, .ref ygr, .int mF, .int mC, .int mY, .ref yta, .int (nI (mz)), .int (nI (mf)), .int (nI (mt)), .int mv, .int mw, .ref ywa, .ref ybi, .ref ysi, .ref ynu, .ref ymo])), (ybi, .inl (cI, 4, .inl bi)), (ysi, .inl (cI, 4, .inl sq)), (ynu, .inl (cJ, 160, .inr (.inl n8))), (ymo, .inl (cJ, 40, .inr (.inl m8))), (yt, .inl (cI, 7, .inl mq))] H → va_D A [(h0, .inr (9, [.ref ys, .ref yk, .ref yo, .ref yt, .int mk0, .ref yfa, .ref yfe, .int mL, .int mS, .int mM, .ref yro, .ref yhe, .ref ygr, .int mF, .int mC, .int mY, .ref yta, .int (nI (mz)), .int (nI (mf)), .int (nI (mt)), .int mv, .int mw, .ref ywa, .ref ybi, .ref ysi, .ref ynu, .ref ymo])), (ybi, .inl (cI, 4, .inl bi)), (ysi, .inl (cI, 4, .inl sq)), (ynu, .inl (cJ, 160, .inr (.inl n8))), (ymo, .inl (cJ, 40, .inr (.inl m8))), (yt, .inl (cI, 7, .inl mq))] → va_S A s.heap H locs → lv_has ls 7 [(6, .int (nI (i2))), (0, .ref h0), (1, .int 1), (2, .int (nI (y_32))), (3, .int 2), (4, .int (nI (y_33))), (5, .int (nI (y_31)))] → W p l e ({ frames := 2, cells := 0, slots := 0, locals := 45 }) s m ([.ref h0, .int 1, .int (nI (y_32)), .int 2, .int (nI (y_33)), .int (nI (y_31))] : List Value).toArray below meth c H locs 0 0 (MQ below (XQi (fun (r : Int32) (u : (Nat → Int64) × (Nat → Int64) × (Nat → Int32)) => match u with | (nb2, mv2, mq2) => ((r = sp_cr (bi 1) (bi 2) zq zt (nI (y_32)) (nI (y_33)) (nI (y_31)))) ∧ (∀ j, nb2 (80 + j) = sp_cn (bi 1) (bi 2) zq zt (nI (y_32)) (nI (y_33)) (nI (y_31)) (fun k => nb (40 + k)) j (nb (80 + j))) ∧ (∀ j, j < 80 ∨ 120 ≤ j → nb2 j = nb j)) D (fun (u : (Nat → Int64) × (Nat → Int64) × (Nat → Int32)) => match u with | (nb2, mv2, mq2) => [(h0, .inr (9, [.ref ys, .ref yk, .ref yo, .ref yt, .int mk0, .ref yfa, .ref yfe, .int mL, .int mS, .int mM, .ref yro, .ref yhe, .ref ygr, .int mF, .int mC, .int mY, .ref yta, .int (nI (mz)), .int (nI (mf)), .int (nI (mt)), .int mv, .int mw, .ref ywa, .ref ybi, .ref ysi, .ref ynu, .ref ymo])), (ybi, .inl (cI, 4, .inl bi)), (ysi, .inl (cI, 4, .inl sq)), (ynu, .inl (cJ, 160, .inr (.inl nb2))), (ymo, .inl (cJ, 40, .inr (.inl mv2))), (yt, .inl (cI, 7, .inl mq2))]) A) ([.ref h0, .int 1, .int (nI (y_32)), .int 2, .int (nI (y_33)), .int (nI (y_31))] : List Value).toArray s 0 0 A) (F0 m 157 ls []) by
                            exact loop_157 _ 0 nb _ _ _ (Nat.lt_succ_self _) (by omega) (fun j => (if_neg (by omega)).symm) hP hD hS (lv_sub hl [0, 1, 2, 3, 4, 5, 6] rfl)
                          intro n_157
                          induction n_157 with
                          | zero =>
                            intro i2 n8 H locs ls hm_157
                            exact absurd hm_157 (Nat.not_lt_zero _)
                          | succ n_157 ih_157 =>
                            intro i2 n8 H locs ls hm_157 hi2 hn8 hP hD hS hl
                            refine lv_iload hx hb dX9_copy_157 (lv_at hl 0 rfl) ?_
                            refine lv_iload hx hb dX9_copy_159 (lv_at hl 6 rfl) ?_
                            refine lv_icmp_ge (tgt := 192) hx hb dX9_copy_161 (by decide) (fun c_35 => ?_) (fun c_35 => ?_)
                            · skip
                              have nc_35 : y_31 ≤ i2 := xn_le (a := y_31) (b := i2) (by omega) (by omega) c_35
                              refine lv_iload hx hb dX9_copy_192 (lv_at hl 6 rfl) ?_
                              have hn7 : ∀ j, n8 j = if 80 + y_33 ≤ j ∧ j < 80 + y_33 + y_31 then m8 (j - (80 + y_33)) else nb j := fun j => by rw [hn8 j, show i2 = y_31 by omega]
                              have hm7 : ∀ j, j < y_31 → m8 j = nb (40 + y_32 + j) := fun j hj => hm8 j (by omega)
                              exact W.iret (v := nI (y_31)) hx hb hr (fun t ht hW => ⟨⟨nI (y_31), (n8, m8, mq), rfl, ⟨(sp_cr4 c_11 c_14 c_15 (sp_nspan (by omega) (by omega)) (sp_nspan (by omega) (by omega))), (fun j9 => sp_c1 (K := 80) (M := 40) (by omega) (by omega) c_11 c_14 c_15 (by omega) (by omega) (fun i9 => sp_mv3 hn7 hm7 rfl rfl)), (fun j9 hj9 => by rw [hn7 j9, if_neg (by omega)])⟩, by rw [ht]; exact hP.sub [0, 1, 2, 3, 4, 5] rfl, hD.sub [0, 1, 2, 3, 4, 5] (by decide +kernel) rfl⟩, hS.F ht⟩) hS.2.2 dX9_copy_194 hlk
                            · skip
                              have nc_35 : i2 < y_31 := xn_nle (a := y_31) (b := i2) (by omega) (by omega) c_35
                              refine lv_aload_n hx hb dX9_copy_164 rfl (lv_at hl 1 rfl) ?_
                              refine xg hF kf_X9_49 hK hP 0 rfl rfl dX9_copy_165 ?_
                              refine lv_bipush (v := 40) hx hb dX9_copy_168 (by decide) ?_
                              refine lv_iload_n hx hb dX9_copy_170 rfl (lv_at hl 4 rfl) ?_
                              refine lv_imul hx hb dX9_copy_171 ?_
                              refine xl_i (y := 80) (by decide) ?_
                              refine lv_iload hx hb dX9_copy_172 (lv_at hl 5 rfl) ?_
                              refine lv_iadd hx hb dX9_copy_174 ?_
                              refine xl_i (y := nI (80 + y_33)) (nI_add 80 y_33) ?_
                              refine lv_iload hx hb dX9_copy_175 (lv_at hl 0 rfl) ?_
                              refine lv_iadd hx hb dX9_copy_177 ?_
                              refine xl_i (y := nI (80 + y_33 + i2)) (nI_add (80 + y_33) i2) ?_
                              refine lv_aload_n hx hb dX9_copy_178 rfl (lv_at hl 1 rfl) ?_
                              refine xg hF kf_X9_53 hK hP 0 rfl rfl dX9_copy_179 ?_
                              refine lv_iload hx hb dX9_copy_182 (lv_at hl 0 rfl) ?_
                              refine va_lald hx hb hK hP 4 1 rfl rfl (vp_in_nI (show i2 < 40 by omega) (by decide)) dX9_copy_184 ?_
                              refine xl_l (y := m8 i2) (congrArg m8 (nI_clamp (show i2 < 2 ^ 31 by omega))) ?_
                              refine va_last hx hb hK hP hD hS 3 1 rfl rfl (vp_in_nI (show 80 + y_33 + i2 < 160 by omega) (by decide)) dX9_copy_185 (fun H locs hP hD hS => ?_)
                              rw [nI_clamp (show 80 + y_33 + i2 < 2 ^ 31 by omega)] at hP hD
                              obtain ⟨f_36, ef_36⟩ : ∃ g, g = vp_updL n8 (80 + y_33 + i2) (m8 i2) := ⟨_, rfl⟩
                              rw [← ef_36] at hP hD
                              have hP : va_P D vwCl [(h0, .inr (9, [.ref ys, .ref yk, .ref yo, .ref yt, .int mk0, .ref yfa, .ref yfe, .int mL, .int mS, .int mM, .ref yro, .ref yhe, .ref ygr, .int mF, .int mC, .int mY, .ref yta, .int (nI (mz)), .int (nI (mf)), .int (nI (mt)), .int mv, .int mw, .ref ywa, .ref ybi, .ref ysi, .ref ynu, .ref ymo])), (ybi, .inl (cI, 4, .inl bi)), (ysi, .inl (cI, 4, .inl sq)), (ynu, .inl (cJ, 160, .inr (.inl f_36))), (ymo, .inl (cJ, 40, .inr (.inl m8))), (yt, .inl (cI, 7, .inl mq))] H := hP
                              have hD : va_D A [(h0, .inr (9, [.ref ys, .ref yk, .ref yo, .ref yt, .int mk0, .ref yfa, .ref yfe, .int mL, .int mS, .int mM, .ref yro, .ref yhe, .ref ygr, .int mF, .int mC, .int mY, .ref yta, .int (nI (mz)), .int (nI (mf)), .int (nI (mt)), .int mv, .int mw, .ref ywa, .ref ybi, .ref ysi, .ref ynu, .ref ymo])), (ybi, .inl (cI, 4, .inl bi)), (ysi, .inl (cI, 4, .inl sq)), (ynu, .inl (cJ, 160, .inr (.inl f_36))), (ymo, .inl (cJ, 40, .inr (.inl m8))), (yt, .inl (cI, 7, .inl mq))] := hD
                              refine lv_iinc (v := nI (i2 + 1)) (lv' := [(6, .int (nI (i2 + 1))), (0, .ref h0), (1, .int 1), (2, .int (nI (y_32))), (3, .int 2), (4, .int (nI (y_33))), (5, .int (nI (y_31)))]) hx hb dX9_copy_186 hl (k := 0) rfl (nI_1 (i2)) (by decide) rfl (fun ls hl => ?_)
                              refine lv_goto (tgt := 157) hx hb dX9_copy_189 (by decide) ?_
                              exact ih_157 (i2 + 1) f_36 _ _ _ (by omega) (by omega) (sp_mv2 hn8 ef_36) (hP.sub [0, 1, 2, 3, 4, 5] rfl) (hD.sub [0, 1, 2, 3, 4, 5] (by decide +kernel) rfl) hS (lv_sub hl [0, 1, 2, 3, 4, 5, 6] rfl)
                        · skip
                          have nc_34 : i < y_31 := xn_nle (a := y_31) (b := i) (by omega) (by omega) c_34
                          refine lv_aload_n hx hb dX9_copy_127 rfl (lv_at hl 1 rfl) ?_
                          refine xg hF kf_X9_53 hK hP 0 rfl rfl dX9_copy_128 ?_
                          refine lv_iload hx hb dX9_copy_131 (lv_at hl 0 rfl) ?_
                          refine lv_aload_n hx hb dX9_copy_133 rfl (lv_at hl 1 rfl) ?_
                          refine xg hF kf_X9_49 hK hP 0 rfl rfl dX9_copy_134 ?_
                          refine lv_bipush (v := 40) hx hb dX9_copy_137 (by decide) ?_
                          refine lv_iload_n hx hb dX9_copy_139 rfl (lv_at hl 2 rfl) ?_
                          refine lv_imul hx hb dX9_copy_140 ?_
                          refine xl_i (y := 40) (by decide) ?_
                          refine lv_iload_n hx hb dX9_copy_141 rfl (lv_at hl 3 rfl) ?_
                          refine lv_iadd hx hb dX9_copy_142 ?_
                          refine xl_i (y := nI (40 + y_32)) (nI_add 40 y_32) ?_
                          refine lv_iload hx hb dX9_copy_143 (lv_at hl 0 rfl) ?_
                          refine lv_iadd hx hb dX9_copy_145 ?_
                          refine xl_i (y := nI (40 + y_32 + i)) (nI_add (40 + y_32) i) ?_
                          refine va_lald hx hb hK hP 3 1 rfl rfl (vp_in_nI (show 40 + y_32 + i < 160 by omega) (by decide)) dX9_copy_146 ?_
                          refine xl_l (y := nb (40 + y_32 + i)) (congrArg nb (nI_clamp (show 40 + y_32 + i < 2 ^ 31 by omega))) ?_
                          refine va_last hx hb hK hP hD hS 4 1 rfl rfl (vp_in_nI (show i < 40 by omega) (by decide)) dX9_copy_147 (fun H locs hP hD hS => ?_)
                          rw [nI_clamp (show i < 2 ^ 31 by omega)] at hP hD
                          obtain ⟨f_37, ef_37⟩ : ∃ g, g = vp_updL m8 i (nb (40 + y_32 + i)) := ⟨_, rfl⟩
                          rw [← ef_37] at hP hD
                          have hP : va_P D vwCl [(h0, .inr (9, [.ref ys, .ref yk, .ref yo, .ref yt, .int mk0, .ref yfa, .ref yfe, .int mL, .int mS, .int mM, .ref yro, .ref yhe, .ref ygr, .int mF, .int mC, .int mY, .ref yta, .int (nI (mz)), .int (nI (mf)), .int (nI (mt)), .int mv, .int mw, .ref ywa, .ref ybi, .ref ysi, .ref ynu, .ref ymo])), (ybi, .inl (cI, 4, .inl bi)), (ysi, .inl (cI, 4, .inl sq)), (ynu, .inl (cJ, 160, .inr (.inl nb))), (ymo, .inl (cJ, 40, .inr (.inl f_37))), (yt, .inl (cI, 7, .inl mq))] H := hP
                          have hD : va_D A [(h0, .inr (9, [.ref ys, .ref yk, .ref yo, .ref yt, .int mk0, .ref yfa, .ref yfe, .int mL, .int mS, .int mM, .ref yro, .ref yhe, .ref ygr, .int mF, .int mC, .int mY, .ref yta, .int (nI (mz)), .int (nI (mf)), .int (nI (mt)), .int mv, .int mw, .ref ywa, .ref ybi, .ref ysi, .ref ynu, .ref ymo])), (ybi, .inl (cI, 4, .inl bi)), (ysi, .inl (cI, 4, .inl sq)), (ynu, .inl (cJ, 160, .inr (.inl nb))), (ymo, .inl (cJ, 40, .inr (.inl f_37))), (yt, .inl (cI, 7, .inl mq))] := hD
                          refine lv_iinc (v := nI (i + 1)) (lv' := [(6, .int (nI (i + 1))), (0, .ref h0), (1, .int 1), (2, .int (nI (y_32))), (3, .int 2), (4, .int (nI (y_33))), (5, .int (nI (y_31)))]) hx hb dX9_copy_148 hl (k := 0) rfl (nI_1 (i)) (by decide) rfl (fun ls hl => ?_)
                          refine lv_goto (tgt := 120) hx hb dX9_copy_151 (by decide) ?_
                          exact ih_120 (i + 1) f_37 _ _ _ (by omega) (by omega) (sp_mv1 hm8 ef_37) (hP.sub [0, 1, 2, 3, 4, 5] rfl) (hD.sub [0, 1, 2, 3, 4, 5] (by decide +kernel) rfl) hS (lv_sub hl [0, 1, 2, 3, 4, 5, 6] rfl)
                    · skip
                      refine lv_aload_n hx hb dX9_copy_110 rfl (lv_at hl 0 rfl) ?_
                      refine lv_ldc (v := (-1000000001)) hx hb hown (hu _ uw648) dX9_copy_111 ?_
                      refine xc_Vi (wr := [(ybi, .inl (cI, 4, .inl bi)), (ysi, .inl (cI, 4, .inl sq)), (ynu, .inl (cJ, 160, .inr (.inl nb))), (ymo, .inl (cJ, 40, .inr (.inl mv9)))]) hF (c_X9_finds_B l D cI cJ cZ cS ta sa sv s.heap.size h0 ys yk yo yt mk0 yfa yfe mL mS mM yro yhe ygr mF mC mY yta mz mf mt mv mw ywa ybi ysi ynu ymo mq ) kv_X9_70 ⟨rfl, rfl, Nat.le_of_ble_eq_true rfl, Nat.le_of_ble_eq_true rfl⟩ ⟨Nat.le_of_ble_eq_true rfl, Nat.le_of_ble_eq_true rfl⟩ hK hN hZ hP hD hS hA [0, 5] [1, 2, 3, 4] rfl rfl rfl rfl (by decide) 0 rfl rfl rfl rfl hl.1 rfl (Nat.le_of_ble_eq_true rfl) dX9_copy_113 (fun r_38 u_r_38 H locs hw_r_38 hP hD hS => ?_)
                      obtain ⟨mq2_39, rfl⟩ : ∃ z, z = u_r_38 := ⟨_, rfl⟩
                      try dsimp only at hw_r_38
                      have hP : va_P D vwCl [(ybi, .inl (cI, 4, .inl bi)), (ysi, .inl (cI, 4, .inl sq)), (ynu, .inl (cJ, 160, .inr (.inl nb))), (ymo, .inl (cJ, 40, .inr (.inl mv9))), (h0, .inr (9, [.ref ys, .ref yk, .ref yo, .ref yt, .int mk0, .ref yfa, .ref yfe, .int mL, .int mS, .int mM, .ref yro, .ref yhe, .ref ygr, .int mF, .int mC, .int mY, .ref yta, .int (nI (mz)), .int (nI (mf)), .int (nI (mt)), .int mv, .int mw, .ref ywa, .ref ybi, .ref ysi, .ref ynu, .ref ymo])), (yt, .inl (cI, 7, .inl mq2_39))] H := hP
                      have hD : va_D A [(ybi, .inl (cI, 4, .inl bi)), (ysi, .inl (cI, 4, .inl sq)), (ynu, .inl (cJ, 160, .inr (.inl nb))), (ymo, .inl (cJ, 40, .inr (.inl mv9))), (h0, .inr (9, [.ref ys, .ref yk, .ref yo, .ref yt, .int mk0, .ref yfa, .ref yfe, .int mL, .int mS, .int mM, .ref yro, .ref yhe, .ref ygr, .int mF, .int mC, .int mY, .ref yta, .int (nI (mz)), .int (nI (mf)), .int (nI (mt)), .int mv, .int mw, .ref ywa, .ref ybi, .ref ysi, .ref ynu, .ref ymo])), (yt, .inl (cI, 7, .inl mq2_39))] := hD
                      subst hw_r_38
                      exact W.iret (v := (-1000000001)) hx hb hr (fun t ht hW => ⟨⟨(-1000000001), (nb, mv9, mq2_39), rfl, ⟨(sp_cr3 c_11 c_14 c_15 (fun q => (sp_s5 hzt c_19 c_22 ex_29 (xlt c_30)) q.2)), (fun j => sp_c0 (fun h => (sp_s5 hzt c_19 c_22 ex_29 (xlt c_30)) h.2.2.2.2)), (fun _ _ => rfl)⟩, by rw [ht]; exact hP.sub [4, 0, 1, 2, 3, 5] rfl, hD.sub [4, 0, 1, 2, 3, 5] (by decide +kernel) rfl⟩, hS.F ht⟩) hS.2.2 dX9_copy_116 hlk
          · skip
            refine lv_aload_n hx hb dX9_copy_62 rfl (lv_at hl 0 rfl) ?_
            refine lv_ldc (v := (-1000000003)) hx hb hown (hu _ uw765) dX9_copy_63 ?_
            refine xc_Vi (wr := [(ybi, .inl (cI, 4, .inl bi)), (ysi, .inl (cI, 4, .inl sq)), (ynu, .inl (cJ, 160, .inr (.inl nb))), (ymo, .inl (cJ, 40, .inr (.inl mv9)))]) hF (c_X9_finds_K l D cI cJ cZ cS ta sa sv s.heap.size h0 ys yk yo yt mk0 yfa yfe mL mS mM yro yhe ygr mF mC mY yta mz mf mt mv mw ywa ybi ysi ynu ymo mq ) kv_X9_70 ⟨rfl, rfl, Nat.le_of_ble_eq_true rfl, Nat.le_of_ble_eq_true rfl⟩ ⟨Nat.le_of_ble_eq_true rfl, Nat.le_of_ble_eq_true rfl⟩ hK hN hZ hP hD hS hA [0, 5] [1, 2, 3, 4] rfl rfl rfl rfl (by decide) 0 rfl rfl rfl rfl hl.1 rfl (Nat.le_of_ble_eq_true rfl) dX9_copy_65 (fun r_40 u_r_40 H locs hw_r_40 hP hD hS => ?_)
            obtain ⟨mq2_41, rfl⟩ : ∃ z, z = u_r_40 := ⟨_, rfl⟩
            try dsimp only at hw_r_40
            have hP : va_P D vwCl [(ybi, .inl (cI, 4, .inl bi)), (ysi, .inl (cI, 4, .inl sq)), (ynu, .inl (cJ, 160, .inr (.inl nb))), (ymo, .inl (cJ, 40, .inr (.inl mv9))), (h0, .inr (9, [.ref ys, .ref yk, .ref yo, .ref yt, .int mk0, .ref yfa, .ref yfe, .int mL, .int mS, .int mM, .ref yro, .ref yhe, .ref ygr, .int mF, .int mC, .int mY, .ref yta, .int (nI (mz)), .int (nI (mf)), .int (nI (mt)), .int mv, .int mw, .ref ywa, .ref ybi, .ref ysi, .ref ynu, .ref ymo])), (yt, .inl (cI, 7, .inl mq2_41))] H := hP
            have hD : va_D A [(ybi, .inl (cI, 4, .inl bi)), (ysi, .inl (cI, 4, .inl sq)), (ynu, .inl (cJ, 160, .inr (.inl nb))), (ymo, .inl (cJ, 40, .inr (.inl mv9))), (h0, .inr (9, [.ref ys, .ref yk, .ref yo, .ref yt, .int mk0, .ref yfa, .ref yfe, .int mL, .int mS, .int mM, .ref yro, .ref yhe, .ref ygr, .int mF, .int mC, .int mY, .ref yta, .int (nI (mz)), .int (nI (mf)), .int (nI (mt)), .int mv, .int mw, .ref ywa, .ref ybi, .ref ysi, .ref ynu, .ref ymo])), (yt, .inl (cI, 7, .inl mq2_41))] := hD
            subst hw_r_40
            exact W.iret (v := (-1000000003)) hx hb hr (fun t ht hW => ⟨⟨(-1000000003), (nb, mv9, mq2_41), rfl, ⟨(sp_cr2 c_11 c_14 c_15), (fun j => sp_c0 (fun h => absurd h.2.2.1 c_15)), (fun _ _ => rfl)⟩, by rw [ht]; exact hP.sub [4, 0, 1, 2, 3, 5] rfl, hD.sub [4, 0, 1, 2, 3, 5] (by decide +kernel) rfl⟩, hS.F ht⟩) hS.2.2 dX9_copy_68 hlk
        · skip
          refine lv_aload_n hx hb dX9_copy_39 rfl (lv_at hl 0 rfl) ?_
          refine lv_ldcw (v := (-1000000006)) hx hb hown (hu _ uw910) dX9_copy_40 ?_
          refine xc_Vi (wr := [(ybi, .inl (cI, 4, .inl bi)), (ysi, .inl (cI, 4, .inl sq)), (ynu, .inl (cJ, 160, .inr (.inl nb))), (ymo, .inl (cJ, 40, .inr (.inl mv9)))]) hF (c_X9_finds_M l D cI cJ cZ cS ta sa sv s.heap.size h0 ys yk yo yt mk0 yfa yfe mL mS mM yro yhe ygr mF mC mY yta mz mf mt mv mw ywa ybi ysi ynu ymo mq ) kv_X9_70 ⟨rfl, rfl, Nat.le_of_ble_eq_true rfl, Nat.le_of_ble_eq_true rfl⟩ ⟨Nat.le_of_ble_eq_true rfl, Nat.le_of_ble_eq_true rfl⟩ hK hN hZ hP hD hS hA [0, 5] [1, 2, 3, 4] rfl rfl rfl rfl (by decide) 0 rfl rfl rfl rfl hl.1 rfl (Nat.le_of_ble_eq_true rfl) dX9_copy_43 (fun r_42 u_r_42 H locs hw_r_42 hP hD hS => ?_)
          obtain ⟨mq2_43, rfl⟩ : ∃ z, z = u_r_42 := ⟨_, rfl⟩
          try dsimp only at hw_r_42
          have hP : va_P D vwCl [(ybi, .inl (cI, 4, .inl bi)), (ysi, .inl (cI, 4, .inl sq)), (ynu, .inl (cJ, 160, .inr (.inl nb))), (ymo, .inl (cJ, 40, .inr (.inl mv9))), (h0, .inr (9, [.ref ys, .ref yk, .ref yo, .ref yt, .int mk0, .ref yfa, .ref yfe, .int mL, .int mS, .int mM, .ref yro, .ref yhe, .ref ygr, .int mF, .int mC, .int mY, .ref yta, .int (nI (mz)), .int (nI (mf)), .int (nI (mt)), .int mv, .int mw, .ref ywa, .ref ybi, .ref ysi, .ref ynu, .ref ymo])), (yt, .inl (cI, 7, .inl mq2_43))] H := hP
          have hD : va_D A [(ybi, .inl (cI, 4, .inl bi)), (ysi, .inl (cI, 4, .inl sq)), (ynu, .inl (cJ, 160, .inr (.inl nb))), (ymo, .inl (cJ, 40, .inr (.inl mv9))), (h0, .inr (9, [.ref ys, .ref yk, .ref yo, .ref yt, .int mk0, .ref yfa, .ref yfe, .int mL, .int mS, .int mM, .ref yro, .ref yhe, .ref ygr, .int mF, .int mC, .int mY, .ref yta, .int (nI (mz)), .int (nI (mf)), .int (nI (mt)), .int mv, .int mw, .ref ywa, .ref ybi, .ref ysi, .ref ynu, .ref ymo])), (yt, .inl (cI, 7, .inl mq2_43))] := hD
          subst hw_r_42
          exact W.iret (v := (-1000000006)) hx hb hr (fun t ht hW => ⟨⟨(-1000000006), (nb, mv9, mq2_43), rfl, ⟨(sp_cr1 (Or.inr c_14)), (fun j => sp_c0 (fun h => h.2.1 c_14)), (fun _ _ => rfl)⟩, by rw [ht]; exact hP.sub [4, 0, 1, 2, 3, 5] rfl, hD.sub [4, 0, 1, 2, 3, 5] (by decide +kernel) rfl⟩, hS.F ht⟩) hS.2.2 dX9_copy_46 hlk
    · exact absurd h_9 (by decide)
  · exact absurd h_4 (by decide)
set_option maxHeartbeats 4000000 in
set_option maxRecDepth 100000 in
theorem c_X9_copy_13 (l : Launch) (D : va_G) (cI cJ cZ cS : ClassId) (ta : Nat) (sa sv : Nat → Nat) (sz : Nat) (h0 : Nat) (ys : Nat) (yk : Nat) (yo : Nat) (yt : Nat) (mk0 : Int32) (yfa : Nat) (yfe : Nat) (mL : Int32) (mS : Int32) (mM : Int32) (yro : Nat) (yhe : Nat) (ygr : Nat) (mF : Int32) (mC : Int32) (mY : Int32) (yta : Nat) (mz : Nat) (mf : Nat) (mt : Nat) (mv : Int32) (mw : Int32) (ywa : Nat) (ybi : Nat) (ysi : Nat) (ynu : Nat) (ymo : Nat) (bi : Nat → Int32) (sq : Nat → Int32) (nb : Nat → Int64) (mv9 : Nat → Int64) (mq : Nat → Int32) (p1 : Int32) (p3 : Int32) (p4 : Int32) (zq : Nat) (zt : Nat) (ez : sq 1 = nI zq) (hzq : zq ≤ 40) (et : sq 3 = nI zt) (hzt : zt ≤ 40) (hsq : BA 4 41 sq) : Met l yX9_copy (Cond.code yX9_copy cX9_copy 7 (some .int) :: wsU) ({ frames := 2, cells := 0, slots := 0, locals := 45 }) (va_Pc [.ref h0, .int 1, .int p1, .int 3, .int p3, .int p4] (XW D (xT cI cJ cZ cS) ta sa sv [(h0, .inr (9, [.ref ys, .ref yk, .ref yo, .ref yt, .int mk0, .ref yfa, .ref yfe, .int mL, .int mS, .int mM, .ref yro, .ref yhe, .ref ygr, .int mF, .int mC, .int mY, .ref yta, .int (nI (mz)), .int (nI (mf)), .int (nI (mt)), .int mv, .int mw, .ref ywa, .ref ybi, .ref ysi, .ref ynu, .ref ymo])), (ybi, .inl (cI, 4, .inl bi)), (ysi, .inl (cI, 4, .inl sq)), (ynu, .inl (cJ, 160, .inr (.inl nb))), (ymo, .inl (cJ, 40, .inr (.inl mv9))), (yt, .inl (cI, 7, .inl mq))] sz)) (XQi (fun (r : Int32) (u : (Nat → Int64) × (Nat → Int64) × (Nat → Int32)) => match u with | (nb2, mv2, mq2) => ((r = sp_cr (bi 1) (bi 3) zq zt p1 p3 p4)) ∧ (∀ j, nb2 (120 + j) = sp_cn (bi 1) (bi 3) zq zt p1 p3 p4 (fun k => nb (40 + k)) j (nb (120 + j))) ∧ (∀ j, j < 120 ∨ 160 ≤ j → nb2 j = nb j)) D (fun (u : (Nat → Int64) × (Nat → Int64) × (Nat → Int32)) => match u with | (nb2, mv2, mq2) => [(h0, .inr (9, [.ref ys, .ref yk, .ref yo, .ref yt, .int mk0, .ref yfa, .ref yfe, .int mL, .int mS, .int mM, .ref yro, .ref yhe, .ref ygr, .int mF, .int mC, .int mY, .ref yta, .int (nI (mz)), .int (nI (mf)), .int (nI (mt)), .int mv, .int mw, .ref ywa, .ref ybi, .ref ysi, .ref ynu, .ref ymo])), (ybi, .inl (cI, 4, .inl bi)), (ysi, .inl (cI, 4, .inl sq)), (ynu, .inl (cJ, 160, .inr (.inl nb2))), (ymo, .inl (cJ, 40, .inr (.inl mv2))), (yt, .inl (cI, 7, .inl mq2))]) (va_A [(h0, .inr (9, [.ref ys, .ref yk, .ref yo, .ref yt, .int mk0, .ref yfa, .ref yfe, .int mL, .int mS, .int mM, .ref yro, .ref yhe, .ref ygr, .int mF, .int mC, .int mY, .ref yta, .int (nI (mz)), .int (nI (mf)), .int (nI (mt)), .int mv, .int mw, .ref ywa, .ref ybi, .ref ysi, .ref ynu, .ref ymo])), (ybi, .inl (cI, 4, .inl bi)), (ysi, .inl (cI, 4, .inl sq)), (ynu, .inl (cJ, 160, .inr (.inl nb))), (ymo, .inl (cJ, 40, .inr (.inl mv9))), (yt, .inl (cI, 7, .inl mq))] sz)) 0 0 (va_A [(h0, .inr (9, [.ref ys, .ref yk, .ref yo, .ref yt, .int mk0, .ref yfa, .ref yfe, .int mL, .int mS, .int mM, .ref yro, .ref yhe, .ref ygr, .int mF, .int mC, .int mY, .ref yta, .int (nI (mz)), .int (nI (mf)), .int (nI (mt)), .int mv, .int mw, .ref ywa, .ref ybi, .ref ysi, .ref ynu, .ref ymo])), (ybi, .inl (cI, 4, .inl bi)), (ysi, .inl (cI, 4, .inl sq)), (ynu, .inl (cJ, 160, .inr (.inl nb))), (ymo, .inl (cJ, 40, .inr (.inl mv9))), (yt, .inl (cI, 7, .inl mq))] sz) := by
  refine xh (QA := fun A => XQi (fun (r : Int32) (u : (Nat → Int64) × (Nat → Int64) × (Nat → Int32)) => match u with | (nb2, mv2, mq2) => ((r = sp_cr (bi 1) (bi 3) zq zt p1 p3 p4)) ∧ (∀ j, nb2 (120 + j) = sp_cn (bi 1) (bi 3) zq zt p1 p3 p4 (fun k => nb (40 + k)) j (nb (120 + j))) ∧ (∀ j, j < 120 ∨ 160 ≤ j → nb2 j = nb j)) D (fun (u : (Nat → Int64) × (Nat → Int64) × (Nat → Int32)) => match u with | (nb2, mv2, mq2) => [(h0, .inr (9, [.ref ys, .ref yk, .ref yo, .ref yt, .int mk0, .ref yfa, .ref yfe, .int mL, .int mS, .int mM, .ref yro, .ref yhe, .ref ygr, .int mF, .int mC, .int mY, .ref yta, .int (nI (mz)), .int (nI (mf)), .int (nI (mt)), .int mv, .int mw, .ref ywa, .ref ybi, .ref ysi, .ref ynu, .ref ymo])), (ybi, .inl (cI, 4, .inl bi)), (ysi, .inl (cI, 4, .inl sq)), (ynu, .inl (cJ, 160, .inr (.inl nb2))), (ymo, .inl (cJ, 40, .inr (.inl mv2))), (yt, .inl (cI, 7, .inl mq2))]) A) (fr := fun A => A) (by decide) (Nat.le_of_ble_eq_true rfl) ?_
  intro p e s m below meth c ls A hF hr hlk hin hsz hP hK hD hN hZ hA hS hl
  have hF : CallFix p m c cX9_copy 7 s _ _ RX9 := hF
  have hx := hF.1
  have hb := hF.2.1
  have hml := hF.2.2.1
  have hown := hF.2.2.2.1
  have hu : ∀ w ∈ wsU, w.before _ s = true := fun w h => hF.2.2.2.2 w (List.mem_cons_of_mem _ h)
  have hl : lv_has ls 7 [(0, .ref h0), (1, .int 1), (2, .int p1), (3, .int 3), (4, .int p3), (5, .int p4)] := hl
  refine lv_iload_n hx hb dX9_copy_0 rfl (lv_at hl 1 rfl) ?_
  refine xc_Sr hF (c_X9_isOne l D cI cJ cZ cS ta sa sv s.heap.size 1 ) ks_X9_305 ⟨rfl, rfl, Nat.le_of_ble_eq_true rfl, Nat.le_of_ble_eq_true rfl⟩ ⟨Nat.le_of_ble_eq_true rfl, Nat.le_of_ble_eq_true rfl⟩ hK hN hZ hP hD hS hA [] rfl rfl rfl hl.1 rfl (Nat.le_of_ble_eq_true rfl) dX9_copy_1 (fun r_1 hw_r_1 => ?_)
  rcases hw_r_1 with ⟨rfl, h_2, h_3⟩ | ⟨rfl, h_4⟩
  · skip
    refine lv_if_eq (tgt := 14) hx hb dX9_copy_4 (by decide) (fun c_5 => absurd c_5 (by decide)) (fun c_5 => ?_)
    refine lv_iload_n hx hb dX9_copy_7 rfl (lv_at hl 3 rfl) ?_
    refine xc_Sr hF (c_X9_isOne l D cI cJ cZ cS ta sa sv s.heap.size 3 ) ks_X9_305 ⟨rfl, rfl, Nat.le_of_ble_eq_true rfl, Nat.le_of_ble_eq_true rfl⟩ ⟨Nat.le_of_ble_eq_true rfl, Nat.le_of_ble_eq_true rfl⟩ hK hN hZ hP hD hS hA [] rfl rfl rfl hl.1 rfl (Nat.le_of_ble_eq_true rfl) dX9_copy_8 (fun r_6 hw_r_6 => ?_)
    rcases hw_r_6 with ⟨rfl, h_7, h_8⟩ | ⟨rfl, h_9⟩
    · skip
      refine lv_if_ne (tgt := 21) hx hb dX9_copy_11 (by decide) (fun c_10 => ?_) (fun c_10 => absurd c_10 (by decide))
      refine lv_aload_n hx hb dX9_copy_21 rfl (lv_at hl 0 rfl) ?_
      refine xg hF kf_X9_43 hK hP 0 rfl rfl dX9_copy_22 ?_
      refine lv_iload_n hx hb dX9_copy_25 rfl (lv_at hl 1 rfl) ?_
      refine va_iald hx hb hK hP 1 0 rfl rfl (xin 1 4 (by decide) (by decide)) dX9_copy_26 ?_
      refine xl_i (y := bi 1) (congrArg bi rfl) ?_
      refine lv_if_eq (tgt := 39) hx hb dX9_copy_27 (by decide) (fun c_11 => ?_) (fun c_11 => ?_)
      · skip
        refine lv_aload_n hx hb dX9_copy_39 rfl (lv_at hl 0 rfl) ?_
        refine lv_ldcw (v := (-1000000006)) hx hb hown (hu _ uw910) dX9_copy_40 ?_
        refine xc_Vi (wr := [(ybi, .inl (cI, 4, .inl bi)), (ysi, .inl (cI, 4, .inl sq)), (ynu, .inl (cJ, 160, .inr (.inl nb))), (ymo, .inl (cJ, 40, .inr (.inl mv9)))]) hF (c_X9_finds_M l D cI cJ cZ cS ta sa sv s.heap.size h0 ys yk yo yt mk0 yfa yfe mL mS mM yro yhe ygr mF mC mY yta mz mf mt mv mw ywa ybi ysi ynu ymo mq ) kv_X9_70 ⟨rfl, rfl, Nat.le_of_ble_eq_true rfl, Nat.le_of_ble_eq_true rfl⟩ ⟨Nat.le_of_ble_eq_true rfl, Nat.le_of_ble_eq_true rfl⟩ hK hN hZ hP hD hS hA [0, 5] [1, 2, 3, 4] rfl rfl rfl rfl (by decide) 0 rfl rfl rfl rfl hl.1 rfl (Nat.le_of_ble_eq_true rfl) dX9_copy_43 (fun r_12 u_r_12 H locs hw_r_12 hP hD hS => ?_)
        obtain ⟨mq2_13, rfl⟩ : ∃ z, z = u_r_12 := ⟨_, rfl⟩
        try dsimp only at hw_r_12
        have hP : va_P D vwCl [(ybi, .inl (cI, 4, .inl bi)), (ysi, .inl (cI, 4, .inl sq)), (ynu, .inl (cJ, 160, .inr (.inl nb))), (ymo, .inl (cJ, 40, .inr (.inl mv9))), (h0, .inr (9, [.ref ys, .ref yk, .ref yo, .ref yt, .int mk0, .ref yfa, .ref yfe, .int mL, .int mS, .int mM, .ref yro, .ref yhe, .ref ygr, .int mF, .int mC, .int mY, .ref yta, .int (nI (mz)), .int (nI (mf)), .int (nI (mt)), .int mv, .int mw, .ref ywa, .ref ybi, .ref ysi, .ref ynu, .ref ymo])), (yt, .inl (cI, 7, .inl mq2_13))] H := hP
        have hD : va_D A [(ybi, .inl (cI, 4, .inl bi)), (ysi, .inl (cI, 4, .inl sq)), (ynu, .inl (cJ, 160, .inr (.inl nb))), (ymo, .inl (cJ, 40, .inr (.inl mv9))), (h0, .inr (9, [.ref ys, .ref yk, .ref yo, .ref yt, .int mk0, .ref yfa, .ref yfe, .int mL, .int mS, .int mM, .ref yro, .ref yhe, .ref ygr, .int mF, .int mC, .int mY, .ref yta, .int (nI (mz)), .int (nI (mf)), .int (nI (mt)), .int mv, .int mw, .ref ywa, .ref ybi, .ref ysi, .ref ynu, .ref ymo])), (yt, .inl (cI, 7, .inl mq2_13))] := hD
        subst hw_r_12
        exact W.iret (v := (-1000000006)) hx hb hr (fun t ht hW => ⟨⟨(-1000000006), (nb, mv9, mq2_13), rfl, ⟨(sp_cr1 (Or.inl c_11)), (fun j => sp_c0 (fun h => h.1 c_11)), (fun _ _ => rfl)⟩, by rw [ht]; exact hP.sub [4, 0, 1, 2, 3, 5] rfl, hD.sub [4, 0, 1, 2, 3, 5] (by decide +kernel) rfl⟩, hS.F ht⟩) hS.2.2 dX9_copy_46 hlk
      · skip
        refine lv_aload_n hx hb dX9_copy_30 rfl (lv_at hl 0 rfl) ?_
        refine xg hF kf_X9_43 hK hP 0 rfl rfl dX9_copy_31 ?_
        refine lv_iload_n hx hb dX9_copy_34 rfl (lv_at hl 3 rfl) ?_
        refine va_iald hx hb hK hP 1 0 rfl rfl (xin 3 4 (by decide) (by decide)) dX9_copy_35 ?_
        refine xl_i (y := bi 3) (congrArg bi rfl) ?_
        refine lv_if_ne (tgt := 47) hx hb dX9_copy_36 (by decide) (fun c_14 => ?_) (fun c_14 => ?_)
        · skip
          refine lv_aload_n hx hb dX9_copy_47 rfl (lv_at hl 0 rfl) ?_
          refine xg hF kf_X9_43 hK hP 0 rfl rfl dX9_copy_48 ?_
          refine lv_iload_n hx hb dX9_copy_51 rfl (lv_at hl 1 rfl) ?_
          refine va_iald hx hb hK hP 1 0 rfl rfl (xin 1 4 (by decide) (by decide)) dX9_copy_52 ?_
          refine xl_i (y := bi 1) (congrArg bi rfl) ?_
          refine lv_aload_n hx hb dX9_copy_53 rfl (lv_at hl 0 rfl) ?_
          refine xg hF kf_X9_43 hK hP 0 rfl rfl dX9_copy_54 ?_
          refine lv_iload_n hx hb dX9_copy_57 rfl (lv_at hl 3 rfl) ?_
          refine va_iald hx hb hK hP 1 0 rfl rfl (xin 3 4 (by decide) (by decide)) dX9_copy_58 ?_
          refine xl_i (y := bi 3) (congrArg bi rfl) ?_
          refine lv_icmp_eq (tgt := 69) hx hb dX9_copy_59 (by decide) (fun c_15 => ?_) (fun c_15 => ?_)
          · skip
            refine lv_iload_n hx hb dX9_copy_69 rfl (lv_at hl 2 rfl) ?_
            refine lv_if_lt (tgt := 110) hx hb dX9_copy_70 (by decide) (fun c_16 => ?_) (fun c_16 => ?_)
            · skip
              refine lv_aload_n hx hb dX9_copy_110 rfl (lv_at hl 0 rfl) ?_
              refine lv_ldc (v := (-1000000001)) hx hb hown (hu _ uw648) dX9_copy_111 ?_
              refine xc_Vi (wr := [(ybi, .inl (cI, 4, .inl bi)), (ysi, .inl (cI, 4, .inl sq)), (ynu, .inl (cJ, 160, .inr (.inl nb))), (ymo, .inl (cJ, 40, .inr (.inl mv9)))]) hF (c_X9_finds_B l D cI cJ cZ cS ta sa sv s.heap.size h0 ys yk yo yt mk0 yfa yfe mL mS mM yro yhe ygr mF mC mY yta mz mf mt mv mw ywa ybi ysi ynu ymo mq ) kv_X9_70 ⟨rfl, rfl, Nat.le_of_ble_eq_true rfl, Nat.le_of_ble_eq_true rfl⟩ ⟨Nat.le_of_ble_eq_true rfl, Nat.le_of_ble_eq_true rfl⟩ hK hN hZ hP hD hS hA [0, 5] [1, 2, 3, 4] rfl rfl rfl rfl (by decide) 0 rfl rfl rfl rfl hl.1 rfl (Nat.le_of_ble_eq_true rfl) dX9_copy_113 (fun r_17 u_r_17 H locs hw_r_17 hP hD hS => ?_)
              obtain ⟨mq2_18, rfl⟩ : ∃ z, z = u_r_17 := ⟨_, rfl⟩
              try dsimp only at hw_r_17
              have hP : va_P D vwCl [(ybi, .inl (cI, 4, .inl bi)), (ysi, .inl (cI, 4, .inl sq)), (ynu, .inl (cJ, 160, .inr (.inl nb))), (ymo, .inl (cJ, 40, .inr (.inl mv9))), (h0, .inr (9, [.ref ys, .ref yk, .ref yo, .ref yt, .int mk0, .ref yfa, .ref yfe, .int mL, .int mS, .int mM, .ref yro, .ref yhe, .ref ygr, .int mF, .int mC, .int mY, .ref yta, .int (nI (mz)), .int (nI (mf)), .int (nI (mt)), .int mv, .int mw, .ref ywa, .ref ybi, .ref ysi, .ref ynu, .ref ymo])), (yt, .inl (cI, 7, .inl mq2_18))] H := hP
              have hD : va_D A [(ybi, .inl (cI, 4, .inl bi)), (ysi, .inl (cI, 4, .inl sq)), (ynu, .inl (cJ, 160, .inr (.inl nb))), (ymo, .inl (cJ, 40, .inr (.inl mv9))), (h0, .inr (9, [.ref ys, .ref yk, .ref yo, .ref yt, .int mk0, .ref yfa, .ref yfe, .int mL, .int mS, .int mM, .ref yro, .ref yhe, .ref ygr, .int mF, .int mC, .int mY, .ref yta, .int (nI (mz)), .int (nI (mf)), .int (nI (mt)), .int mv, .int mw, .ref ywa, .ref ybi, .ref ysi, .ref ynu, .ref ymo])), (yt, .inl (cI, 7, .inl mq2_18))] := hD
              subst hw_r_17
              exact W.iret (v := (-1000000001)) hx hb hr (fun t ht hW => ⟨⟨(-1000000001), (nb, mv9, mq2_18), rfl, ⟨(sp_cr3 c_11 c_14 c_15 (fun q => (sp_s1 c_16) q.1)), (fun j => sp_c0 (fun h => (sp_s1 c_16) h.2.2.2.1)), (fun _ _ => rfl)⟩, by rw [ht]; exact hP.sub [4, 0, 1, 2, 3, 5] rfl, hD.sub [4, 0, 1, 2, 3, 5] (by decide +kernel) rfl⟩, hS.F ht⟩) hS.2.2 dX9_copy_116 hlk
            · skip
              refine lv_iload hx hb dX9_copy_73 (lv_at hl 4 rfl) ?_
              refine lv_if_lt (tgt := 110) hx hb dX9_copy_75 (by decide) (fun c_19 => ?_) (fun c_19 => ?_)
              · skip
                refine lv_aload_n hx hb dX9_copy_110 rfl (lv_at hl 0 rfl) ?_
                refine lv_ldc (v := (-1000000001)) hx hb hown (hu _ uw648) dX9_copy_111 ?_
                refine xc_Vi (wr := [(ybi, .inl (cI, 4, .inl bi)), (ysi, .inl (cI, 4, .inl sq)), (ynu, .inl (cJ, 160, .inr (.inl nb))), (ymo, .inl (cJ, 40, .inr (.inl mv9)))]) hF (c_X9_finds_B l D cI cJ cZ cS ta sa sv s.heap.size h0 ys yk yo yt mk0 yfa yfe mL mS mM yro yhe ygr mF mC mY yta mz mf mt mv mw ywa ybi ysi ynu ymo mq ) kv_X9_70 ⟨rfl, rfl, Nat.le_of_ble_eq_true rfl, Nat.le_of_ble_eq_true rfl⟩ ⟨Nat.le_of_ble_eq_true rfl, Nat.le_of_ble_eq_true rfl⟩ hK hN hZ hP hD hS hA [0, 5] [1, 2, 3, 4] rfl rfl rfl rfl (by decide) 0 rfl rfl rfl rfl hl.1 rfl (Nat.le_of_ble_eq_true rfl) dX9_copy_113 (fun r_20 u_r_20 H locs hw_r_20 hP hD hS => ?_)
                obtain ⟨mq2_21, rfl⟩ : ∃ z, z = u_r_20 := ⟨_, rfl⟩
                try dsimp only at hw_r_20
                have hP : va_P D vwCl [(ybi, .inl (cI, 4, .inl bi)), (ysi, .inl (cI, 4, .inl sq)), (ynu, .inl (cJ, 160, .inr (.inl nb))), (ymo, .inl (cJ, 40, .inr (.inl mv9))), (h0, .inr (9, [.ref ys, .ref yk, .ref yo, .ref yt, .int mk0, .ref yfa, .ref yfe, .int mL, .int mS, .int mM, .ref yro, .ref yhe, .ref ygr, .int mF, .int mC, .int mY, .ref yta, .int (nI (mz)), .int (nI (mf)), .int (nI (mt)), .int mv, .int mw, .ref ywa, .ref ybi, .ref ysi, .ref ynu, .ref ymo])), (yt, .inl (cI, 7, .inl mq2_21))] H := hP
                have hD : va_D A [(ybi, .inl (cI, 4, .inl bi)), (ysi, .inl (cI, 4, .inl sq)), (ynu, .inl (cJ, 160, .inr (.inl nb))), (ymo, .inl (cJ, 40, .inr (.inl mv9))), (h0, .inr (9, [.ref ys, .ref yk, .ref yo, .ref yt, .int mk0, .ref yfa, .ref yfe, .int mL, .int mS, .int mM, .ref yro, .ref yhe, .ref ygr, .int mF, .int mC, .int mY, .ref yta, .int (nI (mz)), .int (nI (mf)), .int (nI (mt)), .int mv, .int mw, .ref ywa, .ref ybi, .ref ysi, .ref ynu, .ref ymo])), (yt, .inl (cI, 7, .inl mq2_21))] := hD
                subst hw_r_20
                exact W.iret (v := (-1000000001)) hx hb hr (fun t ht hW => ⟨⟨(-1000000001), (nb, mv9, mq2_21), rfl, ⟨(sp_cr3 c_11 c_14 c_15 (fun q => (sp_s1 c_19) q.2)), (fun j => sp_c0 (fun h => (sp_s1 c_19) h.2.2.2.2)), (fun _ _ => rfl)⟩, by rw [ht]; exact hP.sub [4, 0, 1, 2, 3, 5] rfl, hD.sub [4, 0, 1, 2, 3, 5] (by decide +kernel) rfl⟩, hS.F ht⟩) hS.2.2 dX9_copy_116 hlk
              · skip
                refine lv_iload hx hb dX9_copy_78 (lv_at hl 5 rfl) ?_
                refine lv_if_lt (tgt := 110) hx hb dX9_copy_80 (by decide) (fun c_22 => ?_) (fun c_22 => ?_)
                · skip
                  refine lv_aload_n hx hb dX9_copy_110 rfl (lv_at hl 0 rfl) ?_
                  refine lv_ldc (v := (-1000000001)) hx hb hown (hu _ uw648) dX9_copy_111 ?_
                  refine xc_Vi (wr := [(ybi, .inl (cI, 4, .inl bi)), (ysi, .inl (cI, 4, .inl sq)), (ynu, .inl (cJ, 160, .inr (.inl nb))), (ymo, .inl (cJ, 40, .inr (.inl mv9)))]) hF (c_X9_finds_B l D cI cJ cZ cS ta sa sv s.heap.size h0 ys yk yo yt mk0 yfa yfe mL mS mM yro yhe ygr mF mC mY yta mz mf mt mv mw ywa ybi ysi ynu ymo mq ) kv_X9_70 ⟨rfl, rfl, Nat.le_of_ble_eq_true rfl, Nat.le_of_ble_eq_true rfl⟩ ⟨Nat.le_of_ble_eq_true rfl, Nat.le_of_ble_eq_true rfl⟩ hK hN hZ hP hD hS hA [0, 5] [1, 2, 3, 4] rfl rfl rfl rfl (by decide) 0 rfl rfl rfl rfl hl.1 rfl (Nat.le_of_ble_eq_true rfl) dX9_copy_113 (fun r_23 u_r_23 H locs hw_r_23 hP hD hS => ?_)
                  obtain ⟨mq2_24, rfl⟩ : ∃ z, z = u_r_23 := ⟨_, rfl⟩
                  try dsimp only at hw_r_23
                  have hP : va_P D vwCl [(ybi, .inl (cI, 4, .inl bi)), (ysi, .inl (cI, 4, .inl sq)), (ynu, .inl (cJ, 160, .inr (.inl nb))), (ymo, .inl (cJ, 40, .inr (.inl mv9))), (h0, .inr (9, [.ref ys, .ref yk, .ref yo, .ref yt, .int mk0, .ref yfa, .ref yfe, .int mL, .int mS, .int mM, .ref yro, .ref yhe, .ref ygr, .int mF, .int mC, .int mY, .ref yta, .int (nI (mz)), .int (nI (mf)), .int (nI (mt)), .int mv, .int mw, .ref ywa, .ref ybi, .ref ysi, .ref ynu, .ref ymo])), (yt, .inl (cI, 7, .inl mq2_24))] H := hP
                  have hD : va_D A [(ybi, .inl (cI, 4, .inl bi)), (ysi, .inl (cI, 4, .inl sq)), (ynu, .inl (cJ, 160, .inr (.inl nb))), (ymo, .inl (cJ, 40, .inr (.inl mv9))), (h0, .inr (9, [.ref ys, .ref yk, .ref yo, .ref yt, .int mk0, .ref yfa, .ref yfe, .int mL, .int mS, .int mM, .ref yro, .ref yhe, .ref ygr, .int mF, .int mC, .int mY, .ref yta, .int (nI (mz)), .int (nI (mf)), .int (nI (mt)), .int mv, .int mw, .ref ywa, .ref ybi, .ref ysi, .ref ynu, .ref ymo])), (yt, .inl (cI, 7, .inl mq2_24))] := hD
                  subst hw_r_23
                  exact W.iret (v := (-1000000001)) hx hb hr (fun t ht hW => ⟨⟨(-1000000001), (nb, mv9, mq2_24), rfl, ⟨(sp_cr3 c_11 c_14 c_15 (fun q => (sp_s2 c_22) q.1)), (fun j => sp_c0 (fun h => (sp_s2 c_22) h.2.2.2.1)), (fun _ _ => rfl)⟩, by rw [ht]; exact hP.sub [4, 0, 1, 2, 3, 5] rfl, hD.sub [4, 0, 1, 2, 3, 5] (by decide +kernel) rfl⟩, hS.F ht⟩) hS.2.2 dX9_copy_116 hlk
                · skip
                  refine lv_iload hx hb dX9_copy_83 (lv_at hl 5 rfl) ?_
                  refine lv_aload_n hx hb dX9_copy_85 rfl (lv_at hl 0 rfl) ?_
                  refine xg hF kf_X9_46 hK hP 0 rfl rfl dX9_copy_86 ?_
                  refine lv_iload_n hx hb dX9_copy_89 rfl (lv_at hl 1 rfl) ?_
                  refine va_iald hx hb hK hP 2 0 rfl rfl (xin 1 4 (by decide) (by decide)) dX9_copy_90 ?_
                  refine xl_i (y := sq 1) (congrArg sq rfl) ?_
                  refine xl_i (y := nI (zq)) ez ?_
                  refine lv_iload_n hx hb dX9_copy_91 rfl (lv_at hl 2 rfl) ?_
                  refine lv_isub hx hb dX9_copy_92 ?_
                  refine lv_topi (fun x_25 ex_25 => ?_)
                  refine lv_icmp_gt (tgt := 110) hx hb dX9_copy_93 (by decide) (fun c_26 => ?_) (fun c_26 => ?_)
                  · skip
                    refine lv_aload_n hx hb dX9_copy_110 rfl (lv_at hl 0 rfl) ?_
                    refine lv_ldc (v := (-1000000001)) hx hb hown (hu _ uw648) dX9_copy_111 ?_
                    refine xc_Vi (wr := [(ybi, .inl (cI, 4, .inl bi)), (ysi, .inl (cI, 4, .inl sq)), (ynu, .inl (cJ, 160, .inr (.inl nb))), (ymo, .inl (cJ, 40, .inr (.inl mv9)))]) hF (c_X9_finds_B l D cI cJ cZ cS ta sa sv s.heap.size h0 ys yk yo yt mk0 yfa yfe mL mS mM yro yhe ygr mF mC mY yta mz mf mt mv mw ywa ybi ysi ynu ymo mq ) kv_X9_70 ⟨rfl, rfl, Nat.le_of_ble_eq_true rfl, Nat.le_of_ble_eq_true rfl⟩ ⟨Nat.le_of_ble_eq_true rfl, Nat.le_of_ble_eq_true rfl⟩ hK hN hZ hP hD hS hA [0, 5] [1, 2, 3, 4] rfl rfl rfl rfl (by decide) 0 rfl rfl rfl rfl hl.1 rfl (Nat.le_of_ble_eq_true rfl) dX9_copy_113 (fun r_27 u_r_27 H locs hw_r_27 hP hD hS => ?_)
                    obtain ⟨mq2_28, rfl⟩ : ∃ z, z = u_r_27 := ⟨_, rfl⟩
                    try dsimp only at hw_r_27
                    have hP : va_P D vwCl [(ybi, .inl (cI, 4, .inl bi)), (ysi, .inl (cI, 4, .inl sq)), (ynu, .inl (cJ, 160, .inr (.inl nb))), (ymo, .inl (cJ, 40, .inr (.inl mv9))), (h0, .inr (9, [.ref ys, .ref yk, .ref yo, .ref yt, .int mk0, .ref yfa, .ref yfe, .int mL, .int mS, .int mM, .ref yro, .ref yhe, .ref ygr, .int mF, .int mC, .int mY, .ref yta, .int (nI (mz)), .int (nI (mf)), .int (nI (mt)), .int mv, .int mw, .ref ywa, .ref ybi, .ref ysi, .ref ynu, .ref ymo])), (yt, .inl (cI, 7, .inl mq2_28))] H := hP
                    have hD : va_D A [(ybi, .inl (cI, 4, .inl bi)), (ysi, .inl (cI, 4, .inl sq)), (ynu, .inl (cJ, 160, .inr (.inl nb))), (ymo, .inl (cJ, 40, .inr (.inl mv9))), (h0, .inr (9, [.ref ys, .ref yk, .ref yo, .ref yt, .int mk0, .ref yfa, .ref yfe, .int mL, .int mS, .int mM, .ref yro, .ref yhe, .ref ygr, .int mF, .int mC, .int mY, .ref yta, .int (nI (mz)), .int (nI (mf)), .int (nI (mt)), .int mv, .int mw, .ref ywa, .ref ybi, .ref ysi, .ref ynu, .ref ymo])), (yt, .inl (cI, 7, .inl mq2_28))] := hD
                    subst hw_r_27
                    exact W.iret (v := (-1000000001)) hx hb hr (fun t ht hW => ⟨⟨(-1000000001), (nb, mv9, mq2_28), rfl, ⟨(sp_cr3 c_11 c_14 c_15 (fun q => (sp_s5 hzq c_16 c_22 ex_25 c_26) q.1)), (fun j => sp_c0 (fun h => (sp_s5 hzq c_16 c_22 ex_25 c_26) h.2.2.2.1)), (fun _ _ => rfl)⟩, by rw [ht]; exact hP.sub [4, 0, 1, 2, 3, 5] rfl, hD.sub [4, 0, 1, 2, 3, 5] (by decide +kernel) rfl⟩, hS.F ht⟩) hS.2.2 dX9_copy_116 hlk
                  · skip
                    refine lv_iload hx hb dX9_copy_96 (lv_at hl 5 rfl) ?_
                    refine lv_aload_n hx hb dX9_copy_98 rfl (lv_at hl 0 rfl) ?_
                    refine xg hF kf_X9_46 hK hP 0 rfl rfl dX9_copy_99 ?_
                    refine lv_iload_n hx hb dX9_copy_102 rfl (lv_at hl 3 rfl) ?_
                    refine va_iald hx hb hK hP 2 0 rfl rfl (xin 3 4 (by decide) (by decide)) dX9_copy_103 ?_
                    refine xl_i (y := sq 3) (congrArg sq rfl) ?_
                    refine xl_i (y := nI (zt)) et ?_
                    refine lv_iload hx hb dX9_copy_104 (lv_at hl 4 rfl) ?_
                    refine lv_isub hx hb dX9_copy_106 ?_
                    refine lv_topi (fun x_29 ex_29 => ?_)
                    refine lv_icmp_le (tgt := 117) hx hb dX9_copy_107 (by decide) (fun c_30 => ?_) (fun c_30 => ?_)
                    · skip
                      obtain ⟨y_31, hy_31, rfl⟩ := x_spk (by omega) c_16 c_22 ex_25 c_26
                      obtain ⟨y_32, hy_32, rfl⟩ := x_spj (by omega) (by omega) c_16 ex_25 c_26
                      obtain ⟨y_33, hy_33, rfl⟩ := x_spj (by omega) (by omega) c_19 ex_29 (Int32.not_lt.mpr c_30)
                      refine lv_iconst (v := 0) hx hb dX9_copy_117 (by decide) ?_
                      refine lv_istore (lv' := [(6, .int 0), (0, .ref h0), (1, .int 1), (2, .int (nI (y_32))), (3, .int 3), (4, .int (nI (y_33))), (5, .int (nI (y_31)))]) hx hb dX9_copy_118 hl (by decide) rfl (fun ls hl => ?_)
                      suffices loop_120 : ∀ (n_120 : Nat) (i : Nat) (m8 : Nat → Int64) (H : Heap) (locs : List Loc) (ls : Array Slot), y_31 - i < n_120 → (i ≤ y_31) → (∀ j, j < i → m8 j = nb (40 + y_32 + j)) → va_P D vwCl [(h0, .inr (9, [.ref ys, .ref yk, .ref yo, .ref yt, .int mk0, .ref yfa, .ref yfe, .int mL, .int mS, .int mM, .ref yro, .ref yhe, .ref ygr, .int mF, .int mC, .int mY, .ref yta, .int (nI (mz)), .int (nI (mf)), .int (nI (mt)), .int mv, .int mw, .ref ywa, .ref ybi, .ref ysi, .ref ynu, .ref ymo])), (ybi, .inl (cI, 4, .inl bi)), (ysi, .inl (cI, 4, .inl sq)), (ynu, .inl (cJ, 160, .inr (.inl nb))), (ymo, .inl (cJ, 40, .inr (.inl m8))), (yt, .inl (cI, 7, .inl mq))] H → va_D A [(h0, .inr (9, [.ref ys, .ref yk, .ref yo, .ref yt, .int mk0, .ref yfa, .ref yfe, .int mL, .int mS, .int mM, .ref yro, .ref yhe, .ref ygr, .int mF, .int mC, .int mY, .ref yta, .int (nI (mz)), .int (nI (mf)), .int (nI (mt)), .int mv, .int mw, .ref ywa, .ref ybi, .ref ysi, .ref ynu, .ref ymo])), (ybi, .inl (cI, 4, .inl bi)), (ysi, .inl (cI, 4, .inl sq)), (ynu, .inl (cJ, 160, .inr (.inl nb))), (ymo, .inl (cJ, 40, .inr (.inl m8))), (yt, .inl (cI, 7, .inl mq))] → va_S A s.heap H locs → lv_has ls 7 [(6, .int (nI (i))), (0, .ref h0), (1, .int 1), (2, .int (nI (y_32))), (3, .int 3), (4, .int (nI (y_33))), (5, .int (nI (y_31)))] → W p l e ({ frames := 2, cells := 0, slots := 0, locals := 45 }) s m ([.ref h0, .int 1, .int (nI (y_32)), .int 3, .int (nI (y_33)), .int (nI (y_31))] : List Value).toArray below meth c H locs 0 0 (MQ below (XQi (fun (r : Int32) (u : (Nat → Int64) × (Nat → Int64) × (Nat → Int32)) => match u with | (nb2, mv2, mq2) => ((r = sp_cr (bi 1) (bi 3) zq zt (nI (y_32)) (nI (y_33)) (nI (y_31)))) ∧ (∀ j, nb2 (120 + j) = sp_cn (bi 1) (bi 3) zq zt (nI (y_32)) (nI (y_33)) (nI (y_31)) (fun k => nb (40 + k)) j (nb (120 + j))) ∧ (∀ j, j < 120 ∨ 160 ≤ j → nb2 j = nb j)) D (fun (u : (Nat → Int64) × (Nat → Int64) × (Nat → Int32)) => match u with | (nb2, mv2, mq2) => [(h0, .inr (9, [.ref ys, .ref yk, .ref yo, .ref yt, .int mk0, .ref yfa, .ref yfe, .int mL, .int mS, .int mM, .ref yro, .ref yhe, .ref ygr, .int mF, .int mC, .int mY, .ref yta, .int (nI (mz)), .int (nI (mf)), .int (nI (mt)), .int mv, .int mw, .ref ywa, .ref ybi, .ref ysi, .ref ynu, .ref ymo])), (ybi, .inl (cI, 4, .inl bi)), (ysi, .inl (cI, 4, .inl sq)), (ynu, .inl (cJ, 160, .inr (.inl nb2))), (ymo, .inl (cJ, 40, .inr (.inl mv2))), (yt, .inl (cI, 7, .inl mq2))]) A) ([.ref h0, .int 1, .int (nI (y_32)), .int 3, .int (nI (y_33)), .int (nI (y_31))] : List Value).toArray s 0 0 A) (F0 m 120 ls []) by
                        exact loop_120 _ 0 mv9 _ _ _ (Nat.lt_succ_self _) (by omega) (fun j hj => absurd hj (Nat.not_lt_zero _)) hP hD hS (lv_sub hl [0, 1, 2, 3, 4, 5, 6] rfl)
                      intro n_120
                      induction n_120 with
                      | zero =>
                        intro i m8 H locs ls hm_120
                        exact absurd hm_120 (Nat.not_lt_zero _)
                      | succ n_120 ih_120 =>
                        intro i m8 H locs ls hm_120 hi hm8 hP hD hS hl
                        refine lv_iload hx hb dX9_copy_120 (lv_at hl 0 rfl) ?_
                        refine lv_iload hx hb dX9_copy_122 (lv_at hl 6 rfl) ?_
                        refine lv_icmp_ge (tgt := 154) hx hb dX9_copy_124 (by decide) (fun c_34 => ?_) (fun c_34 => ?_)
                        · skip
                          have nc_34 : y_31 ≤ i := xn_le (a := y_31) (b := i) (by omega) (by omega) c_34
                          refine lv_iconst (v := 0) hx hb dX9_copy_154 (by decide) ?_
                          refine lv_istore (lv' := [(6, .int 0), (0, .ref h0), (1, .int 1), (2, .int (nI (y_32))), (3, .int 3), (4, .int (nI (y_33))), (5, .int (nI (y_31)))]) hx hb dX9_copy_155 hl (by decide) rfl (fun ls hl => ?_)
                          suffices loop_157 : ∀ (n_157 : Nat) (i2 : Nat) (n8 : Nat → Int64) (H : Heap) (locs : List Loc) (ls : Array Slot), y_31 - i2 < n_157 → (i2 ≤ y_31) → (∀ j, n8 j = if 120 + y_33 ≤ j ∧ j < 120 + y_33 + i2 then m8 (j - (120 + y_33)) else nb j) → va_P D vwCl [(h0, .inr (9, [.ref ys, .ref yk, .ref yo, .ref yt, .int mk0, .ref yfa, .ref yfe, .int mL, .int mS, .int mM, .ref yro, .ref yhe, .ref ygr, .int mF, .int mC, .int mY, .ref yta, .int (nI (mz)), .int (nI (mf)), .int (nI (mt)), .int mv, .int mw, .ref ywa, .ref ybi, .ref ysi, .ref ynu, .ref ymo])), (ybi, .inl (cI, 4, .inl bi)), (ysi, .inl (cI, 4, .inl sq)), (ynu, .inl (cJ, 160, .inr (.inl n8))), (ymo, .inl (cJ, 40, .inr (.inl m8))), (yt, .inl (cI, 7, .inl mq))] H → va_D A [(h0, .inr (9, [.ref ys, .ref yk, .ref yo, .ref yt, .int mk0, .ref yfa, .ref yfe, .int mL, .int mS, .int mM, .ref yro, .ref yhe, .ref ygr, .int mF, .int mC, .int mY, .ref yta, .int (nI (mz)), .int (nI (mf)), .int (nI (mt)), .int mv, .int mw, .ref ywa, .ref ybi, .ref ysi, .ref ynu, .ref ymo])), (ybi, .inl (cI, 4, .inl bi)), (ysi, .inl (cI, 4, .inl sq)), (ynu, .inl (cJ, 160, .inr (.inl n8))), (ymo, .inl (cJ, 40, .inr (.inl m8))), (yt, .inl (cI, 7, .inl mq))] → va_S A s.heap H locs → lv_has ls 7 [(6, .int (nI (i2))), (0, .ref h0), (1, .int 1), (2, .int (nI (y_32))), (3, .int 3), (4, .int (nI (y_33))), (5, .int (nI (y_31)))] → W p l e ({ frames := 2, cells := 0, slots := 0, locals := 45 }) s m ([.ref h0, .int 1, .int (nI (y_32)), .int 3, .int (nI (y_33)), .int (nI (y_31))] : List Value).toArray below meth c H locs 0 0 (MQ below (XQi (fun (r : Int32) (u : (Nat → Int64) × (Nat → Int64) × (Nat → Int32)) => match u with | (nb2, mv2, mq2) => ((r = sp_cr (bi 1) (bi 3) zq zt (nI (y_32)) (nI (y_33)) (nI (y_31)))) ∧ (∀ j, nb2 (120 + j) = sp_cn (bi 1) (bi 3) zq zt (nI (y_32)) (nI (y_33)) (nI (y_31)) (fun k => nb (40 + k)) j (nb (120 + j))) ∧ (∀ j, j < 120 ∨ 160 ≤ j → nb2 j = nb j)) D (fun (u : (Nat → Int64) × (Nat → Int64) × (Nat → Int32)) => match u with | (nb2, mv2, mq2) => [(h0, .inr (9, [.ref ys, .ref yk, .ref yo, .ref yt, .int mk0, .ref yfa, .ref yfe, .int mL, .int mS, .int mM, .ref yro, .ref yhe, .ref ygr, .int mF, .int mC, .int mY, .ref yta, .int (nI (mz)), .int (nI (mf)), .int (nI (mt)), .int mv, .int mw, .ref ywa, .ref ybi, .ref ysi, .ref ynu, .ref ymo])), (ybi, .inl (cI, 4, .inl bi)), (ysi, .inl (cI, 4, .inl sq)), (ynu, .inl (cJ, 160, .inr (.inl nb2))), (ymo, .inl (cJ, 40, .inr (.inl mv2))), (yt, .inl (cI, 7, .inl mq2))]) A) ([.ref h0, .int 1, .int (nI (y_32)), .int 3, .int (nI (y_33)), .int (nI (y_31))] : List Value).toArray s 0 0 A) (F0 m 157 ls []) by
                            exact loop_157 _ 0 nb _ _ _ (Nat.lt_succ_self _) (by omega) (fun j => (if_neg (by omega)).symm) hP hD hS (lv_sub hl [0, 1, 2, 3, 4, 5, 6] rfl)
                          intro n_157
                          induction n_157 with
                          | zero =>
                            intro i2 n8 H locs ls hm_157
                            exact absurd hm_157 (Nat.not_lt_zero _)
                          | succ n_157 ih_157 =>
                            intro i2 n8 H locs ls hm_157 hi2 hn8 hP hD hS hl
                            refine lv_iload hx hb dX9_copy_157 (lv_at hl 0 rfl) ?_
                            refine lv_iload hx hb dX9_copy_159 (lv_at hl 6 rfl) ?_
                            refine lv_icmp_ge (tgt := 192) hx hb dX9_copy_161 (by decide) (fun c_35 => ?_) (fun c_35 => ?_)
                            · skip
                              have nc_35 : y_31 ≤ i2 := xn_le (a := y_31) (b := i2) (by omega) (by omega) c_35
                              refine lv_iload hx hb dX9_copy_192 (lv_at hl 6 rfl) ?_
                              have hn7 : ∀ j, n8 j = if 120 + y_33 ≤ j ∧ j < 120 + y_33 + y_31 then m8 (j - (120 + y_33)) else nb j := fun j => by rw [hn8 j, show i2 = y_31 by omega]
                              have hm7 : ∀ j, j < y_31 → m8 j = nb (40 + y_32 + j) := fun j hj => hm8 j (by omega)
                              exact W.iret (v := nI (y_31)) hx hb hr (fun t ht hW => ⟨⟨nI (y_31), (n8, m8, mq), rfl, ⟨(sp_cr4 c_11 c_14 c_15 (sp_nspan (by omega) (by omega)) (sp_nspan (by omega) (by omega))), (fun j9 => sp_c1 (K := 120) (M := 40) (by omega) (by omega) c_11 c_14 c_15 (by omega) (by omega) (fun i9 => sp_mv3 hn7 hm7 rfl rfl)), (fun j9 hj9 => by rw [hn7 j9, if_neg (by omega)])⟩, by rw [ht]; exact hP.sub [0, 1, 2, 3, 4, 5] rfl, hD.sub [0, 1, 2, 3, 4, 5] (by decide +kernel) rfl⟩, hS.F ht⟩) hS.2.2 dX9_copy_194 hlk
                            · skip
                              have nc_35 : i2 < y_31 := xn_nle (a := y_31) (b := i2) (by omega) (by omega) c_35
                              refine lv_aload_n hx hb dX9_copy_164 rfl (lv_at hl 1 rfl) ?_
                              refine xg hF kf_X9_49 hK hP 0 rfl rfl dX9_copy_165 ?_
                              refine lv_bipush (v := 40) hx hb dX9_copy_168 (by decide) ?_
                              refine lv_iload_n hx hb dX9_copy_170 rfl (lv_at hl 4 rfl) ?_
                              refine lv_imul hx hb dX9_copy_171 ?_
                              refine xl_i (y := 120) (by decide) ?_
                              refine lv_iload hx hb dX9_copy_172 (lv_at hl 5 rfl) ?_
                              refine lv_iadd hx hb dX9_copy_174 ?_
                              refine xl_i (y := nI (120 + y_33)) (nI_add 120 y_33) ?_
                              refine lv_iload hx hb dX9_copy_175 (lv_at hl 0 rfl) ?_
                              refine lv_iadd hx hb dX9_copy_177 ?_
                              refine xl_i (y := nI (120 + y_33 + i2)) (nI_add (120 + y_33) i2) ?_
                              refine lv_aload_n hx hb dX9_copy_178 rfl (lv_at hl 1 rfl) ?_
                              refine xg hF kf_X9_53 hK hP 0 rfl rfl dX9_copy_179 ?_
                              refine lv_iload hx hb dX9_copy_182 (lv_at hl 0 rfl) ?_
                              refine va_lald hx hb hK hP 4 1 rfl rfl (vp_in_nI (show i2 < 40 by omega) (by decide)) dX9_copy_184 ?_
                              refine xl_l (y := m8 i2) (congrArg m8 (nI_clamp (show i2 < 2 ^ 31 by omega))) ?_
                              refine va_last hx hb hK hP hD hS 3 1 rfl rfl (vp_in_nI (show 120 + y_33 + i2 < 160 by omega) (by decide)) dX9_copy_185 (fun H locs hP hD hS => ?_)
                              rw [nI_clamp (show 120 + y_33 + i2 < 2 ^ 31 by omega)] at hP hD
                              obtain ⟨f_36, ef_36⟩ : ∃ g, g = vp_updL n8 (120 + y_33 + i2) (m8 i2) := ⟨_, rfl⟩
                              rw [← ef_36] at hP hD
                              have hP : va_P D vwCl [(h0, .inr (9, [.ref ys, .ref yk, .ref yo, .ref yt, .int mk0, .ref yfa, .ref yfe, .int mL, .int mS, .int mM, .ref yro, .ref yhe, .ref ygr, .int mF, .int mC, .int mY, .ref yta, .int (nI (mz)), .int (nI (mf)), .int (nI (mt)), .int mv, .int mw, .ref ywa, .ref ybi, .ref ysi, .ref ynu, .ref ymo])), (ybi, .inl (cI, 4, .inl bi)), (ysi, .inl (cI, 4, .inl sq)), (ynu, .inl (cJ, 160, .inr (.inl f_36))), (ymo, .inl (cJ, 40, .inr (.inl m8))), (yt, .inl (cI, 7, .inl mq))] H := hP
                              have hD : va_D A [(h0, .inr (9, [.ref ys, .ref yk, .ref yo, .ref yt, .int mk0, .ref yfa, .ref yfe, .int mL, .int mS, .int mM, .ref yro, .ref yhe, .ref ygr, .int mF, .int mC, .int mY, .ref yta, .int (nI (mz)), .int (nI (mf)), .int (nI (mt)), .int mv, .int mw, .ref ywa, .ref ybi, .ref ysi, .ref ynu, .ref ymo])), (ybi, .inl (cI, 4, .inl bi)), (ysi, .inl (cI, 4, .inl sq)), (ynu, .inl (cJ, 160, .inr (.inl f_36))), (ymo, .inl (cJ, 40, .inr (.inl m8))), (yt, .inl (cI, 7, .inl mq))] := hD
                              refine lv_iinc (v := nI (i2 + 1)) (lv' := [(6, .int (nI (i2 + 1))), (0, .ref h0), (1, .int 1), (2, .int (nI (y_32))), (3, .int 3), (4, .int (nI (y_33))), (5, .int (nI (y_31)))]) hx hb dX9_copy_186 hl (k := 0) rfl (nI_1 (i2)) (by decide) rfl (fun ls hl => ?_)
                              refine lv_goto (tgt := 157) hx hb dX9_copy_189 (by decide) ?_
                              exact ih_157 (i2 + 1) f_36 _ _ _ (by omega) (by omega) (sp_mv2 hn8 ef_36) (hP.sub [0, 1, 2, 3, 4, 5] rfl) (hD.sub [0, 1, 2, 3, 4, 5] (by decide +kernel) rfl) hS (lv_sub hl [0, 1, 2, 3, 4, 5, 6] rfl)
                        · skip
                          have nc_34 : i < y_31 := xn_nle (a := y_31) (b := i) (by omega) (by omega) c_34
                          refine lv_aload_n hx hb dX9_copy_127 rfl (lv_at hl 1 rfl) ?_
                          refine xg hF kf_X9_53 hK hP 0 rfl rfl dX9_copy_128 ?_
                          refine lv_iload hx hb dX9_copy_131 (lv_at hl 0 rfl) ?_
                          refine lv_aload_n hx hb dX9_copy_133 rfl (lv_at hl 1 rfl) ?_
                          refine xg hF kf_X9_49 hK hP 0 rfl rfl dX9_copy_134 ?_
                          refine lv_bipush (v := 40) hx hb dX9_copy_137 (by decide) ?_
                          refine lv_iload_n hx hb dX9_copy_139 rfl (lv_at hl 2 rfl) ?_
                          refine lv_imul hx hb dX9_copy_140 ?_
                          refine xl_i (y := 40) (by decide) ?_
                          refine lv_iload_n hx hb dX9_copy_141 rfl (lv_at hl 3 rfl) ?_
                          refine lv_iadd hx hb dX9_copy_142 ?_
                          refine xl_i (y := nI (40 + y_32)) (nI_add 40 y_32) ?_
                          refine lv_iload hx hb dX9_copy_143 (lv_at hl 0 rfl) ?_
                          refine lv_iadd hx hb dX9_copy_145 ?_
                          refine xl_i (y := nI (40 + y_32 + i)) (nI_add (40 + y_32) i) ?_
                          refine va_lald hx hb hK hP 3 1 rfl rfl (vp_in_nI (show 40 + y_32 + i < 160 by omega) (by decide)) dX9_copy_146 ?_
                          refine xl_l (y := nb (40 + y_32 + i)) (congrArg nb (nI_clamp (show 40 + y_32 + i < 2 ^ 31 by omega))) ?_
                          refine va_last hx hb hK hP hD hS 4 1 rfl rfl (vp_in_nI (show i < 40 by omega) (by decide)) dX9_copy_147 (fun H locs hP hD hS => ?_)
                          rw [nI_clamp (show i < 2 ^ 31 by omega)] at hP hD
                          obtain ⟨f_37, ef_37⟩ : ∃ g, g = vp_updL m8 i (nb (40 + y_32 + i)) := ⟨_, rfl⟩
                          rw [← ef_37] at hP hD
                          have hP : va_P D vwCl [(h0, .inr (9, [.ref ys, .ref yk, .ref yo, .ref yt, .int mk0, .ref yfa, .ref yfe, .int mL, .int mS, .int mM, .ref yro, .ref yhe, .ref ygr, .int mF, .int mC, .int mY, .ref yta, .int (nI (mz)), .int (nI (mf)), .int (nI (mt)), .int mv, .int mw, .ref ywa, .ref ybi, .ref ysi, .ref ynu, .ref ymo])), (ybi, .inl (cI, 4, .inl bi)), (ysi, .inl (cI, 4, .inl sq)), (ynu, .inl (cJ, 160, .inr (.inl nb))), (ymo, .inl (cJ, 40, .inr (.inl f_37))), (yt, .inl (cI, 7, .inl mq))] H := hP
                          have hD : va_D A [(h0, .inr (9, [.ref ys, .ref yk, .ref yo, .ref yt, .int mk0, .ref yfa, .ref yfe, .int mL, .int mS, .int mM, .ref yro, .ref yhe, .ref ygr, .int mF, .int mC, .int mY, .ref yta, .int (nI (mz)), .int (nI (mf)), .int (nI (mt)), .int mv, .int mw, .ref ywa, .ref ybi, .ref ysi, .ref ynu, .ref ymo])), (ybi, .inl (cI, 4, .inl bi)), (ysi, .inl (cI, 4, .inl sq)), (ynu, .inl (cJ, 160, .inr (.inl nb))), (ymo, .inl (cJ, 40, .inr (.inl f_37))), (yt, .inl (cI, 7, .inl mq))] := hD
                          refine lv_iinc (v := nI (i + 1)) (lv' := [(6, .int (nI (i + 1))), (0, .ref h0), (1, .int 1), (2, .int (nI (y_32))), (3, .int 3), (4, .int (nI (y_33))), (5, .int (nI (y_31)))]) hx hb dX9_copy_148 hl (k := 0) rfl (nI_1 (i)) (by decide) rfl (fun ls hl => ?_)
                          refine lv_goto (tgt := 120) hx hb dX9_copy_151 (by decide) ?_
                          exact ih_120 (i + 1) f_37 _ _ _ (by omega) (by omega) (sp_mv1 hm8 ef_37) (hP.sub [0, 1, 2, 3, 4, 5] rfl) (hD.sub [0, 1, 2, 3, 4, 5] (by decide +kernel) rfl) hS (lv_sub hl [0, 1, 2, 3, 4, 5, 6] rfl)
                    · skip
                      refine lv_aload_n hx hb dX9_copy_110 rfl (lv_at hl 0 rfl) ?_
                      refine lv_ldc (v := (-1000000001)) hx hb hown (hu _ uw648) dX9_copy_111 ?_
                      refine xc_Vi (wr := [(ybi, .inl (cI, 4, .inl bi)), (ysi, .inl (cI, 4, .inl sq)), (ynu, .inl (cJ, 160, .inr (.inl nb))), (ymo, .inl (cJ, 40, .inr (.inl mv9)))]) hF (c_X9_finds_B l D cI cJ cZ cS ta sa sv s.heap.size h0 ys yk yo yt mk0 yfa yfe mL mS mM yro yhe ygr mF mC mY yta mz mf mt mv mw ywa ybi ysi ynu ymo mq ) kv_X9_70 ⟨rfl, rfl, Nat.le_of_ble_eq_true rfl, Nat.le_of_ble_eq_true rfl⟩ ⟨Nat.le_of_ble_eq_true rfl, Nat.le_of_ble_eq_true rfl⟩ hK hN hZ hP hD hS hA [0, 5] [1, 2, 3, 4] rfl rfl rfl rfl (by decide) 0 rfl rfl rfl rfl hl.1 rfl (Nat.le_of_ble_eq_true rfl) dX9_copy_113 (fun r_38 u_r_38 H locs hw_r_38 hP hD hS => ?_)
                      obtain ⟨mq2_39, rfl⟩ : ∃ z, z = u_r_38 := ⟨_, rfl⟩
                      try dsimp only at hw_r_38
                      have hP : va_P D vwCl [(ybi, .inl (cI, 4, .inl bi)), (ysi, .inl (cI, 4, .inl sq)), (ynu, .inl (cJ, 160, .inr (.inl nb))), (ymo, .inl (cJ, 40, .inr (.inl mv9))), (h0, .inr (9, [.ref ys, .ref yk, .ref yo, .ref yt, .int mk0, .ref yfa, .ref yfe, .int mL, .int mS, .int mM, .ref yro, .ref yhe, .ref ygr, .int mF, .int mC, .int mY, .ref yta, .int (nI (mz)), .int (nI (mf)), .int (nI (mt)), .int mv, .int mw, .ref ywa, .ref ybi, .ref ysi, .ref ynu, .ref ymo])), (yt, .inl (cI, 7, .inl mq2_39))] H := hP
                      have hD : va_D A [(ybi, .inl (cI, 4, .inl bi)), (ysi, .inl (cI, 4, .inl sq)), (ynu, .inl (cJ, 160, .inr (.inl nb))), (ymo, .inl (cJ, 40, .inr (.inl mv9))), (h0, .inr (9, [.ref ys, .ref yk, .ref yo, .ref yt, .int mk0, .ref yfa, .ref yfe, .int mL, .int mS, .int mM, .ref yro, .ref yhe, .ref ygr, .int mF, .int mC, .int mY, .ref yta, .int (nI (mz)), .int (nI (mf)), .int (nI (mt)), .int mv, .int mw, .ref ywa, .ref ybi, .ref ysi, .ref ynu, .ref ymo])), (yt, .inl (cI, 7, .inl mq2_39))] := hD
                      subst hw_r_38
                      exact W.iret (v := (-1000000001)) hx hb hr (fun t ht hW => ⟨⟨(-1000000001), (nb, mv9, mq2_39), rfl, ⟨(sp_cr3 c_11 c_14 c_15 (fun q => (sp_s5 hzt c_19 c_22 ex_29 (xlt c_30)) q.2)), (fun j => sp_c0 (fun h => (sp_s5 hzt c_19 c_22 ex_29 (xlt c_30)) h.2.2.2.2)), (fun _ _ => rfl)⟩, by rw [ht]; exact hP.sub [4, 0, 1, 2, 3, 5] rfl, hD.sub [4, 0, 1, 2, 3, 5] (by decide +kernel) rfl⟩, hS.F ht⟩) hS.2.2 dX9_copy_116 hlk
          · skip
            refine lv_aload_n hx hb dX9_copy_62 rfl (lv_at hl 0 rfl) ?_
            refine lv_ldc (v := (-1000000003)) hx hb hown (hu _ uw765) dX9_copy_63 ?_
            refine xc_Vi (wr := [(ybi, .inl (cI, 4, .inl bi)), (ysi, .inl (cI, 4, .inl sq)), (ynu, .inl (cJ, 160, .inr (.inl nb))), (ymo, .inl (cJ, 40, .inr (.inl mv9)))]) hF (c_X9_finds_K l D cI cJ cZ cS ta sa sv s.heap.size h0 ys yk yo yt mk0 yfa yfe mL mS mM yro yhe ygr mF mC mY yta mz mf mt mv mw ywa ybi ysi ynu ymo mq ) kv_X9_70 ⟨rfl, rfl, Nat.le_of_ble_eq_true rfl, Nat.le_of_ble_eq_true rfl⟩ ⟨Nat.le_of_ble_eq_true rfl, Nat.le_of_ble_eq_true rfl⟩ hK hN hZ hP hD hS hA [0, 5] [1, 2, 3, 4] rfl rfl rfl rfl (by decide) 0 rfl rfl rfl rfl hl.1 rfl (Nat.le_of_ble_eq_true rfl) dX9_copy_65 (fun r_40 u_r_40 H locs hw_r_40 hP hD hS => ?_)
            obtain ⟨mq2_41, rfl⟩ : ∃ z, z = u_r_40 := ⟨_, rfl⟩
            try dsimp only at hw_r_40
            have hP : va_P D vwCl [(ybi, .inl (cI, 4, .inl bi)), (ysi, .inl (cI, 4, .inl sq)), (ynu, .inl (cJ, 160, .inr (.inl nb))), (ymo, .inl (cJ, 40, .inr (.inl mv9))), (h0, .inr (9, [.ref ys, .ref yk, .ref yo, .ref yt, .int mk0, .ref yfa, .ref yfe, .int mL, .int mS, .int mM, .ref yro, .ref yhe, .ref ygr, .int mF, .int mC, .int mY, .ref yta, .int (nI (mz)), .int (nI (mf)), .int (nI (mt)), .int mv, .int mw, .ref ywa, .ref ybi, .ref ysi, .ref ynu, .ref ymo])), (yt, .inl (cI, 7, .inl mq2_41))] H := hP
            have hD : va_D A [(ybi, .inl (cI, 4, .inl bi)), (ysi, .inl (cI, 4, .inl sq)), (ynu, .inl (cJ, 160, .inr (.inl nb))), (ymo, .inl (cJ, 40, .inr (.inl mv9))), (h0, .inr (9, [.ref ys, .ref yk, .ref yo, .ref yt, .int mk0, .ref yfa, .ref yfe, .int mL, .int mS, .int mM, .ref yro, .ref yhe, .ref ygr, .int mF, .int mC, .int mY, .ref yta, .int (nI (mz)), .int (nI (mf)), .int (nI (mt)), .int mv, .int mw, .ref ywa, .ref ybi, .ref ysi, .ref ynu, .ref ymo])), (yt, .inl (cI, 7, .inl mq2_41))] := hD
            subst hw_r_40
            exact W.iret (v := (-1000000003)) hx hb hr (fun t ht hW => ⟨⟨(-1000000003), (nb, mv9, mq2_41), rfl, ⟨(sp_cr2 c_11 c_14 c_15), (fun j => sp_c0 (fun h => absurd h.2.2.1 c_15)), (fun _ _ => rfl)⟩, by rw [ht]; exact hP.sub [4, 0, 1, 2, 3, 5] rfl, hD.sub [4, 0, 1, 2, 3, 5] (by decide +kernel) rfl⟩, hS.F ht⟩) hS.2.2 dX9_copy_68 hlk
        · skip
          refine lv_aload_n hx hb dX9_copy_39 rfl (lv_at hl 0 rfl) ?_
          refine lv_ldcw (v := (-1000000006)) hx hb hown (hu _ uw910) dX9_copy_40 ?_
          refine xc_Vi (wr := [(ybi, .inl (cI, 4, .inl bi)), (ysi, .inl (cI, 4, .inl sq)), (ynu, .inl (cJ, 160, .inr (.inl nb))), (ymo, .inl (cJ, 40, .inr (.inl mv9)))]) hF (c_X9_finds_M l D cI cJ cZ cS ta sa sv s.heap.size h0 ys yk yo yt mk0 yfa yfe mL mS mM yro yhe ygr mF mC mY yta mz mf mt mv mw ywa ybi ysi ynu ymo mq ) kv_X9_70 ⟨rfl, rfl, Nat.le_of_ble_eq_true rfl, Nat.le_of_ble_eq_true rfl⟩ ⟨Nat.le_of_ble_eq_true rfl, Nat.le_of_ble_eq_true rfl⟩ hK hN hZ hP hD hS hA [0, 5] [1, 2, 3, 4] rfl rfl rfl rfl (by decide) 0 rfl rfl rfl rfl hl.1 rfl (Nat.le_of_ble_eq_true rfl) dX9_copy_43 (fun r_42 u_r_42 H locs hw_r_42 hP hD hS => ?_)
          obtain ⟨mq2_43, rfl⟩ : ∃ z, z = u_r_42 := ⟨_, rfl⟩
          try dsimp only at hw_r_42
          have hP : va_P D vwCl [(ybi, .inl (cI, 4, .inl bi)), (ysi, .inl (cI, 4, .inl sq)), (ynu, .inl (cJ, 160, .inr (.inl nb))), (ymo, .inl (cJ, 40, .inr (.inl mv9))), (h0, .inr (9, [.ref ys, .ref yk, .ref yo, .ref yt, .int mk0, .ref yfa, .ref yfe, .int mL, .int mS, .int mM, .ref yro, .ref yhe, .ref ygr, .int mF, .int mC, .int mY, .ref yta, .int (nI (mz)), .int (nI (mf)), .int (nI (mt)), .int mv, .int mw, .ref ywa, .ref ybi, .ref ysi, .ref ynu, .ref ymo])), (yt, .inl (cI, 7, .inl mq2_43))] H := hP
          have hD : va_D A [(ybi, .inl (cI, 4, .inl bi)), (ysi, .inl (cI, 4, .inl sq)), (ynu, .inl (cJ, 160, .inr (.inl nb))), (ymo, .inl (cJ, 40, .inr (.inl mv9))), (h0, .inr (9, [.ref ys, .ref yk, .ref yo, .ref yt, .int mk0, .ref yfa, .ref yfe, .int mL, .int mS, .int mM, .ref yro, .ref yhe, .ref ygr, .int mF, .int mC, .int mY, .ref yta, .int (nI (mz)), .int (nI (mf)), .int (nI (mt)), .int mv, .int mw, .ref ywa, .ref ybi, .ref ysi, .ref ynu, .ref ymo])), (yt, .inl (cI, 7, .inl mq2_43))] := hD
          subst hw_r_42
          exact W.iret (v := (-1000000006)) hx hb hr (fun t ht hW => ⟨⟨(-1000000006), (nb, mv9, mq2_43), rfl, ⟨(sp_cr1 (Or.inr c_14)), (fun j => sp_c0 (fun h => h.2.1 c_14)), (fun _ _ => rfl)⟩, by rw [ht]; exact hP.sub [4, 0, 1, 2, 3, 5] rfl, hD.sub [4, 0, 1, 2, 3, 5] (by decide +kernel) rfl⟩, hS.F ht⟩) hS.2.2 dX9_copy_46 hlk
    · exact absurd h_9 (by decide)
  · exact absurd h_4 (by decide)
set_option maxHeartbeats 4000000 in
set_option maxRecDepth 100000 in
theorem c_X9_copy_20 (l : Launch) (D : va_G) (cI cJ cZ cS : ClassId) (ta : Nat) (sa sv : Nat → Nat) (sz : Nat) (h0 : Nat) (ys : Nat) (yk : Nat) (yo : Nat) (yt : Nat) (mk0 : Int32) (yfa : Nat) (yfe : Nat) (mL : Int32) (mS : Int32) (mM : Int32) (yro : Nat) (yhe : Nat) (ygr : Nat) (mF : Int32) (mC : Int32) (mY : Int32) (yta : Nat) (mz : Nat) (mf : Nat) (mt : Nat) (mv : Int32) (mw : Int32) (ywa : Nat) (ybi : Nat) (ysi : Nat) (ynu : Nat) (ymo : Nat) (bi : Nat → Int32) (sq : Nat → Int32) (nb : Nat → Int64) (mv9 : Nat → Int64) (mq : Nat → Int32) (p1 : Int32) (p3 : Int32) (p4 : Int32) (zq : Nat) (zt : Nat) (ez : sq 2 = nI zq) (hzq : zq ≤ 40) (et : sq 0 = nI zt) (hzt : zt ≤ 40) (hsq : BA 4 41 sq) : Met l yX9_copy (Cond.code yX9_copy cX9_copy 7 (some .int) :: wsU) ({ frames := 2, cells := 0, slots := 0, locals := 45 }) (va_Pc [.ref h0, .int 2, .int p1, .int 0, .int p3, .int p4] (XW D (xT cI cJ cZ cS) ta sa sv [(h0, .inr (9, [.ref ys, .ref yk, .ref yo, .ref yt, .int mk0, .ref yfa, .ref yfe, .int mL, .int mS, .int mM, .ref yro, .ref yhe, .ref ygr, .int mF, .int mC, .int mY, .ref yta, .int (nI (mz)), .int (nI (mf)), .int (nI (mt)), .int mv, .int mw, .ref ywa, .ref ybi, .ref ysi, .ref ynu, .ref ymo])), (ybi, .inl (cI, 4, .inl bi)), (ysi, .inl (cI, 4, .inl sq)), (ynu, .inl (cJ, 160, .inr (.inl nb))), (ymo, .inl (cJ, 40, .inr (.inl mv9))), (yt, .inl (cI, 7, .inl mq))] sz)) (XQi (fun (r : Int32) (u : (Nat → Int64) × (Nat → Int64) × (Nat → Int32)) => match u with | (nb2, mv2, mq2) => ((r = sp_cr (bi 2) (bi 0) zq zt p1 p3 p4)) ∧ (∀ j, nb2 (0 + j) = sp_cn (bi 2) (bi 0) zq zt p1 p3 p4 (fun k => nb (80 + k)) j (nb (0 + j))) ∧ (∀ j, j < 0 ∨ 40 ≤ j → nb2 j = nb j)) D (fun (u : (Nat → Int64) × (Nat → Int64) × (Nat → Int32)) => match u with | (nb2, mv2, mq2) => [(h0, .inr (9, [.ref ys, .ref yk, .ref yo, .ref yt, .int mk0, .ref yfa, .ref yfe, .int mL, .int mS, .int mM, .ref yro, .ref yhe, .ref ygr, .int mF, .int mC, .int mY, .ref yta, .int (nI (mz)), .int (nI (mf)), .int (nI (mt)), .int mv, .int mw, .ref ywa, .ref ybi, .ref ysi, .ref ynu, .ref ymo])), (ybi, .inl (cI, 4, .inl bi)), (ysi, .inl (cI, 4, .inl sq)), (ynu, .inl (cJ, 160, .inr (.inl nb2))), (ymo, .inl (cJ, 40, .inr (.inl mv2))), (yt, .inl (cI, 7, .inl mq2))]) (va_A [(h0, .inr (9, [.ref ys, .ref yk, .ref yo, .ref yt, .int mk0, .ref yfa, .ref yfe, .int mL, .int mS, .int mM, .ref yro, .ref yhe, .ref ygr, .int mF, .int mC, .int mY, .ref yta, .int (nI (mz)), .int (nI (mf)), .int (nI (mt)), .int mv, .int mw, .ref ywa, .ref ybi, .ref ysi, .ref ynu, .ref ymo])), (ybi, .inl (cI, 4, .inl bi)), (ysi, .inl (cI, 4, .inl sq)), (ynu, .inl (cJ, 160, .inr (.inl nb))), (ymo, .inl (cJ, 40, .inr (.inl mv9))), (yt, .inl (cI, 7, .inl mq))] sz)) 0 0 (va_A [(h0, .inr (9, [.ref ys, .ref yk, .ref yo, .ref yt, .int mk0, .ref yfa, .ref yfe, .int mL, .int mS, .int mM, .ref yro, .ref yhe, .ref ygr, .int mF, .int mC, .int mY, .ref yta, .int (nI (mz)), .int (nI (mf)), .int (nI (mt)), .int mv, .int mw, .ref ywa, .ref ybi, .ref ysi, .ref ynu, .ref ymo])), (ybi, .inl (cI, 4, .inl bi)), (ysi, .inl (cI, 4, .inl sq)), (ynu, .inl (cJ, 160, .inr (.inl nb))), (ymo, .inl (cJ, 40, .inr (.inl mv9))), (yt, .inl (cI, 7, .inl mq))] sz) := by
  refine xh (QA := fun A => XQi (fun (r : Int32) (u : (Nat → Int64) × (Nat → Int64) × (Nat → Int32)) => match u with | (nb2, mv2, mq2) => ((r = sp_cr (bi 2) (bi 0) zq zt p1 p3 p4)) ∧ (∀ j, nb2 (0 + j) = sp_cn (bi 2) (bi 0) zq zt p1 p3 p4 (fun k => nb (80 + k)) j (nb (0 + j))) ∧ (∀ j, j < 0 ∨ 40 ≤ j → nb2 j = nb j)) D (fun (u : (Nat → Int64) × (Nat → Int64) × (Nat → Int32)) => match u with | (nb2, mv2, mq2) => [(h0, .inr (9, [.ref ys, .ref yk, .ref yo, .ref yt, .int mk0, .ref yfa, .ref yfe, .int mL, .int mS, .int mM, .ref yro, .ref yhe, .ref ygr, .int mF, .int mC, .int mY, .ref yta, .int (nI (mz)), .int (nI (mf)), .int (nI (mt)), .int mv, .int mw, .ref ywa, .ref ybi, .ref ysi, .ref ynu, .ref ymo])), (ybi, .inl (cI, 4, .inl bi)), (ysi, .inl (cI, 4, .inl sq)), (ynu, .inl (cJ, 160, .inr (.inl nb2))), (ymo, .inl (cJ, 40, .inr (.inl mv2))), (yt, .inl (cI, 7, .inl mq2))]) A) (fr := fun A => A) (by decide) (Nat.le_of_ble_eq_true rfl) ?_
  intro p e s m below meth c ls A hF hr hlk hin hsz hP hK hD hN hZ hA hS hl
  have hF : CallFix p m c cX9_copy 7 s _ _ RX9 := hF
  have hx := hF.1
  have hb := hF.2.1
  have hml := hF.2.2.1
  have hown := hF.2.2.2.1
  have hu : ∀ w ∈ wsU, w.before _ s = true := fun w h => hF.2.2.2.2 w (List.mem_cons_of_mem _ h)
  have hl : lv_has ls 7 [(0, .ref h0), (1, .int 2), (2, .int p1), (3, .int 0), (4, .int p3), (5, .int p4)] := hl
  refine lv_iload_n hx hb dX9_copy_0 rfl (lv_at hl 1 rfl) ?_
  refine xc_Sr hF (c_X9_isOne l D cI cJ cZ cS ta sa sv s.heap.size 2 ) ks_X9_305 ⟨rfl, rfl, Nat.le_of_ble_eq_true rfl, Nat.le_of_ble_eq_true rfl⟩ ⟨Nat.le_of_ble_eq_true rfl, Nat.le_of_ble_eq_true rfl⟩ hK hN hZ hP hD hS hA [] rfl rfl rfl hl.1 rfl (Nat.le_of_ble_eq_true rfl) dX9_copy_1 (fun r_1 hw_r_1 => ?_)
  rcases hw_r_1 with ⟨rfl, h_2, h_3⟩ | ⟨rfl, h_4⟩
  · skip
    refine lv_if_eq (tgt := 14) hx hb dX9_copy_4 (by decide) (fun c_5 => absurd c_5 (by decide)) (fun c_5 => ?_)
    refine lv_iload_n hx hb dX9_copy_7 rfl (lv_at hl 3 rfl) ?_
    refine xc_Sr hF (c_X9_isOne l D cI cJ cZ cS ta sa sv s.heap.size 0 ) ks_X9_305 ⟨rfl, rfl, Nat.le_of_ble_eq_true rfl, Nat.le_of_ble_eq_true rfl⟩ ⟨Nat.le_of_ble_eq_true rfl, Nat.le_of_ble_eq_true rfl⟩ hK hN hZ hP hD hS hA [] rfl rfl rfl hl.1 rfl (Nat.le_of_ble_eq_true rfl) dX9_copy_8 (fun r_6 hw_r_6 => ?_)
    rcases hw_r_6 with ⟨rfl, h_7, h_8⟩ | ⟨rfl, h_9⟩
    · skip
      refine lv_if_ne (tgt := 21) hx hb dX9_copy_11 (by decide) (fun c_10 => ?_) (fun c_10 => absurd c_10 (by decide))
      refine lv_aload_n hx hb dX9_copy_21 rfl (lv_at hl 0 rfl) ?_
      refine xg hF kf_X9_43 hK hP 0 rfl rfl dX9_copy_22 ?_
      refine lv_iload_n hx hb dX9_copy_25 rfl (lv_at hl 1 rfl) ?_
      refine va_iald hx hb hK hP 1 0 rfl rfl (xin 2 4 (by decide) (by decide)) dX9_copy_26 ?_
      refine xl_i (y := bi 2) (congrArg bi rfl) ?_
      refine lv_if_eq (tgt := 39) hx hb dX9_copy_27 (by decide) (fun c_11 => ?_) (fun c_11 => ?_)
      · skip
        refine lv_aload_n hx hb dX9_copy_39 rfl (lv_at hl 0 rfl) ?_
        refine lv_ldcw (v := (-1000000006)) hx hb hown (hu _ uw910) dX9_copy_40 ?_
        refine xc_Vi (wr := [(ybi, .inl (cI, 4, .inl bi)), (ysi, .inl (cI, 4, .inl sq)), (ynu, .inl (cJ, 160, .inr (.inl nb))), (ymo, .inl (cJ, 40, .inr (.inl mv9)))]) hF (c_X9_finds_M l D cI cJ cZ cS ta sa sv s.heap.size h0 ys yk yo yt mk0 yfa yfe mL mS mM yro yhe ygr mF mC mY yta mz mf mt mv mw ywa ybi ysi ynu ymo mq ) kv_X9_70 ⟨rfl, rfl, Nat.le_of_ble_eq_true rfl, Nat.le_of_ble_eq_true rfl⟩ ⟨Nat.le_of_ble_eq_true rfl, Nat.le_of_ble_eq_true rfl⟩ hK hN hZ hP hD hS hA [0, 5] [1, 2, 3, 4] rfl rfl rfl rfl (by decide) 0 rfl rfl rfl rfl hl.1 rfl (Nat.le_of_ble_eq_true rfl) dX9_copy_43 (fun r_12 u_r_12 H locs hw_r_12 hP hD hS => ?_)
        obtain ⟨mq2_13, rfl⟩ : ∃ z, z = u_r_12 := ⟨_, rfl⟩
        try dsimp only at hw_r_12
        have hP : va_P D vwCl [(ybi, .inl (cI, 4, .inl bi)), (ysi, .inl (cI, 4, .inl sq)), (ynu, .inl (cJ, 160, .inr (.inl nb))), (ymo, .inl (cJ, 40, .inr (.inl mv9))), (h0, .inr (9, [.ref ys, .ref yk, .ref yo, .ref yt, .int mk0, .ref yfa, .ref yfe, .int mL, .int mS, .int mM, .ref yro, .ref yhe, .ref ygr, .int mF, .int mC, .int mY, .ref yta, .int (nI (mz)), .int (nI (mf)), .int (nI (mt)), .int mv, .int mw, .ref ywa, .ref ybi, .ref ysi, .ref ynu, .ref ymo])), (yt, .inl (cI, 7, .inl mq2_13))] H := hP
        have hD : va_D A [(ybi, .inl (cI, 4, .inl bi)), (ysi, .inl (cI, 4, .inl sq)), (ynu, .inl (cJ, 160, .inr (.inl nb))), (ymo, .inl (cJ, 40, .inr (.inl mv9))), (h0, .inr (9, [.ref ys, .ref yk, .ref yo, .ref yt, .int mk0, .ref yfa, .ref yfe, .int mL, .int mS, .int mM, .ref yro, .ref yhe, .ref ygr, .int mF, .int mC, .int mY, .ref yta, .int (nI (mz)), .int (nI (mf)), .int (nI (mt)), .int mv, .int mw, .ref ywa, .ref ybi, .ref ysi, .ref ynu, .ref ymo])), (yt, .inl (cI, 7, .inl mq2_13))] := hD
        subst hw_r_12
        exact W.iret (v := (-1000000006)) hx hb hr (fun t ht hW => ⟨⟨(-1000000006), (nb, mv9, mq2_13), rfl, ⟨(sp_cr1 (Or.inl c_11)), (fun j => sp_c0 (fun h => h.1 c_11)), (fun _ _ => rfl)⟩, by rw [ht]; exact hP.sub [4, 0, 1, 2, 3, 5] rfl, hD.sub [4, 0, 1, 2, 3, 5] (by decide +kernel) rfl⟩, hS.F ht⟩) hS.2.2 dX9_copy_46 hlk
      · skip
        refine lv_aload_n hx hb dX9_copy_30 rfl (lv_at hl 0 rfl) ?_
        refine xg hF kf_X9_43 hK hP 0 rfl rfl dX9_copy_31 ?_
        refine lv_iload_n hx hb dX9_copy_34 rfl (lv_at hl 3 rfl) ?_
        refine va_iald hx hb hK hP 1 0 rfl rfl (xin 0 4 (by decide) (by decide)) dX9_copy_35 ?_
        refine xl_i (y := bi 0) (congrArg bi rfl) ?_
        refine lv_if_ne (tgt := 47) hx hb dX9_copy_36 (by decide) (fun c_14 => ?_) (fun c_14 => ?_)
        · skip
          refine lv_aload_n hx hb dX9_copy_47 rfl (lv_at hl 0 rfl) ?_
          refine xg hF kf_X9_43 hK hP 0 rfl rfl dX9_copy_48 ?_
          refine lv_iload_n hx hb dX9_copy_51 rfl (lv_at hl 1 rfl) ?_
          refine va_iald hx hb hK hP 1 0 rfl rfl (xin 2 4 (by decide) (by decide)) dX9_copy_52 ?_
          refine xl_i (y := bi 2) (congrArg bi rfl) ?_
          refine lv_aload_n hx hb dX9_copy_53 rfl (lv_at hl 0 rfl) ?_
          refine xg hF kf_X9_43 hK hP 0 rfl rfl dX9_copy_54 ?_
          refine lv_iload_n hx hb dX9_copy_57 rfl (lv_at hl 3 rfl) ?_
          refine va_iald hx hb hK hP 1 0 rfl rfl (xin 0 4 (by decide) (by decide)) dX9_copy_58 ?_
          refine xl_i (y := bi 0) (congrArg bi rfl) ?_
          refine lv_icmp_eq (tgt := 69) hx hb dX9_copy_59 (by decide) (fun c_15 => ?_) (fun c_15 => ?_)
          · skip
            refine lv_iload_n hx hb dX9_copy_69 rfl (lv_at hl 2 rfl) ?_
            refine lv_if_lt (tgt := 110) hx hb dX9_copy_70 (by decide) (fun c_16 => ?_) (fun c_16 => ?_)
            · skip
              refine lv_aload_n hx hb dX9_copy_110 rfl (lv_at hl 0 rfl) ?_
              refine lv_ldc (v := (-1000000001)) hx hb hown (hu _ uw648) dX9_copy_111 ?_
              refine xc_Vi (wr := [(ybi, .inl (cI, 4, .inl bi)), (ysi, .inl (cI, 4, .inl sq)), (ynu, .inl (cJ, 160, .inr (.inl nb))), (ymo, .inl (cJ, 40, .inr (.inl mv9)))]) hF (c_X9_finds_B l D cI cJ cZ cS ta sa sv s.heap.size h0 ys yk yo yt mk0 yfa yfe mL mS mM yro yhe ygr mF mC mY yta mz mf mt mv mw ywa ybi ysi ynu ymo mq ) kv_X9_70 ⟨rfl, rfl, Nat.le_of_ble_eq_true rfl, Nat.le_of_ble_eq_true rfl⟩ ⟨Nat.le_of_ble_eq_true rfl, Nat.le_of_ble_eq_true rfl⟩ hK hN hZ hP hD hS hA [0, 5] [1, 2, 3, 4] rfl rfl rfl rfl (by decide) 0 rfl rfl rfl rfl hl.1 rfl (Nat.le_of_ble_eq_true rfl) dX9_copy_113 (fun r_17 u_r_17 H locs hw_r_17 hP hD hS => ?_)
              obtain ⟨mq2_18, rfl⟩ : ∃ z, z = u_r_17 := ⟨_, rfl⟩
              try dsimp only at hw_r_17
              have hP : va_P D vwCl [(ybi, .inl (cI, 4, .inl bi)), (ysi, .inl (cI, 4, .inl sq)), (ynu, .inl (cJ, 160, .inr (.inl nb))), (ymo, .inl (cJ, 40, .inr (.inl mv9))), (h0, .inr (9, [.ref ys, .ref yk, .ref yo, .ref yt, .int mk0, .ref yfa, .ref yfe, .int mL, .int mS, .int mM, .ref yro, .ref yhe, .ref ygr, .int mF, .int mC, .int mY, .ref yta, .int (nI (mz)), .int (nI (mf)), .int (nI (mt)), .int mv, .int mw, .ref ywa, .ref ybi, .ref ysi, .ref ynu, .ref ymo])), (yt, .inl (cI, 7, .inl mq2_18))] H := hP
              have hD : va_D A [(ybi, .inl (cI, 4, .inl bi)), (ysi, .inl (cI, 4, .inl sq)), (ynu, .inl (cJ, 160, .inr (.inl nb))), (ymo, .inl (cJ, 40, .inr (.inl mv9))), (h0, .inr (9, [.ref ys, .ref yk, .ref yo, .ref yt, .int mk0, .ref yfa, .ref yfe, .int mL, .int mS, .int mM, .ref yro, .ref yhe, .ref ygr, .int mF, .int mC, .int mY, .ref yta, .int (nI (mz)), .int (nI (mf)), .int (nI (mt)), .int mv, .int mw, .ref ywa, .ref ybi, .ref ysi, .ref ynu, .ref ymo])), (yt, .inl (cI, 7, .inl mq2_18))] := hD
              subst hw_r_17
              exact W.iret (v := (-1000000001)) hx hb hr (fun t ht hW => ⟨⟨(-1000000001), (nb, mv9, mq2_18), rfl, ⟨(sp_cr3 c_11 c_14 c_15 (fun q => (sp_s1 c_16) q.1)), (fun j => sp_c0 (fun h => (sp_s1 c_16) h.2.2.2.1)), (fun _ _ => rfl)⟩, by rw [ht]; exact hP.sub [4, 0, 1, 2, 3, 5] rfl, hD.sub [4, 0, 1, 2, 3, 5] (by decide +kernel) rfl⟩, hS.F ht⟩) hS.2.2 dX9_copy_116 hlk
            · skip
              refine lv_iload hx hb dX9_copy_73 (lv_at hl 4 rfl) ?_
              refine lv_if_lt (tgt := 110) hx hb dX9_copy_75 (by decide) (fun c_19 => ?_) (fun c_19 => ?_)
              · skip
                refine lv_aload_n hx hb dX9_copy_110 rfl (lv_at hl 0 rfl) ?_
                refine lv_ldc (v := (-1000000001)) hx hb hown (hu _ uw648) dX9_copy_111 ?_
                refine xc_Vi (wr := [(ybi, .inl (cI, 4, .inl bi)), (ysi, .inl (cI, 4, .inl sq)), (ynu, .inl (cJ, 160, .inr (.inl nb))), (ymo, .inl (cJ, 40, .inr (.inl mv9)))]) hF (c_X9_finds_B l D cI cJ cZ cS ta sa sv s.heap.size h0 ys yk yo yt mk0 yfa yfe mL mS mM yro yhe ygr mF mC mY yta mz mf mt mv mw ywa ybi ysi ynu ymo mq ) kv_X9_70 ⟨rfl, rfl, Nat.le_of_ble_eq_true rfl, Nat.le_of_ble_eq_true rfl⟩ ⟨Nat.le_of_ble_eq_true rfl, Nat.le_of_ble_eq_true rfl⟩ hK hN hZ hP hD hS hA [0, 5] [1, 2, 3, 4] rfl rfl rfl rfl (by decide) 0 rfl rfl rfl rfl hl.1 rfl (Nat.le_of_ble_eq_true rfl) dX9_copy_113 (fun r_20 u_r_20 H locs hw_r_20 hP hD hS => ?_)
                obtain ⟨mq2_21, rfl⟩ : ∃ z, z = u_r_20 := ⟨_, rfl⟩
                try dsimp only at hw_r_20
                have hP : va_P D vwCl [(ybi, .inl (cI, 4, .inl bi)), (ysi, .inl (cI, 4, .inl sq)), (ynu, .inl (cJ, 160, .inr (.inl nb))), (ymo, .inl (cJ, 40, .inr (.inl mv9))), (h0, .inr (9, [.ref ys, .ref yk, .ref yo, .ref yt, .int mk0, .ref yfa, .ref yfe, .int mL, .int mS, .int mM, .ref yro, .ref yhe, .ref ygr, .int mF, .int mC, .int mY, .ref yta, .int (nI (mz)), .int (nI (mf)), .int (nI (mt)), .int mv, .int mw, .ref ywa, .ref ybi, .ref ysi, .ref ynu, .ref ymo])), (yt, .inl (cI, 7, .inl mq2_21))] H := hP
                have hD : va_D A [(ybi, .inl (cI, 4, .inl bi)), (ysi, .inl (cI, 4, .inl sq)), (ynu, .inl (cJ, 160, .inr (.inl nb))), (ymo, .inl (cJ, 40, .inr (.inl mv9))), (h0, .inr (9, [.ref ys, .ref yk, .ref yo, .ref yt, .int mk0, .ref yfa, .ref yfe, .int mL, .int mS, .int mM, .ref yro, .ref yhe, .ref ygr, .int mF, .int mC, .int mY, .ref yta, .int (nI (mz)), .int (nI (mf)), .int (nI (mt)), .int mv, .int mw, .ref ywa, .ref ybi, .ref ysi, .ref ynu, .ref ymo])), (yt, .inl (cI, 7, .inl mq2_21))] := hD
                subst hw_r_20
                exact W.iret (v := (-1000000001)) hx hb hr (fun t ht hW => ⟨⟨(-1000000001), (nb, mv9, mq2_21), rfl, ⟨(sp_cr3 c_11 c_14 c_15 (fun q => (sp_s1 c_19) q.2)), (fun j => sp_c0 (fun h => (sp_s1 c_19) h.2.2.2.2)), (fun _ _ => rfl)⟩, by rw [ht]; exact hP.sub [4, 0, 1, 2, 3, 5] rfl, hD.sub [4, 0, 1, 2, 3, 5] (by decide +kernel) rfl⟩, hS.F ht⟩) hS.2.2 dX9_copy_116 hlk
              · skip
                refine lv_iload hx hb dX9_copy_78 (lv_at hl 5 rfl) ?_
                refine lv_if_lt (tgt := 110) hx hb dX9_copy_80 (by decide) (fun c_22 => ?_) (fun c_22 => ?_)
                · skip
                  refine lv_aload_n hx hb dX9_copy_110 rfl (lv_at hl 0 rfl) ?_
                  refine lv_ldc (v := (-1000000001)) hx hb hown (hu _ uw648) dX9_copy_111 ?_
                  refine xc_Vi (wr := [(ybi, .inl (cI, 4, .inl bi)), (ysi, .inl (cI, 4, .inl sq)), (ynu, .inl (cJ, 160, .inr (.inl nb))), (ymo, .inl (cJ, 40, .inr (.inl mv9)))]) hF (c_X9_finds_B l D cI cJ cZ cS ta sa sv s.heap.size h0 ys yk yo yt mk0 yfa yfe mL mS mM yro yhe ygr mF mC mY yta mz mf mt mv mw ywa ybi ysi ynu ymo mq ) kv_X9_70 ⟨rfl, rfl, Nat.le_of_ble_eq_true rfl, Nat.le_of_ble_eq_true rfl⟩ ⟨Nat.le_of_ble_eq_true rfl, Nat.le_of_ble_eq_true rfl⟩ hK hN hZ hP hD hS hA [0, 5] [1, 2, 3, 4] rfl rfl rfl rfl (by decide) 0 rfl rfl rfl rfl hl.1 rfl (Nat.le_of_ble_eq_true rfl) dX9_copy_113 (fun r_23 u_r_23 H locs hw_r_23 hP hD hS => ?_)
                  obtain ⟨mq2_24, rfl⟩ : ∃ z, z = u_r_23 := ⟨_, rfl⟩
                  try dsimp only at hw_r_23
                  have hP : va_P D vwCl [(ybi, .inl (cI, 4, .inl bi)), (ysi, .inl (cI, 4, .inl sq)), (ynu, .inl (cJ, 160, .inr (.inl nb))), (ymo, .inl (cJ, 40, .inr (.inl mv9))), (h0, .inr (9, [.ref ys, .ref yk, .ref yo, .ref yt, .int mk0, .ref yfa, .ref yfe, .int mL, .int mS, .int mM, .ref yro, .ref yhe, .ref ygr, .int mF, .int mC, .int mY, .ref yta, .int (nI (mz)), .int (nI (mf)), .int (nI (mt)), .int mv, .int mw, .ref ywa, .ref ybi, .ref ysi, .ref ynu, .ref ymo])), (yt, .inl (cI, 7, .inl mq2_24))] H := hP
                  have hD : va_D A [(ybi, .inl (cI, 4, .inl bi)), (ysi, .inl (cI, 4, .inl sq)), (ynu, .inl (cJ, 160, .inr (.inl nb))), (ymo, .inl (cJ, 40, .inr (.inl mv9))), (h0, .inr (9, [.ref ys, .ref yk, .ref yo, .ref yt, .int mk0, .ref yfa, .ref yfe, .int mL, .int mS, .int mM, .ref yro, .ref yhe, .ref ygr, .int mF, .int mC, .int mY, .ref yta, .int (nI (mz)), .int (nI (mf)), .int (nI (mt)), .int mv, .int mw, .ref ywa, .ref ybi, .ref ysi, .ref ynu, .ref ymo])), (yt, .inl (cI, 7, .inl mq2_24))] := hD
                  subst hw_r_23
                  exact W.iret (v := (-1000000001)) hx hb hr (fun t ht hW => ⟨⟨(-1000000001), (nb, mv9, mq2_24), rfl, ⟨(sp_cr3 c_11 c_14 c_15 (fun q => (sp_s2 c_22) q.1)), (fun j => sp_c0 (fun h => (sp_s2 c_22) h.2.2.2.1)), (fun _ _ => rfl)⟩, by rw [ht]; exact hP.sub [4, 0, 1, 2, 3, 5] rfl, hD.sub [4, 0, 1, 2, 3, 5] (by decide +kernel) rfl⟩, hS.F ht⟩) hS.2.2 dX9_copy_116 hlk
                · skip
                  refine lv_iload hx hb dX9_copy_83 (lv_at hl 5 rfl) ?_
                  refine lv_aload_n hx hb dX9_copy_85 rfl (lv_at hl 0 rfl) ?_
                  refine xg hF kf_X9_46 hK hP 0 rfl rfl dX9_copy_86 ?_
                  refine lv_iload_n hx hb dX9_copy_89 rfl (lv_at hl 1 rfl) ?_
                  refine va_iald hx hb hK hP 2 0 rfl rfl (xin 2 4 (by decide) (by decide)) dX9_copy_90 ?_
                  refine xl_i (y := sq 2) (congrArg sq rfl) ?_
                  refine xl_i (y := nI (zq)) ez ?_
                  refine lv_iload_n hx hb dX9_copy_91 rfl (lv_at hl 2 rfl) ?_
                  refine lv_isub hx hb dX9_copy_92 ?_
                  refine lv_topi (fun x_25 ex_25 => ?_)
                  refine lv_icmp_gt (tgt := 110) hx hb dX9_copy_93 (by decide) (fun c_26 => ?_) (fun c_26 => ?_)
                  · skip
                    refine lv_aload_n hx hb dX9_copy_110 rfl (lv_at hl 0 rfl) ?_
                    refine lv_ldc (v := (-1000000001)) hx hb hown (hu _ uw648) dX9_copy_111 ?_
                    refine xc_Vi (wr := [(ybi, .inl (cI, 4, .inl bi)), (ysi, .inl (cI, 4, .inl sq)), (ynu, .inl (cJ, 160, .inr (.inl nb))), (ymo, .inl (cJ, 40, .inr (.inl mv9)))]) hF (c_X9_finds_B l D cI cJ cZ cS ta sa sv s.heap.size h0 ys yk yo yt mk0 yfa yfe mL mS mM yro yhe ygr mF mC mY yta mz mf mt mv mw ywa ybi ysi ynu ymo mq ) kv_X9_70 ⟨rfl, rfl, Nat.le_of_ble_eq_true rfl, Nat.le_of_ble_eq_true rfl⟩ ⟨Nat.le_of_ble_eq_true rfl, Nat.le_of_ble_eq_true rfl⟩ hK hN hZ hP hD hS hA [0, 5] [1, 2, 3, 4] rfl rfl rfl rfl (by decide) 0 rfl rfl rfl rfl hl.1 rfl (Nat.le_of_ble_eq_true rfl) dX9_copy_113 (fun r_27 u_r_27 H locs hw_r_27 hP hD hS => ?_)
                    obtain ⟨mq2_28, rfl⟩ : ∃ z, z = u_r_27 := ⟨_, rfl⟩
                    try dsimp only at hw_r_27
                    have hP : va_P D vwCl [(ybi, .inl (cI, 4, .inl bi)), (ysi, .inl (cI, 4, .inl sq)), (ynu, .inl (cJ, 160, .inr (.inl nb))), (ymo, .inl (cJ, 40, .inr (.inl mv9))), (h0, .inr (9, [.ref ys, .ref yk, .ref yo, .ref yt, .int mk0, .ref yfa, .ref yfe, .int mL, .int mS, .int mM, .ref yro, .ref yhe, .ref ygr, .int mF, .int mC, .int mY, .ref yta, .int (nI (mz)), .int (nI (mf)), .int (nI (mt)), .int mv, .int mw, .ref ywa, .ref ybi, .ref ysi, .ref ynu, .ref ymo])), (yt, .inl (cI, 7, .inl mq2_28))] H := hP
                    have hD : va_D A [(ybi, .inl (cI, 4, .inl bi)), (ysi, .inl (cI, 4, .inl sq)), (ynu, .inl (cJ, 160, .inr (.inl nb))), (ymo, .inl (cJ, 40, .inr (.inl mv9))), (h0, .inr (9, [.ref ys, .ref yk, .ref yo, .ref yt, .int mk0, .ref yfa, .ref yfe, .int mL, .int mS, .int mM, .ref yro, .ref yhe, .ref ygr, .int mF, .int mC, .int mY, .ref yta, .int (nI (mz)), .int (nI (mf)), .int (nI (mt)), .int mv, .int mw, .ref ywa, .ref ybi, .ref ysi, .ref ynu, .ref ymo])), (yt, .inl (cI, 7, .inl mq2_28))] := hD
                    subst hw_r_27
                    exact W.iret (v := (-1000000001)) hx hb hr (fun t ht hW => ⟨⟨(-1000000001), (nb, mv9, mq2_28), rfl, ⟨(sp_cr3 c_11 c_14 c_15 (fun q => (sp_s5 hzq c_16 c_22 ex_25 c_26) q.1)), (fun j => sp_c0 (fun h => (sp_s5 hzq c_16 c_22 ex_25 c_26) h.2.2.2.1)), (fun _ _ => rfl)⟩, by rw [ht]; exact hP.sub [4, 0, 1, 2, 3, 5] rfl, hD.sub [4, 0, 1, 2, 3, 5] (by decide +kernel) rfl⟩, hS.F ht⟩) hS.2.2 dX9_copy_116 hlk
                  · skip
                    refine lv_iload hx hb dX9_copy_96 (lv_at hl 5 rfl) ?_
                    refine lv_aload_n hx hb dX9_copy_98 rfl (lv_at hl 0 rfl) ?_
                    refine xg hF kf_X9_46 hK hP 0 rfl rfl dX9_copy_99 ?_
                    refine lv_iload_n hx hb dX9_copy_102 rfl (lv_at hl 3 rfl) ?_
                    refine va_iald hx hb hK hP 2 0 rfl rfl (xin 0 4 (by decide) (by decide)) dX9_copy_103 ?_
                    refine xl_i (y := sq 0) (congrArg sq rfl) ?_
                    refine xl_i (y := nI (zt)) et ?_
                    refine lv_iload hx hb dX9_copy_104 (lv_at hl 4 rfl) ?_
                    refine lv_isub hx hb dX9_copy_106 ?_
                    refine lv_topi (fun x_29 ex_29 => ?_)
                    refine lv_icmp_le (tgt := 117) hx hb dX9_copy_107 (by decide) (fun c_30 => ?_) (fun c_30 => ?_)
                    · skip
                      obtain ⟨y_31, hy_31, rfl⟩ := x_spk (by omega) c_16 c_22 ex_25 c_26
                      obtain ⟨y_32, hy_32, rfl⟩ := x_spj (by omega) (by omega) c_16 ex_25 c_26
                      obtain ⟨y_33, hy_33, rfl⟩ := x_spj (by omega) (by omega) c_19 ex_29 (Int32.not_lt.mpr c_30)
                      refine lv_iconst (v := 0) hx hb dX9_copy_117 (by decide) ?_
                      refine lv_istore (lv' := [(6, .int 0), (0, .ref h0), (1, .int 2), (2, .int (nI (y_32))), (3, .int 0), (4, .int (nI (y_33))), (5, .int (nI (y_31)))]) hx hb dX9_copy_118 hl (by decide) rfl (fun ls hl => ?_)
                      suffices loop_120 : ∀ (n_120 : Nat) (i : Nat) (m8 : Nat → Int64) (H : Heap) (locs : List Loc) (ls : Array Slot), y_31 - i < n_120 → (i ≤ y_31) → (∀ j, j < i → m8 j = nb (80 + y_32 + j)) → va_P D vwCl [(h0, .inr (9, [.ref ys, .ref yk, .ref yo, .ref yt, .int mk0, .ref yfa, .ref yfe, .int mL, .int mS, .int mM, .ref yro, .ref yhe, .ref ygr, .int mF, .int mC, .int mY, .ref yta, .int (nI (mz)), .int (nI (mf)), .int (nI (mt)), .int mv, .int mw, .ref ywa, .ref ybi, .ref ysi, .ref ynu, .ref ymo])), (ybi, .inl (cI, 4, .inl bi)), (ysi, .inl (cI, 4, .inl sq)), (ynu, .inl (cJ, 160, .inr (.inl nb))), (ymo, .inl (cJ, 40, .inr (.inl m8))), (yt, .inl (cI, 7, .inl mq))] H → va_D A [(h0, .inr (9, [.ref ys, .ref yk, .ref yo, .ref yt, .int mk0, .ref yfa, .ref yfe, .int mL, .int mS, .int mM, .ref yro, .ref yhe, .ref ygr, .int mF, .int mC, .int mY, .ref yta, .int (nI (mz)), .int (nI (mf)), .int (nI (mt)), .int mv, .int mw, .ref ywa, .ref ybi, .ref ysi, .ref ynu, .ref ymo])), (ybi, .inl (cI, 4, .inl bi)), (ysi, .inl (cI, 4, .inl sq)), (ynu, .inl (cJ, 160, .inr (.inl nb))), (ymo, .inl (cJ, 40, .inr (.inl m8))), (yt, .inl (cI, 7, .inl mq))] → va_S A s.heap H locs → lv_has ls 7 [(6, .int (nI (i))), (0, .ref h0), (1, .int 2), (2, .int (nI (y_32))), (3, .int 0), (4, .int (nI (y_33))), (5, .int (nI (y_31)))] → W p l e ({ frames := 2, cells := 0, slots := 0, locals := 45 }) s m ([.ref h0, .int 2, .int (nI (y_32)), .int 0, .int (nI (y_33)), .int (nI (y_31))] : List Value).toArray below meth c H locs 0 0 (MQ below (XQi (fun (r : Int32) (u : (Nat → Int64) × (Nat → Int64) × (Nat → Int32)) => match u with | (nb2, mv2, mq2) => ((r = sp_cr (bi 2) (bi 0) zq zt (nI (y_32)) (nI (y_33)) (nI (y_31)))) ∧ (∀ j, nb2 (0 + j) = sp_cn (bi 2) (bi 0) zq zt (nI (y_32)) (nI (y_33)) (nI (y_31)) (fun k => nb (80 + k)) j (nb (0 + j))) ∧ (∀ j, j < 0 ∨ 40 ≤ j → nb2 j = nb j)) D (fun (u : (Nat → Int64) × (Nat → Int64) × (Nat → Int32)) => match u with | (nb2, mv2, mq2) => [(h0, .inr (9, [.ref ys, .ref yk, .ref yo, .ref yt, .int mk0, .ref yfa, .ref yfe, .int mL, .int mS, .int mM, .ref yro, .ref yhe, .ref ygr, .int mF, .int mC, .int mY, .ref yta, .int (nI (mz)), .int (nI (mf)), .int (nI (mt)), .int mv, .int mw, .ref ywa, .ref ybi, .ref ysi, .ref ynu, .ref ymo])), (ybi, .inl (cI, 4, .inl bi)), (ysi, .inl (cI, 4, .inl sq)), (ynu, .inl (cJ, 160, .inr (.inl nb2))), (ymo, .inl (cJ, 40, .inr (.inl mv2))), (yt, .inl (cI, 7, .inl mq2))]) A) ([.ref h0, .int 2, .int (nI (y_32)), .int 0, .int (nI (y_33)), .int (nI (y_31))] : List Value).toArray s 0 0 A) (F0 m 120 ls []) by
                        exact loop_120 _ 0 mv9 _ _ _ (Nat.lt_succ_self _) (by omega) (fun j hj => absurd hj (Nat.not_lt_zero _)) hP hD hS (lv_sub hl [0, 1, 2, 3, 4, 5, 6] rfl)
                      intro n_120
                      induction n_120 with
                      | zero =>
                        intro i m8 H locs ls hm_120
                        exact absurd hm_120 (Nat.not_lt_zero _)
                      | succ n_120 ih_120 =>
                        intro i m8 H locs ls hm_120 hi hm8 hP hD hS hl
                        refine lv_iload hx hb dX9_copy_120 (lv_at hl 0 rfl) ?_
                        refine lv_iload hx hb dX9_copy_122 (lv_at hl 6 rfl) ?_
                        refine lv_icmp_ge (tgt := 154) hx hb dX9_copy_124 (by decide) (fun c_34 => ?_) (fun c_34 => ?_)
                        · skip
                          have nc_34 : y_31 ≤ i := xn_le (a := y_31) (b := i) (by omega) (by omega) c_34
                          refine lv_iconst (v := 0) hx hb dX9_copy_154 (by decide) ?_
                          refine lv_istore (lv' := [(6, .int 0), (0, .ref h0), (1, .int 2), (2, .int (nI (y_32))), (3, .int 0), (4, .int (nI (y_33))), (5, .int (nI (y_31)))]) hx hb dX9_copy_155 hl (by decide) rfl (fun ls hl => ?_)
                          suffices loop_157 : ∀ (n_157 : Nat) (i2 : Nat) (n8 : Nat → Int64) (H : Heap) (locs : List Loc) (ls : Array Slot), y_31 - i2 < n_157 → (i2 ≤ y_31) → (∀ j, n8 j = if 0 + y_33 ≤ j ∧ j < 0 + y_33 + i2 then m8 (j - (0 + y_33)) else nb j) → va_P D vwCl [(h0, .inr (9, [.ref ys, .ref yk, .ref yo, .ref yt, .int mk0, .ref yfa, .ref yfe, .int mL, .int mS, .int mM, .ref yro, .ref yhe, .ref ygr, .int mF, .int mC, .int mY, .ref yta, .int (nI (mz)), .int (nI (mf)), .int (nI (mt)), .int mv, .int mw, .ref ywa, .ref ybi, .ref ysi, .ref ynu, .ref ymo])), (ybi, .inl (cI, 4, .inl bi)), (ysi, .inl (cI, 4, .inl sq)), (ynu, .inl (cJ, 160, .inr (.inl n8))), (ymo, .inl (cJ, 40, .inr (.inl m8))), (yt, .inl (cI, 7, .inl mq))] H → va_D A [(h0, .inr (9, [.ref ys, .ref yk, .ref yo, .ref yt, .int mk0, .ref yfa, .ref yfe, .int mL, .int mS, .int mM, .ref yro, .ref yhe, .ref ygr, .int mF, .int mC, .int mY, .ref yta, .int (nI (mz)), .int (nI (mf)), .int (nI (mt)), .int mv, .int mw, .ref ywa, .ref ybi, .ref ysi, .ref ynu, .ref ymo])), (ybi, .inl (cI, 4, .inl bi)), (ysi, .inl (cI, 4, .inl sq)), (ynu, .inl (cJ, 160, .inr (.inl n8))), (ymo, .inl (cJ, 40, .inr (.inl m8))), (yt, .inl (cI, 7, .inl mq))] → va_S A s.heap H locs → lv_has ls 7 [(6, .int (nI (i2))), (0, .ref h0), (1, .int 2), (2, .int (nI (y_32))), (3, .int 0), (4, .int (nI (y_33))), (5, .int (nI (y_31)))] → W p l e ({ frames := 2, cells := 0, slots := 0, locals := 45 }) s m ([.ref h0, .int 2, .int (nI (y_32)), .int 0, .int (nI (y_33)), .int (nI (y_31))] : List Value).toArray below meth c H locs 0 0 (MQ below (XQi (fun (r : Int32) (u : (Nat → Int64) × (Nat → Int64) × (Nat → Int32)) => match u with | (nb2, mv2, mq2) => ((r = sp_cr (bi 2) (bi 0) zq zt (nI (y_32)) (nI (y_33)) (nI (y_31)))) ∧ (∀ j, nb2 (0 + j) = sp_cn (bi 2) (bi 0) zq zt (nI (y_32)) (nI (y_33)) (nI (y_31)) (fun k => nb (80 + k)) j (nb (0 + j))) ∧ (∀ j, j < 0 ∨ 40 ≤ j → nb2 j = nb j)) D (fun (u : (Nat → Int64) × (Nat → Int64) × (Nat → Int32)) => match u with | (nb2, mv2, mq2) => [(h0, .inr (9, [.ref ys, .ref yk, .ref yo, .ref yt, .int mk0, .ref yfa, .ref yfe, .int mL, .int mS, .int mM, .ref yro, .ref yhe, .ref ygr, .int mF, .int mC, .int mY, .ref yta, .int (nI (mz)), .int (nI (mf)), .int (nI (mt)), .int mv, .int mw, .ref ywa, .ref ybi, .ref ysi, .ref ynu, .ref ymo])), (ybi, .inl (cI, 4, .inl bi)), (ysi, .inl (cI, 4, .inl sq)), (ynu, .inl (cJ, 160, .inr (.inl nb2))), (ymo, .inl (cJ, 40, .inr (.inl mv2))), (yt, .inl (cI, 7, .inl mq2))]) A) ([.ref h0, .int 2, .int (nI (y_32)), .int 0, .int (nI (y_33)), .int (nI (y_31))] : List Value).toArray s 0 0 A) (F0 m 157 ls []) by
                            exact loop_157 _ 0 nb _ _ _ (Nat.lt_succ_self _) (by omega) (fun j => (if_neg (by omega)).symm) hP hD hS (lv_sub hl [0, 1, 2, 3, 4, 5, 6] rfl)
                          intro n_157
                          induction n_157 with
                          | zero =>
                            intro i2 n8 H locs ls hm_157
                            exact absurd hm_157 (Nat.not_lt_zero _)
                          | succ n_157 ih_157 =>
                            intro i2 n8 H locs ls hm_157 hi2 hn8 hP hD hS hl
                            refine lv_iload hx hb dX9_copy_157 (lv_at hl 0 rfl) ?_
                            refine lv_iload hx hb dX9_copy_159 (lv_at hl 6 rfl) ?_
                            refine lv_icmp_ge (tgt := 192) hx hb dX9_copy_161 (by decide) (fun c_35 => ?_) (fun c_35 => ?_)
                            · skip
                              have nc_35 : y_31 ≤ i2 := xn_le (a := y_31) (b := i2) (by omega) (by omega) c_35
                              refine lv_iload hx hb dX9_copy_192 (lv_at hl 6 rfl) ?_
                              have hn7 : ∀ j, n8 j = if 0 + y_33 ≤ j ∧ j < 0 + y_33 + y_31 then m8 (j - (0 + y_33)) else nb j := fun j => by rw [hn8 j, show i2 = y_31 by omega]
                              have hm7 : ∀ j, j < y_31 → m8 j = nb (80 + y_32 + j) := fun j hj => hm8 j (by omega)
                              exact W.iret (v := nI (y_31)) hx hb hr (fun t ht hW => ⟨⟨nI (y_31), (n8, m8, mq), rfl, ⟨(sp_cr4 c_11 c_14 c_15 (sp_nspan (by omega) (by omega)) (sp_nspan (by omega) (by omega))), (fun j9 => sp_c1 (K := 0) (M := 80) (by omega) (by omega) c_11 c_14 c_15 (by omega) (by omega) (fun i9 => sp_mv3 hn7 hm7 rfl rfl)), (fun j9 hj9 => by rw [hn7 j9, if_neg (by omega)])⟩, by rw [ht]; exact hP.sub [0, 1, 2, 3, 4, 5] rfl, hD.sub [0, 1, 2, 3, 4, 5] (by decide +kernel) rfl⟩, hS.F ht⟩) hS.2.2 dX9_copy_194 hlk
                            · skip
                              have nc_35 : i2 < y_31 := xn_nle (a := y_31) (b := i2) (by omega) (by omega) c_35
                              refine lv_aload_n hx hb dX9_copy_164 rfl (lv_at hl 1 rfl) ?_
                              refine xg hF kf_X9_49 hK hP 0 rfl rfl dX9_copy_165 ?_
                              refine lv_bipush (v := 40) hx hb dX9_copy_168 (by decide) ?_
                              refine lv_iload_n hx hb dX9_copy_170 rfl (lv_at hl 4 rfl) ?_
                              refine lv_imul hx hb dX9_copy_171 ?_
                              refine xl_i (y := 0) (by decide) ?_
                              refine lv_iload hx hb dX9_copy_172 (lv_at hl 5 rfl) ?_
                              refine lv_iadd hx hb dX9_copy_174 ?_
                              refine xl_i (y := nI (0 + y_33)) (nI_add 0 y_33) ?_
                              refine lv_iload hx hb dX9_copy_175 (lv_at hl 0 rfl) ?_
                              refine lv_iadd hx hb dX9_copy_177 ?_
                              refine xl_i (y := nI (0 + y_33 + i2)) (nI_add (0 + y_33) i2) ?_
                              refine lv_aload_n hx hb dX9_copy_178 rfl (lv_at hl 1 rfl) ?_
                              refine xg hF kf_X9_53 hK hP 0 rfl rfl dX9_copy_179 ?_
                              refine lv_iload hx hb dX9_copy_182 (lv_at hl 0 rfl) ?_
                              refine va_lald hx hb hK hP 4 1 rfl rfl (vp_in_nI (show i2 < 40 by omega) (by decide)) dX9_copy_184 ?_
                              refine xl_l (y := m8 i2) (congrArg m8 (nI_clamp (show i2 < 2 ^ 31 by omega))) ?_
                              refine va_last hx hb hK hP hD hS 3 1 rfl rfl (vp_in_nI (show 0 + y_33 + i2 < 160 by omega) (by decide)) dX9_copy_185 (fun H locs hP hD hS => ?_)
                              rw [nI_clamp (show 0 + y_33 + i2 < 2 ^ 31 by omega)] at hP hD
                              obtain ⟨f_36, ef_36⟩ : ∃ g, g = vp_updL n8 (0 + y_33 + i2) (m8 i2) := ⟨_, rfl⟩
                              rw [← ef_36] at hP hD
                              have hP : va_P D vwCl [(h0, .inr (9, [.ref ys, .ref yk, .ref yo, .ref yt, .int mk0, .ref yfa, .ref yfe, .int mL, .int mS, .int mM, .ref yro, .ref yhe, .ref ygr, .int mF, .int mC, .int mY, .ref yta, .int (nI (mz)), .int (nI (mf)), .int (nI (mt)), .int mv, .int mw, .ref ywa, .ref ybi, .ref ysi, .ref ynu, .ref ymo])), (ybi, .inl (cI, 4, .inl bi)), (ysi, .inl (cI, 4, .inl sq)), (ynu, .inl (cJ, 160, .inr (.inl f_36))), (ymo, .inl (cJ, 40, .inr (.inl m8))), (yt, .inl (cI, 7, .inl mq))] H := hP
                              have hD : va_D A [(h0, .inr (9, [.ref ys, .ref yk, .ref yo, .ref yt, .int mk0, .ref yfa, .ref yfe, .int mL, .int mS, .int mM, .ref yro, .ref yhe, .ref ygr, .int mF, .int mC, .int mY, .ref yta, .int (nI (mz)), .int (nI (mf)), .int (nI (mt)), .int mv, .int mw, .ref ywa, .ref ybi, .ref ysi, .ref ynu, .ref ymo])), (ybi, .inl (cI, 4, .inl bi)), (ysi, .inl (cI, 4, .inl sq)), (ynu, .inl (cJ, 160, .inr (.inl f_36))), (ymo, .inl (cJ, 40, .inr (.inl m8))), (yt, .inl (cI, 7, .inl mq))] := hD
                              refine lv_iinc (v := nI (i2 + 1)) (lv' := [(6, .int (nI (i2 + 1))), (0, .ref h0), (1, .int 2), (2, .int (nI (y_32))), (3, .int 0), (4, .int (nI (y_33))), (5, .int (nI (y_31)))]) hx hb dX9_copy_186 hl (k := 0) rfl (nI_1 (i2)) (by decide) rfl (fun ls hl => ?_)
                              refine lv_goto (tgt := 157) hx hb dX9_copy_189 (by decide) ?_
                              exact ih_157 (i2 + 1) f_36 _ _ _ (by omega) (by omega) (sp_mv2 hn8 ef_36) (hP.sub [0, 1, 2, 3, 4, 5] rfl) (hD.sub [0, 1, 2, 3, 4, 5] (by decide +kernel) rfl) hS (lv_sub hl [0, 1, 2, 3, 4, 5, 6] rfl)
                        · skip
                          have nc_34 : i < y_31 := xn_nle (a := y_31) (b := i) (by omega) (by omega) c_34
                          refine lv_aload_n hx hb dX9_copy_127 rfl (lv_at hl 1 rfl) ?_
                          refine xg hF kf_X9_53 hK hP 0 rfl rfl dX9_copy_128 ?_
                          refine lv_iload hx hb dX9_copy_131 (lv_at hl 0 rfl) ?_
                          refine lv_aload_n hx hb dX9_copy_133 rfl (lv_at hl 1 rfl) ?_
                          refine xg hF kf_X9_49 hK hP 0 rfl rfl dX9_copy_134 ?_
                          refine lv_bipush (v := 40) hx hb dX9_copy_137 (by decide) ?_
                          refine lv_iload_n hx hb dX9_copy_139 rfl (lv_at hl 2 rfl) ?_
                          refine lv_imul hx hb dX9_copy_140 ?_
                          refine xl_i (y := 80) (by decide) ?_
                          refine lv_iload_n hx hb dX9_copy_141 rfl (lv_at hl 3 rfl) ?_
                          refine lv_iadd hx hb dX9_copy_142 ?_
                          refine xl_i (y := nI (80 + y_32)) (nI_add 80 y_32) ?_
                          refine lv_iload hx hb dX9_copy_143 (lv_at hl 0 rfl) ?_
                          refine lv_iadd hx hb dX9_copy_145 ?_
                          refine xl_i (y := nI (80 + y_32 + i)) (nI_add (80 + y_32) i) ?_
                          refine va_lald hx hb hK hP 3 1 rfl rfl (vp_in_nI (show 80 + y_32 + i < 160 by omega) (by decide)) dX9_copy_146 ?_
                          refine xl_l (y := nb (80 + y_32 + i)) (congrArg nb (nI_clamp (show 80 + y_32 + i < 2 ^ 31 by omega))) ?_
                          refine va_last hx hb hK hP hD hS 4 1 rfl rfl (vp_in_nI (show i < 40 by omega) (by decide)) dX9_copy_147 (fun H locs hP hD hS => ?_)
                          rw [nI_clamp (show i < 2 ^ 31 by omega)] at hP hD
                          obtain ⟨f_37, ef_37⟩ : ∃ g, g = vp_updL m8 i (nb (80 + y_32 + i)) := ⟨_, rfl⟩
                          rw [← ef_37] at hP hD
                          have hP : va_P D vwCl [(h0, .inr (9, [.ref ys, .ref yk, .ref yo, .ref yt, .int mk0, .ref yfa, .ref yfe, .int mL, .int mS, .int mM, .ref yro, .ref yhe, .ref ygr, .int mF, .int mC, .int mY, .ref yta, .int (nI (mz)), .int (nI (mf)), .int (nI (mt)), .int mv, .int mw, .ref ywa, .ref ybi, .ref ysi, .ref ynu, .ref ymo])), (ybi, .inl (cI, 4, .inl bi)), (ysi, .inl (cI, 4, .inl sq)), (ynu, .inl (cJ, 160, .inr (.inl nb))), (ymo, .inl (cJ, 40, .inr (.inl f_37))), (yt, .inl (cI, 7, .inl mq))] H := hP
                          have hD : va_D A [(h0, .inr (9, [.ref ys, .ref yk, .ref yo, .ref yt, .int mk0, .ref yfa, .ref yfe, .int mL, .int mS, .int mM, .ref yro, .ref yhe, .ref ygr, .int mF, .int mC, .int mY, .ref yta, .int (nI (mz)), .int (nI (mf)), .int (nI (mt)), .int mv, .int mw, .ref ywa, .ref ybi, .ref ysi, .ref ynu, .ref ymo])), (ybi, .inl (cI, 4, .inl bi)), (ysi, .inl (cI, 4, .inl sq)), (ynu, .inl (cJ, 160, .inr (.inl nb))), (ymo, .inl (cJ, 40, .inr (.inl f_37))), (yt, .inl (cI, 7, .inl mq))] := hD
                          refine lv_iinc (v := nI (i + 1)) (lv' := [(6, .int (nI (i + 1))), (0, .ref h0), (1, .int 2), (2, .int (nI (y_32))), (3, .int 0), (4, .int (nI (y_33))), (5, .int (nI (y_31)))]) hx hb dX9_copy_148 hl (k := 0) rfl (nI_1 (i)) (by decide) rfl (fun ls hl => ?_)
                          refine lv_goto (tgt := 120) hx hb dX9_copy_151 (by decide) ?_
                          exact ih_120 (i + 1) f_37 _ _ _ (by omega) (by omega) (sp_mv1 hm8 ef_37) (hP.sub [0, 1, 2, 3, 4, 5] rfl) (hD.sub [0, 1, 2, 3, 4, 5] (by decide +kernel) rfl) hS (lv_sub hl [0, 1, 2, 3, 4, 5, 6] rfl)
                    · skip
                      refine lv_aload_n hx hb dX9_copy_110 rfl (lv_at hl 0 rfl) ?_
                      refine lv_ldc (v := (-1000000001)) hx hb hown (hu _ uw648) dX9_copy_111 ?_
                      refine xc_Vi (wr := [(ybi, .inl (cI, 4, .inl bi)), (ysi, .inl (cI, 4, .inl sq)), (ynu, .inl (cJ, 160, .inr (.inl nb))), (ymo, .inl (cJ, 40, .inr (.inl mv9)))]) hF (c_X9_finds_B l D cI cJ cZ cS ta sa sv s.heap.size h0 ys yk yo yt mk0 yfa yfe mL mS mM yro yhe ygr mF mC mY yta mz mf mt mv mw ywa ybi ysi ynu ymo mq ) kv_X9_70 ⟨rfl, rfl, Nat.le_of_ble_eq_true rfl, Nat.le_of_ble_eq_true rfl⟩ ⟨Nat.le_of_ble_eq_true rfl, Nat.le_of_ble_eq_true rfl⟩ hK hN hZ hP hD hS hA [0, 5] [1, 2, 3, 4] rfl rfl rfl rfl (by decide) 0 rfl rfl rfl rfl hl.1 rfl (Nat.le_of_ble_eq_true rfl) dX9_copy_113 (fun r_38 u_r_38 H locs hw_r_38 hP hD hS => ?_)
                      obtain ⟨mq2_39, rfl⟩ : ∃ z, z = u_r_38 := ⟨_, rfl⟩
                      try dsimp only at hw_r_38
                      have hP : va_P D vwCl [(ybi, .inl (cI, 4, .inl bi)), (ysi, .inl (cI, 4, .inl sq)), (ynu, .inl (cJ, 160, .inr (.inl nb))), (ymo, .inl (cJ, 40, .inr (.inl mv9))), (h0, .inr (9, [.ref ys, .ref yk, .ref yo, .ref yt, .int mk0, .ref yfa, .ref yfe, .int mL, .int mS, .int mM, .ref yro, .ref yhe, .ref ygr, .int mF, .int mC, .int mY, .ref yta, .int (nI (mz)), .int (nI (mf)), .int (nI (mt)), .int mv, .int mw, .ref ywa, .ref ybi, .ref ysi, .ref ynu, .ref ymo])), (yt, .inl (cI, 7, .inl mq2_39))] H := hP
                      have hD : va_D A [(ybi, .inl (cI, 4, .inl bi)), (ysi, .inl (cI, 4, .inl sq)), (ynu, .inl (cJ, 160, .inr (.inl nb))), (ymo, .inl (cJ, 40, .inr (.inl mv9))), (h0, .inr (9, [.ref ys, .ref yk, .ref yo, .ref yt, .int mk0, .ref yfa, .ref yfe, .int mL, .int mS, .int mM, .ref yro, .ref yhe, .ref ygr, .int mF, .int mC, .int mY, .ref yta, .int (nI (mz)), .int (nI (mf)), .int (nI (mt)), .int mv, .int mw, .ref ywa, .ref ybi, .ref ysi, .ref ynu, .ref ymo])), (yt, .inl (cI, 7, .inl mq2_39))] := hD
                      subst hw_r_38
                      exact W.iret (v := (-1000000001)) hx hb hr (fun t ht hW => ⟨⟨(-1000000001), (nb, mv9, mq2_39), rfl, ⟨(sp_cr3 c_11 c_14 c_15 (fun q => (sp_s5 hzt c_19 c_22 ex_29 (xlt c_30)) q.2)), (fun j => sp_c0 (fun h => (sp_s5 hzt c_19 c_22 ex_29 (xlt c_30)) h.2.2.2.2)), (fun _ _ => rfl)⟩, by rw [ht]; exact hP.sub [4, 0, 1, 2, 3, 5] rfl, hD.sub [4, 0, 1, 2, 3, 5] (by decide +kernel) rfl⟩, hS.F ht⟩) hS.2.2 dX9_copy_116 hlk
          · skip
            refine lv_aload_n hx hb dX9_copy_62 rfl (lv_at hl 0 rfl) ?_
            refine lv_ldc (v := (-1000000003)) hx hb hown (hu _ uw765) dX9_copy_63 ?_
            refine xc_Vi (wr := [(ybi, .inl (cI, 4, .inl bi)), (ysi, .inl (cI, 4, .inl sq)), (ynu, .inl (cJ, 160, .inr (.inl nb))), (ymo, .inl (cJ, 40, .inr (.inl mv9)))]) hF (c_X9_finds_K l D cI cJ cZ cS ta sa sv s.heap.size h0 ys yk yo yt mk0 yfa yfe mL mS mM yro yhe ygr mF mC mY yta mz mf mt mv mw ywa ybi ysi ynu ymo mq ) kv_X9_70 ⟨rfl, rfl, Nat.le_of_ble_eq_true rfl, Nat.le_of_ble_eq_true rfl⟩ ⟨Nat.le_of_ble_eq_true rfl, Nat.le_of_ble_eq_true rfl⟩ hK hN hZ hP hD hS hA [0, 5] [1, 2, 3, 4] rfl rfl rfl rfl (by decide) 0 rfl rfl rfl rfl hl.1 rfl (Nat.le_of_ble_eq_true rfl) dX9_copy_65 (fun r_40 u_r_40 H locs hw_r_40 hP hD hS => ?_)
            obtain ⟨mq2_41, rfl⟩ : ∃ z, z = u_r_40 := ⟨_, rfl⟩
            try dsimp only at hw_r_40
            have hP : va_P D vwCl [(ybi, .inl (cI, 4, .inl bi)), (ysi, .inl (cI, 4, .inl sq)), (ynu, .inl (cJ, 160, .inr (.inl nb))), (ymo, .inl (cJ, 40, .inr (.inl mv9))), (h0, .inr (9, [.ref ys, .ref yk, .ref yo, .ref yt, .int mk0, .ref yfa, .ref yfe, .int mL, .int mS, .int mM, .ref yro, .ref yhe, .ref ygr, .int mF, .int mC, .int mY, .ref yta, .int (nI (mz)), .int (nI (mf)), .int (nI (mt)), .int mv, .int mw, .ref ywa, .ref ybi, .ref ysi, .ref ynu, .ref ymo])), (yt, .inl (cI, 7, .inl mq2_41))] H := hP
            have hD : va_D A [(ybi, .inl (cI, 4, .inl bi)), (ysi, .inl (cI, 4, .inl sq)), (ynu, .inl (cJ, 160, .inr (.inl nb))), (ymo, .inl (cJ, 40, .inr (.inl mv9))), (h0, .inr (9, [.ref ys, .ref yk, .ref yo, .ref yt, .int mk0, .ref yfa, .ref yfe, .int mL, .int mS, .int mM, .ref yro, .ref yhe, .ref ygr, .int mF, .int mC, .int mY, .ref yta, .int (nI (mz)), .int (nI (mf)), .int (nI (mt)), .int mv, .int mw, .ref ywa, .ref ybi, .ref ysi, .ref ynu, .ref ymo])), (yt, .inl (cI, 7, .inl mq2_41))] := hD
            subst hw_r_40
            exact W.iret (v := (-1000000003)) hx hb hr (fun t ht hW => ⟨⟨(-1000000003), (nb, mv9, mq2_41), rfl, ⟨(sp_cr2 c_11 c_14 c_15), (fun j => sp_c0 (fun h => absurd h.2.2.1 c_15)), (fun _ _ => rfl)⟩, by rw [ht]; exact hP.sub [4, 0, 1, 2, 3, 5] rfl, hD.sub [4, 0, 1, 2, 3, 5] (by decide +kernel) rfl⟩, hS.F ht⟩) hS.2.2 dX9_copy_68 hlk
        · skip
          refine lv_aload_n hx hb dX9_copy_39 rfl (lv_at hl 0 rfl) ?_
          refine lv_ldcw (v := (-1000000006)) hx hb hown (hu _ uw910) dX9_copy_40 ?_
          refine xc_Vi (wr := [(ybi, .inl (cI, 4, .inl bi)), (ysi, .inl (cI, 4, .inl sq)), (ynu, .inl (cJ, 160, .inr (.inl nb))), (ymo, .inl (cJ, 40, .inr (.inl mv9)))]) hF (c_X9_finds_M l D cI cJ cZ cS ta sa sv s.heap.size h0 ys yk yo yt mk0 yfa yfe mL mS mM yro yhe ygr mF mC mY yta mz mf mt mv mw ywa ybi ysi ynu ymo mq ) kv_X9_70 ⟨rfl, rfl, Nat.le_of_ble_eq_true rfl, Nat.le_of_ble_eq_true rfl⟩ ⟨Nat.le_of_ble_eq_true rfl, Nat.le_of_ble_eq_true rfl⟩ hK hN hZ hP hD hS hA [0, 5] [1, 2, 3, 4] rfl rfl rfl rfl (by decide) 0 rfl rfl rfl rfl hl.1 rfl (Nat.le_of_ble_eq_true rfl) dX9_copy_43 (fun r_42 u_r_42 H locs hw_r_42 hP hD hS => ?_)
          obtain ⟨mq2_43, rfl⟩ : ∃ z, z = u_r_42 := ⟨_, rfl⟩
          try dsimp only at hw_r_42
          have hP : va_P D vwCl [(ybi, .inl (cI, 4, .inl bi)), (ysi, .inl (cI, 4, .inl sq)), (ynu, .inl (cJ, 160, .inr (.inl nb))), (ymo, .inl (cJ, 40, .inr (.inl mv9))), (h0, .inr (9, [.ref ys, .ref yk, .ref yo, .ref yt, .int mk0, .ref yfa, .ref yfe, .int mL, .int mS, .int mM, .ref yro, .ref yhe, .ref ygr, .int mF, .int mC, .int mY, .ref yta, .int (nI (mz)), .int (nI (mf)), .int (nI (mt)), .int mv, .int mw, .ref ywa, .ref ybi, .ref ysi, .ref ynu, .ref ymo])), (yt, .inl (cI, 7, .inl mq2_43))] H := hP
          have hD : va_D A [(ybi, .inl (cI, 4, .inl bi)), (ysi, .inl (cI, 4, .inl sq)), (ynu, .inl (cJ, 160, .inr (.inl nb))), (ymo, .inl (cJ, 40, .inr (.inl mv9))), (h0, .inr (9, [.ref ys, .ref yk, .ref yo, .ref yt, .int mk0, .ref yfa, .ref yfe, .int mL, .int mS, .int mM, .ref yro, .ref yhe, .ref ygr, .int mF, .int mC, .int mY, .ref yta, .int (nI (mz)), .int (nI (mf)), .int (nI (mt)), .int mv, .int mw, .ref ywa, .ref ybi, .ref ysi, .ref ynu, .ref ymo])), (yt, .inl (cI, 7, .inl mq2_43))] := hD
          subst hw_r_42
          exact W.iret (v := (-1000000006)) hx hb hr (fun t ht hW => ⟨⟨(-1000000006), (nb, mv9, mq2_43), rfl, ⟨(sp_cr1 (Or.inr c_14)), (fun j => sp_c0 (fun h => h.2.1 c_14)), (fun _ _ => rfl)⟩, by rw [ht]; exact hP.sub [4, 0, 1, 2, 3, 5] rfl, hD.sub [4, 0, 1, 2, 3, 5] (by decide +kernel) rfl⟩, hS.F ht⟩) hS.2.2 dX9_copy_46 hlk
    · exact absurd h_9 (by decide)
  · exact absurd h_4 (by decide)
set_option maxHeartbeats 4000000 in
set_option maxRecDepth 100000 in
theorem c_X9_copy_21 (l : Launch) (D : va_G) (cI cJ cZ cS : ClassId) (ta : Nat) (sa sv : Nat → Nat) (sz : Nat) (h0 : Nat) (ys : Nat) (yk : Nat) (yo : Nat) (yt : Nat) (mk0 : Int32) (yfa : Nat) (yfe : Nat) (mL : Int32) (mS : Int32) (mM : Int32) (yro : Nat) (yhe : Nat) (ygr : Nat) (mF : Int32) (mC : Int32) (mY : Int32) (yta : Nat) (mz : Nat) (mf : Nat) (mt : Nat) (mv : Int32) (mw : Int32) (ywa : Nat) (ybi : Nat) (ysi : Nat) (ynu : Nat) (ymo : Nat) (bi : Nat → Int32) (sq : Nat → Int32) (nb : Nat → Int64) (mv9 : Nat → Int64) (mq : Nat → Int32) (p1 : Int32) (p3 : Int32) (p4 : Int32) (zq : Nat) (zt : Nat) (ez : sq 2 = nI zq) (hzq : zq ≤ 40) (et : sq 1 = nI zt) (hzt : zt ≤ 40) (hsq : BA 4 41 sq) : Met l yX9_copy (Cond.code yX9_copy cX9_copy 7 (some .int) :: wsU) ({ frames := 2, cells := 0, slots := 0, locals := 45 }) (va_Pc [.ref h0, .int 2, .int p1, .int 1, .int p3, .int p4] (XW D (xT cI cJ cZ cS) ta sa sv [(h0, .inr (9, [.ref ys, .ref yk, .ref yo, .ref yt, .int mk0, .ref yfa, .ref yfe, .int mL, .int mS, .int mM, .ref yro, .ref yhe, .ref ygr, .int mF, .int mC, .int mY, .ref yta, .int (nI (mz)), .int (nI (mf)), .int (nI (mt)), .int mv, .int mw, .ref ywa, .ref ybi, .ref ysi, .ref ynu, .ref ymo])), (ybi, .inl (cI, 4, .inl bi)), (ysi, .inl (cI, 4, .inl sq)), (ynu, .inl (cJ, 160, .inr (.inl nb))), (ymo, .inl (cJ, 40, .inr (.inl mv9))), (yt, .inl (cI, 7, .inl mq))] sz)) (XQi (fun (r : Int32) (u : (Nat → Int64) × (Nat → Int64) × (Nat → Int32)) => match u with | (nb2, mv2, mq2) => ((r = sp_cr (bi 2) (bi 1) zq zt p1 p3 p4)) ∧ (∀ j, nb2 (40 + j) = sp_cn (bi 2) (bi 1) zq zt p1 p3 p4 (fun k => nb (80 + k)) j (nb (40 + j))) ∧ (∀ j, j < 40 ∨ 80 ≤ j → nb2 j = nb j)) D (fun (u : (Nat → Int64) × (Nat → Int64) × (Nat → Int32)) => match u with | (nb2, mv2, mq2) => [(h0, .inr (9, [.ref ys, .ref yk, .ref yo, .ref yt, .int mk0, .ref yfa, .ref yfe, .int mL, .int mS, .int mM, .ref yro, .ref yhe, .ref ygr, .int mF, .int mC, .int mY, .ref yta, .int (nI (mz)), .int (nI (mf)), .int (nI (mt)), .int mv, .int mw, .ref ywa, .ref ybi, .ref ysi, .ref ynu, .ref ymo])), (ybi, .inl (cI, 4, .inl bi)), (ysi, .inl (cI, 4, .inl sq)), (ynu, .inl (cJ, 160, .inr (.inl nb2))), (ymo, .inl (cJ, 40, .inr (.inl mv2))), (yt, .inl (cI, 7, .inl mq2))]) (va_A [(h0, .inr (9, [.ref ys, .ref yk, .ref yo, .ref yt, .int mk0, .ref yfa, .ref yfe, .int mL, .int mS, .int mM, .ref yro, .ref yhe, .ref ygr, .int mF, .int mC, .int mY, .ref yta, .int (nI (mz)), .int (nI (mf)), .int (nI (mt)), .int mv, .int mw, .ref ywa, .ref ybi, .ref ysi, .ref ynu, .ref ymo])), (ybi, .inl (cI, 4, .inl bi)), (ysi, .inl (cI, 4, .inl sq)), (ynu, .inl (cJ, 160, .inr (.inl nb))), (ymo, .inl (cJ, 40, .inr (.inl mv9))), (yt, .inl (cI, 7, .inl mq))] sz)) 0 0 (va_A [(h0, .inr (9, [.ref ys, .ref yk, .ref yo, .ref yt, .int mk0, .ref yfa, .ref yfe, .int mL, .int mS, .int mM, .ref yro, .ref yhe, .ref ygr, .int mF, .int mC, .int mY, .ref yta, .int (nI (mz)), .int (nI (mf)), .int (nI (mt)), .int mv, .int mw, .ref ywa, .ref ybi, .ref ysi, .ref ynu, .ref ymo])), (ybi, .inl (cI, 4, .inl bi)), (ysi, .inl (cI, 4, .inl sq)), (ynu, .inl (cJ, 160, .inr (.inl nb))), (ymo, .inl (cJ, 40, .inr (.inl mv9))), (yt, .inl (cI, 7, .inl mq))] sz) := by
  refine xh (QA := fun A => XQi (fun (r : Int32) (u : (Nat → Int64) × (Nat → Int64) × (Nat → Int32)) => match u with | (nb2, mv2, mq2) => ((r = sp_cr (bi 2) (bi 1) zq zt p1 p3 p4)) ∧ (∀ j, nb2 (40 + j) = sp_cn (bi 2) (bi 1) zq zt p1 p3 p4 (fun k => nb (80 + k)) j (nb (40 + j))) ∧ (∀ j, j < 40 ∨ 80 ≤ j → nb2 j = nb j)) D (fun (u : (Nat → Int64) × (Nat → Int64) × (Nat → Int32)) => match u with | (nb2, mv2, mq2) => [(h0, .inr (9, [.ref ys, .ref yk, .ref yo, .ref yt, .int mk0, .ref yfa, .ref yfe, .int mL, .int mS, .int mM, .ref yro, .ref yhe, .ref ygr, .int mF, .int mC, .int mY, .ref yta, .int (nI (mz)), .int (nI (mf)), .int (nI (mt)), .int mv, .int mw, .ref ywa, .ref ybi, .ref ysi, .ref ynu, .ref ymo])), (ybi, .inl (cI, 4, .inl bi)), (ysi, .inl (cI, 4, .inl sq)), (ynu, .inl (cJ, 160, .inr (.inl nb2))), (ymo, .inl (cJ, 40, .inr (.inl mv2))), (yt, .inl (cI, 7, .inl mq2))]) A) (fr := fun A => A) (by decide) (Nat.le_of_ble_eq_true rfl) ?_
  intro p e s m below meth c ls A hF hr hlk hin hsz hP hK hD hN hZ hA hS hl
  have hF : CallFix p m c cX9_copy 7 s _ _ RX9 := hF
  have hx := hF.1
  have hb := hF.2.1
  have hml := hF.2.2.1
  have hown := hF.2.2.2.1
  have hu : ∀ w ∈ wsU, w.before _ s = true := fun w h => hF.2.2.2.2 w (List.mem_cons_of_mem _ h)
  have hl : lv_has ls 7 [(0, .ref h0), (1, .int 2), (2, .int p1), (3, .int 1), (4, .int p3), (5, .int p4)] := hl
  refine lv_iload_n hx hb dX9_copy_0 rfl (lv_at hl 1 rfl) ?_
  refine xc_Sr hF (c_X9_isOne l D cI cJ cZ cS ta sa sv s.heap.size 2 ) ks_X9_305 ⟨rfl, rfl, Nat.le_of_ble_eq_true rfl, Nat.le_of_ble_eq_true rfl⟩ ⟨Nat.le_of_ble_eq_true rfl, Nat.le_of_ble_eq_true rfl⟩ hK hN hZ hP hD hS hA [] rfl rfl rfl hl.1 rfl (Nat.le_of_ble_eq_true rfl) dX9_copy_1 (fun r_1 hw_r_1 => ?_)
  rcases hw_r_1 with ⟨rfl, h_2, h_3⟩ | ⟨rfl, h_4⟩
  · skip
    refine lv_if_eq (tgt := 14) hx hb dX9_copy_4 (by decide) (fun c_5 => absurd c_5 (by decide)) (fun c_5 => ?_)
    refine lv_iload_n hx hb dX9_copy_7 rfl (lv_at hl 3 rfl) ?_
    refine xc_Sr hF (c_X9_isOne l D cI cJ cZ cS ta sa sv s.heap.size 1 ) ks_X9_305 ⟨rfl, rfl, Nat.le_of_ble_eq_true rfl, Nat.le_of_ble_eq_true rfl⟩ ⟨Nat.le_of_ble_eq_true rfl, Nat.le_of_ble_eq_true rfl⟩ hK hN hZ hP hD hS hA [] rfl rfl rfl hl.1 rfl (Nat.le_of_ble_eq_true rfl) dX9_copy_8 (fun r_6 hw_r_6 => ?_)
    rcases hw_r_6 with ⟨rfl, h_7, h_8⟩ | ⟨rfl, h_9⟩
    · skip
      refine lv_if_ne (tgt := 21) hx hb dX9_copy_11 (by decide) (fun c_10 => ?_) (fun c_10 => absurd c_10 (by decide))
      refine lv_aload_n hx hb dX9_copy_21 rfl (lv_at hl 0 rfl) ?_
      refine xg hF kf_X9_43 hK hP 0 rfl rfl dX9_copy_22 ?_
      refine lv_iload_n hx hb dX9_copy_25 rfl (lv_at hl 1 rfl) ?_
      refine va_iald hx hb hK hP 1 0 rfl rfl (xin 2 4 (by decide) (by decide)) dX9_copy_26 ?_
      refine xl_i (y := bi 2) (congrArg bi rfl) ?_
      refine lv_if_eq (tgt := 39) hx hb dX9_copy_27 (by decide) (fun c_11 => ?_) (fun c_11 => ?_)
      · skip
        refine lv_aload_n hx hb dX9_copy_39 rfl (lv_at hl 0 rfl) ?_
        refine lv_ldcw (v := (-1000000006)) hx hb hown (hu _ uw910) dX9_copy_40 ?_
        refine xc_Vi (wr := [(ybi, .inl (cI, 4, .inl bi)), (ysi, .inl (cI, 4, .inl sq)), (ynu, .inl (cJ, 160, .inr (.inl nb))), (ymo, .inl (cJ, 40, .inr (.inl mv9)))]) hF (c_X9_finds_M l D cI cJ cZ cS ta sa sv s.heap.size h0 ys yk yo yt mk0 yfa yfe mL mS mM yro yhe ygr mF mC mY yta mz mf mt mv mw ywa ybi ysi ynu ymo mq ) kv_X9_70 ⟨rfl, rfl, Nat.le_of_ble_eq_true rfl, Nat.le_of_ble_eq_true rfl⟩ ⟨Nat.le_of_ble_eq_true rfl, Nat.le_of_ble_eq_true rfl⟩ hK hN hZ hP hD hS hA [0, 5] [1, 2, 3, 4] rfl rfl rfl rfl (by decide) 0 rfl rfl rfl rfl hl.1 rfl (Nat.le_of_ble_eq_true rfl) dX9_copy_43 (fun r_12 u_r_12 H locs hw_r_12 hP hD hS => ?_)
        obtain ⟨mq2_13, rfl⟩ : ∃ z, z = u_r_12 := ⟨_, rfl⟩
        try dsimp only at hw_r_12
        have hP : va_P D vwCl [(ybi, .inl (cI, 4, .inl bi)), (ysi, .inl (cI, 4, .inl sq)), (ynu, .inl (cJ, 160, .inr (.inl nb))), (ymo, .inl (cJ, 40, .inr (.inl mv9))), (h0, .inr (9, [.ref ys, .ref yk, .ref yo, .ref yt, .int mk0, .ref yfa, .ref yfe, .int mL, .int mS, .int mM, .ref yro, .ref yhe, .ref ygr, .int mF, .int mC, .int mY, .ref yta, .int (nI (mz)), .int (nI (mf)), .int (nI (mt)), .int mv, .int mw, .ref ywa, .ref ybi, .ref ysi, .ref ynu, .ref ymo])), (yt, .inl (cI, 7, .inl mq2_13))] H := hP
        have hD : va_D A [(ybi, .inl (cI, 4, .inl bi)), (ysi, .inl (cI, 4, .inl sq)), (ynu, .inl (cJ, 160, .inr (.inl nb))), (ymo, .inl (cJ, 40, .inr (.inl mv9))), (h0, .inr (9, [.ref ys, .ref yk, .ref yo, .ref yt, .int mk0, .ref yfa, .ref yfe, .int mL, .int mS, .int mM, .ref yro, .ref yhe, .ref ygr, .int mF, .int mC, .int mY, .ref yta, .int (nI (mz)), .int (nI (mf)), .int (nI (mt)), .int mv, .int mw, .ref ywa, .ref ybi, .ref ysi, .ref ynu, .ref ymo])), (yt, .inl (cI, 7, .inl mq2_13))] := hD
        subst hw_r_12
        exact W.iret (v := (-1000000006)) hx hb hr (fun t ht hW => ⟨⟨(-1000000006), (nb, mv9, mq2_13), rfl, ⟨(sp_cr1 (Or.inl c_11)), (fun j => sp_c0 (fun h => h.1 c_11)), (fun _ _ => rfl)⟩, by rw [ht]; exact hP.sub [4, 0, 1, 2, 3, 5] rfl, hD.sub [4, 0, 1, 2, 3, 5] (by decide +kernel) rfl⟩, hS.F ht⟩) hS.2.2 dX9_copy_46 hlk
      · skip
        refine lv_aload_n hx hb dX9_copy_30 rfl (lv_at hl 0 rfl) ?_
        refine xg hF kf_X9_43 hK hP 0 rfl rfl dX9_copy_31 ?_
        refine lv_iload_n hx hb dX9_copy_34 rfl (lv_at hl 3 rfl) ?_
        refine va_iald hx hb hK hP 1 0 rfl rfl (xin 1 4 (by decide) (by decide)) dX9_copy_35 ?_
        refine xl_i (y := bi 1) (congrArg bi rfl) ?_
        refine lv_if_ne (tgt := 47) hx hb dX9_copy_36 (by decide) (fun c_14 => ?_) (fun c_14 => ?_)
        · skip
          refine lv_aload_n hx hb dX9_copy_47 rfl (lv_at hl 0 rfl) ?_
          refine xg hF kf_X9_43 hK hP 0 rfl rfl dX9_copy_48 ?_
          refine lv_iload_n hx hb dX9_copy_51 rfl (lv_at hl 1 rfl) ?_
          refine va_iald hx hb hK hP 1 0 rfl rfl (xin 2 4 (by decide) (by decide)) dX9_copy_52 ?_
          refine xl_i (y := bi 2) (congrArg bi rfl) ?_
          refine lv_aload_n hx hb dX9_copy_53 rfl (lv_at hl 0 rfl) ?_
          refine xg hF kf_X9_43 hK hP 0 rfl rfl dX9_copy_54 ?_
          refine lv_iload_n hx hb dX9_copy_57 rfl (lv_at hl 3 rfl) ?_
          refine va_iald hx hb hK hP 1 0 rfl rfl (xin 1 4 (by decide) (by decide)) dX9_copy_58 ?_
          refine xl_i (y := bi 1) (congrArg bi rfl) ?_
          refine lv_icmp_eq (tgt := 69) hx hb dX9_copy_59 (by decide) (fun c_15 => ?_) (fun c_15 => ?_)
          · skip
            refine lv_iload_n hx hb dX9_copy_69 rfl (lv_at hl 2 rfl) ?_
            refine lv_if_lt (tgt := 110) hx hb dX9_copy_70 (by decide) (fun c_16 => ?_) (fun c_16 => ?_)
            · skip
              refine lv_aload_n hx hb dX9_copy_110 rfl (lv_at hl 0 rfl) ?_
              refine lv_ldc (v := (-1000000001)) hx hb hown (hu _ uw648) dX9_copy_111 ?_
              refine xc_Vi (wr := [(ybi, .inl (cI, 4, .inl bi)), (ysi, .inl (cI, 4, .inl sq)), (ynu, .inl (cJ, 160, .inr (.inl nb))), (ymo, .inl (cJ, 40, .inr (.inl mv9)))]) hF (c_X9_finds_B l D cI cJ cZ cS ta sa sv s.heap.size h0 ys yk yo yt mk0 yfa yfe mL mS mM yro yhe ygr mF mC mY yta mz mf mt mv mw ywa ybi ysi ynu ymo mq ) kv_X9_70 ⟨rfl, rfl, Nat.le_of_ble_eq_true rfl, Nat.le_of_ble_eq_true rfl⟩ ⟨Nat.le_of_ble_eq_true rfl, Nat.le_of_ble_eq_true rfl⟩ hK hN hZ hP hD hS hA [0, 5] [1, 2, 3, 4] rfl rfl rfl rfl (by decide) 0 rfl rfl rfl rfl hl.1 rfl (Nat.le_of_ble_eq_true rfl) dX9_copy_113 (fun r_17 u_r_17 H locs hw_r_17 hP hD hS => ?_)
              obtain ⟨mq2_18, rfl⟩ : ∃ z, z = u_r_17 := ⟨_, rfl⟩
              try dsimp only at hw_r_17
              have hP : va_P D vwCl [(ybi, .inl (cI, 4, .inl bi)), (ysi, .inl (cI, 4, .inl sq)), (ynu, .inl (cJ, 160, .inr (.inl nb))), (ymo, .inl (cJ, 40, .inr (.inl mv9))), (h0, .inr (9, [.ref ys, .ref yk, .ref yo, .ref yt, .int mk0, .ref yfa, .ref yfe, .int mL, .int mS, .int mM, .ref yro, .ref yhe, .ref ygr, .int mF, .int mC, .int mY, .ref yta, .int (nI (mz)), .int (nI (mf)), .int (nI (mt)), .int mv, .int mw, .ref ywa, .ref ybi, .ref ysi, .ref ynu, .ref ymo])), (yt, .inl (cI, 7, .inl mq2_18))] H := hP
              have hD : va_D A [(ybi, .inl (cI, 4, .inl bi)), (ysi, .inl (cI, 4, .inl sq)), (ynu, .inl (cJ, 160, .inr (.inl nb))), (ymo, .inl (cJ, 40, .inr (.inl mv9))), (h0, .inr (9, [.ref ys, .ref yk, .ref yo, .ref yt, .int mk0, .ref yfa, .ref yfe, .int mL, .int mS, .int mM, .ref yro, .ref yhe, .ref ygr, .int mF, .int mC, .int mY, .ref yta, .int (nI (mz)), .int (nI (mf)), .int (nI (mt)), .int mv, .int mw, .ref ywa, .ref ybi, .ref ysi, .ref ynu, .ref ymo])), (yt, .inl (cI, 7, .inl mq2_18))] := hD
              subst hw_r_17
              exact W.iret (v := (-1000000001)) hx hb hr (fun t ht hW => ⟨⟨(-1000000001), (nb, mv9, mq2_18), rfl, ⟨(sp_cr3 c_11 c_14 c_15 (fun q => (sp_s1 c_16) q.1)), (fun j => sp_c0 (fun h => (sp_s1 c_16) h.2.2.2.1)), (fun _ _ => rfl)⟩, by rw [ht]; exact hP.sub [4, 0, 1, 2, 3, 5] rfl, hD.sub [4, 0, 1, 2, 3, 5] (by decide +kernel) rfl⟩, hS.F ht⟩) hS.2.2 dX9_copy_116 hlk
            · skip
              refine lv_iload hx hb dX9_copy_73 (lv_at hl 4 rfl) ?_
              refine lv_if_lt (tgt := 110) hx hb dX9_copy_75 (by decide) (fun c_19 => ?_) (fun c_19 => ?_)
              · skip
                refine lv_aload_n hx hb dX9_copy_110 rfl (lv_at hl 0 rfl) ?_
                refine lv_ldc (v := (-1000000001)) hx hb hown (hu _ uw648) dX9_copy_111 ?_
                refine xc_Vi (wr := [(ybi, .inl (cI, 4, .inl bi)), (ysi, .inl (cI, 4, .inl sq)), (ynu, .inl (cJ, 160, .inr (.inl nb))), (ymo, .inl (cJ, 40, .inr (.inl mv9)))]) hF (c_X9_finds_B l D cI cJ cZ cS ta sa sv s.heap.size h0 ys yk yo yt mk0 yfa yfe mL mS mM yro yhe ygr mF mC mY yta mz mf mt mv mw ywa ybi ysi ynu ymo mq ) kv_X9_70 ⟨rfl, rfl, Nat.le_of_ble_eq_true rfl, Nat.le_of_ble_eq_true rfl⟩ ⟨Nat.le_of_ble_eq_true rfl, Nat.le_of_ble_eq_true rfl⟩ hK hN hZ hP hD hS hA [0, 5] [1, 2, 3, 4] rfl rfl rfl rfl (by decide) 0 rfl rfl rfl rfl hl.1 rfl (Nat.le_of_ble_eq_true rfl) dX9_copy_113 (fun r_20 u_r_20 H locs hw_r_20 hP hD hS => ?_)
                obtain ⟨mq2_21, rfl⟩ : ∃ z, z = u_r_20 := ⟨_, rfl⟩
                try dsimp only at hw_r_20
                have hP : va_P D vwCl [(ybi, .inl (cI, 4, .inl bi)), (ysi, .inl (cI, 4, .inl sq)), (ynu, .inl (cJ, 160, .inr (.inl nb))), (ymo, .inl (cJ, 40, .inr (.inl mv9))), (h0, .inr (9, [.ref ys, .ref yk, .ref yo, .ref yt, .int mk0, .ref yfa, .ref yfe, .int mL, .int mS, .int mM, .ref yro, .ref yhe, .ref ygr, .int mF, .int mC, .int mY, .ref yta, .int (nI (mz)), .int (nI (mf)), .int (nI (mt)), .int mv, .int mw, .ref ywa, .ref ybi, .ref ysi, .ref ynu, .ref ymo])), (yt, .inl (cI, 7, .inl mq2_21))] H := hP
                have hD : va_D A [(ybi, .inl (cI, 4, .inl bi)), (ysi, .inl (cI, 4, .inl sq)), (ynu, .inl (cJ, 160, .inr (.inl nb))), (ymo, .inl (cJ, 40, .inr (.inl mv9))), (h0, .inr (9, [.ref ys, .ref yk, .ref yo, .ref yt, .int mk0, .ref yfa, .ref yfe, .int mL, .int mS, .int mM, .ref yro, .ref yhe, .ref ygr, .int mF, .int mC, .int mY, .ref yta, .int (nI (mz)), .int (nI (mf)), .int (nI (mt)), .int mv, .int mw, .ref ywa, .ref ybi, .ref ysi, .ref ynu, .ref ymo])), (yt, .inl (cI, 7, .inl mq2_21))] := hD
                subst hw_r_20
                exact W.iret (v := (-1000000001)) hx hb hr (fun t ht hW => ⟨⟨(-1000000001), (nb, mv9, mq2_21), rfl, ⟨(sp_cr3 c_11 c_14 c_15 (fun q => (sp_s1 c_19) q.2)), (fun j => sp_c0 (fun h => (sp_s1 c_19) h.2.2.2.2)), (fun _ _ => rfl)⟩, by rw [ht]; exact hP.sub [4, 0, 1, 2, 3, 5] rfl, hD.sub [4, 0, 1, 2, 3, 5] (by decide +kernel) rfl⟩, hS.F ht⟩) hS.2.2 dX9_copy_116 hlk
              · skip
                refine lv_iload hx hb dX9_copy_78 (lv_at hl 5 rfl) ?_
                refine lv_if_lt (tgt := 110) hx hb dX9_copy_80 (by decide) (fun c_22 => ?_) (fun c_22 => ?_)
                · skip
                  refine lv_aload_n hx hb dX9_copy_110 rfl (lv_at hl 0 rfl) ?_
                  refine lv_ldc (v := (-1000000001)) hx hb hown (hu _ uw648) dX9_copy_111 ?_
                  refine xc_Vi (wr := [(ybi, .inl (cI, 4, .inl bi)), (ysi, .inl (cI, 4, .inl sq)), (ynu, .inl (cJ, 160, .inr (.inl nb))), (ymo, .inl (cJ, 40, .inr (.inl mv9)))]) hF (c_X9_finds_B l D cI cJ cZ cS ta sa sv s.heap.size h0 ys yk yo yt mk0 yfa yfe mL mS mM yro yhe ygr mF mC mY yta mz mf mt mv mw ywa ybi ysi ynu ymo mq ) kv_X9_70 ⟨rfl, rfl, Nat.le_of_ble_eq_true rfl, Nat.le_of_ble_eq_true rfl⟩ ⟨Nat.le_of_ble_eq_true rfl, Nat.le_of_ble_eq_true rfl⟩ hK hN hZ hP hD hS hA [0, 5] [1, 2, 3, 4] rfl rfl rfl rfl (by decide) 0 rfl rfl rfl rfl hl.1 rfl (Nat.le_of_ble_eq_true rfl) dX9_copy_113 (fun r_23 u_r_23 H locs hw_r_23 hP hD hS => ?_)
                  obtain ⟨mq2_24, rfl⟩ : ∃ z, z = u_r_23 := ⟨_, rfl⟩
                  try dsimp only at hw_r_23
                  have hP : va_P D vwCl [(ybi, .inl (cI, 4, .inl bi)), (ysi, .inl (cI, 4, .inl sq)), (ynu, .inl (cJ, 160, .inr (.inl nb))), (ymo, .inl (cJ, 40, .inr (.inl mv9))), (h0, .inr (9, [.ref ys, .ref yk, .ref yo, .ref yt, .int mk0, .ref yfa, .ref yfe, .int mL, .int mS, .int mM, .ref yro, .ref yhe, .ref ygr, .int mF, .int mC, .int mY, .ref yta, .int (nI (mz)), .int (nI (mf)), .int (nI (mt)), .int mv, .int mw, .ref ywa, .ref ybi, .ref ysi, .ref ynu, .ref ymo])), (yt, .inl (cI, 7, .inl mq2_24))] H := hP
                  have hD : va_D A [(ybi, .inl (cI, 4, .inl bi)), (ysi, .inl (cI, 4, .inl sq)), (ynu, .inl (cJ, 160, .inr (.inl nb))), (ymo, .inl (cJ, 40, .inr (.inl mv9))), (h0, .inr (9, [.ref ys, .ref yk, .ref yo, .ref yt, .int mk0, .ref yfa, .ref yfe, .int mL, .int mS, .int mM, .ref yro, .ref yhe, .ref ygr, .int mF, .int mC, .int mY, .ref yta, .int (nI (mz)), .int (nI (mf)), .int (nI (mt)), .int mv, .int mw, .ref ywa, .ref ybi, .ref ysi, .ref ynu, .ref ymo])), (yt, .inl (cI, 7, .inl mq2_24))] := hD
                  subst hw_r_23
                  exact W.iret (v := (-1000000001)) hx hb hr (fun t ht hW => ⟨⟨(-1000000001), (nb, mv9, mq2_24), rfl, ⟨(sp_cr3 c_11 c_14 c_15 (fun q => (sp_s2 c_22) q.1)), (fun j => sp_c0 (fun h => (sp_s2 c_22) h.2.2.2.1)), (fun _ _ => rfl)⟩, by rw [ht]; exact hP.sub [4, 0, 1, 2, 3, 5] rfl, hD.sub [4, 0, 1, 2, 3, 5] (by decide +kernel) rfl⟩, hS.F ht⟩) hS.2.2 dX9_copy_116 hlk
                · skip
                  refine lv_iload hx hb dX9_copy_83 (lv_at hl 5 rfl) ?_
                  refine lv_aload_n hx hb dX9_copy_85 rfl (lv_at hl 0 rfl) ?_
                  refine xg hF kf_X9_46 hK hP 0 rfl rfl dX9_copy_86 ?_
                  refine lv_iload_n hx hb dX9_copy_89 rfl (lv_at hl 1 rfl) ?_
                  refine va_iald hx hb hK hP 2 0 rfl rfl (xin 2 4 (by decide) (by decide)) dX9_copy_90 ?_
                  refine xl_i (y := sq 2) (congrArg sq rfl) ?_
                  refine xl_i (y := nI (zq)) ez ?_
                  refine lv_iload_n hx hb dX9_copy_91 rfl (lv_at hl 2 rfl) ?_
                  refine lv_isub hx hb dX9_copy_92 ?_
                  refine lv_topi (fun x_25 ex_25 => ?_)
                  refine lv_icmp_gt (tgt := 110) hx hb dX9_copy_93 (by decide) (fun c_26 => ?_) (fun c_26 => ?_)
                  · skip
                    refine lv_aload_n hx hb dX9_copy_110 rfl (lv_at hl 0 rfl) ?_
                    refine lv_ldc (v := (-1000000001)) hx hb hown (hu _ uw648) dX9_copy_111 ?_
                    refine xc_Vi (wr := [(ybi, .inl (cI, 4, .inl bi)), (ysi, .inl (cI, 4, .inl sq)), (ynu, .inl (cJ, 160, .inr (.inl nb))), (ymo, .inl (cJ, 40, .inr (.inl mv9)))]) hF (c_X9_finds_B l D cI cJ cZ cS ta sa sv s.heap.size h0 ys yk yo yt mk0 yfa yfe mL mS mM yro yhe ygr mF mC mY yta mz mf mt mv mw ywa ybi ysi ynu ymo mq ) kv_X9_70 ⟨rfl, rfl, Nat.le_of_ble_eq_true rfl, Nat.le_of_ble_eq_true rfl⟩ ⟨Nat.le_of_ble_eq_true rfl, Nat.le_of_ble_eq_true rfl⟩ hK hN hZ hP hD hS hA [0, 5] [1, 2, 3, 4] rfl rfl rfl rfl (by decide) 0 rfl rfl rfl rfl hl.1 rfl (Nat.le_of_ble_eq_true rfl) dX9_copy_113 (fun r_27 u_r_27 H locs hw_r_27 hP hD hS => ?_)
                    obtain ⟨mq2_28, rfl⟩ : ∃ z, z = u_r_27 := ⟨_, rfl⟩
                    try dsimp only at hw_r_27
                    have hP : va_P D vwCl [(ybi, .inl (cI, 4, .inl bi)), (ysi, .inl (cI, 4, .inl sq)), (ynu, .inl (cJ, 160, .inr (.inl nb))), (ymo, .inl (cJ, 40, .inr (.inl mv9))), (h0, .inr (9, [.ref ys, .ref yk, .ref yo, .ref yt, .int mk0, .ref yfa, .ref yfe, .int mL, .int mS, .int mM, .ref yro, .ref yhe, .ref ygr, .int mF, .int mC, .int mY, .ref yta, .int (nI (mz)), .int (nI (mf)), .int (nI (mt)), .int mv, .int mw, .ref ywa, .ref ybi, .ref ysi, .ref ynu, .ref ymo])), (yt, .inl (cI, 7, .inl mq2_28))] H := hP
                    have hD : va_D A [(ybi, .inl (cI, 4, .inl bi)), (ysi, .inl (cI, 4, .inl sq)), (ynu, .inl (cJ, 160, .inr (.inl nb))), (ymo, .inl (cJ, 40, .inr (.inl mv9))), (h0, .inr (9, [.ref ys, .ref yk, .ref yo, .ref yt, .int mk0, .ref yfa, .ref yfe, .int mL, .int mS, .int mM, .ref yro, .ref yhe, .ref ygr, .int mF, .int mC, .int mY, .ref yta, .int (nI (mz)), .int (nI (mf)), .int (nI (mt)), .int mv, .int mw, .ref ywa, .ref ybi, .ref ysi, .ref ynu, .ref ymo])), (yt, .inl (cI, 7, .inl mq2_28))] := hD
                    subst hw_r_27
                    exact W.iret (v := (-1000000001)) hx hb hr (fun t ht hW => ⟨⟨(-1000000001), (nb, mv9, mq2_28), rfl, ⟨(sp_cr3 c_11 c_14 c_15 (fun q => (sp_s5 hzq c_16 c_22 ex_25 c_26) q.1)), (fun j => sp_c0 (fun h => (sp_s5 hzq c_16 c_22 ex_25 c_26) h.2.2.2.1)), (fun _ _ => rfl)⟩, by rw [ht]; exact hP.sub [4, 0, 1, 2, 3, 5] rfl, hD.sub [4, 0, 1, 2, 3, 5] (by decide +kernel) rfl⟩, hS.F ht⟩) hS.2.2 dX9_copy_116 hlk
                  · skip
                    refine lv_iload hx hb dX9_copy_96 (lv_at hl 5 rfl) ?_
                    refine lv_aload_n hx hb dX9_copy_98 rfl (lv_at hl 0 rfl) ?_
                    refine xg hF kf_X9_46 hK hP 0 rfl rfl dX9_copy_99 ?_
                    refine lv_iload_n hx hb dX9_copy_102 rfl (lv_at hl 3 rfl) ?_
                    refine va_iald hx hb hK hP 2 0 rfl rfl (xin 1 4 (by decide) (by decide)) dX9_copy_103 ?_
                    refine xl_i (y := sq 1) (congrArg sq rfl) ?_
                    refine xl_i (y := nI (zt)) et ?_
                    refine lv_iload hx hb dX9_copy_104 (lv_at hl 4 rfl) ?_
                    refine lv_isub hx hb dX9_copy_106 ?_
                    refine lv_topi (fun x_29 ex_29 => ?_)
                    refine lv_icmp_le (tgt := 117) hx hb dX9_copy_107 (by decide) (fun c_30 => ?_) (fun c_30 => ?_)
                    · skip
                      obtain ⟨y_31, hy_31, rfl⟩ := x_spk (by omega) c_16 c_22 ex_25 c_26
                      obtain ⟨y_32, hy_32, rfl⟩ := x_spj (by omega) (by omega) c_16 ex_25 c_26
                      obtain ⟨y_33, hy_33, rfl⟩ := x_spj (by omega) (by omega) c_19 ex_29 (Int32.not_lt.mpr c_30)
                      refine lv_iconst (v := 0) hx hb dX9_copy_117 (by decide) ?_
                      refine lv_istore (lv' := [(6, .int 0), (0, .ref h0), (1, .int 2), (2, .int (nI (y_32))), (3, .int 1), (4, .int (nI (y_33))), (5, .int (nI (y_31)))]) hx hb dX9_copy_118 hl (by decide) rfl (fun ls hl => ?_)
                      suffices loop_120 : ∀ (n_120 : Nat) (i : Nat) (m8 : Nat → Int64) (H : Heap) (locs : List Loc) (ls : Array Slot), y_31 - i < n_120 → (i ≤ y_31) → (∀ j, j < i → m8 j = nb (80 + y_32 + j)) → va_P D vwCl [(h0, .inr (9, [.ref ys, .ref yk, .ref yo, .ref yt, .int mk0, .ref yfa, .ref yfe, .int mL, .int mS, .int mM, .ref yro, .ref yhe, .ref ygr, .int mF, .int mC, .int mY, .ref yta, .int (nI (mz)), .int (nI (mf)), .int (nI (mt)), .int mv, .int mw, .ref ywa, .ref ybi, .ref ysi, .ref ynu, .ref ymo])), (ybi, .inl (cI, 4, .inl bi)), (ysi, .inl (cI, 4, .inl sq)), (ynu, .inl (cJ, 160, .inr (.inl nb))), (ymo, .inl (cJ, 40, .inr (.inl m8))), (yt, .inl (cI, 7, .inl mq))] H → va_D A [(h0, .inr (9, [.ref ys, .ref yk, .ref yo, .ref yt, .int mk0, .ref yfa, .ref yfe, .int mL, .int mS, .int mM, .ref yro, .ref yhe, .ref ygr, .int mF, .int mC, .int mY, .ref yta, .int (nI (mz)), .int (nI (mf)), .int (nI (mt)), .int mv, .int mw, .ref ywa, .ref ybi, .ref ysi, .ref ynu, .ref ymo])), (ybi, .inl (cI, 4, .inl bi)), (ysi, .inl (cI, 4, .inl sq)), (ynu, .inl (cJ, 160, .inr (.inl nb))), (ymo, .inl (cJ, 40, .inr (.inl m8))), (yt, .inl (cI, 7, .inl mq))] → va_S A s.heap H locs → lv_has ls 7 [(6, .int (nI (i))), (0, .ref h0), (1, .int 2), (2, .int (nI (y_32))), (3, .int 1), (4, .int (nI (y_33))), (5, .int (nI (y_31)))] → W p l e ({ frames := 2, cells := 0, slots := 0, locals := 45 }) s m ([.ref h0, .int 2, .int (nI (y_32)), .int 1, .int (nI (y_33)), .int (nI (y_31))] : List Value).toArray below meth c H locs 0 0 (MQ below (XQi (fun (r : Int32) (u : (Nat → Int64) × (Nat → Int64) × (Nat → Int32)) => match u with | (nb2, mv2, mq2) => ((r = sp_cr (bi 2) (bi 1) zq zt (nI (y_32)) (nI (y_33)) (nI (y_31)))) ∧ (∀ j, nb2 (40 + j) = sp_cn (bi 2) (bi 1) zq zt (nI (y_32)) (nI (y_33)) (nI (y_31)) (fun k => nb (80 + k)) j (nb (40 + j))) ∧ (∀ j, j < 40 ∨ 80 ≤ j → nb2 j = nb j)) D (fun (u : (Nat → Int64) × (Nat → Int64) × (Nat → Int32)) => match u with | (nb2, mv2, mq2) => [(h0, .inr (9, [.ref ys, .ref yk, .ref yo, .ref yt, .int mk0, .ref yfa, .ref yfe, .int mL, .int mS, .int mM, .ref yro, .ref yhe, .ref ygr, .int mF, .int mC, .int mY, .ref yta, .int (nI (mz)), .int (nI (mf)), .int (nI (mt)), .int mv, .int mw, .ref ywa, .ref ybi, .ref ysi, .ref ynu, .ref ymo])), (ybi, .inl (cI, 4, .inl bi)), (ysi, .inl (cI, 4, .inl sq)), (ynu, .inl (cJ, 160, .inr (.inl nb2))), (ymo, .inl (cJ, 40, .inr (.inl mv2))), (yt, .inl (cI, 7, .inl mq2))]) A) ([.ref h0, .int 2, .int (nI (y_32)), .int 1, .int (nI (y_33)), .int (nI (y_31))] : List Value).toArray s 0 0 A) (F0 m 120 ls []) by
                        exact loop_120 _ 0 mv9 _ _ _ (Nat.lt_succ_self _) (by omega) (fun j hj => absurd hj (Nat.not_lt_zero _)) hP hD hS (lv_sub hl [0, 1, 2, 3, 4, 5, 6] rfl)
                      intro n_120
                      induction n_120 with
                      | zero =>
                        intro i m8 H locs ls hm_120
                        exact absurd hm_120 (Nat.not_lt_zero _)
                      | succ n_120 ih_120 =>
                        intro i m8 H locs ls hm_120 hi hm8 hP hD hS hl
                        refine lv_iload hx hb dX9_copy_120 (lv_at hl 0 rfl) ?_
                        refine lv_iload hx hb dX9_copy_122 (lv_at hl 6 rfl) ?_
                        refine lv_icmp_ge (tgt := 154) hx hb dX9_copy_124 (by decide) (fun c_34 => ?_) (fun c_34 => ?_)
                        · skip
                          have nc_34 : y_31 ≤ i := xn_le (a := y_31) (b := i) (by omega) (by omega) c_34
                          refine lv_iconst (v := 0) hx hb dX9_copy_154 (by decide) ?_
                          refine lv_istore (lv' := [(6, .int 0), (0, .ref h0), (1, .int 2), (2, .int (nI (y_32))), (3, .int 1), (4, .int (nI (y_33))), (5, .int (nI (y_31)))]) hx hb dX9_copy_155 hl (by decide) rfl (fun ls hl => ?_)
                          suffices loop_157 : ∀ (n_157 : Nat) (i2 : Nat) (n8 : Nat → Int64) (H : Heap) (locs : List Loc) (ls : Array Slot), y_31 - i2 < n_157 → (i2 ≤ y_31) → (∀ j, n8 j = if 40 + y_33 ≤ j ∧ j < 40 + y_33 + i2 then m8 (j - (40 + y_33)) else nb j) → va_P D vwCl [(h0, .inr (9, [.ref ys, .ref yk, .ref yo, .ref yt, .int mk0, .ref yfa, .ref yfe, .int mL, .int mS, .int mM, .ref yro, .ref yhe, .ref ygr, .int mF, .int mC, .int mY, .ref yta, .int (nI (mz)), .int (nI (mf)), .int (nI (mt)), .int mv, .int mw, .ref ywa, .ref ybi, .ref ysi, .ref ynu, .ref ymo])), (ybi, .inl (cI, 4, .inl bi)), (ysi, .inl (cI, 4, .inl sq)), (ynu, .inl (cJ, 160, .inr (.inl n8))), (ymo, .inl (cJ, 40, .inr (.inl m8))), (yt, .inl (cI, 7, .inl mq))] H → va_D A [(h0, .inr (9, [.ref ys, .ref yk, .ref yo, .ref yt, .int mk0, .ref yfa, .ref yfe, .int mL, .int mS, .int mM, .ref yro, .ref yhe, .ref ygr, .int mF, .int mC, .int mY, .ref yta, .int (nI (mz)), .int (nI (mf)), .int (nI (mt)), .int mv, .int mw, .ref ywa, .ref ybi, .ref ysi, .ref ynu, .ref ymo])), (ybi, .inl (cI, 4, .inl bi)), (ysi, .inl (cI, 4, .inl sq)), (ynu, .inl (cJ, 160, .inr (.inl n8))), (ymo, .inl (cJ, 40, .inr (.inl m8))), (yt, .inl (cI, 7, .inl mq))] → va_S A s.heap H locs → lv_has ls 7 [(6, .int (nI (i2))), (0, .ref h0), (1, .int 2), (2, .int (nI (y_32))), (3, .int 1), (4, .int (nI (y_33))), (5, .int (nI (y_31)))] → W p l e ({ frames := 2, cells := 0, slots := 0, locals := 45 }) s m ([.ref h0, .int 2, .int (nI (y_32)), .int 1, .int (nI (y_33)), .int (nI (y_31))] : List Value).toArray below meth c H locs 0 0 (MQ below (XQi (fun (r : Int32) (u : (Nat → Int64) × (Nat → Int64) × (Nat → Int32)) => match u with | (nb2, mv2, mq2) => ((r = sp_cr (bi 2) (bi 1) zq zt (nI (y_32)) (nI (y_33)) (nI (y_31)))) ∧ (∀ j, nb2 (40 + j) = sp_cn (bi 2) (bi 1) zq zt (nI (y_32)) (nI (y_33)) (nI (y_31)) (fun k => nb (80 + k)) j (nb (40 + j))) ∧ (∀ j, j < 40 ∨ 80 ≤ j → nb2 j = nb j)) D (fun (u : (Nat → Int64) × (Nat → Int64) × (Nat → Int32)) => match u with | (nb2, mv2, mq2) => [(h0, .inr (9, [.ref ys, .ref yk, .ref yo, .ref yt, .int mk0, .ref yfa, .ref yfe, .int mL, .int mS, .int mM, .ref yro, .ref yhe, .ref ygr, .int mF, .int mC, .int mY, .ref yta, .int (nI (mz)), .int (nI (mf)), .int (nI (mt)), .int mv, .int mw, .ref ywa, .ref ybi, .ref ysi, .ref ynu, .ref ymo])), (ybi, .inl (cI, 4, .inl bi)), (ysi, .inl (cI, 4, .inl sq)), (ynu, .inl (cJ, 160, .inr (.inl nb2))), (ymo, .inl (cJ, 40, .inr (.inl mv2))), (yt, .inl (cI, 7, .inl mq2))]) A) ([.ref h0, .int 2, .int (nI (y_32)), .int 1, .int (nI (y_33)), .int (nI (y_31))] : List Value).toArray s 0 0 A) (F0 m 157 ls []) by
                            exact loop_157 _ 0 nb _ _ _ (Nat.lt_succ_self _) (by omega) (fun j => (if_neg (by omega)).symm) hP hD hS (lv_sub hl [0, 1, 2, 3, 4, 5, 6] rfl)
                          intro n_157
                          induction n_157 with
                          | zero =>
                            intro i2 n8 H locs ls hm_157
                            exact absurd hm_157 (Nat.not_lt_zero _)
                          | succ n_157 ih_157 =>
                            intro i2 n8 H locs ls hm_157 hi2 hn8 hP hD hS hl
                            refine lv_iload hx hb dX9_copy_157 (lv_at hl 0 rfl) ?_
                            refine lv_iload hx hb dX9_copy_159 (lv_at hl 6 rfl) ?_
                            refine lv_icmp_ge (tgt := 192) hx hb dX9_copy_161 (by decide) (fun c_35 => ?_) (fun c_35 => ?_)
                            · skip
                              have nc_35 : y_31 ≤ i2 := xn_le (a := y_31) (b := i2) (by omega) (by omega) c_35
                              refine lv_iload hx hb dX9_copy_192 (lv_at hl 6 rfl) ?_
                              have hn7 : ∀ j, n8 j = if 40 + y_33 ≤ j ∧ j < 40 + y_33 + y_31 then m8 (j - (40 + y_33)) else nb j := fun j => by rw [hn8 j, show i2 = y_31 by omega]
                              have hm7 : ∀ j, j < y_31 → m8 j = nb (80 + y_32 + j) := fun j hj => hm8 j (by omega)
                              exact W.iret (v := nI (y_31)) hx hb hr (fun t ht hW => ⟨⟨nI (y_31), (n8, m8, mq), rfl, ⟨(sp_cr4 c_11 c_14 c_15 (sp_nspan (by omega) (by omega)) (sp_nspan (by omega) (by omega))), (fun j9 => sp_c1 (K := 40) (M := 80) (by omega) (by omega) c_11 c_14 c_15 (by omega) (by omega) (fun i9 => sp_mv3 hn7 hm7 rfl rfl)), (fun j9 hj9 => by rw [hn7 j9, if_neg (by omega)])⟩, by rw [ht]; exact hP.sub [0, 1, 2, 3, 4, 5] rfl, hD.sub [0, 1, 2, 3, 4, 5] (by decide +kernel) rfl⟩, hS.F ht⟩) hS.2.2 dX9_copy_194 hlk
                            · skip
                              have nc_35 : i2 < y_31 := xn_nle (a := y_31) (b := i2) (by omega) (by omega) c_35
                              refine lv_aload_n hx hb dX9_copy_164 rfl (lv_at hl 1 rfl) ?_
                              refine xg hF kf_X9_49 hK hP 0 rfl rfl dX9_copy_165 ?_
                              refine lv_bipush (v := 40) hx hb dX9_copy_168 (by decide) ?_
                              refine lv_iload_n hx hb dX9_copy_170 rfl (lv_at hl 4 rfl) ?_
                              refine lv_imul hx hb dX9_copy_171 ?_
                              refine xl_i (y := 40) (by decide) ?_
                              refine lv_iload hx hb dX9_copy_172 (lv_at hl 5 rfl) ?_
                              refine lv_iadd hx hb dX9_copy_174 ?_
                              refine xl_i (y := nI (40 + y_33)) (nI_add 40 y_33) ?_
                              refine lv_iload hx hb dX9_copy_175 (lv_at hl 0 rfl) ?_
                              refine lv_iadd hx hb dX9_copy_177 ?_
                              refine xl_i (y := nI (40 + y_33 + i2)) (nI_add (40 + y_33) i2) ?_
                              refine lv_aload_n hx hb dX9_copy_178 rfl (lv_at hl 1 rfl) ?_
                              refine xg hF kf_X9_53 hK hP 0 rfl rfl dX9_copy_179 ?_
                              refine lv_iload hx hb dX9_copy_182 (lv_at hl 0 rfl) ?_
                              refine va_lald hx hb hK hP 4 1 rfl rfl (vp_in_nI (show i2 < 40 by omega) (by decide)) dX9_copy_184 ?_
                              refine xl_l (y := m8 i2) (congrArg m8 (nI_clamp (show i2 < 2 ^ 31 by omega))) ?_
                              refine va_last hx hb hK hP hD hS 3 1 rfl rfl (vp_in_nI (show 40 + y_33 + i2 < 160 by omega) (by decide)) dX9_copy_185 (fun H locs hP hD hS => ?_)
                              rw [nI_clamp (show 40 + y_33 + i2 < 2 ^ 31 by omega)] at hP hD
                              obtain ⟨f_36, ef_36⟩ : ∃ g, g = vp_updL n8 (40 + y_33 + i2) (m8 i2) := ⟨_, rfl⟩
                              rw [← ef_36] at hP hD
                              have hP : va_P D vwCl [(h0, .inr (9, [.ref ys, .ref yk, .ref yo, .ref yt, .int mk0, .ref yfa, .ref yfe, .int mL, .int mS, .int mM, .ref yro, .ref yhe, .ref ygr, .int mF, .int mC, .int mY, .ref yta, .int (nI (mz)), .int (nI (mf)), .int (nI (mt)), .int mv, .int mw, .ref ywa, .ref ybi, .ref ysi, .ref ynu, .ref ymo])), (ybi, .inl (cI, 4, .inl bi)), (ysi, .inl (cI, 4, .inl sq)), (ynu, .inl (cJ, 160, .inr (.inl f_36))), (ymo, .inl (cJ, 40, .inr (.inl m8))), (yt, .inl (cI, 7, .inl mq))] H := hP
                              have hD : va_D A [(h0, .inr (9, [.ref ys, .ref yk, .ref yo, .ref yt, .int mk0, .ref yfa, .ref yfe, .int mL, .int mS, .int mM, .ref yro, .ref yhe, .ref ygr, .int mF, .int mC, .int mY, .ref yta, .int (nI (mz)), .int (nI (mf)), .int (nI (mt)), .int mv, .int mw, .ref ywa, .ref ybi, .ref ysi, .ref ynu, .ref ymo])), (ybi, .inl (cI, 4, .inl bi)), (ysi, .inl (cI, 4, .inl sq)), (ynu, .inl (cJ, 160, .inr (.inl f_36))), (ymo, .inl (cJ, 40, .inr (.inl m8))), (yt, .inl (cI, 7, .inl mq))] := hD
                              refine lv_iinc (v := nI (i2 + 1)) (lv' := [(6, .int (nI (i2 + 1))), (0, .ref h0), (1, .int 2), (2, .int (nI (y_32))), (3, .int 1), (4, .int (nI (y_33))), (5, .int (nI (y_31)))]) hx hb dX9_copy_186 hl (k := 0) rfl (nI_1 (i2)) (by decide) rfl (fun ls hl => ?_)
                              refine lv_goto (tgt := 157) hx hb dX9_copy_189 (by decide) ?_
                              exact ih_157 (i2 + 1) f_36 _ _ _ (by omega) (by omega) (sp_mv2 hn8 ef_36) (hP.sub [0, 1, 2, 3, 4, 5] rfl) (hD.sub [0, 1, 2, 3, 4, 5] (by decide +kernel) rfl) hS (lv_sub hl [0, 1, 2, 3, 4, 5, 6] rfl)
                        · skip
                          have nc_34 : i < y_31 := xn_nle (a := y_31) (b := i) (by omega) (by omega) c_34
                          refine lv_aload_n hx hb dX9_copy_127 rfl (lv_at hl 1 rfl) ?_
                          refine xg hF kf_X9_53 hK hP 0 rfl rfl dX9_copy_128 ?_
                          refine lv_iload hx hb dX9_copy_131 (lv_at hl 0 rfl) ?_
                          refine lv_aload_n hx hb dX9_copy_133 rfl (lv_at hl 1 rfl) ?_
                          refine xg hF kf_X9_49 hK hP 0 rfl rfl dX9_copy_134 ?_
                          refine lv_bipush (v := 40) hx hb dX9_copy_137 (by decide) ?_
                          refine lv_iload_n hx hb dX9_copy_139 rfl (lv_at hl 2 rfl) ?_
                          refine lv_imul hx hb dX9_copy_140 ?_
                          refine xl_i (y := 80) (by decide) ?_
                          refine lv_iload_n hx hb dX9_copy_141 rfl (lv_at hl 3 rfl) ?_
                          refine lv_iadd hx hb dX9_copy_142 ?_
                          refine xl_i (y := nI (80 + y_32)) (nI_add 80 y_32) ?_
                          refine lv_iload hx hb dX9_copy_143 (lv_at hl 0 rfl) ?_
                          refine lv_iadd hx hb dX9_copy_145 ?_
                          refine xl_i (y := nI (80 + y_32 + i)) (nI_add (80 + y_32) i) ?_
                          refine va_lald hx hb hK hP 3 1 rfl rfl (vp_in_nI (show 80 + y_32 + i < 160 by omega) (by decide)) dX9_copy_146 ?_
                          refine xl_l (y := nb (80 + y_32 + i)) (congrArg nb (nI_clamp (show 80 + y_32 + i < 2 ^ 31 by omega))) ?_
                          refine va_last hx hb hK hP hD hS 4 1 rfl rfl (vp_in_nI (show i < 40 by omega) (by decide)) dX9_copy_147 (fun H locs hP hD hS => ?_)
                          rw [nI_clamp (show i < 2 ^ 31 by omega)] at hP hD
                          obtain ⟨f_37, ef_37⟩ : ∃ g, g = vp_updL m8 i (nb (80 + y_32 + i)) := ⟨_, rfl⟩
                          rw [← ef_37] at hP hD
                          have hP : va_P D vwCl [(h0, .inr (9, [.ref ys, .ref yk, .ref yo, .ref yt, .int mk0, .ref yfa, .ref yfe, .int mL, .int mS, .int mM, .ref yro, .ref yhe, .ref ygr, .int mF, .int mC, .int mY, .ref yta, .int (nI (mz)), .int (nI (mf)), .int (nI (mt)), .int mv, .int mw, .ref ywa, .ref ybi, .ref ysi, .ref ynu, .ref ymo])), (ybi, .inl (cI, 4, .inl bi)), (ysi, .inl (cI, 4, .inl sq)), (ynu, .inl (cJ, 160, .inr (.inl nb))), (ymo, .inl (cJ, 40, .inr (.inl f_37))), (yt, .inl (cI, 7, .inl mq))] H := hP
                          have hD : va_D A [(h0, .inr (9, [.ref ys, .ref yk, .ref yo, .ref yt, .int mk0, .ref yfa, .ref yfe, .int mL, .int mS, .int mM, .ref yro, .ref yhe, .ref ygr, .int mF, .int mC, .int mY, .ref yta, .int (nI (mz)), .int (nI (mf)), .int (nI (mt)), .int mv, .int mw, .ref ywa, .ref ybi, .ref ysi, .ref ynu, .ref ymo])), (ybi, .inl (cI, 4, .inl bi)), (ysi, .inl (cI, 4, .inl sq)), (ynu, .inl (cJ, 160, .inr (.inl nb))), (ymo, .inl (cJ, 40, .inr (.inl f_37))), (yt, .inl (cI, 7, .inl mq))] := hD
                          refine lv_iinc (v := nI (i + 1)) (lv' := [(6, .int (nI (i + 1))), (0, .ref h0), (1, .int 2), (2, .int (nI (y_32))), (3, .int 1), (4, .int (nI (y_33))), (5, .int (nI (y_31)))]) hx hb dX9_copy_148 hl (k := 0) rfl (nI_1 (i)) (by decide) rfl (fun ls hl => ?_)
                          refine lv_goto (tgt := 120) hx hb dX9_copy_151 (by decide) ?_
                          exact ih_120 (i + 1) f_37 _ _ _ (by omega) (by omega) (sp_mv1 hm8 ef_37) (hP.sub [0, 1, 2, 3, 4, 5] rfl) (hD.sub [0, 1, 2, 3, 4, 5] (by decide +kernel) rfl) hS (lv_sub hl [0, 1, 2, 3, 4, 5, 6] rfl)
                    · skip
                      refine lv_aload_n hx hb dX9_copy_110 rfl (lv_at hl 0 rfl) ?_
                      refine lv_ldc (v := (-1000000001)) hx hb hown (hu _ uw648) dX9_copy_111 ?_
                      refine xc_Vi (wr := [(ybi, .inl (cI, 4, .inl bi)), (ysi, .inl (cI, 4, .inl sq)), (ynu, .inl (cJ, 160, .inr (.inl nb))), (ymo, .inl (cJ, 40, .inr (.inl mv9)))]) hF (c_X9_finds_B l D cI cJ cZ cS ta sa sv s.heap.size h0 ys yk yo yt mk0 yfa yfe mL mS mM yro yhe ygr mF mC mY yta mz mf mt mv mw ywa ybi ysi ynu ymo mq ) kv_X9_70 ⟨rfl, rfl, Nat.le_of_ble_eq_true rfl, Nat.le_of_ble_eq_true rfl⟩ ⟨Nat.le_of_ble_eq_true rfl, Nat.le_of_ble_eq_true rfl⟩ hK hN hZ hP hD hS hA [0, 5] [1, 2, 3, 4] rfl rfl rfl rfl (by decide) 0 rfl rfl rfl rfl hl.1 rfl (Nat.le_of_ble_eq_true rfl) dX9_copy_113 (fun r_38 u_r_38 H locs hw_r_38 hP hD hS => ?_)
                      obtain ⟨mq2_39, rfl⟩ : ∃ z, z = u_r_38 := ⟨_, rfl⟩
                      try dsimp only at hw_r_38
                      have hP : va_P D vwCl [(ybi, .inl (cI, 4, .inl bi)), (ysi, .inl (cI, 4, .inl sq)), (ynu, .inl (cJ, 160, .inr (.inl nb))), (ymo, .inl (cJ, 40, .inr (.inl mv9))), (h0, .inr (9, [.ref ys, .ref yk, .ref yo, .ref yt, .int mk0, .ref yfa, .ref yfe, .int mL, .int mS, .int mM, .ref yro, .ref yhe, .ref ygr, .int mF, .int mC, .int mY, .ref yta, .int (nI (mz)), .int (nI (mf)), .int (nI (mt)), .int mv, .int mw, .ref ywa, .ref ybi, .ref ysi, .ref ynu, .ref ymo])), (yt, .inl (cI, 7, .inl mq2_39))] H := hP
                      have hD : va_D A [(ybi, .inl (cI, 4, .inl bi)), (ysi, .inl (cI, 4, .inl sq)), (ynu, .inl (cJ, 160, .inr (.inl nb))), (ymo, .inl (cJ, 40, .inr (.inl mv9))), (h0, .inr (9, [.ref ys, .ref yk, .ref yo, .ref yt, .int mk0, .ref yfa, .ref yfe, .int mL, .int mS, .int mM, .ref yro, .ref yhe, .ref ygr, .int mF, .int mC, .int mY, .ref yta, .int (nI (mz)), .int (nI (mf)), .int (nI (mt)), .int mv, .int mw, .ref ywa, .ref ybi, .ref ysi, .ref ynu, .ref ymo])), (yt, .inl (cI, 7, .inl mq2_39))] := hD
                      subst hw_r_38
                      exact W.iret (v := (-1000000001)) hx hb hr (fun t ht hW => ⟨⟨(-1000000001), (nb, mv9, mq2_39), rfl, ⟨(sp_cr3 c_11 c_14 c_15 (fun q => (sp_s5 hzt c_19 c_22 ex_29 (xlt c_30)) q.2)), (fun j => sp_c0 (fun h => (sp_s5 hzt c_19 c_22 ex_29 (xlt c_30)) h.2.2.2.2)), (fun _ _ => rfl)⟩, by rw [ht]; exact hP.sub [4, 0, 1, 2, 3, 5] rfl, hD.sub [4, 0, 1, 2, 3, 5] (by decide +kernel) rfl⟩, hS.F ht⟩) hS.2.2 dX9_copy_116 hlk
          · skip
            refine lv_aload_n hx hb dX9_copy_62 rfl (lv_at hl 0 rfl) ?_
            refine lv_ldc (v := (-1000000003)) hx hb hown (hu _ uw765) dX9_copy_63 ?_
            refine xc_Vi (wr := [(ybi, .inl (cI, 4, .inl bi)), (ysi, .inl (cI, 4, .inl sq)), (ynu, .inl (cJ, 160, .inr (.inl nb))), (ymo, .inl (cJ, 40, .inr (.inl mv9)))]) hF (c_X9_finds_K l D cI cJ cZ cS ta sa sv s.heap.size h0 ys yk yo yt mk0 yfa yfe mL mS mM yro yhe ygr mF mC mY yta mz mf mt mv mw ywa ybi ysi ynu ymo mq ) kv_X9_70 ⟨rfl, rfl, Nat.le_of_ble_eq_true rfl, Nat.le_of_ble_eq_true rfl⟩ ⟨Nat.le_of_ble_eq_true rfl, Nat.le_of_ble_eq_true rfl⟩ hK hN hZ hP hD hS hA [0, 5] [1, 2, 3, 4] rfl rfl rfl rfl (by decide) 0 rfl rfl rfl rfl hl.1 rfl (Nat.le_of_ble_eq_true rfl) dX9_copy_65 (fun r_40 u_r_40 H locs hw_r_40 hP hD hS => ?_)
            obtain ⟨mq2_41, rfl⟩ : ∃ z, z = u_r_40 := ⟨_, rfl⟩
            try dsimp only at hw_r_40
            have hP : va_P D vwCl [(ybi, .inl (cI, 4, .inl bi)), (ysi, .inl (cI, 4, .inl sq)), (ynu, .inl (cJ, 160, .inr (.inl nb))), (ymo, .inl (cJ, 40, .inr (.inl mv9))), (h0, .inr (9, [.ref ys, .ref yk, .ref yo, .ref yt, .int mk0, .ref yfa, .ref yfe, .int mL, .int mS, .int mM, .ref yro, .ref yhe, .ref ygr, .int mF, .int mC, .int mY, .ref yta, .int (nI (mz)), .int (nI (mf)), .int (nI (mt)), .int mv, .int mw, .ref ywa, .ref ybi, .ref ysi, .ref ynu, .ref ymo])), (yt, .inl (cI, 7, .inl mq2_41))] H := hP
            have hD : va_D A [(ybi, .inl (cI, 4, .inl bi)), (ysi, .inl (cI, 4, .inl sq)), (ynu, .inl (cJ, 160, .inr (.inl nb))), (ymo, .inl (cJ, 40, .inr (.inl mv9))), (h0, .inr (9, [.ref ys, .ref yk, .ref yo, .ref yt, .int mk0, .ref yfa, .ref yfe, .int mL, .int mS, .int mM, .ref yro, .ref yhe, .ref ygr, .int mF, .int mC, .int mY, .ref yta, .int (nI (mz)), .int (nI (mf)), .int (nI (mt)), .int mv, .int mw, .ref ywa, .ref ybi, .ref ysi, .ref ynu, .ref ymo])), (yt, .inl (cI, 7, .inl mq2_41))] := hD
            subst hw_r_40
            exact W.iret (v := (-1000000003)) hx hb hr (fun t ht hW => ⟨⟨(-1000000003), (nb, mv9, mq2_41), rfl, ⟨(sp_cr2 c_11 c_14 c_15), (fun j => sp_c0 (fun h => absurd h.2.2.1 c_15)), (fun _ _ => rfl)⟩, by rw [ht]; exact hP.sub [4, 0, 1, 2, 3, 5] rfl, hD.sub [4, 0, 1, 2, 3, 5] (by decide +kernel) rfl⟩, hS.F ht⟩) hS.2.2 dX9_copy_68 hlk
        · skip
          refine lv_aload_n hx hb dX9_copy_39 rfl (lv_at hl 0 rfl) ?_
          refine lv_ldcw (v := (-1000000006)) hx hb hown (hu _ uw910) dX9_copy_40 ?_
          refine xc_Vi (wr := [(ybi, .inl (cI, 4, .inl bi)), (ysi, .inl (cI, 4, .inl sq)), (ynu, .inl (cJ, 160, .inr (.inl nb))), (ymo, .inl (cJ, 40, .inr (.inl mv9)))]) hF (c_X9_finds_M l D cI cJ cZ cS ta sa sv s.heap.size h0 ys yk yo yt mk0 yfa yfe mL mS mM yro yhe ygr mF mC mY yta mz mf mt mv mw ywa ybi ysi ynu ymo mq ) kv_X9_70 ⟨rfl, rfl, Nat.le_of_ble_eq_true rfl, Nat.le_of_ble_eq_true rfl⟩ ⟨Nat.le_of_ble_eq_true rfl, Nat.le_of_ble_eq_true rfl⟩ hK hN hZ hP hD hS hA [0, 5] [1, 2, 3, 4] rfl rfl rfl rfl (by decide) 0 rfl rfl rfl rfl hl.1 rfl (Nat.le_of_ble_eq_true rfl) dX9_copy_43 (fun r_42 u_r_42 H locs hw_r_42 hP hD hS => ?_)
          obtain ⟨mq2_43, rfl⟩ : ∃ z, z = u_r_42 := ⟨_, rfl⟩
          try dsimp only at hw_r_42
          have hP : va_P D vwCl [(ybi, .inl (cI, 4, .inl bi)), (ysi, .inl (cI, 4, .inl sq)), (ynu, .inl (cJ, 160, .inr (.inl nb))), (ymo, .inl (cJ, 40, .inr (.inl mv9))), (h0, .inr (9, [.ref ys, .ref yk, .ref yo, .ref yt, .int mk0, .ref yfa, .ref yfe, .int mL, .int mS, .int mM, .ref yro, .ref yhe, .ref ygr, .int mF, .int mC, .int mY, .ref yta, .int (nI (mz)), .int (nI (mf)), .int (nI (mt)), .int mv, .int mw, .ref ywa, .ref ybi, .ref ysi, .ref ynu, .ref ymo])), (yt, .inl (cI, 7, .inl mq2_43))] H := hP
          have hD : va_D A [(ybi, .inl (cI, 4, .inl bi)), (ysi, .inl (cI, 4, .inl sq)), (ynu, .inl (cJ, 160, .inr (.inl nb))), (ymo, .inl (cJ, 40, .inr (.inl mv9))), (h0, .inr (9, [.ref ys, .ref yk, .ref yo, .ref yt, .int mk0, .ref yfa, .ref yfe, .int mL, .int mS, .int mM, .ref yro, .ref yhe, .ref ygr, .int mF, .int mC, .int mY, .ref yta, .int (nI (mz)), .int (nI (mf)), .int (nI (mt)), .int mv, .int mw, .ref ywa, .ref ybi, .ref ysi, .ref ynu, .ref ymo])), (yt, .inl (cI, 7, .inl mq2_43))] := hD
          subst hw_r_42
          exact W.iret (v := (-1000000006)) hx hb hr (fun t ht hW => ⟨⟨(-1000000006), (nb, mv9, mq2_43), rfl, ⟨(sp_cr1 (Or.inr c_14)), (fun j => sp_c0 (fun h => h.2.1 c_14)), (fun _ _ => rfl)⟩, by rw [ht]; exact hP.sub [4, 0, 1, 2, 3, 5] rfl, hD.sub [4, 0, 1, 2, 3, 5] (by decide +kernel) rfl⟩, hS.F ht⟩) hS.2.2 dX9_copy_46 hlk
    · exact absurd h_9 (by decide)
  · exact absurd h_4 (by decide)
set_option maxHeartbeats 4000000 in
set_option maxRecDepth 100000 in
theorem c_X9_copy_22 (l : Launch) (D : va_G) (cI cJ cZ cS : ClassId) (ta : Nat) (sa sv : Nat → Nat) (sz : Nat) (h0 : Nat) (ys : Nat) (yk : Nat) (yo : Nat) (yt : Nat) (mk0 : Int32) (yfa : Nat) (yfe : Nat) (mL : Int32) (mS : Int32) (mM : Int32) (yro : Nat) (yhe : Nat) (ygr : Nat) (mF : Int32) (mC : Int32) (mY : Int32) (yta : Nat) (mz : Nat) (mf : Nat) (mt : Nat) (mv : Int32) (mw : Int32) (ywa : Nat) (ybi : Nat) (ysi : Nat) (ynu : Nat) (ymo : Nat) (bi : Nat → Int32) (sq : Nat → Int32) (nb : Nat → Int64) (mv9 : Nat → Int64) (mq : Nat → Int32) (p1 : Int32) (p3 : Int32) (p4 : Int32) (zq : Nat) (zt : Nat) (ez : sq 2 = nI zq) (hzq : zq ≤ 40) (et : sq 2 = nI zt) (hzt : zt ≤ 40) (hsq : BA 4 41 sq) : Met l yX9_copy (Cond.code yX9_copy cX9_copy 7 (some .int) :: wsU) ({ frames := 2, cells := 0, slots := 0, locals := 45 }) (va_Pc [.ref h0, .int 2, .int p1, .int 2, .int p3, .int p4] (XW D (xT cI cJ cZ cS) ta sa sv [(h0, .inr (9, [.ref ys, .ref yk, .ref yo, .ref yt, .int mk0, .ref yfa, .ref yfe, .int mL, .int mS, .int mM, .ref yro, .ref yhe, .ref ygr, .int mF, .int mC, .int mY, .ref yta, .int (nI (mz)), .int (nI (mf)), .int (nI (mt)), .int mv, .int mw, .ref ywa, .ref ybi, .ref ysi, .ref ynu, .ref ymo])), (ybi, .inl (cI, 4, .inl bi)), (ysi, .inl (cI, 4, .inl sq)), (ynu, .inl (cJ, 160, .inr (.inl nb))), (ymo, .inl (cJ, 40, .inr (.inl mv9))), (yt, .inl (cI, 7, .inl mq))] sz)) (XQi (fun (r : Int32) (u : (Nat → Int64) × (Nat → Int64) × (Nat → Int32)) => match u with | (nb2, mv2, mq2) => ((r = sp_cr (bi 2) (bi 2) zq zt p1 p3 p4)) ∧ (∀ j, nb2 (80 + j) = sp_cn (bi 2) (bi 2) zq zt p1 p3 p4 (fun k => nb (80 + k)) j (nb (80 + j))) ∧ (∀ j, j < 80 ∨ 120 ≤ j → nb2 j = nb j)) D (fun (u : (Nat → Int64) × (Nat → Int64) × (Nat → Int32)) => match u with | (nb2, mv2, mq2) => [(h0, .inr (9, [.ref ys, .ref yk, .ref yo, .ref yt, .int mk0, .ref yfa, .ref yfe, .int mL, .int mS, .int mM, .ref yro, .ref yhe, .ref ygr, .int mF, .int mC, .int mY, .ref yta, .int (nI (mz)), .int (nI (mf)), .int (nI (mt)), .int mv, .int mw, .ref ywa, .ref ybi, .ref ysi, .ref ynu, .ref ymo])), (ybi, .inl (cI, 4, .inl bi)), (ysi, .inl (cI, 4, .inl sq)), (ynu, .inl (cJ, 160, .inr (.inl nb2))), (ymo, .inl (cJ, 40, .inr (.inl mv2))), (yt, .inl (cI, 7, .inl mq2))]) (va_A [(h0, .inr (9, [.ref ys, .ref yk, .ref yo, .ref yt, .int mk0, .ref yfa, .ref yfe, .int mL, .int mS, .int mM, .ref yro, .ref yhe, .ref ygr, .int mF, .int mC, .int mY, .ref yta, .int (nI (mz)), .int (nI (mf)), .int (nI (mt)), .int mv, .int mw, .ref ywa, .ref ybi, .ref ysi, .ref ynu, .ref ymo])), (ybi, .inl (cI, 4, .inl bi)), (ysi, .inl (cI, 4, .inl sq)), (ynu, .inl (cJ, 160, .inr (.inl nb))), (ymo, .inl (cJ, 40, .inr (.inl mv9))), (yt, .inl (cI, 7, .inl mq))] sz)) 0 0 (va_A [(h0, .inr (9, [.ref ys, .ref yk, .ref yo, .ref yt, .int mk0, .ref yfa, .ref yfe, .int mL, .int mS, .int mM, .ref yro, .ref yhe, .ref ygr, .int mF, .int mC, .int mY, .ref yta, .int (nI (mz)), .int (nI (mf)), .int (nI (mt)), .int mv, .int mw, .ref ywa, .ref ybi, .ref ysi, .ref ynu, .ref ymo])), (ybi, .inl (cI, 4, .inl bi)), (ysi, .inl (cI, 4, .inl sq)), (ynu, .inl (cJ, 160, .inr (.inl nb))), (ymo, .inl (cJ, 40, .inr (.inl mv9))), (yt, .inl (cI, 7, .inl mq))] sz) := by
  refine xh (QA := fun A => XQi (fun (r : Int32) (u : (Nat → Int64) × (Nat → Int64) × (Nat → Int32)) => match u with | (nb2, mv2, mq2) => ((r = sp_cr (bi 2) (bi 2) zq zt p1 p3 p4)) ∧ (∀ j, nb2 (80 + j) = sp_cn (bi 2) (bi 2) zq zt p1 p3 p4 (fun k => nb (80 + k)) j (nb (80 + j))) ∧ (∀ j, j < 80 ∨ 120 ≤ j → nb2 j = nb j)) D (fun (u : (Nat → Int64) × (Nat → Int64) × (Nat → Int32)) => match u with | (nb2, mv2, mq2) => [(h0, .inr (9, [.ref ys, .ref yk, .ref yo, .ref yt, .int mk0, .ref yfa, .ref yfe, .int mL, .int mS, .int mM, .ref yro, .ref yhe, .ref ygr, .int mF, .int mC, .int mY, .ref yta, .int (nI (mz)), .int (nI (mf)), .int (nI (mt)), .int mv, .int mw, .ref ywa, .ref ybi, .ref ysi, .ref ynu, .ref ymo])), (ybi, .inl (cI, 4, .inl bi)), (ysi, .inl (cI, 4, .inl sq)), (ynu, .inl (cJ, 160, .inr (.inl nb2))), (ymo, .inl (cJ, 40, .inr (.inl mv2))), (yt, .inl (cI, 7, .inl mq2))]) A) (fr := fun A => A) (by decide) (Nat.le_of_ble_eq_true rfl) ?_
  intro p e s m below meth c ls A hF hr hlk hin hsz hP hK hD hN hZ hA hS hl
  have hF : CallFix p m c cX9_copy 7 s _ _ RX9 := hF
  have hx := hF.1
  have hb := hF.2.1
  have hml := hF.2.2.1
  have hown := hF.2.2.2.1
  have hu : ∀ w ∈ wsU, w.before _ s = true := fun w h => hF.2.2.2.2 w (List.mem_cons_of_mem _ h)
  have hl : lv_has ls 7 [(0, .ref h0), (1, .int 2), (2, .int p1), (3, .int 2), (4, .int p3), (5, .int p4)] := hl
  refine lv_iload_n hx hb dX9_copy_0 rfl (lv_at hl 1 rfl) ?_
  refine xc_Sr hF (c_X9_isOne l D cI cJ cZ cS ta sa sv s.heap.size 2 ) ks_X9_305 ⟨rfl, rfl, Nat.le_of_ble_eq_true rfl, Nat.le_of_ble_eq_true rfl⟩ ⟨Nat.le_of_ble_eq_true rfl, Nat.le_of_ble_eq_true rfl⟩ hK hN hZ hP hD hS hA [] rfl rfl rfl hl.1 rfl (Nat.le_of_ble_eq_true rfl) dX9_copy_1 (fun r_1 hw_r_1 => ?_)
  rcases hw_r_1 with ⟨rfl, h_2, h_3⟩ | ⟨rfl, h_4⟩
  · skip
    refine lv_if_eq (tgt := 14) hx hb dX9_copy_4 (by decide) (fun c_5 => absurd c_5 (by decide)) (fun c_5 => ?_)
    refine lv_iload_n hx hb dX9_copy_7 rfl (lv_at hl 3 rfl) ?_
    refine xc_Sr hF (c_X9_isOne l D cI cJ cZ cS ta sa sv s.heap.size 2 ) ks_X9_305 ⟨rfl, rfl, Nat.le_of_ble_eq_true rfl, Nat.le_of_ble_eq_true rfl⟩ ⟨Nat.le_of_ble_eq_true rfl, Nat.le_of_ble_eq_true rfl⟩ hK hN hZ hP hD hS hA [] rfl rfl rfl hl.1 rfl (Nat.le_of_ble_eq_true rfl) dX9_copy_8 (fun r_6 hw_r_6 => ?_)
    rcases hw_r_6 with ⟨rfl, h_7, h_8⟩ | ⟨rfl, h_9⟩
    · skip
      refine lv_if_ne (tgt := 21) hx hb dX9_copy_11 (by decide) (fun c_10 => ?_) (fun c_10 => absurd c_10 (by decide))
      refine lv_aload_n hx hb dX9_copy_21 rfl (lv_at hl 0 rfl) ?_
      refine xg hF kf_X9_43 hK hP 0 rfl rfl dX9_copy_22 ?_
      refine lv_iload_n hx hb dX9_copy_25 rfl (lv_at hl 1 rfl) ?_
      refine va_iald hx hb hK hP 1 0 rfl rfl (xin 2 4 (by decide) (by decide)) dX9_copy_26 ?_
      refine xl_i (y := bi 2) (congrArg bi rfl) ?_
      refine lv_if_eq (tgt := 39) hx hb dX9_copy_27 (by decide) (fun c_11 => ?_) (fun c_11 => ?_)
      · skip
        refine lv_aload_n hx hb dX9_copy_39 rfl (lv_at hl 0 rfl) ?_
        refine lv_ldcw (v := (-1000000006)) hx hb hown (hu _ uw910) dX9_copy_40 ?_
        refine xc_Vi (wr := [(ybi, .inl (cI, 4, .inl bi)), (ysi, .inl (cI, 4, .inl sq)), (ynu, .inl (cJ, 160, .inr (.inl nb))), (ymo, .inl (cJ, 40, .inr (.inl mv9)))]) hF (c_X9_finds_M l D cI cJ cZ cS ta sa sv s.heap.size h0 ys yk yo yt mk0 yfa yfe mL mS mM yro yhe ygr mF mC mY yta mz mf mt mv mw ywa ybi ysi ynu ymo mq ) kv_X9_70 ⟨rfl, rfl, Nat.le_of_ble_eq_true rfl, Nat.le_of_ble_eq_true rfl⟩ ⟨Nat.le_of_ble_eq_true rfl, Nat.le_of_ble_eq_true rfl⟩ hK hN hZ hP hD hS hA [0, 5] [1, 2, 3, 4] rfl rfl rfl rfl (by decide) 0 rfl rfl rfl rfl hl.1 rfl (Nat.le_of_ble_eq_true rfl) dX9_copy_43 (fun r_12 u_r_12 H locs hw_r_12 hP hD hS => ?_)
        obtain ⟨mq2_13, rfl⟩ : ∃ z, z = u_r_12 := ⟨_, rfl⟩
        try dsimp only at hw_r_12
        have hP : va_P D vwCl [(ybi, .inl (cI, 4, .inl bi)), (ysi, .inl (cI, 4, .inl sq)), (ynu, .inl (cJ, 160, .inr (.inl nb))), (ymo, .inl (cJ, 40, .inr (.inl mv9))), (h0, .inr (9, [.ref ys, .ref yk, .ref yo, .ref yt, .int mk0, .ref yfa, .ref yfe, .int mL, .int mS, .int mM, .ref yro, .ref yhe, .ref ygr, .int mF, .int mC, .int mY, .ref yta, .int (nI (mz)), .int (nI (mf)), .int (nI (mt)), .int mv, .int mw, .ref ywa, .ref ybi, .ref ysi, .ref ynu, .ref ymo])), (yt, .inl (cI, 7, .inl mq2_13))] H := hP
        have hD : va_D A [(ybi, .inl (cI, 4, .inl bi)), (ysi, .inl (cI, 4, .inl sq)), (ynu, .inl (cJ, 160, .inr (.inl nb))), (ymo, .inl (cJ, 40, .inr (.inl mv9))), (h0, .inr (9, [.ref ys, .ref yk, .ref yo, .ref yt, .int mk0, .ref yfa, .ref yfe, .int mL, .int mS, .int mM, .ref yro, .ref yhe, .ref ygr, .int mF, .int mC, .int mY, .ref yta, .int (nI (mz)), .int (nI (mf)), .int (nI (mt)), .int mv, .int mw, .ref ywa, .ref ybi, .ref ysi, .ref ynu, .ref ymo])), (yt, .inl (cI, 7, .inl mq2_13))] := hD
        subst hw_r_12
        exact W.iret (v := (-1000000006)) hx hb hr (fun t ht hW => ⟨⟨(-1000000006), (nb, mv9, mq2_13), rfl, ⟨(sp_cr1 (Or.inl c_11)), (fun j => sp_c0 (fun h => h.1 c_11)), (fun _ _ => rfl)⟩, by rw [ht]; exact hP.sub [4, 0, 1, 2, 3, 5] rfl, hD.sub [4, 0, 1, 2, 3, 5] (by decide +kernel) rfl⟩, hS.F ht⟩) hS.2.2 dX9_copy_46 hlk
      · skip
        refine lv_aload_n hx hb dX9_copy_30 rfl (lv_at hl 0 rfl) ?_
        refine xg hF kf_X9_43 hK hP 0 rfl rfl dX9_copy_31 ?_
        refine lv_iload_n hx hb dX9_copy_34 rfl (lv_at hl 3 rfl) ?_
        refine va_iald hx hb hK hP 1 0 rfl rfl (xin 2 4 (by decide) (by decide)) dX9_copy_35 ?_
        refine xl_i (y := bi 2) (congrArg bi rfl) ?_
        refine lv_if_ne (tgt := 47) hx hb dX9_copy_36 (by decide) (fun c_14 => ?_) (fun c_14 => ?_)
        · skip
          refine lv_aload_n hx hb dX9_copy_47 rfl (lv_at hl 0 rfl) ?_
          refine xg hF kf_X9_43 hK hP 0 rfl rfl dX9_copy_48 ?_
          refine lv_iload_n hx hb dX9_copy_51 rfl (lv_at hl 1 rfl) ?_
          refine va_iald hx hb hK hP 1 0 rfl rfl (xin 2 4 (by decide) (by decide)) dX9_copy_52 ?_
          refine xl_i (y := bi 2) (congrArg bi rfl) ?_
          refine lv_aload_n hx hb dX9_copy_53 rfl (lv_at hl 0 rfl) ?_
          refine xg hF kf_X9_43 hK hP 0 rfl rfl dX9_copy_54 ?_
          refine lv_iload_n hx hb dX9_copy_57 rfl (lv_at hl 3 rfl) ?_
          refine va_iald hx hb hK hP 1 0 rfl rfl (xin 2 4 (by decide) (by decide)) dX9_copy_58 ?_
          refine xl_i (y := bi 2) (congrArg bi rfl) ?_
          refine lv_icmp_eq (tgt := 69) hx hb dX9_copy_59 (by decide) (fun c_15 => ?_) (fun c_15 => absurd rfl c_15)
          refine lv_iload_n hx hb dX9_copy_69 rfl (lv_at hl 2 rfl) ?_
          refine lv_if_lt (tgt := 110) hx hb dX9_copy_70 (by decide) (fun c_16 => ?_) (fun c_16 => ?_)
          · skip
            refine lv_aload_n hx hb dX9_copy_110 rfl (lv_at hl 0 rfl) ?_
            refine lv_ldc (v := (-1000000001)) hx hb hown (hu _ uw648) dX9_copy_111 ?_
            refine xc_Vi (wr := [(ybi, .inl (cI, 4, .inl bi)), (ysi, .inl (cI, 4, .inl sq)), (ynu, .inl (cJ, 160, .inr (.inl nb))), (ymo, .inl (cJ, 40, .inr (.inl mv9)))]) hF (c_X9_finds_B l D cI cJ cZ cS ta sa sv s.heap.size h0 ys yk yo yt mk0 yfa yfe mL mS mM yro yhe ygr mF mC mY yta mz mf mt mv mw ywa ybi ysi ynu ymo mq ) kv_X9_70 ⟨rfl, rfl, Nat.le_of_ble_eq_true rfl, Nat.le_of_ble_eq_true rfl⟩ ⟨Nat.le_of_ble_eq_true rfl, Nat.le_of_ble_eq_true rfl⟩ hK hN hZ hP hD hS hA [0, 5] [1, 2, 3, 4] rfl rfl rfl rfl (by decide) 0 rfl rfl rfl rfl hl.1 rfl (Nat.le_of_ble_eq_true rfl) dX9_copy_113 (fun r_17 u_r_17 H locs hw_r_17 hP hD hS => ?_)
            obtain ⟨mq2_18, rfl⟩ : ∃ z, z = u_r_17 := ⟨_, rfl⟩
            try dsimp only at hw_r_17
            have hP : va_P D vwCl [(ybi, .inl (cI, 4, .inl bi)), (ysi, .inl (cI, 4, .inl sq)), (ynu, .inl (cJ, 160, .inr (.inl nb))), (ymo, .inl (cJ, 40, .inr (.inl mv9))), (h0, .inr (9, [.ref ys, .ref yk, .ref yo, .ref yt, .int mk0, .ref yfa, .ref yfe, .int mL, .int mS, .int mM, .ref yro, .ref yhe, .ref ygr, .int mF, .int mC, .int mY, .ref yta, .int (nI (mz)), .int (nI (mf)), .int (nI (mt)), .int mv, .int mw, .ref ywa, .ref ybi, .ref ysi, .ref ynu, .ref ymo])), (yt, .inl (cI, 7, .inl mq2_18))] H := hP
            have hD : va_D A [(ybi, .inl (cI, 4, .inl bi)), (ysi, .inl (cI, 4, .inl sq)), (ynu, .inl (cJ, 160, .inr (.inl nb))), (ymo, .inl (cJ, 40, .inr (.inl mv9))), (h0, .inr (9, [.ref ys, .ref yk, .ref yo, .ref yt, .int mk0, .ref yfa, .ref yfe, .int mL, .int mS, .int mM, .ref yro, .ref yhe, .ref ygr, .int mF, .int mC, .int mY, .ref yta, .int (nI (mz)), .int (nI (mf)), .int (nI (mt)), .int mv, .int mw, .ref ywa, .ref ybi, .ref ysi, .ref ynu, .ref ymo])), (yt, .inl (cI, 7, .inl mq2_18))] := hD
            subst hw_r_17
            exact W.iret (v := (-1000000001)) hx hb hr (fun t ht hW => ⟨⟨(-1000000001), (nb, mv9, mq2_18), rfl, ⟨(sp_cr3 c_14 c_14 rfl (fun q => (sp_s1 c_16) q.1)), (fun j => sp_c0 (fun h => (sp_s1 c_16) h.2.2.2.1)), (fun _ _ => rfl)⟩, by rw [ht]; exact hP.sub [4, 0, 1, 2, 3, 5] rfl, hD.sub [4, 0, 1, 2, 3, 5] (by decide +kernel) rfl⟩, hS.F ht⟩) hS.2.2 dX9_copy_116 hlk
          · skip
            refine lv_iload hx hb dX9_copy_73 (lv_at hl 4 rfl) ?_
            refine lv_if_lt (tgt := 110) hx hb dX9_copy_75 (by decide) (fun c_19 => ?_) (fun c_19 => ?_)
            · skip
              refine lv_aload_n hx hb dX9_copy_110 rfl (lv_at hl 0 rfl) ?_
              refine lv_ldc (v := (-1000000001)) hx hb hown (hu _ uw648) dX9_copy_111 ?_
              refine xc_Vi (wr := [(ybi, .inl (cI, 4, .inl bi)), (ysi, .inl (cI, 4, .inl sq)), (ynu, .inl (cJ, 160, .inr (.inl nb))), (ymo, .inl (cJ, 40, .inr (.inl mv9)))]) hF (c_X9_finds_B l D cI cJ cZ cS ta sa sv s.heap.size h0 ys yk yo yt mk0 yfa yfe mL mS mM yro yhe ygr mF mC mY yta mz mf mt mv mw ywa ybi ysi ynu ymo mq ) kv_X9_70 ⟨rfl, rfl, Nat.le_of_ble_eq_true rfl, Nat.le_of_ble_eq_true rfl⟩ ⟨Nat.le_of_ble_eq_true rfl, Nat.le_of_ble_eq_true rfl⟩ hK hN hZ hP hD hS hA [0, 5] [1, 2, 3, 4] rfl rfl rfl rfl (by decide) 0 rfl rfl rfl rfl hl.1 rfl (Nat.le_of_ble_eq_true rfl) dX9_copy_113 (fun r_20 u_r_20 H locs hw_r_20 hP hD hS => ?_)
              obtain ⟨mq2_21, rfl⟩ : ∃ z, z = u_r_20 := ⟨_, rfl⟩
              try dsimp only at hw_r_20
              have hP : va_P D vwCl [(ybi, .inl (cI, 4, .inl bi)), (ysi, .inl (cI, 4, .inl sq)), (ynu, .inl (cJ, 160, .inr (.inl nb))), (ymo, .inl (cJ, 40, .inr (.inl mv9))), (h0, .inr (9, [.ref ys, .ref yk, .ref yo, .ref yt, .int mk0, .ref yfa, .ref yfe, .int mL, .int mS, .int mM, .ref yro, .ref yhe, .ref ygr, .int mF, .int mC, .int mY, .ref yta, .int (nI (mz)), .int (nI (mf)), .int (nI (mt)), .int mv, .int mw, .ref ywa, .ref ybi, .ref ysi, .ref ynu, .ref ymo])), (yt, .inl (cI, 7, .inl mq2_21))] H := hP
              have hD : va_D A [(ybi, .inl (cI, 4, .inl bi)), (ysi, .inl (cI, 4, .inl sq)), (ynu, .inl (cJ, 160, .inr (.inl nb))), (ymo, .inl (cJ, 40, .inr (.inl mv9))), (h0, .inr (9, [.ref ys, .ref yk, .ref yo, .ref yt, .int mk0, .ref yfa, .ref yfe, .int mL, .int mS, .int mM, .ref yro, .ref yhe, .ref ygr, .int mF, .int mC, .int mY, .ref yta, .int (nI (mz)), .int (nI (mf)), .int (nI (mt)), .int mv, .int mw, .ref ywa, .ref ybi, .ref ysi, .ref ynu, .ref ymo])), (yt, .inl (cI, 7, .inl mq2_21))] := hD
              subst hw_r_20
              exact W.iret (v := (-1000000001)) hx hb hr (fun t ht hW => ⟨⟨(-1000000001), (nb, mv9, mq2_21), rfl, ⟨(sp_cr3 c_14 c_14 rfl (fun q => (sp_s1 c_19) q.2)), (fun j => sp_c0 (fun h => (sp_s1 c_19) h.2.2.2.2)), (fun _ _ => rfl)⟩, by rw [ht]; exact hP.sub [4, 0, 1, 2, 3, 5] rfl, hD.sub [4, 0, 1, 2, 3, 5] (by decide +kernel) rfl⟩, hS.F ht⟩) hS.2.2 dX9_copy_116 hlk
            · skip
              refine lv_iload hx hb dX9_copy_78 (lv_at hl 5 rfl) ?_
              refine lv_if_lt (tgt := 110) hx hb dX9_copy_80 (by decide) (fun c_22 => ?_) (fun c_22 => ?_)
              · skip
                refine lv_aload_n hx hb dX9_copy_110 rfl (lv_at hl 0 rfl) ?_
                refine lv_ldc (v := (-1000000001)) hx hb hown (hu _ uw648) dX9_copy_111 ?_
                refine xc_Vi (wr := [(ybi, .inl (cI, 4, .inl bi)), (ysi, .inl (cI, 4, .inl sq)), (ynu, .inl (cJ, 160, .inr (.inl nb))), (ymo, .inl (cJ, 40, .inr (.inl mv9)))]) hF (c_X9_finds_B l D cI cJ cZ cS ta sa sv s.heap.size h0 ys yk yo yt mk0 yfa yfe mL mS mM yro yhe ygr mF mC mY yta mz mf mt mv mw ywa ybi ysi ynu ymo mq ) kv_X9_70 ⟨rfl, rfl, Nat.le_of_ble_eq_true rfl, Nat.le_of_ble_eq_true rfl⟩ ⟨Nat.le_of_ble_eq_true rfl, Nat.le_of_ble_eq_true rfl⟩ hK hN hZ hP hD hS hA [0, 5] [1, 2, 3, 4] rfl rfl rfl rfl (by decide) 0 rfl rfl rfl rfl hl.1 rfl (Nat.le_of_ble_eq_true rfl) dX9_copy_113 (fun r_23 u_r_23 H locs hw_r_23 hP hD hS => ?_)
                obtain ⟨mq2_24, rfl⟩ : ∃ z, z = u_r_23 := ⟨_, rfl⟩
                try dsimp only at hw_r_23
                have hP : va_P D vwCl [(ybi, .inl (cI, 4, .inl bi)), (ysi, .inl (cI, 4, .inl sq)), (ynu, .inl (cJ, 160, .inr (.inl nb))), (ymo, .inl (cJ, 40, .inr (.inl mv9))), (h0, .inr (9, [.ref ys, .ref yk, .ref yo, .ref yt, .int mk0, .ref yfa, .ref yfe, .int mL, .int mS, .int mM, .ref yro, .ref yhe, .ref ygr, .int mF, .int mC, .int mY, .ref yta, .int (nI (mz)), .int (nI (mf)), .int (nI (mt)), .int mv, .int mw, .ref ywa, .ref ybi, .ref ysi, .ref ynu, .ref ymo])), (yt, .inl (cI, 7, .inl mq2_24))] H := hP
                have hD : va_D A [(ybi, .inl (cI, 4, .inl bi)), (ysi, .inl (cI, 4, .inl sq)), (ynu, .inl (cJ, 160, .inr (.inl nb))), (ymo, .inl (cJ, 40, .inr (.inl mv9))), (h0, .inr (9, [.ref ys, .ref yk, .ref yo, .ref yt, .int mk0, .ref yfa, .ref yfe, .int mL, .int mS, .int mM, .ref yro, .ref yhe, .ref ygr, .int mF, .int mC, .int mY, .ref yta, .int (nI (mz)), .int (nI (mf)), .int (nI (mt)), .int mv, .int mw, .ref ywa, .ref ybi, .ref ysi, .ref ynu, .ref ymo])), (yt, .inl (cI, 7, .inl mq2_24))] := hD
                subst hw_r_23
                exact W.iret (v := (-1000000001)) hx hb hr (fun t ht hW => ⟨⟨(-1000000001), (nb, mv9, mq2_24), rfl, ⟨(sp_cr3 c_14 c_14 rfl (fun q => (sp_s2 c_22) q.1)), (fun j => sp_c0 (fun h => (sp_s2 c_22) h.2.2.2.1)), (fun _ _ => rfl)⟩, by rw [ht]; exact hP.sub [4, 0, 1, 2, 3, 5] rfl, hD.sub [4, 0, 1, 2, 3, 5] (by decide +kernel) rfl⟩, hS.F ht⟩) hS.2.2 dX9_copy_116 hlk
              · skip
                refine lv_iload hx hb dX9_copy_83 (lv_at hl 5 rfl) ?_
                refine lv_aload_n hx hb dX9_copy_85 rfl (lv_at hl 0 rfl) ?_
                refine xg hF kf_X9_46 hK hP 0 rfl rfl dX9_copy_86 ?_
                refine lv_iload_n hx hb dX9_copy_89 rfl (lv_at hl 1 rfl) ?_
                refine va_iald hx hb hK hP 2 0 rfl rfl (xin 2 4 (by decide) (by decide)) dX9_copy_90 ?_
                refine xl_i (y := sq 2) (congrArg sq rfl) ?_
                refine xl_i (y := nI (zq)) ez ?_
                refine lv_iload_n hx hb dX9_copy_91 rfl (lv_at hl 2 rfl) ?_
                refine lv_isub hx hb dX9_copy_92 ?_
                refine lv_topi (fun x_25 ex_25 => ?_)
                refine lv_icmp_gt (tgt := 110) hx hb dX9_copy_93 (by decide) (fun c_26 => ?_) (fun c_26 => ?_)
                · skip
                  refine lv_aload_n hx hb dX9_copy_110 rfl (lv_at hl 0 rfl) ?_
                  refine lv_ldc (v := (-1000000001)) hx hb hown (hu _ uw648) dX9_copy_111 ?_
                  refine xc_Vi (wr := [(ybi, .inl (cI, 4, .inl bi)), (ysi, .inl (cI, 4, .inl sq)), (ynu, .inl (cJ, 160, .inr (.inl nb))), (ymo, .inl (cJ, 40, .inr (.inl mv9)))]) hF (c_X9_finds_B l D cI cJ cZ cS ta sa sv s.heap.size h0 ys yk yo yt mk0 yfa yfe mL mS mM yro yhe ygr mF mC mY yta mz mf mt mv mw ywa ybi ysi ynu ymo mq ) kv_X9_70 ⟨rfl, rfl, Nat.le_of_ble_eq_true rfl, Nat.le_of_ble_eq_true rfl⟩ ⟨Nat.le_of_ble_eq_true rfl, Nat.le_of_ble_eq_true rfl⟩ hK hN hZ hP hD hS hA [0, 5] [1, 2, 3, 4] rfl rfl rfl rfl (by decide) 0 rfl rfl rfl rfl hl.1 rfl (Nat.le_of_ble_eq_true rfl) dX9_copy_113 (fun r_27 u_r_27 H locs hw_r_27 hP hD hS => ?_)
                  obtain ⟨mq2_28, rfl⟩ : ∃ z, z = u_r_27 := ⟨_, rfl⟩
                  try dsimp only at hw_r_27
                  have hP : va_P D vwCl [(ybi, .inl (cI, 4, .inl bi)), (ysi, .inl (cI, 4, .inl sq)), (ynu, .inl (cJ, 160, .inr (.inl nb))), (ymo, .inl (cJ, 40, .inr (.inl mv9))), (h0, .inr (9, [.ref ys, .ref yk, .ref yo, .ref yt, .int mk0, .ref yfa, .ref yfe, .int mL, .int mS, .int mM, .ref yro, .ref yhe, .ref ygr, .int mF, .int mC, .int mY, .ref yta, .int (nI (mz)), .int (nI (mf)), .int (nI (mt)), .int mv, .int mw, .ref ywa, .ref ybi, .ref ysi, .ref ynu, .ref ymo])), (yt, .inl (cI, 7, .inl mq2_28))] H := hP
                  have hD : va_D A [(ybi, .inl (cI, 4, .inl bi)), (ysi, .inl (cI, 4, .inl sq)), (ynu, .inl (cJ, 160, .inr (.inl nb))), (ymo, .inl (cJ, 40, .inr (.inl mv9))), (h0, .inr (9, [.ref ys, .ref yk, .ref yo, .ref yt, .int mk0, .ref yfa, .ref yfe, .int mL, .int mS, .int mM, .ref yro, .ref yhe, .ref ygr, .int mF, .int mC, .int mY, .ref yta, .int (nI (mz)), .int (nI (mf)), .int (nI (mt)), .int mv, .int mw, .ref ywa, .ref ybi, .ref ysi, .ref ynu, .ref ymo])), (yt, .inl (cI, 7, .inl mq2_28))] := hD
                  subst hw_r_27
                  exact W.iret (v := (-1000000001)) hx hb hr (fun t ht hW => ⟨⟨(-1000000001), (nb, mv9, mq2_28), rfl, ⟨(sp_cr3 c_14 c_14 rfl (fun q => (sp_s5 hzq c_16 c_22 ex_25 c_26) q.1)), (fun j => sp_c0 (fun h => (sp_s5 hzq c_16 c_22 ex_25 c_26) h.2.2.2.1)), (fun _ _ => rfl)⟩, by rw [ht]; exact hP.sub [4, 0, 1, 2, 3, 5] rfl, hD.sub [4, 0, 1, 2, 3, 5] (by decide +kernel) rfl⟩, hS.F ht⟩) hS.2.2 dX9_copy_116 hlk
                · skip
                  refine lv_iload hx hb dX9_copy_96 (lv_at hl 5 rfl) ?_
                  refine lv_aload_n hx hb dX9_copy_98 rfl (lv_at hl 0 rfl) ?_
                  refine xg hF kf_X9_46 hK hP 0 rfl rfl dX9_copy_99 ?_
                  refine lv_iload_n hx hb dX9_copy_102 rfl (lv_at hl 3 rfl) ?_
                  refine va_iald hx hb hK hP 2 0 rfl rfl (xin 2 4 (by decide) (by decide)) dX9_copy_103 ?_
                  refine xl_i (y := sq 2) (congrArg sq rfl) ?_
                  refine xl_i (y := nI (zt)) et ?_
                  refine lv_iload hx hb dX9_copy_104 (lv_at hl 4 rfl) ?_
                  refine lv_isub hx hb dX9_copy_106 ?_
                  refine lv_topi (fun x_29 ex_29 => ?_)
                  refine lv_icmp_le (tgt := 117) hx hb dX9_copy_107 (by decide) (fun c_30 => ?_) (fun c_30 => ?_)
                  · skip
                    obtain ⟨y_31, hy_31, rfl⟩ := x_spk (by omega) c_16 c_22 ex_25 c_26
                    obtain ⟨y_32, hy_32, rfl⟩ := x_spj (by omega) (by omega) c_16 ex_25 c_26
                    obtain ⟨y_33, hy_33, rfl⟩ := x_spj (by omega) (by omega) c_19 ex_29 (Int32.not_lt.mpr c_30)
                    refine lv_iconst (v := 0) hx hb dX9_copy_117 (by decide) ?_
                    refine lv_istore (lv' := [(6, .int 0), (0, .ref h0), (1, .int 2), (2, .int (nI (y_32))), (3, .int 2), (4, .int (nI (y_33))), (5, .int (nI (y_31)))]) hx hb dX9_copy_118 hl (by decide) rfl (fun ls hl => ?_)
                    suffices loop_120 : ∀ (n_120 : Nat) (i : Nat) (m8 : Nat → Int64) (H : Heap) (locs : List Loc) (ls : Array Slot), y_31 - i < n_120 → (i ≤ y_31) → (∀ j, j < i → m8 j = nb (80 + y_32 + j)) → va_P D vwCl [(h0, .inr (9, [.ref ys, .ref yk, .ref yo, .ref yt, .int mk0, .ref yfa, .ref yfe, .int mL, .int mS, .int mM, .ref yro, .ref yhe, .ref ygr, .int mF, .int mC, .int mY, .ref yta, .int (nI (mz)), .int (nI (mf)), .int (nI (mt)), .int mv, .int mw, .ref ywa, .ref ybi, .ref ysi, .ref ynu, .ref ymo])), (ybi, .inl (cI, 4, .inl bi)), (ysi, .inl (cI, 4, .inl sq)), (ynu, .inl (cJ, 160, .inr (.inl nb))), (ymo, .inl (cJ, 40, .inr (.inl m8))), (yt, .inl (cI, 7, .inl mq))] H → va_D A [(h0, .inr (9, [.ref ys, .ref yk, .ref yo, .ref yt, .int mk0, .ref yfa, .ref yfe, .int mL, .int mS, .int mM, .ref yro, .ref yhe, .ref ygr, .int mF, .int mC, .int mY, .ref yta, .int (nI (mz)), .int (nI (mf)), .int (nI (mt)), .int mv, .int mw, .ref ywa, .ref ybi, .ref ysi, .ref ynu, .ref ymo])), (ybi, .inl (cI, 4, .inl bi)), (ysi, .inl (cI, 4, .inl sq)), (ynu, .inl (cJ, 160, .inr (.inl nb))), (ymo, .inl (cJ, 40, .inr (.inl m8))), (yt, .inl (cI, 7, .inl mq))] → va_S A s.heap H locs → lv_has ls 7 [(6, .int (nI (i))), (0, .ref h0), (1, .int 2), (2, .int (nI (y_32))), (3, .int 2), (4, .int (nI (y_33))), (5, .int (nI (y_31)))] → W p l e ({ frames := 2, cells := 0, slots := 0, locals := 45 }) s m ([.ref h0, .int 2, .int (nI (y_32)), .int 2, .int (nI (y_33)), .int (nI (y_31))] : List Value).toArray below meth c H locs 0 0 (MQ below (XQi (fun (r : Int32) (u : (Nat → Int64) × (Nat → Int64) × (Nat → Int32)) => match u with | (nb2, mv2, mq2) => ((r = sp_cr (bi 2) (bi 2) zq zt (nI (y_32)) (nI (y_33)) (nI (y_31)))) ∧ (∀ j, nb2 (80 + j) = sp_cn (bi 2) (bi 2) zq zt (nI (y_32)) (nI (y_33)) (nI (y_31)) (fun k => nb (80 + k)) j (nb (80 + j))) ∧ (∀ j, j < 80 ∨ 120 ≤ j → nb2 j = nb j)) D (fun (u : (Nat → Int64) × (Nat → Int64) × (Nat → Int32)) => match u with | (nb2, mv2, mq2) => [(h0, .inr (9, [.ref ys, .ref yk, .ref yo, .ref yt, .int mk0, .ref yfa, .ref yfe, .int mL, .int mS, .int mM, .ref yro, .ref yhe, .ref ygr, .int mF, .int mC, .int mY, .ref yta, .int (nI (mz)), .int (nI (mf)), .int (nI (mt)), .int mv, .int mw, .ref ywa, .ref ybi, .ref ysi, .ref ynu, .ref ymo])), (ybi, .inl (cI, 4, .inl bi)), (ysi, .inl (cI, 4, .inl sq)), (ynu, .inl (cJ, 160, .inr (.inl nb2))), (ymo, .inl (cJ, 40, .inr (.inl mv2))), (yt, .inl (cI, 7, .inl mq2))]) A) ([.ref h0, .int 2, .int (nI (y_32)), .int 2, .int (nI (y_33)), .int (nI (y_31))] : List Value).toArray s 0 0 A) (F0 m 120 ls []) by
                      exact loop_120 _ 0 mv9 _ _ _ (Nat.lt_succ_self _) (by omega) (fun j hj => absurd hj (Nat.not_lt_zero _)) hP hD hS (lv_sub hl [0, 1, 2, 3, 4, 5, 6] rfl)
                    intro n_120
                    induction n_120 with
                    | zero =>
                      intro i m8 H locs ls hm_120
                      exact absurd hm_120 (Nat.not_lt_zero _)
                    | succ n_120 ih_120 =>
                      intro i m8 H locs ls hm_120 hi hm8 hP hD hS hl
                      refine lv_iload hx hb dX9_copy_120 (lv_at hl 0 rfl) ?_
                      refine lv_iload hx hb dX9_copy_122 (lv_at hl 6 rfl) ?_
                      refine lv_icmp_ge (tgt := 154) hx hb dX9_copy_124 (by decide) (fun c_34 => ?_) (fun c_34 => ?_)
                      · skip
                        have nc_34 : y_31 ≤ i := xn_le (a := y_31) (b := i) (by omega) (by omega) c_34
                        refine lv_iconst (v := 0) hx hb dX9_copy_154 (by decide) ?_
                        refine lv_istore (lv' := [(6, .int 0), (0, .ref h0), (1, .int 2), (2, .int (nI (y_32))), (3, .int 2), (4, .int (nI (y_33))), (5, .int (nI (y_31)))]) hx hb dX9_copy_155 hl (by decide) rfl (fun ls hl => ?_)
                        suffices loop_157 : ∀ (n_157 : Nat) (i2 : Nat) (n8 : Nat → Int64) (H : Heap) (locs : List Loc) (ls : Array Slot), y_31 - i2 < n_157 → (i2 ≤ y_31) → (∀ j, n8 j = if 80 + y_33 ≤ j ∧ j < 80 + y_33 + i2 then m8 (j - (80 + y_33)) else nb j) → va_P D vwCl [(h0, .inr (9, [.ref ys, .ref yk, .ref yo, .ref yt, .int mk0, .ref yfa, .ref yfe, .int mL, .int mS, .int mM, .ref yro, .ref yhe, .ref ygr, .int mF, .int mC, .int mY, .ref yta, .int (nI (mz)), .int (nI (mf)), .int (nI (mt)), .int mv, .int mw, .ref ywa, .ref ybi, .ref ysi, .ref ynu, .ref ymo])), (ybi, .inl (cI, 4, .inl bi)), (ysi, .inl (cI, 4, .inl sq)), (ynu, .inl (cJ, 160, .inr (.inl n8))), (ymo, .inl (cJ, 40, .inr (.inl m8))), (yt, .inl (cI, 7, .inl mq))] H → va_D A [(h0, .inr (9, [.ref ys, .ref yk, .ref yo, .ref yt, .int mk0, .ref yfa, .ref yfe, .int mL, .int mS, .int mM, .ref yro, .ref yhe, .ref ygr, .int mF, .int mC, .int mY, .ref yta, .int (nI (mz)), .int (nI (mf)), .int (nI (mt)), .int mv, .int mw, .ref ywa, .ref ybi, .ref ysi, .ref ynu, .ref ymo])), (ybi, .inl (cI, 4, .inl bi)), (ysi, .inl (cI, 4, .inl sq)), (ynu, .inl (cJ, 160, .inr (.inl n8))), (ymo, .inl (cJ, 40, .inr (.inl m8))), (yt, .inl (cI, 7, .inl mq))] → va_S A s.heap H locs → lv_has ls 7 [(6, .int (nI (i2))), (0, .ref h0), (1, .int 2), (2, .int (nI (y_32))), (3, .int 2), (4, .int (nI (y_33))), (5, .int (nI (y_31)))] → W p l e ({ frames := 2, cells := 0, slots := 0, locals := 45 }) s m ([.ref h0, .int 2, .int (nI (y_32)), .int 2, .int (nI (y_33)), .int (nI (y_31))] : List Value).toArray below meth c H locs 0 0 (MQ below (XQi (fun (r : Int32) (u : (Nat → Int64) × (Nat → Int64) × (Nat → Int32)) => match u with | (nb2, mv2, mq2) => ((r = sp_cr (bi 2) (bi 2) zq zt (nI (y_32)) (nI (y_33)) (nI (y_31)))) ∧ (∀ j, nb2 (80 + j) = sp_cn (bi 2) (bi 2) zq zt (nI (y_32)) (nI (y_33)) (nI (y_31)) (fun k => nb (80 + k)) j (nb (80 + j))) ∧ (∀ j, j < 80 ∨ 120 ≤ j → nb2 j = nb j)) D (fun (u : (Nat → Int64) × (Nat → Int64) × (Nat → Int32)) => match u with | (nb2, mv2, mq2) => [(h0, .inr (9, [.ref ys, .ref yk, .ref yo, .ref yt, .int mk0, .ref yfa, .ref yfe, .int mL, .int mS, .int mM, .ref yro, .ref yhe, .ref ygr, .int mF, .int mC, .int mY, .ref yta, .int (nI (mz)), .int (nI (mf)), .int (nI (mt)), .int mv, .int mw, .ref ywa, .ref ybi, .ref ysi, .ref ynu, .ref ymo])), (ybi, .inl (cI, 4, .inl bi)), (ysi, .inl (cI, 4, .inl sq)), (ynu, .inl (cJ, 160, .inr (.inl nb2))), (ymo, .inl (cJ, 40, .inr (.inl mv2))), (yt, .inl (cI, 7, .inl mq2))]) A) ([.ref h0, .int 2, .int (nI (y_32)), .int 2, .int (nI (y_33)), .int (nI (y_31))] : List Value).toArray s 0 0 A) (F0 m 157 ls []) by
                          exact loop_157 _ 0 nb _ _ _ (Nat.lt_succ_self _) (by omega) (fun j => (if_neg (by omega)).symm) hP hD hS (lv_sub hl [0, 1, 2, 3, 4, 5, 6] rfl)
                        intro n_157
                        induction n_157 with
                        | zero =>
                          intro i2 n8 H locs ls hm_157
                          exact absurd hm_157 (Nat.not_lt_zero _)
                        | succ n_157 ih_157 =>
                          intro i2 n8 H locs ls hm_157 hi2 hn8 hP hD hS hl
                          refine lv_iload hx hb dX9_copy_157 (lv_at hl 0 rfl) ?_
                          refine lv_iload hx hb dX9_copy_159 (lv_at hl 6 rfl) ?_
                          refine lv_icmp_ge (tgt := 192) hx hb dX9_copy_161 (by decide) (fun c_35 => ?_) (fun c_35 => ?_)
                          · skip
                            have nc_35 : y_31 ≤ i2 := xn_le (a := y_31) (b := i2) (by omega) (by omega) c_35
                            refine lv_iload hx hb dX9_copy_192 (lv_at hl 6 rfl) ?_
                            have hn7 : ∀ j, n8 j = if 80 + y_33 ≤ j ∧ j < 80 + y_33 + y_31 then m8 (j - (80 + y_33)) else nb j := fun j => by rw [hn8 j, show i2 = y_31 by omega]
                            have hm7 : ∀ j, j < y_31 → m8 j = nb (80 + y_32 + j) := fun j hj => hm8 j (by omega)
                            exact W.iret (v := nI (y_31)) hx hb hr (fun t ht hW => ⟨⟨nI (y_31), (n8, m8, mq), rfl, ⟨(sp_cr4 c_14 c_14 rfl (sp_nspan (by omega) (by omega)) (sp_nspan (by omega) (by omega))), (fun j9 => sp_c1 (K := 80) (M := 80) (by omega) (by omega) c_14 c_14 rfl (by omega) (by omega) (fun i9 => sp_mv3 hn7 hm7 rfl rfl)), (fun j9 hj9 => by rw [hn7 j9, if_neg (by omega)])⟩, by rw [ht]; exact hP.sub [0, 1, 2, 3, 4, 5] rfl, hD.sub [0, 1, 2, 3, 4, 5] (by decide +kernel) rfl⟩, hS.F ht⟩) hS.2.2 dX9_copy_194 hlk
                          · skip
                            have nc_35 : i2 < y_31 := xn_nle (a := y_31) (b := i2) (by omega) (by omega) c_35
                            refine lv_aload_n hx hb dX9_copy_164 rfl (lv_at hl 1 rfl) ?_
                            refine xg hF kf_X9_49 hK hP 0 rfl rfl dX9_copy_165 ?_
                            refine lv_bipush (v := 40) hx hb dX9_copy_168 (by decide) ?_
                            refine lv_iload_n hx hb dX9_copy_170 rfl (lv_at hl 4 rfl) ?_
                            refine lv_imul hx hb dX9_copy_171 ?_
                            refine xl_i (y := 80) (by decide) ?_
                            refine lv_iload hx hb dX9_copy_172 (lv_at hl 5 rfl) ?_
                            refine lv_iadd hx hb dX9_copy_174 ?_
                            refine xl_i (y := nI (80 + y_33)) (nI_add 80 y_33) ?_
                            refine lv_iload hx hb dX9_copy_175 (lv_at hl 0 rfl) ?_
                            refine lv_iadd hx hb dX9_copy_177 ?_
                            refine xl_i (y := nI (80 + y_33 + i2)) (nI_add (80 + y_33) i2) ?_
                            refine lv_aload_n hx hb dX9_copy_178 rfl (lv_at hl 1 rfl) ?_
                            refine xg hF kf_X9_53 hK hP 0 rfl rfl dX9_copy_179 ?_
                            refine lv_iload hx hb dX9_copy_182 (lv_at hl 0 rfl) ?_
                            refine va_lald hx hb hK hP 4 1 rfl rfl (vp_in_nI (show i2 < 40 by omega) (by decide)) dX9_copy_184 ?_
                            refine xl_l (y := m8 i2) (congrArg m8 (nI_clamp (show i2 < 2 ^ 31 by omega))) ?_
                            refine va_last hx hb hK hP hD hS 3 1 rfl rfl (vp_in_nI (show 80 + y_33 + i2 < 160 by omega) (by decide)) dX9_copy_185 (fun H locs hP hD hS => ?_)
                            rw [nI_clamp (show 80 + y_33 + i2 < 2 ^ 31 by omega)] at hP hD
                            obtain ⟨f_36, ef_36⟩ : ∃ g, g = vp_updL n8 (80 + y_33 + i2) (m8 i2) := ⟨_, rfl⟩
                            rw [← ef_36] at hP hD
                            have hP : va_P D vwCl [(h0, .inr (9, [.ref ys, .ref yk, .ref yo, .ref yt, .int mk0, .ref yfa, .ref yfe, .int mL, .int mS, .int mM, .ref yro, .ref yhe, .ref ygr, .int mF, .int mC, .int mY, .ref yta, .int (nI (mz)), .int (nI (mf)), .int (nI (mt)), .int mv, .int mw, .ref ywa, .ref ybi, .ref ysi, .ref ynu, .ref ymo])), (ybi, .inl (cI, 4, .inl bi)), (ysi, .inl (cI, 4, .inl sq)), (ynu, .inl (cJ, 160, .inr (.inl f_36))), (ymo, .inl (cJ, 40, .inr (.inl m8))), (yt, .inl (cI, 7, .inl mq))] H := hP
                            have hD : va_D A [(h0, .inr (9, [.ref ys, .ref yk, .ref yo, .ref yt, .int mk0, .ref yfa, .ref yfe, .int mL, .int mS, .int mM, .ref yro, .ref yhe, .ref ygr, .int mF, .int mC, .int mY, .ref yta, .int (nI (mz)), .int (nI (mf)), .int (nI (mt)), .int mv, .int mw, .ref ywa, .ref ybi, .ref ysi, .ref ynu, .ref ymo])), (ybi, .inl (cI, 4, .inl bi)), (ysi, .inl (cI, 4, .inl sq)), (ynu, .inl (cJ, 160, .inr (.inl f_36))), (ymo, .inl (cJ, 40, .inr (.inl m8))), (yt, .inl (cI, 7, .inl mq))] := hD
                            refine lv_iinc (v := nI (i2 + 1)) (lv' := [(6, .int (nI (i2 + 1))), (0, .ref h0), (1, .int 2), (2, .int (nI (y_32))), (3, .int 2), (4, .int (nI (y_33))), (5, .int (nI (y_31)))]) hx hb dX9_copy_186 hl (k := 0) rfl (nI_1 (i2)) (by decide) rfl (fun ls hl => ?_)
                            refine lv_goto (tgt := 157) hx hb dX9_copy_189 (by decide) ?_
                            exact ih_157 (i2 + 1) f_36 _ _ _ (by omega) (by omega) (sp_mv2 hn8 ef_36) (hP.sub [0, 1, 2, 3, 4, 5] rfl) (hD.sub [0, 1, 2, 3, 4, 5] (by decide +kernel) rfl) hS (lv_sub hl [0, 1, 2, 3, 4, 5, 6] rfl)
                      · skip
                        have nc_34 : i < y_31 := xn_nle (a := y_31) (b := i) (by omega) (by omega) c_34
                        refine lv_aload_n hx hb dX9_copy_127 rfl (lv_at hl 1 rfl) ?_
                        refine xg hF kf_X9_53 hK hP 0 rfl rfl dX9_copy_128 ?_
                        refine lv_iload hx hb dX9_copy_131 (lv_at hl 0 rfl) ?_
                        refine lv_aload_n hx hb dX9_copy_133 rfl (lv_at hl 1 rfl) ?_
                        refine xg hF kf_X9_49 hK hP 0 rfl rfl dX9_copy_134 ?_
                        refine lv_bipush (v := 40) hx hb dX9_copy_137 (by decide) ?_
                        refine lv_iload_n hx hb dX9_copy_139 rfl (lv_at hl 2 rfl) ?_
                        refine lv_imul hx hb dX9_copy_140 ?_
                        refine xl_i (y := 80) (by decide) ?_
                        refine lv_iload_n hx hb dX9_copy_141 rfl (lv_at hl 3 rfl) ?_
                        refine lv_iadd hx hb dX9_copy_142 ?_
                        refine xl_i (y := nI (80 + y_32)) (nI_add 80 y_32) ?_
                        refine lv_iload hx hb dX9_copy_143 (lv_at hl 0 rfl) ?_
                        refine lv_iadd hx hb dX9_copy_145 ?_
                        refine xl_i (y := nI (80 + y_32 + i)) (nI_add (80 + y_32) i) ?_
                        refine va_lald hx hb hK hP 3 1 rfl rfl (vp_in_nI (show 80 + y_32 + i < 160 by omega) (by decide)) dX9_copy_146 ?_
                        refine xl_l (y := nb (80 + y_32 + i)) (congrArg nb (nI_clamp (show 80 + y_32 + i < 2 ^ 31 by omega))) ?_
                        refine va_last hx hb hK hP hD hS 4 1 rfl rfl (vp_in_nI (show i < 40 by omega) (by decide)) dX9_copy_147 (fun H locs hP hD hS => ?_)
                        rw [nI_clamp (show i < 2 ^ 31 by omega)] at hP hD
                        obtain ⟨f_37, ef_37⟩ : ∃ g, g = vp_updL m8 i (nb (80 + y_32 + i)) := ⟨_, rfl⟩
                        rw [← ef_37] at hP hD
                        have hP : va_P D vwCl [(h0, .inr (9, [.ref ys, .ref yk, .ref yo, .ref yt, .int mk0, .ref yfa, .ref yfe, .int mL, .int mS, .int mM, .ref yro, .ref yhe, .ref ygr, .int mF, .int mC, .int mY, .ref yta, .int (nI (mz)), .int (nI (mf)), .int (nI (mt)), .int mv, .int mw, .ref ywa, .ref ybi, .ref ysi, .ref ynu, .ref ymo])), (ybi, .inl (cI, 4, .inl bi)), (ysi, .inl (cI, 4, .inl sq)), (ynu, .inl (cJ, 160, .inr (.inl nb))), (ymo, .inl (cJ, 40, .inr (.inl f_37))), (yt, .inl (cI, 7, .inl mq))] H := hP
                        have hD : va_D A [(h0, .inr (9, [.ref ys, .ref yk, .ref yo, .ref yt, .int mk0, .ref yfa, .ref yfe, .int mL, .int mS, .int mM, .ref yro, .ref yhe, .ref ygr, .int mF, .int mC, .int mY, .ref yta, .int (nI (mz)), .int (nI (mf)), .int (nI (mt)), .int mv, .int mw, .ref ywa, .ref ybi, .ref ysi, .ref ynu, .ref ymo])), (ybi, .inl (cI, 4, .inl bi)), (ysi, .inl (cI, 4, .inl sq)), (ynu, .inl (cJ, 160, .inr (.inl nb))), (ymo, .inl (cJ, 40, .inr (.inl f_37))), (yt, .inl (cI, 7, .inl mq))] := hD
                        refine lv_iinc (v := nI (i + 1)) (lv' := [(6, .int (nI (i + 1))), (0, .ref h0), (1, .int 2), (2, .int (nI (y_32))), (3, .int 2), (4, .int (nI (y_33))), (5, .int (nI (y_31)))]) hx hb dX9_copy_148 hl (k := 0) rfl (nI_1 (i)) (by decide) rfl (fun ls hl => ?_)
                        refine lv_goto (tgt := 120) hx hb dX9_copy_151 (by decide) ?_
                        exact ih_120 (i + 1) f_37 _ _ _ (by omega) (by omega) (sp_mv1 hm8 ef_37) (hP.sub [0, 1, 2, 3, 4, 5] rfl) (hD.sub [0, 1, 2, 3, 4, 5] (by decide +kernel) rfl) hS (lv_sub hl [0, 1, 2, 3, 4, 5, 6] rfl)
                  · skip
                    refine lv_aload_n hx hb dX9_copy_110 rfl (lv_at hl 0 rfl) ?_
                    refine lv_ldc (v := (-1000000001)) hx hb hown (hu _ uw648) dX9_copy_111 ?_
                    refine xc_Vi (wr := [(ybi, .inl (cI, 4, .inl bi)), (ysi, .inl (cI, 4, .inl sq)), (ynu, .inl (cJ, 160, .inr (.inl nb))), (ymo, .inl (cJ, 40, .inr (.inl mv9)))]) hF (c_X9_finds_B l D cI cJ cZ cS ta sa sv s.heap.size h0 ys yk yo yt mk0 yfa yfe mL mS mM yro yhe ygr mF mC mY yta mz mf mt mv mw ywa ybi ysi ynu ymo mq ) kv_X9_70 ⟨rfl, rfl, Nat.le_of_ble_eq_true rfl, Nat.le_of_ble_eq_true rfl⟩ ⟨Nat.le_of_ble_eq_true rfl, Nat.le_of_ble_eq_true rfl⟩ hK hN hZ hP hD hS hA [0, 5] [1, 2, 3, 4] rfl rfl rfl rfl (by decide) 0 rfl rfl rfl rfl hl.1 rfl (Nat.le_of_ble_eq_true rfl) dX9_copy_113 (fun r_38 u_r_38 H locs hw_r_38 hP hD hS => ?_)
                    obtain ⟨mq2_39, rfl⟩ : ∃ z, z = u_r_38 := ⟨_, rfl⟩
                    try dsimp only at hw_r_38
                    have hP : va_P D vwCl [(ybi, .inl (cI, 4, .inl bi)), (ysi, .inl (cI, 4, .inl sq)), (ynu, .inl (cJ, 160, .inr (.inl nb))), (ymo, .inl (cJ, 40, .inr (.inl mv9))), (h0, .inr (9, [.ref ys, .ref yk, .ref yo, .ref yt, .int mk0, .ref yfa, .ref yfe, .int mL, .int mS, .int mM, .ref yro, .ref yhe, .ref ygr, .int mF, .int mC, .int mY, .ref yta, .int (nI (mz)), .int (nI (mf)), .int (nI (mt)), .int mv, .int mw, .ref ywa, .ref ybi, .ref ysi, .ref ynu, .ref ymo])), (yt, .inl (cI, 7, .inl mq2_39))] H := hP
                    have hD : va_D A [(ybi, .inl (cI, 4, .inl bi)), (ysi, .inl (cI, 4, .inl sq)), (ynu, .inl (cJ, 160, .inr (.inl nb))), (ymo, .inl (cJ, 40, .inr (.inl mv9))), (h0, .inr (9, [.ref ys, .ref yk, .ref yo, .ref yt, .int mk0, .ref yfa, .ref yfe, .int mL, .int mS, .int mM, .ref yro, .ref yhe, .ref ygr, .int mF, .int mC, .int mY, .ref yta, .int (nI (mz)), .int (nI (mf)), .int (nI (mt)), .int mv, .int mw, .ref ywa, .ref ybi, .ref ysi, .ref ynu, .ref ymo])), (yt, .inl (cI, 7, .inl mq2_39))] := hD
                    subst hw_r_38
                    exact W.iret (v := (-1000000001)) hx hb hr (fun t ht hW => ⟨⟨(-1000000001), (nb, mv9, mq2_39), rfl, ⟨(sp_cr3 c_14 c_14 rfl (fun q => (sp_s5 hzt c_19 c_22 ex_29 (xlt c_30)) q.2)), (fun j => sp_c0 (fun h => (sp_s5 hzt c_19 c_22 ex_29 (xlt c_30)) h.2.2.2.2)), (fun _ _ => rfl)⟩, by rw [ht]; exact hP.sub [4, 0, 1, 2, 3, 5] rfl, hD.sub [4, 0, 1, 2, 3, 5] (by decide +kernel) rfl⟩, hS.F ht⟩) hS.2.2 dX9_copy_116 hlk
        · skip
          refine lv_aload_n hx hb dX9_copy_39 rfl (lv_at hl 0 rfl) ?_
          refine lv_ldcw (v := (-1000000006)) hx hb hown (hu _ uw910) dX9_copy_40 ?_
          refine xc_Vi (wr := [(ybi, .inl (cI, 4, .inl bi)), (ysi, .inl (cI, 4, .inl sq)), (ynu, .inl (cJ, 160, .inr (.inl nb))), (ymo, .inl (cJ, 40, .inr (.inl mv9)))]) hF (c_X9_finds_M l D cI cJ cZ cS ta sa sv s.heap.size h0 ys yk yo yt mk0 yfa yfe mL mS mM yro yhe ygr mF mC mY yta mz mf mt mv mw ywa ybi ysi ynu ymo mq ) kv_X9_70 ⟨rfl, rfl, Nat.le_of_ble_eq_true rfl, Nat.le_of_ble_eq_true rfl⟩ ⟨Nat.le_of_ble_eq_true rfl, Nat.le_of_ble_eq_true rfl⟩ hK hN hZ hP hD hS hA [0, 5] [1, 2, 3, 4] rfl rfl rfl rfl (by decide) 0 rfl rfl rfl rfl hl.1 rfl (Nat.le_of_ble_eq_true rfl) dX9_copy_43 (fun r_40 u_r_40 H locs hw_r_40 hP hD hS => ?_)
          obtain ⟨mq2_41, rfl⟩ : ∃ z, z = u_r_40 := ⟨_, rfl⟩
          try dsimp only at hw_r_40
          have hP : va_P D vwCl [(ybi, .inl (cI, 4, .inl bi)), (ysi, .inl (cI, 4, .inl sq)), (ynu, .inl (cJ, 160, .inr (.inl nb))), (ymo, .inl (cJ, 40, .inr (.inl mv9))), (h0, .inr (9, [.ref ys, .ref yk, .ref yo, .ref yt, .int mk0, .ref yfa, .ref yfe, .int mL, .int mS, .int mM, .ref yro, .ref yhe, .ref ygr, .int mF, .int mC, .int mY, .ref yta, .int (nI (mz)), .int (nI (mf)), .int (nI (mt)), .int mv, .int mw, .ref ywa, .ref ybi, .ref ysi, .ref ynu, .ref ymo])), (yt, .inl (cI, 7, .inl mq2_41))] H := hP
          have hD : va_D A [(ybi, .inl (cI, 4, .inl bi)), (ysi, .inl (cI, 4, .inl sq)), (ynu, .inl (cJ, 160, .inr (.inl nb))), (ymo, .inl (cJ, 40, .inr (.inl mv9))), (h0, .inr (9, [.ref ys, .ref yk, .ref yo, .ref yt, .int mk0, .ref yfa, .ref yfe, .int mL, .int mS, .int mM, .ref yro, .ref yhe, .ref ygr, .int mF, .int mC, .int mY, .ref yta, .int (nI (mz)), .int (nI (mf)), .int (nI (mt)), .int mv, .int mw, .ref ywa, .ref ybi, .ref ysi, .ref ynu, .ref ymo])), (yt, .inl (cI, 7, .inl mq2_41))] := hD
          subst hw_r_40
          exact W.iret (v := (-1000000006)) hx hb hr (fun t ht hW => ⟨⟨(-1000000006), (nb, mv9, mq2_41), rfl, ⟨(sp_cr1 (Or.inl c_14)), (fun j => sp_c0 (fun h => h.1 c_14)), (fun _ _ => rfl)⟩, by rw [ht]; exact hP.sub [4, 0, 1, 2, 3, 5] rfl, hD.sub [4, 0, 1, 2, 3, 5] (by decide +kernel) rfl⟩, hS.F ht⟩) hS.2.2 dX9_copy_46 hlk
    · exact absurd h_9 (by decide)
  · exact absurd h_4 (by decide)
set_option maxHeartbeats 4000000 in
set_option maxRecDepth 100000 in
theorem c_X9_copy_23 (l : Launch) (D : va_G) (cI cJ cZ cS : ClassId) (ta : Nat) (sa sv : Nat → Nat) (sz : Nat) (h0 : Nat) (ys : Nat) (yk : Nat) (yo : Nat) (yt : Nat) (mk0 : Int32) (yfa : Nat) (yfe : Nat) (mL : Int32) (mS : Int32) (mM : Int32) (yro : Nat) (yhe : Nat) (ygr : Nat) (mF : Int32) (mC : Int32) (mY : Int32) (yta : Nat) (mz : Nat) (mf : Nat) (mt : Nat) (mv : Int32) (mw : Int32) (ywa : Nat) (ybi : Nat) (ysi : Nat) (ynu : Nat) (ymo : Nat) (bi : Nat → Int32) (sq : Nat → Int32) (nb : Nat → Int64) (mv9 : Nat → Int64) (mq : Nat → Int32) (p1 : Int32) (p3 : Int32) (p4 : Int32) (zq : Nat) (zt : Nat) (ez : sq 2 = nI zq) (hzq : zq ≤ 40) (et : sq 3 = nI zt) (hzt : zt ≤ 40) (hsq : BA 4 41 sq) : Met l yX9_copy (Cond.code yX9_copy cX9_copy 7 (some .int) :: wsU) ({ frames := 2, cells := 0, slots := 0, locals := 45 }) (va_Pc [.ref h0, .int 2, .int p1, .int 3, .int p3, .int p4] (XW D (xT cI cJ cZ cS) ta sa sv [(h0, .inr (9, [.ref ys, .ref yk, .ref yo, .ref yt, .int mk0, .ref yfa, .ref yfe, .int mL, .int mS, .int mM, .ref yro, .ref yhe, .ref ygr, .int mF, .int mC, .int mY, .ref yta, .int (nI (mz)), .int (nI (mf)), .int (nI (mt)), .int mv, .int mw, .ref ywa, .ref ybi, .ref ysi, .ref ynu, .ref ymo])), (ybi, .inl (cI, 4, .inl bi)), (ysi, .inl (cI, 4, .inl sq)), (ynu, .inl (cJ, 160, .inr (.inl nb))), (ymo, .inl (cJ, 40, .inr (.inl mv9))), (yt, .inl (cI, 7, .inl mq))] sz)) (XQi (fun (r : Int32) (u : (Nat → Int64) × (Nat → Int64) × (Nat → Int32)) => match u with | (nb2, mv2, mq2) => ((r = sp_cr (bi 2) (bi 3) zq zt p1 p3 p4)) ∧ (∀ j, nb2 (120 + j) = sp_cn (bi 2) (bi 3) zq zt p1 p3 p4 (fun k => nb (80 + k)) j (nb (120 + j))) ∧ (∀ j, j < 120 ∨ 160 ≤ j → nb2 j = nb j)) D (fun (u : (Nat → Int64) × (Nat → Int64) × (Nat → Int32)) => match u with | (nb2, mv2, mq2) => [(h0, .inr (9, [.ref ys, .ref yk, .ref yo, .ref yt, .int mk0, .ref yfa, .ref yfe, .int mL, .int mS, .int mM, .ref yro, .ref yhe, .ref ygr, .int mF, .int mC, .int mY, .ref yta, .int (nI (mz)), .int (nI (mf)), .int (nI (mt)), .int mv, .int mw, .ref ywa, .ref ybi, .ref ysi, .ref ynu, .ref ymo])), (ybi, .inl (cI, 4, .inl bi)), (ysi, .inl (cI, 4, .inl sq)), (ynu, .inl (cJ, 160, .inr (.inl nb2))), (ymo, .inl (cJ, 40, .inr (.inl mv2))), (yt, .inl (cI, 7, .inl mq2))]) (va_A [(h0, .inr (9, [.ref ys, .ref yk, .ref yo, .ref yt, .int mk0, .ref yfa, .ref yfe, .int mL, .int mS, .int mM, .ref yro, .ref yhe, .ref ygr, .int mF, .int mC, .int mY, .ref yta, .int (nI (mz)), .int (nI (mf)), .int (nI (mt)), .int mv, .int mw, .ref ywa, .ref ybi, .ref ysi, .ref ynu, .ref ymo])), (ybi, .inl (cI, 4, .inl bi)), (ysi, .inl (cI, 4, .inl sq)), (ynu, .inl (cJ, 160, .inr (.inl nb))), (ymo, .inl (cJ, 40, .inr (.inl mv9))), (yt, .inl (cI, 7, .inl mq))] sz)) 0 0 (va_A [(h0, .inr (9, [.ref ys, .ref yk, .ref yo, .ref yt, .int mk0, .ref yfa, .ref yfe, .int mL, .int mS, .int mM, .ref yro, .ref yhe, .ref ygr, .int mF, .int mC, .int mY, .ref yta, .int (nI (mz)), .int (nI (mf)), .int (nI (mt)), .int mv, .int mw, .ref ywa, .ref ybi, .ref ysi, .ref ynu, .ref ymo])), (ybi, .inl (cI, 4, .inl bi)), (ysi, .inl (cI, 4, .inl sq)), (ynu, .inl (cJ, 160, .inr (.inl nb))), (ymo, .inl (cJ, 40, .inr (.inl mv9))), (yt, .inl (cI, 7, .inl mq))] sz) := by
  refine xh (QA := fun A => XQi (fun (r : Int32) (u : (Nat → Int64) × (Nat → Int64) × (Nat → Int32)) => match u with | (nb2, mv2, mq2) => ((r = sp_cr (bi 2) (bi 3) zq zt p1 p3 p4)) ∧ (∀ j, nb2 (120 + j) = sp_cn (bi 2) (bi 3) zq zt p1 p3 p4 (fun k => nb (80 + k)) j (nb (120 + j))) ∧ (∀ j, j < 120 ∨ 160 ≤ j → nb2 j = nb j)) D (fun (u : (Nat → Int64) × (Nat → Int64) × (Nat → Int32)) => match u with | (nb2, mv2, mq2) => [(h0, .inr (9, [.ref ys, .ref yk, .ref yo, .ref yt, .int mk0, .ref yfa, .ref yfe, .int mL, .int mS, .int mM, .ref yro, .ref yhe, .ref ygr, .int mF, .int mC, .int mY, .ref yta, .int (nI (mz)), .int (nI (mf)), .int (nI (mt)), .int mv, .int mw, .ref ywa, .ref ybi, .ref ysi, .ref ynu, .ref ymo])), (ybi, .inl (cI, 4, .inl bi)), (ysi, .inl (cI, 4, .inl sq)), (ynu, .inl (cJ, 160, .inr (.inl nb2))), (ymo, .inl (cJ, 40, .inr (.inl mv2))), (yt, .inl (cI, 7, .inl mq2))]) A) (fr := fun A => A) (by decide) (Nat.le_of_ble_eq_true rfl) ?_
  intro p e s m below meth c ls A hF hr hlk hin hsz hP hK hD hN hZ hA hS hl
  have hF : CallFix p m c cX9_copy 7 s _ _ RX9 := hF
  have hx := hF.1
  have hb := hF.2.1
  have hml := hF.2.2.1
  have hown := hF.2.2.2.1
  have hu : ∀ w ∈ wsU, w.before _ s = true := fun w h => hF.2.2.2.2 w (List.mem_cons_of_mem _ h)
  have hl : lv_has ls 7 [(0, .ref h0), (1, .int 2), (2, .int p1), (3, .int 3), (4, .int p3), (5, .int p4)] := hl
  refine lv_iload_n hx hb dX9_copy_0 rfl (lv_at hl 1 rfl) ?_
  refine xc_Sr hF (c_X9_isOne l D cI cJ cZ cS ta sa sv s.heap.size 2 ) ks_X9_305 ⟨rfl, rfl, Nat.le_of_ble_eq_true rfl, Nat.le_of_ble_eq_true rfl⟩ ⟨Nat.le_of_ble_eq_true rfl, Nat.le_of_ble_eq_true rfl⟩ hK hN hZ hP hD hS hA [] rfl rfl rfl hl.1 rfl (Nat.le_of_ble_eq_true rfl) dX9_copy_1 (fun r_1 hw_r_1 => ?_)
  rcases hw_r_1 with ⟨rfl, h_2, h_3⟩ | ⟨rfl, h_4⟩
  · skip
    refine lv_if_eq (tgt := 14) hx hb dX9_copy_4 (by decide) (fun c_5 => absurd c_5 (by decide)) (fun c_5 => ?_)
    refine lv_iload_n hx hb dX9_copy_7 rfl (lv_at hl 3 rfl) ?_
    refine xc_Sr hF (c_X9_isOne l D cI cJ cZ cS ta sa sv s.heap.size 3 ) ks_X9_305 ⟨rfl, rfl, Nat.le_of_ble_eq_true rfl, Nat.le_of_ble_eq_true rfl⟩ ⟨Nat.le_of_ble_eq_true rfl, Nat.le_of_ble_eq_true rfl⟩ hK hN hZ hP hD hS hA [] rfl rfl rfl hl.1 rfl (Nat.le_of_ble_eq_true rfl) dX9_copy_8 (fun r_6 hw_r_6 => ?_)
    rcases hw_r_6 with ⟨rfl, h_7, h_8⟩ | ⟨rfl, h_9⟩
    · skip
      refine lv_if_ne (tgt := 21) hx hb dX9_copy_11 (by decide) (fun c_10 => ?_) (fun c_10 => absurd c_10 (by decide))
      refine lv_aload_n hx hb dX9_copy_21 rfl (lv_at hl 0 rfl) ?_
      refine xg hF kf_X9_43 hK hP 0 rfl rfl dX9_copy_22 ?_
      refine lv_iload_n hx hb dX9_copy_25 rfl (lv_at hl 1 rfl) ?_
      refine va_iald hx hb hK hP 1 0 rfl rfl (xin 2 4 (by decide) (by decide)) dX9_copy_26 ?_
      refine xl_i (y := bi 2) (congrArg bi rfl) ?_
      refine lv_if_eq (tgt := 39) hx hb dX9_copy_27 (by decide) (fun c_11 => ?_) (fun c_11 => ?_)
      · skip
        refine lv_aload_n hx hb dX9_copy_39 rfl (lv_at hl 0 rfl) ?_
        refine lv_ldcw (v := (-1000000006)) hx hb hown (hu _ uw910) dX9_copy_40 ?_
        refine xc_Vi (wr := [(ybi, .inl (cI, 4, .inl bi)), (ysi, .inl (cI, 4, .inl sq)), (ynu, .inl (cJ, 160, .inr (.inl nb))), (ymo, .inl (cJ, 40, .inr (.inl mv9)))]) hF (c_X9_finds_M l D cI cJ cZ cS ta sa sv s.heap.size h0 ys yk yo yt mk0 yfa yfe mL mS mM yro yhe ygr mF mC mY yta mz mf mt mv mw ywa ybi ysi ynu ymo mq ) kv_X9_70 ⟨rfl, rfl, Nat.le_of_ble_eq_true rfl, Nat.le_of_ble_eq_true rfl⟩ ⟨Nat.le_of_ble_eq_true rfl, Nat.le_of_ble_eq_true rfl⟩ hK hN hZ hP hD hS hA [0, 5] [1, 2, 3, 4] rfl rfl rfl rfl (by decide) 0 rfl rfl rfl rfl hl.1 rfl (Nat.le_of_ble_eq_true rfl) dX9_copy_43 (fun r_12 u_r_12 H locs hw_r_12 hP hD hS => ?_)
        obtain ⟨mq2_13, rfl⟩ : ∃ z, z = u_r_12 := ⟨_, rfl⟩
        try dsimp only at hw_r_12
        have hP : va_P D vwCl [(ybi, .inl (cI, 4, .inl bi)), (ysi, .inl (cI, 4, .inl sq)), (ynu, .inl (cJ, 160, .inr (.inl nb))), (ymo, .inl (cJ, 40, .inr (.inl mv9))), (h0, .inr (9, [.ref ys, .ref yk, .ref yo, .ref yt, .int mk0, .ref yfa, .ref yfe, .int mL, .int mS, .int mM, .ref yro, .ref yhe, .ref ygr, .int mF, .int mC, .int mY, .ref yta, .int (nI (mz)), .int (nI (mf)), .int (nI (mt)), .int mv, .int mw, .ref ywa, .ref ybi, .ref ysi, .ref ynu, .ref ymo])), (yt, .inl (cI, 7, .inl mq2_13))] H := hP
        have hD : va_D A [(ybi, .inl (cI, 4, .inl bi)), (ysi, .inl (cI, 4, .inl sq)), (ynu, .inl (cJ, 160, .inr (.inl nb))), (ymo, .inl (cJ, 40, .inr (.inl mv9))), (h0, .inr (9, [.ref ys, .ref yk, .ref yo, .ref yt, .int mk0, .ref yfa, .ref yfe, .int mL, .int mS, .int mM, .ref yro, .ref yhe, .ref ygr, .int mF, .int mC, .int mY, .ref yta, .int (nI (mz)), .int (nI (mf)), .int (nI (mt)), .int mv, .int mw, .ref ywa, .ref ybi, .ref ysi, .ref ynu, .ref ymo])), (yt, .inl (cI, 7, .inl mq2_13))] := hD
        subst hw_r_12
        exact W.iret (v := (-1000000006)) hx hb hr (fun t ht hW => ⟨⟨(-1000000006), (nb, mv9, mq2_13), rfl, ⟨(sp_cr1 (Or.inl c_11)), (fun j => sp_c0 (fun h => h.1 c_11)), (fun _ _ => rfl)⟩, by rw [ht]; exact hP.sub [4, 0, 1, 2, 3, 5] rfl, hD.sub [4, 0, 1, 2, 3, 5] (by decide +kernel) rfl⟩, hS.F ht⟩) hS.2.2 dX9_copy_46 hlk
      · skip
        refine lv_aload_n hx hb dX9_copy_30 rfl (lv_at hl 0 rfl) ?_
        refine xg hF kf_X9_43 hK hP 0 rfl rfl dX9_copy_31 ?_
        refine lv_iload_n hx hb dX9_copy_34 rfl (lv_at hl 3 rfl) ?_
        refine va_iald hx hb hK hP 1 0 rfl rfl (xin 3 4 (by decide) (by decide)) dX9_copy_35 ?_
        refine xl_i (y := bi 3) (congrArg bi rfl) ?_
        refine lv_if_ne (tgt := 47) hx hb dX9_copy_36 (by decide) (fun c_14 => ?_) (fun c_14 => ?_)
        · skip
          refine lv_aload_n hx hb dX9_copy_47 rfl (lv_at hl 0 rfl) ?_
          refine xg hF kf_X9_43 hK hP 0 rfl rfl dX9_copy_48 ?_
          refine lv_iload_n hx hb dX9_copy_51 rfl (lv_at hl 1 rfl) ?_
          refine va_iald hx hb hK hP 1 0 rfl rfl (xin 2 4 (by decide) (by decide)) dX9_copy_52 ?_
          refine xl_i (y := bi 2) (congrArg bi rfl) ?_
          refine lv_aload_n hx hb dX9_copy_53 rfl (lv_at hl 0 rfl) ?_
          refine xg hF kf_X9_43 hK hP 0 rfl rfl dX9_copy_54 ?_
          refine lv_iload_n hx hb dX9_copy_57 rfl (lv_at hl 3 rfl) ?_
          refine va_iald hx hb hK hP 1 0 rfl rfl (xin 3 4 (by decide) (by decide)) dX9_copy_58 ?_
          refine xl_i (y := bi 3) (congrArg bi rfl) ?_
          refine lv_icmp_eq (tgt := 69) hx hb dX9_copy_59 (by decide) (fun c_15 => ?_) (fun c_15 => ?_)
          · skip
            refine lv_iload_n hx hb dX9_copy_69 rfl (lv_at hl 2 rfl) ?_
            refine lv_if_lt (tgt := 110) hx hb dX9_copy_70 (by decide) (fun c_16 => ?_) (fun c_16 => ?_)
            · skip
              refine lv_aload_n hx hb dX9_copy_110 rfl (lv_at hl 0 rfl) ?_
              refine lv_ldc (v := (-1000000001)) hx hb hown (hu _ uw648) dX9_copy_111 ?_
              refine xc_Vi (wr := [(ybi, .inl (cI, 4, .inl bi)), (ysi, .inl (cI, 4, .inl sq)), (ynu, .inl (cJ, 160, .inr (.inl nb))), (ymo, .inl (cJ, 40, .inr (.inl mv9)))]) hF (c_X9_finds_B l D cI cJ cZ cS ta sa sv s.heap.size h0 ys yk yo yt mk0 yfa yfe mL mS mM yro yhe ygr mF mC mY yta mz mf mt mv mw ywa ybi ysi ynu ymo mq ) kv_X9_70 ⟨rfl, rfl, Nat.le_of_ble_eq_true rfl, Nat.le_of_ble_eq_true rfl⟩ ⟨Nat.le_of_ble_eq_true rfl, Nat.le_of_ble_eq_true rfl⟩ hK hN hZ hP hD hS hA [0, 5] [1, 2, 3, 4] rfl rfl rfl rfl (by decide) 0 rfl rfl rfl rfl hl.1 rfl (Nat.le_of_ble_eq_true rfl) dX9_copy_113 (fun r_17 u_r_17 H locs hw_r_17 hP hD hS => ?_)
              obtain ⟨mq2_18, rfl⟩ : ∃ z, z = u_r_17 := ⟨_, rfl⟩
              try dsimp only at hw_r_17
              have hP : va_P D vwCl [(ybi, .inl (cI, 4, .inl bi)), (ysi, .inl (cI, 4, .inl sq)), (ynu, .inl (cJ, 160, .inr (.inl nb))), (ymo, .inl (cJ, 40, .inr (.inl mv9))), (h0, .inr (9, [.ref ys, .ref yk, .ref yo, .ref yt, .int mk0, .ref yfa, .ref yfe, .int mL, .int mS, .int mM, .ref yro, .ref yhe, .ref ygr, .int mF, .int mC, .int mY, .ref yta, .int (nI (mz)), .int (nI (mf)), .int (nI (mt)), .int mv, .int mw, .ref ywa, .ref ybi, .ref ysi, .ref ynu, .ref ymo])), (yt, .inl (cI, 7, .inl mq2_18))] H := hP
              have hD : va_D A [(ybi, .inl (cI, 4, .inl bi)), (ysi, .inl (cI, 4, .inl sq)), (ynu, .inl (cJ, 160, .inr (.inl nb))), (ymo, .inl (cJ, 40, .inr (.inl mv9))), (h0, .inr (9, [.ref ys, .ref yk, .ref yo, .ref yt, .int mk0, .ref yfa, .ref yfe, .int mL, .int mS, .int mM, .ref yro, .ref yhe, .ref ygr, .int mF, .int mC, .int mY, .ref yta, .int (nI (mz)), .int (nI (mf)), .int (nI (mt)), .int mv, .int mw, .ref ywa, .ref ybi, .ref ysi, .ref ynu, .ref ymo])), (yt, .inl (cI, 7, .inl mq2_18))] := hD
              subst hw_r_17
              exact W.iret (v := (-1000000001)) hx hb hr (fun t ht hW => ⟨⟨(-1000000001), (nb, mv9, mq2_18), rfl, ⟨(sp_cr3 c_11 c_14 c_15 (fun q => (sp_s1 c_16) q.1)), (fun j => sp_c0 (fun h => (sp_s1 c_16) h.2.2.2.1)), (fun _ _ => rfl)⟩, by rw [ht]; exact hP.sub [4, 0, 1, 2, 3, 5] rfl, hD.sub [4, 0, 1, 2, 3, 5] (by decide +kernel) rfl⟩, hS.F ht⟩) hS.2.2 dX9_copy_116 hlk
            · skip
              refine lv_iload hx hb dX9_copy_73 (lv_at hl 4 rfl) ?_
              refine lv_if_lt (tgt := 110) hx hb dX9_copy_75 (by decide) (fun c_19 => ?_) (fun c_19 => ?_)
              · skip
                refine lv_aload_n hx hb dX9_copy_110 rfl (lv_at hl 0 rfl) ?_
                refine lv_ldc (v := (-1000000001)) hx hb hown (hu _ uw648) dX9_copy_111 ?_
                refine xc_Vi (wr := [(ybi, .inl (cI, 4, .inl bi)), (ysi, .inl (cI, 4, .inl sq)), (ynu, .inl (cJ, 160, .inr (.inl nb))), (ymo, .inl (cJ, 40, .inr (.inl mv9)))]) hF (c_X9_finds_B l D cI cJ cZ cS ta sa sv s.heap.size h0 ys yk yo yt mk0 yfa yfe mL mS mM yro yhe ygr mF mC mY yta mz mf mt mv mw ywa ybi ysi ynu ymo mq ) kv_X9_70 ⟨rfl, rfl, Nat.le_of_ble_eq_true rfl, Nat.le_of_ble_eq_true rfl⟩ ⟨Nat.le_of_ble_eq_true rfl, Nat.le_of_ble_eq_true rfl⟩ hK hN hZ hP hD hS hA [0, 5] [1, 2, 3, 4] rfl rfl rfl rfl (by decide) 0 rfl rfl rfl rfl hl.1 rfl (Nat.le_of_ble_eq_true rfl) dX9_copy_113 (fun r_20 u_r_20 H locs hw_r_20 hP hD hS => ?_)
                obtain ⟨mq2_21, rfl⟩ : ∃ z, z = u_r_20 := ⟨_, rfl⟩
                try dsimp only at hw_r_20
                have hP : va_P D vwCl [(ybi, .inl (cI, 4, .inl bi)), (ysi, .inl (cI, 4, .inl sq)), (ynu, .inl (cJ, 160, .inr (.inl nb))), (ymo, .inl (cJ, 40, .inr (.inl mv9))), (h0, .inr (9, [.ref ys, .ref yk, .ref yo, .ref yt, .int mk0, .ref yfa, .ref yfe, .int mL, .int mS, .int mM, .ref yro, .ref yhe, .ref ygr, .int mF, .int mC, .int mY, .ref yta, .int (nI (mz)), .int (nI (mf)), .int (nI (mt)), .int mv, .int mw, .ref ywa, .ref ybi, .ref ysi, .ref ynu, .ref ymo])), (yt, .inl (cI, 7, .inl mq2_21))] H := hP
                have hD : va_D A [(ybi, .inl (cI, 4, .inl bi)), (ysi, .inl (cI, 4, .inl sq)), (ynu, .inl (cJ, 160, .inr (.inl nb))), (ymo, .inl (cJ, 40, .inr (.inl mv9))), (h0, .inr (9, [.ref ys, .ref yk, .ref yo, .ref yt, .int mk0, .ref yfa, .ref yfe, .int mL, .int mS, .int mM, .ref yro, .ref yhe, .ref ygr, .int mF, .int mC, .int mY, .ref yta, .int (nI (mz)), .int (nI (mf)), .int (nI (mt)), .int mv, .int mw, .ref ywa, .ref ybi, .ref ysi, .ref ynu, .ref ymo])), (yt, .inl (cI, 7, .inl mq2_21))] := hD
                subst hw_r_20
                exact W.iret (v := (-1000000001)) hx hb hr (fun t ht hW => ⟨⟨(-1000000001), (nb, mv9, mq2_21), rfl, ⟨(sp_cr3 c_11 c_14 c_15 (fun q => (sp_s1 c_19) q.2)), (fun j => sp_c0 (fun h => (sp_s1 c_19) h.2.2.2.2)), (fun _ _ => rfl)⟩, by rw [ht]; exact hP.sub [4, 0, 1, 2, 3, 5] rfl, hD.sub [4, 0, 1, 2, 3, 5] (by decide +kernel) rfl⟩, hS.F ht⟩) hS.2.2 dX9_copy_116 hlk
              · skip
                refine lv_iload hx hb dX9_copy_78 (lv_at hl 5 rfl) ?_
                refine lv_if_lt (tgt := 110) hx hb dX9_copy_80 (by decide) (fun c_22 => ?_) (fun c_22 => ?_)
                · skip
                  refine lv_aload_n hx hb dX9_copy_110 rfl (lv_at hl 0 rfl) ?_
                  refine lv_ldc (v := (-1000000001)) hx hb hown (hu _ uw648) dX9_copy_111 ?_
                  refine xc_Vi (wr := [(ybi, .inl (cI, 4, .inl bi)), (ysi, .inl (cI, 4, .inl sq)), (ynu, .inl (cJ, 160, .inr (.inl nb))), (ymo, .inl (cJ, 40, .inr (.inl mv9)))]) hF (c_X9_finds_B l D cI cJ cZ cS ta sa sv s.heap.size h0 ys yk yo yt mk0 yfa yfe mL mS mM yro yhe ygr mF mC mY yta mz mf mt mv mw ywa ybi ysi ynu ymo mq ) kv_X9_70 ⟨rfl, rfl, Nat.le_of_ble_eq_true rfl, Nat.le_of_ble_eq_true rfl⟩ ⟨Nat.le_of_ble_eq_true rfl, Nat.le_of_ble_eq_true rfl⟩ hK hN hZ hP hD hS hA [0, 5] [1, 2, 3, 4] rfl rfl rfl rfl (by decide) 0 rfl rfl rfl rfl hl.1 rfl (Nat.le_of_ble_eq_true rfl) dX9_copy_113 (fun r_23 u_r_23 H locs hw_r_23 hP hD hS => ?_)
                  obtain ⟨mq2_24, rfl⟩ : ∃ z, z = u_r_23 := ⟨_, rfl⟩
                  try dsimp only at hw_r_23
                  have hP : va_P D vwCl [(ybi, .inl (cI, 4, .inl bi)), (ysi, .inl (cI, 4, .inl sq)), (ynu, .inl (cJ, 160, .inr (.inl nb))), (ymo, .inl (cJ, 40, .inr (.inl mv9))), (h0, .inr (9, [.ref ys, .ref yk, .ref yo, .ref yt, .int mk0, .ref yfa, .ref yfe, .int mL, .int mS, .int mM, .ref yro, .ref yhe, .ref ygr, .int mF, .int mC, .int mY, .ref yta, .int (nI (mz)), .int (nI (mf)), .int (nI (mt)), .int mv, .int mw, .ref ywa, .ref ybi, .ref ysi, .ref ynu, .ref ymo])), (yt, .inl (cI, 7, .inl mq2_24))] H := hP
                  have hD : va_D A [(ybi, .inl (cI, 4, .inl bi)), (ysi, .inl (cI, 4, .inl sq)), (ynu, .inl (cJ, 160, .inr (.inl nb))), (ymo, .inl (cJ, 40, .inr (.inl mv9))), (h0, .inr (9, [.ref ys, .ref yk, .ref yo, .ref yt, .int mk0, .ref yfa, .ref yfe, .int mL, .int mS, .int mM, .ref yro, .ref yhe, .ref ygr, .int mF, .int mC, .int mY, .ref yta, .int (nI (mz)), .int (nI (mf)), .int (nI (mt)), .int mv, .int mw, .ref ywa, .ref ybi, .ref ysi, .ref ynu, .ref ymo])), (yt, .inl (cI, 7, .inl mq2_24))] := hD
                  subst hw_r_23
                  exact W.iret (v := (-1000000001)) hx hb hr (fun t ht hW => ⟨⟨(-1000000001), (nb, mv9, mq2_24), rfl, ⟨(sp_cr3 c_11 c_14 c_15 (fun q => (sp_s2 c_22) q.1)), (fun j => sp_c0 (fun h => (sp_s2 c_22) h.2.2.2.1)), (fun _ _ => rfl)⟩, by rw [ht]; exact hP.sub [4, 0, 1, 2, 3, 5] rfl, hD.sub [4, 0, 1, 2, 3, 5] (by decide +kernel) rfl⟩, hS.F ht⟩) hS.2.2 dX9_copy_116 hlk
                · skip
                  refine lv_iload hx hb dX9_copy_83 (lv_at hl 5 rfl) ?_
                  refine lv_aload_n hx hb dX9_copy_85 rfl (lv_at hl 0 rfl) ?_
                  refine xg hF kf_X9_46 hK hP 0 rfl rfl dX9_copy_86 ?_
                  refine lv_iload_n hx hb dX9_copy_89 rfl (lv_at hl 1 rfl) ?_
                  refine va_iald hx hb hK hP 2 0 rfl rfl (xin 2 4 (by decide) (by decide)) dX9_copy_90 ?_
                  refine xl_i (y := sq 2) (congrArg sq rfl) ?_
                  refine xl_i (y := nI (zq)) ez ?_
                  refine lv_iload_n hx hb dX9_copy_91 rfl (lv_at hl 2 rfl) ?_
                  refine lv_isub hx hb dX9_copy_92 ?_
                  refine lv_topi (fun x_25 ex_25 => ?_)
                  refine lv_icmp_gt (tgt := 110) hx hb dX9_copy_93 (by decide) (fun c_26 => ?_) (fun c_26 => ?_)
                  · skip
                    refine lv_aload_n hx hb dX9_copy_110 rfl (lv_at hl 0 rfl) ?_
                    refine lv_ldc (v := (-1000000001)) hx hb hown (hu _ uw648) dX9_copy_111 ?_
                    refine xc_Vi (wr := [(ybi, .inl (cI, 4, .inl bi)), (ysi, .inl (cI, 4, .inl sq)), (ynu, .inl (cJ, 160, .inr (.inl nb))), (ymo, .inl (cJ, 40, .inr (.inl mv9)))]) hF (c_X9_finds_B l D cI cJ cZ cS ta sa sv s.heap.size h0 ys yk yo yt mk0 yfa yfe mL mS mM yro yhe ygr mF mC mY yta mz mf mt mv mw ywa ybi ysi ynu ymo mq ) kv_X9_70 ⟨rfl, rfl, Nat.le_of_ble_eq_true rfl, Nat.le_of_ble_eq_true rfl⟩ ⟨Nat.le_of_ble_eq_true rfl, Nat.le_of_ble_eq_true rfl⟩ hK hN hZ hP hD hS hA [0, 5] [1, 2, 3, 4] rfl rfl rfl rfl (by decide) 0 rfl rfl rfl rfl hl.1 rfl (Nat.le_of_ble_eq_true rfl) dX9_copy_113 (fun r_27 u_r_27 H locs hw_r_27 hP hD hS => ?_)
                    obtain ⟨mq2_28, rfl⟩ : ∃ z, z = u_r_27 := ⟨_, rfl⟩
                    try dsimp only at hw_r_27
                    have hP : va_P D vwCl [(ybi, .inl (cI, 4, .inl bi)), (ysi, .inl (cI, 4, .inl sq)), (ynu, .inl (cJ, 160, .inr (.inl nb))), (ymo, .inl (cJ, 40, .inr (.inl mv9))), (h0, .inr (9, [.ref ys, .ref yk, .ref yo, .ref yt, .int mk0, .ref yfa, .ref yfe, .int mL, .int mS, .int mM, .ref yro, .ref yhe, .ref ygr, .int mF, .int mC, .int mY, .ref yta, .int (nI (mz)), .int (nI (mf)), .int (nI (mt)), .int mv, .int mw, .ref ywa, .ref ybi, .ref ysi, .ref ynu, .ref ymo])), (yt, .inl (cI, 7, .inl mq2_28))] H := hP
                    have hD : va_D A [(ybi, .inl (cI, 4, .inl bi)), (ysi, .inl (cI, 4, .inl sq)), (ynu, .inl (cJ, 160, .inr (.inl nb))), (ymo, .inl (cJ, 40, .inr (.inl mv9))), (h0, .inr (9, [.ref ys, .ref yk, .ref yo, .ref yt, .int mk0, .ref yfa, .ref yfe, .int mL, .int mS, .int mM, .ref yro, .ref yhe, .ref ygr, .int mF, .int mC, .int mY, .ref yta, .int (nI (mz)), .int (nI (mf)), .int (nI (mt)), .int mv, .int mw, .ref ywa, .ref ybi, .ref ysi, .ref ynu, .ref ymo])), (yt, .inl (cI, 7, .inl mq2_28))] := hD
                    subst hw_r_27
                    exact W.iret (v := (-1000000001)) hx hb hr (fun t ht hW => ⟨⟨(-1000000001), (nb, mv9, mq2_28), rfl, ⟨(sp_cr3 c_11 c_14 c_15 (fun q => (sp_s5 hzq c_16 c_22 ex_25 c_26) q.1)), (fun j => sp_c0 (fun h => (sp_s5 hzq c_16 c_22 ex_25 c_26) h.2.2.2.1)), (fun _ _ => rfl)⟩, by rw [ht]; exact hP.sub [4, 0, 1, 2, 3, 5] rfl, hD.sub [4, 0, 1, 2, 3, 5] (by decide +kernel) rfl⟩, hS.F ht⟩) hS.2.2 dX9_copy_116 hlk
                  · skip
                    refine lv_iload hx hb dX9_copy_96 (lv_at hl 5 rfl) ?_
                    refine lv_aload_n hx hb dX9_copy_98 rfl (lv_at hl 0 rfl) ?_
                    refine xg hF kf_X9_46 hK hP 0 rfl rfl dX9_copy_99 ?_
                    refine lv_iload_n hx hb dX9_copy_102 rfl (lv_at hl 3 rfl) ?_
                    refine va_iald hx hb hK hP 2 0 rfl rfl (xin 3 4 (by decide) (by decide)) dX9_copy_103 ?_
                    refine xl_i (y := sq 3) (congrArg sq rfl) ?_
                    refine xl_i (y := nI (zt)) et ?_
                    refine lv_iload hx hb dX9_copy_104 (lv_at hl 4 rfl) ?_
                    refine lv_isub hx hb dX9_copy_106 ?_
                    refine lv_topi (fun x_29 ex_29 => ?_)
                    refine lv_icmp_le (tgt := 117) hx hb dX9_copy_107 (by decide) (fun c_30 => ?_) (fun c_30 => ?_)
                    · skip
                      obtain ⟨y_31, hy_31, rfl⟩ := x_spk (by omega) c_16 c_22 ex_25 c_26
                      obtain ⟨y_32, hy_32, rfl⟩ := x_spj (by omega) (by omega) c_16 ex_25 c_26
                      obtain ⟨y_33, hy_33, rfl⟩ := x_spj (by omega) (by omega) c_19 ex_29 (Int32.not_lt.mpr c_30)
                      refine lv_iconst (v := 0) hx hb dX9_copy_117 (by decide) ?_
                      refine lv_istore (lv' := [(6, .int 0), (0, .ref h0), (1, .int 2), (2, .int (nI (y_32))), (3, .int 3), (4, .int (nI (y_33))), (5, .int (nI (y_31)))]) hx hb dX9_copy_118 hl (by decide) rfl (fun ls hl => ?_)
                      suffices loop_120 : ∀ (n_120 : Nat) (i : Nat) (m8 : Nat → Int64) (H : Heap) (locs : List Loc) (ls : Array Slot), y_31 - i < n_120 → (i ≤ y_31) → (∀ j, j < i → m8 j = nb (80 + y_32 + j)) → va_P D vwCl [(h0, .inr (9, [.ref ys, .ref yk, .ref yo, .ref yt, .int mk0, .ref yfa, .ref yfe, .int mL, .int mS, .int mM, .ref yro, .ref yhe, .ref ygr, .int mF, .int mC, .int mY, .ref yta, .int (nI (mz)), .int (nI (mf)), .int (nI (mt)), .int mv, .int mw, .ref ywa, .ref ybi, .ref ysi, .ref ynu, .ref ymo])), (ybi, .inl (cI, 4, .inl bi)), (ysi, .inl (cI, 4, .inl sq)), (ynu, .inl (cJ, 160, .inr (.inl nb))), (ymo, .inl (cJ, 40, .inr (.inl m8))), (yt, .inl (cI, 7, .inl mq))] H → va_D A [(h0, .inr (9, [.ref ys, .ref yk, .ref yo, .ref yt, .int mk0, .ref yfa, .ref yfe, .int mL, .int mS, .int mM, .ref yro, .ref yhe, .ref ygr, .int mF, .int mC, .int mY, .ref yta, .int (nI (mz)), .int (nI (mf)), .int (nI (mt)), .int mv, .int mw, .ref ywa, .ref ybi, .ref ysi, .ref ynu, .ref ymo])), (ybi, .inl (cI, 4, .inl bi)), (ysi, .inl (cI, 4, .inl sq)), (ynu, .inl (cJ, 160, .inr (.inl nb))), (ymo, .inl (cJ, 40, .inr (.inl m8))), (yt, .inl (cI, 7, .inl mq))] → va_S A s.heap H locs → lv_has ls 7 [(6, .int (nI (i))), (0, .ref h0), (1, .int 2), (2, .int (nI (y_32))), (3, .int 3), (4, .int (nI (y_33))), (5, .int (nI (y_31)))] → W p l e ({ frames := 2, cells := 0, slots := 0, locals := 45 }) s m ([.ref h0, .int 2, .int (nI (y_32)), .int 3, .int (nI (y_33)), .int (nI (y_31))] : List Value).toArray below meth c H locs 0 0 (MQ below (XQi (fun (r : Int32) (u : (Nat → Int64) × (Nat → Int64) × (Nat → Int32)) => match u with | (nb2, mv2, mq2) => ((r = sp_cr (bi 2) (bi 3) zq zt (nI (y_32)) (nI (y_33)) (nI (y_31)))) ∧ (∀ j, nb2 (120 + j) = sp_cn (bi 2) (bi 3) zq zt (nI (y_32)) (nI (y_33)) (nI (y_31)) (fun k => nb (80 + k)) j (nb (120 + j))) ∧ (∀ j, j < 120 ∨ 160 ≤ j → nb2 j = nb j)) D (fun (u : (Nat → Int64) × (Nat → Int64) × (Nat → Int32)) => match u with | (nb2, mv2, mq2) => [(h0, .inr (9, [.ref ys, .ref yk, .ref yo, .ref yt, .int mk0, .ref yfa, .ref yfe, .int mL, .int mS, .int mM, .ref yro, .ref yhe, .ref ygr, .int mF, .int mC, .int mY, .ref yta, .int (nI (mz)), .int (nI (mf)), .int (nI (mt)), .int mv, .int mw, .ref ywa, .ref ybi, .ref ysi, .ref ynu, .ref ymo])), (ybi, .inl (cI, 4, .inl bi)), (ysi, .inl (cI, 4, .inl sq)), (ynu, .inl (cJ, 160, .inr (.inl nb2))), (ymo, .inl (cJ, 40, .inr (.inl mv2))), (yt, .inl (cI, 7, .inl mq2))]) A) ([.ref h0, .int 2, .int (nI (y_32)), .int 3, .int (nI (y_33)), .int (nI (y_31))] : List Value).toArray s 0 0 A) (F0 m 120 ls []) by
                        exact loop_120 _ 0 mv9 _ _ _ (Nat.lt_succ_self _) (by omega) (fun j hj => absurd hj (Nat.not_lt_zero _)) hP hD hS (lv_sub hl [0, 1, 2, 3, 4, 5, 6] rfl)
                      intro n_120
                      induction n_120 with
                      | zero =>
                        intro i m8 H locs ls hm_120
                        exact absurd hm_120 (Nat.not_lt_zero _)
                      | succ n_120 ih_120 =>
                        intro i m8 H locs ls hm_120 hi hm8 hP hD hS hl
                        refine lv_iload hx hb dX9_copy_120 (lv_at hl 0 rfl) ?_
                        refine lv_iload hx hb dX9_copy_122 (lv_at hl 6 rfl) ?_
                        refine lv_icmp_ge (tgt := 154) hx hb dX9_copy_124 (by decide) (fun c_34 => ?_) (fun c_34 => ?_)
                        · skip
                          have nc_34 : y_31 ≤ i := xn_le (a := y_31) (b := i) (by omega) (by omega) c_34
                          refine lv_iconst (v := 0) hx hb dX9_copy_154 (by decide) ?_
                          refine lv_istore (lv' := [(6, .int 0), (0, .ref h0), (1, .int 2), (2, .int (nI (y_32))), (3, .int 3), (4, .int (nI (y_33))), (5, .int (nI (y_31)))]) hx hb dX9_copy_155 hl (by decide) rfl (fun ls hl => ?_)
                          suffices loop_157 : ∀ (n_157 : Nat) (i2 : Nat) (n8 : Nat → Int64) (H : Heap) (locs : List Loc) (ls : Array Slot), y_31 - i2 < n_157 → (i2 ≤ y_31) → (∀ j, n8 j = if 120 + y_33 ≤ j ∧ j < 120 + y_33 + i2 then m8 (j - (120 + y_33)) else nb j) → va_P D vwCl [(h0, .inr (9, [.ref ys, .ref yk, .ref yo, .ref yt, .int mk0, .ref yfa, .ref yfe, .int mL, .int mS, .int mM, .ref yro, .ref yhe, .ref ygr, .int mF, .int mC, .int mY, .ref yta, .int (nI (mz)), .int (nI (mf)), .int (nI (mt)), .int mv, .int mw, .ref ywa, .ref ybi, .ref ysi, .ref ynu, .ref ymo])), (ybi, .inl (cI, 4, .inl bi)), (ysi, .inl (cI, 4, .inl sq)), (ynu, .inl (cJ, 160, .inr (.inl n8))), (ymo, .inl (cJ, 40, .inr (.inl m8))), (yt, .inl (cI, 7, .inl mq))] H → va_D A [(h0, .inr (9, [.ref ys, .ref yk, .ref yo, .ref yt, .int mk0, .ref yfa, .ref yfe, .int mL, .int mS, .int mM, .ref yro, .ref yhe, .ref ygr, .int mF, .int mC, .int mY, .ref yta, .int (nI (mz)), .int (nI (mf)), .int (nI (mt)), .int mv, .int mw, .ref ywa, .ref ybi, .ref ysi, .ref ynu, .ref ymo])), (ybi, .inl (cI, 4, .inl bi)), (ysi, .inl (cI, 4, .inl sq)), (ynu, .inl (cJ, 160, .inr (.inl n8))), (ymo, .inl (cJ, 40, .inr (.inl m8))), (yt, .inl (cI, 7, .inl mq))] → va_S A s.heap H locs → lv_has ls 7 [(6, .int (nI (i2))), (0, .ref h0), (1, .int 2), (2, .int (nI (y_32))), (3, .int 3), (4, .int (nI (y_33))), (5, .int (nI (y_31)))] → W p l e ({ frames := 2, cells := 0, slots := 0, locals := 45 }) s m ([.ref h0, .int 2, .int (nI (y_32)), .int 3, .int (nI (y_33)), .int (nI (y_31))] : List Value).toArray below meth c H locs 0 0 (MQ below (XQi (fun (r : Int32) (u : (Nat → Int64) × (Nat → Int64) × (Nat → Int32)) => match u with | (nb2, mv2, mq2) => ((r = sp_cr (bi 2) (bi 3) zq zt (nI (y_32)) (nI (y_33)) (nI (y_31)))) ∧ (∀ j, nb2 (120 + j) = sp_cn (bi 2) (bi 3) zq zt (nI (y_32)) (nI (y_33)) (nI (y_31)) (fun k => nb (80 + k)) j (nb (120 + j))) ∧ (∀ j, j < 120 ∨ 160 ≤ j → nb2 j = nb j)) D (fun (u : (Nat → Int64) × (Nat → Int64) × (Nat → Int32)) => match u with | (nb2, mv2, mq2) => [(h0, .inr (9, [.ref ys, .ref yk, .ref yo, .ref yt, .int mk0, .ref yfa, .ref yfe, .int mL, .int mS, .int mM, .ref yro, .ref yhe, .ref ygr, .int mF, .int mC, .int mY, .ref yta, .int (nI (mz)), .int (nI (mf)), .int (nI (mt)), .int mv, .int mw, .ref ywa, .ref ybi, .ref ysi, .ref ynu, .ref ymo])), (ybi, .inl (cI, 4, .inl bi)), (ysi, .inl (cI, 4, .inl sq)), (ynu, .inl (cJ, 160, .inr (.inl nb2))), (ymo, .inl (cJ, 40, .inr (.inl mv2))), (yt, .inl (cI, 7, .inl mq2))]) A) ([.ref h0, .int 2, .int (nI (y_32)), .int 3, .int (nI (y_33)), .int (nI (y_31))] : List Value).toArray s 0 0 A) (F0 m 157 ls []) by
                            exact loop_157 _ 0 nb _ _ _ (Nat.lt_succ_self _) (by omega) (fun j => (if_neg (by omega)).symm) hP hD hS (lv_sub hl [0, 1, 2, 3, 4, 5, 6] rfl)
                          intro n_157
                          induction n_157 with
                          | zero =>
                            intro i2 n8 H locs ls hm_157
                            exact absurd hm_157 (Nat.not_lt_zero _)
                          | succ n_157 ih_157 =>
                            intro i2 n8 H locs ls hm_157 hi2 hn8 hP hD hS hl
                            refine lv_iload hx hb dX9_copy_157 (lv_at hl 0 rfl) ?_
                            refine lv_iload hx hb dX9_copy_159 (lv_at hl 6 rfl) ?_
                            refine lv_icmp_ge (tgt := 192) hx hb dX9_copy_161 (by decide) (fun c_35 => ?_) (fun c_35 => ?_)
                            · skip
                              have nc_35 : y_31 ≤ i2 := xn_le (a := y_31) (b := i2) (by omega) (by omega) c_35
                              refine lv_iload hx hb dX9_copy_192 (lv_at hl 6 rfl) ?_
                              have hn7 : ∀ j, n8 j = if 120 + y_33 ≤ j ∧ j < 120 + y_33 + y_31 then m8 (j - (120 + y_33)) else nb j := fun j => by rw [hn8 j, show i2 = y_31 by omega]
                              have hm7 : ∀ j, j < y_31 → m8 j = nb (80 + y_32 + j) := fun j hj => hm8 j (by omega)
                              exact W.iret (v := nI (y_31)) hx hb hr (fun t ht hW => ⟨⟨nI (y_31), (n8, m8, mq), rfl, ⟨(sp_cr4 c_11 c_14 c_15 (sp_nspan (by omega) (by omega)) (sp_nspan (by omega) (by omega))), (fun j9 => sp_c1 (K := 120) (M := 80) (by omega) (by omega) c_11 c_14 c_15 (by omega) (by omega) (fun i9 => sp_mv3 hn7 hm7 rfl rfl)), (fun j9 hj9 => by rw [hn7 j9, if_neg (by omega)])⟩, by rw [ht]; exact hP.sub [0, 1, 2, 3, 4, 5] rfl, hD.sub [0, 1, 2, 3, 4, 5] (by decide +kernel) rfl⟩, hS.F ht⟩) hS.2.2 dX9_copy_194 hlk
                            · skip
                              have nc_35 : i2 < y_31 := xn_nle (a := y_31) (b := i2) (by omega) (by omega) c_35
                              refine lv_aload_n hx hb dX9_copy_164 rfl (lv_at hl 1 rfl) ?_
                              refine xg hF kf_X9_49 hK hP 0 rfl rfl dX9_copy_165 ?_
                              refine lv_bipush (v := 40) hx hb dX9_copy_168 (by decide) ?_
                              refine lv_iload_n hx hb dX9_copy_170 rfl (lv_at hl 4 rfl) ?_
                              refine lv_imul hx hb dX9_copy_171 ?_
                              refine xl_i (y := 120) (by decide) ?_
                              refine lv_iload hx hb dX9_copy_172 (lv_at hl 5 rfl) ?_
                              refine lv_iadd hx hb dX9_copy_174 ?_
                              refine xl_i (y := nI (120 + y_33)) (nI_add 120 y_33) ?_
                              refine lv_iload hx hb dX9_copy_175 (lv_at hl 0 rfl) ?_
                              refine lv_iadd hx hb dX9_copy_177 ?_
                              refine xl_i (y := nI (120 + y_33 + i2)) (nI_add (120 + y_33) i2) ?_
                              refine lv_aload_n hx hb dX9_copy_178 rfl (lv_at hl 1 rfl) ?_
                              refine xg hF kf_X9_53 hK hP 0 rfl rfl dX9_copy_179 ?_
                              refine lv_iload hx hb dX9_copy_182 (lv_at hl 0 rfl) ?_
                              refine va_lald hx hb hK hP 4 1 rfl rfl (vp_in_nI (show i2 < 40 by omega) (by decide)) dX9_copy_184 ?_
                              refine xl_l (y := m8 i2) (congrArg m8 (nI_clamp (show i2 < 2 ^ 31 by omega))) ?_
                              refine va_last hx hb hK hP hD hS 3 1 rfl rfl (vp_in_nI (show 120 + y_33 + i2 < 160 by omega) (by decide)) dX9_copy_185 (fun H locs hP hD hS => ?_)
                              rw [nI_clamp (show 120 + y_33 + i2 < 2 ^ 31 by omega)] at hP hD
                              obtain ⟨f_36, ef_36⟩ : ∃ g, g = vp_updL n8 (120 + y_33 + i2) (m8 i2) := ⟨_, rfl⟩
                              rw [← ef_36] at hP hD
                              have hP : va_P D vwCl [(h0, .inr (9, [.ref ys, .ref yk, .ref yo, .ref yt, .int mk0, .ref yfa, .ref yfe, .int mL, .int mS, .int mM, .ref yro, .ref yhe, .ref ygr, .int mF, .int mC, .int mY, .ref yta, .int (nI (mz)), .int (nI (mf)), .int (nI (mt)), .int mv, .int mw, .ref ywa, .ref ybi, .ref ysi, .ref ynu, .ref ymo])), (ybi, .inl (cI, 4, .inl bi)), (ysi, .inl (cI, 4, .inl sq)), (ynu, .inl (cJ, 160, .inr (.inl f_36))), (ymo, .inl (cJ, 40, .inr (.inl m8))), (yt, .inl (cI, 7, .inl mq))] H := hP
                              have hD : va_D A [(h0, .inr (9, [.ref ys, .ref yk, .ref yo, .ref yt, .int mk0, .ref yfa, .ref yfe, .int mL, .int mS, .int mM, .ref yro, .ref yhe, .ref ygr, .int mF, .int mC, .int mY, .ref yta, .int (nI (mz)), .int (nI (mf)), .int (nI (mt)), .int mv, .int mw, .ref ywa, .ref ybi, .ref ysi, .ref ynu, .ref ymo])), (ybi, .inl (cI, 4, .inl bi)), (ysi, .inl (cI, 4, .inl sq)), (ynu, .inl (cJ, 160, .inr (.inl f_36))), (ymo, .inl (cJ, 40, .inr (.inl m8))), (yt, .inl (cI, 7, .inl mq))] := hD
                              refine lv_iinc (v := nI (i2 + 1)) (lv' := [(6, .int (nI (i2 + 1))), (0, .ref h0), (1, .int 2), (2, .int (nI (y_32))), (3, .int 3), (4, .int (nI (y_33))), (5, .int (nI (y_31)))]) hx hb dX9_copy_186 hl (k := 0) rfl (nI_1 (i2)) (by decide) rfl (fun ls hl => ?_)
                              refine lv_goto (tgt := 157) hx hb dX9_copy_189 (by decide) ?_
                              exact ih_157 (i2 + 1) f_36 _ _ _ (by omega) (by omega) (sp_mv2 hn8 ef_36) (hP.sub [0, 1, 2, 3, 4, 5] rfl) (hD.sub [0, 1, 2, 3, 4, 5] (by decide +kernel) rfl) hS (lv_sub hl [0, 1, 2, 3, 4, 5, 6] rfl)
                        · skip
                          have nc_34 : i < y_31 := xn_nle (a := y_31) (b := i) (by omega) (by omega) c_34
                          refine lv_aload_n hx hb dX9_copy_127 rfl (lv_at hl 1 rfl) ?_
                          refine xg hF kf_X9_53 hK hP 0 rfl rfl dX9_copy_128 ?_
                          refine lv_iload hx hb dX9_copy_131 (lv_at hl 0 rfl) ?_
                          refine lv_aload_n hx hb dX9_copy_133 rfl (lv_at hl 1 rfl) ?_
                          refine xg hF kf_X9_49 hK hP 0 rfl rfl dX9_copy_134 ?_
                          refine lv_bipush (v := 40) hx hb dX9_copy_137 (by decide) ?_
                          refine lv_iload_n hx hb dX9_copy_139 rfl (lv_at hl 2 rfl) ?_
                          refine lv_imul hx hb dX9_copy_140 ?_
                          refine xl_i (y := 80) (by decide) ?_
                          refine lv_iload_n hx hb dX9_copy_141 rfl (lv_at hl 3 rfl) ?_
                          refine lv_iadd hx hb dX9_copy_142 ?_
                          refine xl_i (y := nI (80 + y_32)) (nI_add 80 y_32) ?_
                          refine lv_iload hx hb dX9_copy_143 (lv_at hl 0 rfl) ?_
                          refine lv_iadd hx hb dX9_copy_145 ?_
                          refine xl_i (y := nI (80 + y_32 + i)) (nI_add (80 + y_32) i) ?_
                          refine va_lald hx hb hK hP 3 1 rfl rfl (vp_in_nI (show 80 + y_32 + i < 160 by omega) (by decide)) dX9_copy_146 ?_
                          refine xl_l (y := nb (80 + y_32 + i)) (congrArg nb (nI_clamp (show 80 + y_32 + i < 2 ^ 31 by omega))) ?_
                          refine va_last hx hb hK hP hD hS 4 1 rfl rfl (vp_in_nI (show i < 40 by omega) (by decide)) dX9_copy_147 (fun H locs hP hD hS => ?_)
                          rw [nI_clamp (show i < 2 ^ 31 by omega)] at hP hD
                          obtain ⟨f_37, ef_37⟩ : ∃ g, g = vp_updL m8 i (nb (80 + y_32 + i)) := ⟨_, rfl⟩
                          rw [← ef_37] at hP hD
                          have hP : va_P D vwCl [(h0, .inr (9, [.ref ys, .ref yk, .ref yo, .ref yt, .int mk0, .ref yfa, .ref yfe, .int mL, .int mS, .int mM, .ref yro, .ref yhe, .ref ygr, .int mF, .int mC, .int mY, .ref yta, .int (nI (mz)), .int (nI (mf)), .int (nI (mt)), .int mv, .int mw, .ref ywa, .ref ybi, .ref ysi, .ref ynu, .ref ymo])), (ybi, .inl (cI, 4, .inl bi)), (ysi, .inl (cI, 4, .inl sq)), (ynu, .inl (cJ, 160, .inr (.inl nb))), (ymo, .inl (cJ, 40, .inr (.inl f_37))), (yt, .inl (cI, 7, .inl mq))] H := hP
                          have hD : va_D A [(h0, .inr (9, [.ref ys, .ref yk, .ref yo, .ref yt, .int mk0, .ref yfa, .ref yfe, .int mL, .int mS, .int mM, .ref yro, .ref yhe, .ref ygr, .int mF, .int mC, .int mY, .ref yta, .int (nI (mz)), .int (nI (mf)), .int (nI (mt)), .int mv, .int mw, .ref ywa, .ref ybi, .ref ysi, .ref ynu, .ref ymo])), (ybi, .inl (cI, 4, .inl bi)), (ysi, .inl (cI, 4, .inl sq)), (ynu, .inl (cJ, 160, .inr (.inl nb))), (ymo, .inl (cJ, 40, .inr (.inl f_37))), (yt, .inl (cI, 7, .inl mq))] := hD
                          refine lv_iinc (v := nI (i + 1)) (lv' := [(6, .int (nI (i + 1))), (0, .ref h0), (1, .int 2), (2, .int (nI (y_32))), (3, .int 3), (4, .int (nI (y_33))), (5, .int (nI (y_31)))]) hx hb dX9_copy_148 hl (k := 0) rfl (nI_1 (i)) (by decide) rfl (fun ls hl => ?_)
                          refine lv_goto (tgt := 120) hx hb dX9_copy_151 (by decide) ?_
                          exact ih_120 (i + 1) f_37 _ _ _ (by omega) (by omega) (sp_mv1 hm8 ef_37) (hP.sub [0, 1, 2, 3, 4, 5] rfl) (hD.sub [0, 1, 2, 3, 4, 5] (by decide +kernel) rfl) hS (lv_sub hl [0, 1, 2, 3, 4, 5, 6] rfl)
                    · skip
                      refine lv_aload_n hx hb dX9_copy_110 rfl (lv_at hl 0 rfl) ?_
                      refine lv_ldc (v := (-1000000001)) hx hb hown (hu _ uw648) dX9_copy_111 ?_
                      refine xc_Vi (wr := [(ybi, .inl (cI, 4, .inl bi)), (ysi, .inl (cI, 4, .inl sq)), (ynu, .inl (cJ, 160, .inr (.inl nb))), (ymo, .inl (cJ, 40, .inr (.inl mv9)))]) hF (c_X9_finds_B l D cI cJ cZ cS ta sa sv s.heap.size h0 ys yk yo yt mk0 yfa yfe mL mS mM yro yhe ygr mF mC mY yta mz mf mt mv mw ywa ybi ysi ynu ymo mq ) kv_X9_70 ⟨rfl, rfl, Nat.le_of_ble_eq_true rfl, Nat.le_of_ble_eq_true rfl⟩ ⟨Nat.le_of_ble_eq_true rfl, Nat.le_of_ble_eq_true rfl⟩ hK hN hZ hP hD hS hA [0, 5] [1, 2, 3, 4] rfl rfl rfl rfl (by decide) 0 rfl rfl rfl rfl hl.1 rfl (Nat.le_of_ble_eq_true rfl) dX9_copy_113 (fun r_38 u_r_38 H locs hw_r_38 hP hD hS => ?_)
                      obtain ⟨mq2_39, rfl⟩ : ∃ z, z = u_r_38 := ⟨_, rfl⟩
                      try dsimp only at hw_r_38
                      have hP : va_P D vwCl [(ybi, .inl (cI, 4, .inl bi)), (ysi, .inl (cI, 4, .inl sq)), (ynu, .inl (cJ, 160, .inr (.inl nb))), (ymo, .inl (cJ, 40, .inr (.inl mv9))), (h0, .inr (9, [.ref ys, .ref yk, .ref yo, .ref yt, .int mk0, .ref yfa, .ref yfe, .int mL, .int mS, .int mM, .ref yro, .ref yhe, .ref ygr, .int mF, .int mC, .int mY, .ref yta, .int (nI (mz)), .int (nI (mf)), .int (nI (mt)), .int mv, .int mw, .ref ywa, .ref ybi, .ref ysi, .ref ynu, .ref ymo])), (yt, .inl (cI, 7, .inl mq2_39))] H := hP
                      have hD : va_D A [(ybi, .inl (cI, 4, .inl bi)), (ysi, .inl (cI, 4, .inl sq)), (ynu, .inl (cJ, 160, .inr (.inl nb))), (ymo, .inl (cJ, 40, .inr (.inl mv9))), (h0, .inr (9, [.ref ys, .ref yk, .ref yo, .ref yt, .int mk0, .ref yfa, .ref yfe, .int mL, .int mS, .int mM, .ref yro, .ref yhe, .ref ygr, .int mF, .int mC, .int mY, .ref yta, .int (nI (mz)), .int (nI (mf)), .int (nI (mt)), .int mv, .int mw, .ref ywa, .ref ybi, .ref ysi, .ref ynu, .ref ymo])), (yt, .inl (cI, 7, .inl mq2_39))] := hD
                      subst hw_r_38
                      exact W.iret (v := (-1000000001)) hx hb hr (fun t ht hW => ⟨⟨(-1000000001), (nb, mv9, mq2_39), rfl, ⟨(sp_cr3 c_11 c_14 c_15 (fun q => (sp_s5 hzt c_19 c_22 ex_29 (xlt c_30)) q.2)), (fun j => sp_c0 (fun h => (sp_s5 hzt c_19 c_22 ex_29 (xlt c_30)) h.2.2.2.2)), (fun _ _ => rfl)⟩, by rw [ht]; exact hP.sub [4, 0, 1, 2, 3, 5] rfl, hD.sub [4, 0, 1, 2, 3, 5] (by decide +kernel) rfl⟩, hS.F ht⟩) hS.2.2 dX9_copy_116 hlk
          · skip
            refine lv_aload_n hx hb dX9_copy_62 rfl (lv_at hl 0 rfl) ?_
            refine lv_ldc (v := (-1000000003)) hx hb hown (hu _ uw765) dX9_copy_63 ?_
            refine xc_Vi (wr := [(ybi, .inl (cI, 4, .inl bi)), (ysi, .inl (cI, 4, .inl sq)), (ynu, .inl (cJ, 160, .inr (.inl nb))), (ymo, .inl (cJ, 40, .inr (.inl mv9)))]) hF (c_X9_finds_K l D cI cJ cZ cS ta sa sv s.heap.size h0 ys yk yo yt mk0 yfa yfe mL mS mM yro yhe ygr mF mC mY yta mz mf mt mv mw ywa ybi ysi ynu ymo mq ) kv_X9_70 ⟨rfl, rfl, Nat.le_of_ble_eq_true rfl, Nat.le_of_ble_eq_true rfl⟩ ⟨Nat.le_of_ble_eq_true rfl, Nat.le_of_ble_eq_true rfl⟩ hK hN hZ hP hD hS hA [0, 5] [1, 2, 3, 4] rfl rfl rfl rfl (by decide) 0 rfl rfl rfl rfl hl.1 rfl (Nat.le_of_ble_eq_true rfl) dX9_copy_65 (fun r_40 u_r_40 H locs hw_r_40 hP hD hS => ?_)
            obtain ⟨mq2_41, rfl⟩ : ∃ z, z = u_r_40 := ⟨_, rfl⟩
            try dsimp only at hw_r_40
            have hP : va_P D vwCl [(ybi, .inl (cI, 4, .inl bi)), (ysi, .inl (cI, 4, .inl sq)), (ynu, .inl (cJ, 160, .inr (.inl nb))), (ymo, .inl (cJ, 40, .inr (.inl mv9))), (h0, .inr (9, [.ref ys, .ref yk, .ref yo, .ref yt, .int mk0, .ref yfa, .ref yfe, .int mL, .int mS, .int mM, .ref yro, .ref yhe, .ref ygr, .int mF, .int mC, .int mY, .ref yta, .int (nI (mz)), .int (nI (mf)), .int (nI (mt)), .int mv, .int mw, .ref ywa, .ref ybi, .ref ysi, .ref ynu, .ref ymo])), (yt, .inl (cI, 7, .inl mq2_41))] H := hP
            have hD : va_D A [(ybi, .inl (cI, 4, .inl bi)), (ysi, .inl (cI, 4, .inl sq)), (ynu, .inl (cJ, 160, .inr (.inl nb))), (ymo, .inl (cJ, 40, .inr (.inl mv9))), (h0, .inr (9, [.ref ys, .ref yk, .ref yo, .ref yt, .int mk0, .ref yfa, .ref yfe, .int mL, .int mS, .int mM, .ref yro, .ref yhe, .ref ygr, .int mF, .int mC, .int mY, .ref yta, .int (nI (mz)), .int (nI (mf)), .int (nI (mt)), .int mv, .int mw, .ref ywa, .ref ybi, .ref ysi, .ref ynu, .ref ymo])), (yt, .inl (cI, 7, .inl mq2_41))] := hD
            subst hw_r_40
            exact W.iret (v := (-1000000003)) hx hb hr (fun t ht hW => ⟨⟨(-1000000003), (nb, mv9, mq2_41), rfl, ⟨(sp_cr2 c_11 c_14 c_15), (fun j => sp_c0 (fun h => absurd h.2.2.1 c_15)), (fun _ _ => rfl)⟩, by rw [ht]; exact hP.sub [4, 0, 1, 2, 3, 5] rfl, hD.sub [4, 0, 1, 2, 3, 5] (by decide +kernel) rfl⟩, hS.F ht⟩) hS.2.2 dX9_copy_68 hlk
        · skip
          refine lv_aload_n hx hb dX9_copy_39 rfl (lv_at hl 0 rfl) ?_
          refine lv_ldcw (v := (-1000000006)) hx hb hown (hu _ uw910) dX9_copy_40 ?_
          refine xc_Vi (wr := [(ybi, .inl (cI, 4, .inl bi)), (ysi, .inl (cI, 4, .inl sq)), (ynu, .inl (cJ, 160, .inr (.inl nb))), (ymo, .inl (cJ, 40, .inr (.inl mv9)))]) hF (c_X9_finds_M l D cI cJ cZ cS ta sa sv s.heap.size h0 ys yk yo yt mk0 yfa yfe mL mS mM yro yhe ygr mF mC mY yta mz mf mt mv mw ywa ybi ysi ynu ymo mq ) kv_X9_70 ⟨rfl, rfl, Nat.le_of_ble_eq_true rfl, Nat.le_of_ble_eq_true rfl⟩ ⟨Nat.le_of_ble_eq_true rfl, Nat.le_of_ble_eq_true rfl⟩ hK hN hZ hP hD hS hA [0, 5] [1, 2, 3, 4] rfl rfl rfl rfl (by decide) 0 rfl rfl rfl rfl hl.1 rfl (Nat.le_of_ble_eq_true rfl) dX9_copy_43 (fun r_42 u_r_42 H locs hw_r_42 hP hD hS => ?_)
          obtain ⟨mq2_43, rfl⟩ : ∃ z, z = u_r_42 := ⟨_, rfl⟩
          try dsimp only at hw_r_42
          have hP : va_P D vwCl [(ybi, .inl (cI, 4, .inl bi)), (ysi, .inl (cI, 4, .inl sq)), (ynu, .inl (cJ, 160, .inr (.inl nb))), (ymo, .inl (cJ, 40, .inr (.inl mv9))), (h0, .inr (9, [.ref ys, .ref yk, .ref yo, .ref yt, .int mk0, .ref yfa, .ref yfe, .int mL, .int mS, .int mM, .ref yro, .ref yhe, .ref ygr, .int mF, .int mC, .int mY, .ref yta, .int (nI (mz)), .int (nI (mf)), .int (nI (mt)), .int mv, .int mw, .ref ywa, .ref ybi, .ref ysi, .ref ynu, .ref ymo])), (yt, .inl (cI, 7, .inl mq2_43))] H := hP
          have hD : va_D A [(ybi, .inl (cI, 4, .inl bi)), (ysi, .inl (cI, 4, .inl sq)), (ynu, .inl (cJ, 160, .inr (.inl nb))), (ymo, .inl (cJ, 40, .inr (.inl mv9))), (h0, .inr (9, [.ref ys, .ref yk, .ref yo, .ref yt, .int mk0, .ref yfa, .ref yfe, .int mL, .int mS, .int mM, .ref yro, .ref yhe, .ref ygr, .int mF, .int mC, .int mY, .ref yta, .int (nI (mz)), .int (nI (mf)), .int (nI (mt)), .int mv, .int mw, .ref ywa, .ref ybi, .ref ysi, .ref ynu, .ref ymo])), (yt, .inl (cI, 7, .inl mq2_43))] := hD
          subst hw_r_42
          exact W.iret (v := (-1000000006)) hx hb hr (fun t ht hW => ⟨⟨(-1000000006), (nb, mv9, mq2_43), rfl, ⟨(sp_cr1 (Or.inr c_14)), (fun j => sp_c0 (fun h => h.2.1 c_14)), (fun _ _ => rfl)⟩, by rw [ht]; exact hP.sub [4, 0, 1, 2, 3, 5] rfl, hD.sub [4, 0, 1, 2, 3, 5] (by decide +kernel) rfl⟩, hS.F ht⟩) hS.2.2 dX9_copy_46 hlk
    · exact absurd h_9 (by decide)
  · exact absurd h_4 (by decide)
set_option maxHeartbeats 4000000 in
set_option maxRecDepth 100000 in
theorem c_X9_copy_30 (l : Launch) (D : va_G) (cI cJ cZ cS : ClassId) (ta : Nat) (sa sv : Nat → Nat) (sz : Nat) (h0 : Nat) (ys : Nat) (yk : Nat) (yo : Nat) (yt : Nat) (mk0 : Int32) (yfa : Nat) (yfe : Nat) (mL : Int32) (mS : Int32) (mM : Int32) (yro : Nat) (yhe : Nat) (ygr : Nat) (mF : Int32) (mC : Int32) (mY : Int32) (yta : Nat) (mz : Nat) (mf : Nat) (mt : Nat) (mv : Int32) (mw : Int32) (ywa : Nat) (ybi : Nat) (ysi : Nat) (ynu : Nat) (ymo : Nat) (bi : Nat → Int32) (sq : Nat → Int32) (nb : Nat → Int64) (mv9 : Nat → Int64) (mq : Nat → Int32) (p1 : Int32) (p3 : Int32) (p4 : Int32) (zq : Nat) (zt : Nat) (ez : sq 3 = nI zq) (hzq : zq ≤ 40) (et : sq 0 = nI zt) (hzt : zt ≤ 40) (hsq : BA 4 41 sq) : Met l yX9_copy (Cond.code yX9_copy cX9_copy 7 (some .int) :: wsU) ({ frames := 2, cells := 0, slots := 0, locals := 45 }) (va_Pc [.ref h0, .int 3, .int p1, .int 0, .int p3, .int p4] (XW D (xT cI cJ cZ cS) ta sa sv [(h0, .inr (9, [.ref ys, .ref yk, .ref yo, .ref yt, .int mk0, .ref yfa, .ref yfe, .int mL, .int mS, .int mM, .ref yro, .ref yhe, .ref ygr, .int mF, .int mC, .int mY, .ref yta, .int (nI (mz)), .int (nI (mf)), .int (nI (mt)), .int mv, .int mw, .ref ywa, .ref ybi, .ref ysi, .ref ynu, .ref ymo])), (ybi, .inl (cI, 4, .inl bi)), (ysi, .inl (cI, 4, .inl sq)), (ynu, .inl (cJ, 160, .inr (.inl nb))), (ymo, .inl (cJ, 40, .inr (.inl mv9))), (yt, .inl (cI, 7, .inl mq))] sz)) (XQi (fun (r : Int32) (u : (Nat → Int64) × (Nat → Int64) × (Nat → Int32)) => match u with | (nb2, mv2, mq2) => ((r = sp_cr (bi 3) (bi 0) zq zt p1 p3 p4)) ∧ (∀ j, nb2 (0 + j) = sp_cn (bi 3) (bi 0) zq zt p1 p3 p4 (fun k => nb (120 + k)) j (nb (0 + j))) ∧ (∀ j, j < 0 ∨ 40 ≤ j → nb2 j = nb j)) D (fun (u : (Nat → Int64) × (Nat → Int64) × (Nat → Int32)) => match u with | (nb2, mv2, mq2) => [(h0, .inr (9, [.ref ys, .ref yk, .ref yo, .ref yt, .int mk0, .ref yfa, .ref yfe, .int mL, .int mS, .int mM, .ref yro, .ref yhe, .ref ygr, .int mF, .int mC, .int mY, .ref yta, .int (nI (mz)), .int (nI (mf)), .int (nI (mt)), .int mv, .int mw, .ref ywa, .ref ybi, .ref ysi, .ref ynu, .ref ymo])), (ybi, .inl (cI, 4, .inl bi)), (ysi, .inl (cI, 4, .inl sq)), (ynu, .inl (cJ, 160, .inr (.inl nb2))), (ymo, .inl (cJ, 40, .inr (.inl mv2))), (yt, .inl (cI, 7, .inl mq2))]) (va_A [(h0, .inr (9, [.ref ys, .ref yk, .ref yo, .ref yt, .int mk0, .ref yfa, .ref yfe, .int mL, .int mS, .int mM, .ref yro, .ref yhe, .ref ygr, .int mF, .int mC, .int mY, .ref yta, .int (nI (mz)), .int (nI (mf)), .int (nI (mt)), .int mv, .int mw, .ref ywa, .ref ybi, .ref ysi, .ref ynu, .ref ymo])), (ybi, .inl (cI, 4, .inl bi)), (ysi, .inl (cI, 4, .inl sq)), (ynu, .inl (cJ, 160, .inr (.inl nb))), (ymo, .inl (cJ, 40, .inr (.inl mv9))), (yt, .inl (cI, 7, .inl mq))] sz)) 0 0 (va_A [(h0, .inr (9, [.ref ys, .ref yk, .ref yo, .ref yt, .int mk0, .ref yfa, .ref yfe, .int mL, .int mS, .int mM, .ref yro, .ref yhe, .ref ygr, .int mF, .int mC, .int mY, .ref yta, .int (nI (mz)), .int (nI (mf)), .int (nI (mt)), .int mv, .int mw, .ref ywa, .ref ybi, .ref ysi, .ref ynu, .ref ymo])), (ybi, .inl (cI, 4, .inl bi)), (ysi, .inl (cI, 4, .inl sq)), (ynu, .inl (cJ, 160, .inr (.inl nb))), (ymo, .inl (cJ, 40, .inr (.inl mv9))), (yt, .inl (cI, 7, .inl mq))] sz) := by
  refine xh (QA := fun A => XQi (fun (r : Int32) (u : (Nat → Int64) × (Nat → Int64) × (Nat → Int32)) => match u with | (nb2, mv2, mq2) => ((r = sp_cr (bi 3) (bi 0) zq zt p1 p3 p4)) ∧ (∀ j, nb2 (0 + j) = sp_cn (bi 3) (bi 0) zq zt p1 p3 p4 (fun k => nb (120 + k)) j (nb (0 + j))) ∧ (∀ j, j < 0 ∨ 40 ≤ j → nb2 j = nb j)) D (fun (u : (Nat → Int64) × (Nat → Int64) × (Nat → Int32)) => match u with | (nb2, mv2, mq2) => [(h0, .inr (9, [.ref ys, .ref yk, .ref yo, .ref yt, .int mk0, .ref yfa, .ref yfe, .int mL, .int mS, .int mM, .ref yro, .ref yhe, .ref ygr, .int mF, .int mC, .int mY, .ref yta, .int (nI (mz)), .int (nI (mf)), .int (nI (mt)), .int mv, .int mw, .ref ywa, .ref ybi, .ref ysi, .ref ynu, .ref ymo])), (ybi, .inl (cI, 4, .inl bi)), (ysi, .inl (cI, 4, .inl sq)), (ynu, .inl (cJ, 160, .inr (.inl nb2))), (ymo, .inl (cJ, 40, .inr (.inl mv2))), (yt, .inl (cI, 7, .inl mq2))]) A) (fr := fun A => A) (by decide) (Nat.le_of_ble_eq_true rfl) ?_
  intro p e s m below meth c ls A hF hr hlk hin hsz hP hK hD hN hZ hA hS hl
  have hF : CallFix p m c cX9_copy 7 s _ _ RX9 := hF
  have hx := hF.1
  have hb := hF.2.1
  have hml := hF.2.2.1
  have hown := hF.2.2.2.1
  have hu : ∀ w ∈ wsU, w.before _ s = true := fun w h => hF.2.2.2.2 w (List.mem_cons_of_mem _ h)
  have hl : lv_has ls 7 [(0, .ref h0), (1, .int 3), (2, .int p1), (3, .int 0), (4, .int p3), (5, .int p4)] := hl
  refine lv_iload_n hx hb dX9_copy_0 rfl (lv_at hl 1 rfl) ?_
  refine xc_Sr hF (c_X9_isOne l D cI cJ cZ cS ta sa sv s.heap.size 3 ) ks_X9_305 ⟨rfl, rfl, Nat.le_of_ble_eq_true rfl, Nat.le_of_ble_eq_true rfl⟩ ⟨Nat.le_of_ble_eq_true rfl, Nat.le_of_ble_eq_true rfl⟩ hK hN hZ hP hD hS hA [] rfl rfl rfl hl.1 rfl (Nat.le_of_ble_eq_true rfl) dX9_copy_1 (fun r_1 hw_r_1 => ?_)
  rcases hw_r_1 with ⟨rfl, h_2, h_3⟩ | ⟨rfl, h_4⟩
  · skip
    refine lv_if_eq (tgt := 14) hx hb dX9_copy_4 (by decide) (fun c_5 => absurd c_5 (by decide)) (fun c_5 => ?_)
    refine lv_iload_n hx hb dX9_copy_7 rfl (lv_at hl 3 rfl) ?_
    refine xc_Sr hF (c_X9_isOne l D cI cJ cZ cS ta sa sv s.heap.size 0 ) ks_X9_305 ⟨rfl, rfl, Nat.le_of_ble_eq_true rfl, Nat.le_of_ble_eq_true rfl⟩ ⟨Nat.le_of_ble_eq_true rfl, Nat.le_of_ble_eq_true rfl⟩ hK hN hZ hP hD hS hA [] rfl rfl rfl hl.1 rfl (Nat.le_of_ble_eq_true rfl) dX9_copy_8 (fun r_6 hw_r_6 => ?_)
    rcases hw_r_6 with ⟨rfl, h_7, h_8⟩ | ⟨rfl, h_9⟩
    · skip
      refine lv_if_ne (tgt := 21) hx hb dX9_copy_11 (by decide) (fun c_10 => ?_) (fun c_10 => absurd c_10 (by decide))
      refine lv_aload_n hx hb dX9_copy_21 rfl (lv_at hl 0 rfl) ?_
      refine xg hF kf_X9_43 hK hP 0 rfl rfl dX9_copy_22 ?_
      refine lv_iload_n hx hb dX9_copy_25 rfl (lv_at hl 1 rfl) ?_
      refine va_iald hx hb hK hP 1 0 rfl rfl (xin 3 4 (by decide) (by decide)) dX9_copy_26 ?_
      refine xl_i (y := bi 3) (congrArg bi rfl) ?_
      refine lv_if_eq (tgt := 39) hx hb dX9_copy_27 (by decide) (fun c_11 => ?_) (fun c_11 => ?_)
      · skip
        refine lv_aload_n hx hb dX9_copy_39 rfl (lv_at hl 0 rfl) ?_
        refine lv_ldcw (v := (-1000000006)) hx hb hown (hu _ uw910) dX9_copy_40 ?_
        refine xc_Vi (wr := [(ybi, .inl (cI, 4, .inl bi)), (ysi, .inl (cI, 4, .inl sq)), (ynu, .inl (cJ, 160, .inr (.inl nb))), (ymo, .inl (cJ, 40, .inr (.inl mv9)))]) hF (c_X9_finds_M l D cI cJ cZ cS ta sa sv s.heap.size h0 ys yk yo yt mk0 yfa yfe mL mS mM yro yhe ygr mF mC mY yta mz mf mt mv mw ywa ybi ysi ynu ymo mq ) kv_X9_70 ⟨rfl, rfl, Nat.le_of_ble_eq_true rfl, Nat.le_of_ble_eq_true rfl⟩ ⟨Nat.le_of_ble_eq_true rfl, Nat.le_of_ble_eq_true rfl⟩ hK hN hZ hP hD hS hA [0, 5] [1, 2, 3, 4] rfl rfl rfl rfl (by decide) 0 rfl rfl rfl rfl hl.1 rfl (Nat.le_of_ble_eq_true rfl) dX9_copy_43 (fun r_12 u_r_12 H locs hw_r_12 hP hD hS => ?_)
        obtain ⟨mq2_13, rfl⟩ : ∃ z, z = u_r_12 := ⟨_, rfl⟩
        try dsimp only at hw_r_12
        have hP : va_P D vwCl [(ybi, .inl (cI, 4, .inl bi)), (ysi, .inl (cI, 4, .inl sq)), (ynu, .inl (cJ, 160, .inr (.inl nb))), (ymo, .inl (cJ, 40, .inr (.inl mv9))), (h0, .inr (9, [.ref ys, .ref yk, .ref yo, .ref yt, .int mk0, .ref yfa, .ref yfe, .int mL, .int mS, .int mM, .ref yro, .ref yhe, .ref ygr, .int mF, .int mC, .int mY, .ref yta, .int (nI (mz)), .int (nI (mf)), .int (nI (mt)), .int mv, .int mw, .ref ywa, .ref ybi, .ref ysi, .ref ynu, .ref ymo])), (yt, .inl (cI, 7, .inl mq2_13))] H := hP
        have hD : va_D A [(ybi, .inl (cI, 4, .inl bi)), (ysi, .inl (cI, 4, .inl sq)), (ynu, .inl (cJ, 160, .inr (.inl nb))), (ymo, .inl (cJ, 40, .inr (.inl mv9))), (h0, .inr (9, [.ref ys, .ref yk, .ref yo, .ref yt, .int mk0, .ref yfa, .ref yfe, .int mL, .int mS, .int mM, .ref yro, .ref yhe, .ref ygr, .int mF, .int mC, .int mY, .ref yta, .int (nI (mz)), .int (nI (mf)), .int (nI (mt)), .int mv, .int mw, .ref ywa, .ref ybi, .ref ysi, .ref ynu, .ref ymo])), (yt, .inl (cI, 7, .inl mq2_13))] := hD
        subst hw_r_12
        exact W.iret (v := (-1000000006)) hx hb hr (fun t ht hW => ⟨⟨(-1000000006), (nb, mv9, mq2_13), rfl, ⟨(sp_cr1 (Or.inl c_11)), (fun j => sp_c0 (fun h => h.1 c_11)), (fun _ _ => rfl)⟩, by rw [ht]; exact hP.sub [4, 0, 1, 2, 3, 5] rfl, hD.sub [4, 0, 1, 2, 3, 5] (by decide +kernel) rfl⟩, hS.F ht⟩) hS.2.2 dX9_copy_46 hlk
      · skip
        refine lv_aload_n hx hb dX9_copy_30 rfl (lv_at hl 0 rfl) ?_
        refine xg hF kf_X9_43 hK hP 0 rfl rfl dX9_copy_31 ?_
        refine lv_iload_n hx hb dX9_copy_34 rfl (lv_at hl 3 rfl) ?_
        refine va_iald hx hb hK hP 1 0 rfl rfl (xin 0 4 (by decide) (by decide)) dX9_copy_35 ?_
        refine xl_i (y := bi 0) (congrArg bi rfl) ?_
        refine lv_if_ne (tgt := 47) hx hb dX9_copy_36 (by decide) (fun c_14 => ?_) (fun c_14 => ?_)
        · skip
          refine lv_aload_n hx hb dX9_copy_47 rfl (lv_at hl 0 rfl) ?_
          refine xg hF kf_X9_43 hK hP 0 rfl rfl dX9_copy_48 ?_
          refine lv_iload_n hx hb dX9_copy_51 rfl (lv_at hl 1 rfl) ?_
          refine va_iald hx hb hK hP 1 0 rfl rfl (xin 3 4 (by decide) (by decide)) dX9_copy_52 ?_
          refine xl_i (y := bi 3) (congrArg bi rfl) ?_
          refine lv_aload_n hx hb dX9_copy_53 rfl (lv_at hl 0 rfl) ?_
          refine xg hF kf_X9_43 hK hP 0 rfl rfl dX9_copy_54 ?_
          refine lv_iload_n hx hb dX9_copy_57 rfl (lv_at hl 3 rfl) ?_
          refine va_iald hx hb hK hP 1 0 rfl rfl (xin 0 4 (by decide) (by decide)) dX9_copy_58 ?_
          refine xl_i (y := bi 0) (congrArg bi rfl) ?_
          refine lv_icmp_eq (tgt := 69) hx hb dX9_copy_59 (by decide) (fun c_15 => ?_) (fun c_15 => ?_)
          · skip
            refine lv_iload_n hx hb dX9_copy_69 rfl (lv_at hl 2 rfl) ?_
            refine lv_if_lt (tgt := 110) hx hb dX9_copy_70 (by decide) (fun c_16 => ?_) (fun c_16 => ?_)
            · skip
              refine lv_aload_n hx hb dX9_copy_110 rfl (lv_at hl 0 rfl) ?_
              refine lv_ldc (v := (-1000000001)) hx hb hown (hu _ uw648) dX9_copy_111 ?_
              refine xc_Vi (wr := [(ybi, .inl (cI, 4, .inl bi)), (ysi, .inl (cI, 4, .inl sq)), (ynu, .inl (cJ, 160, .inr (.inl nb))), (ymo, .inl (cJ, 40, .inr (.inl mv9)))]) hF (c_X9_finds_B l D cI cJ cZ cS ta sa sv s.heap.size h0 ys yk yo yt mk0 yfa yfe mL mS mM yro yhe ygr mF mC mY yta mz mf mt mv mw ywa ybi ysi ynu ymo mq ) kv_X9_70 ⟨rfl, rfl, Nat.le_of_ble_eq_true rfl, Nat.le_of_ble_eq_true rfl⟩ ⟨Nat.le_of_ble_eq_true rfl, Nat.le_of_ble_eq_true rfl⟩ hK hN hZ hP hD hS hA [0, 5] [1, 2, 3, 4] rfl rfl rfl rfl (by decide) 0 rfl rfl rfl rfl hl.1 rfl (Nat.le_of_ble_eq_true rfl) dX9_copy_113 (fun r_17 u_r_17 H locs hw_r_17 hP hD hS => ?_)
              obtain ⟨mq2_18, rfl⟩ : ∃ z, z = u_r_17 := ⟨_, rfl⟩
              try dsimp only at hw_r_17
              have hP : va_P D vwCl [(ybi, .inl (cI, 4, .inl bi)), (ysi, .inl (cI, 4, .inl sq)), (ynu, .inl (cJ, 160, .inr (.inl nb))), (ymo, .inl (cJ, 40, .inr (.inl mv9))), (h0, .inr (9, [.ref ys, .ref yk, .ref yo, .ref yt, .int mk0, .ref yfa, .ref yfe, .int mL, .int mS, .int mM, .ref yro, .ref yhe, .ref ygr, .int mF, .int mC, .int mY, .ref yta, .int (nI (mz)), .int (nI (mf)), .int (nI (mt)), .int mv, .int mw, .ref ywa, .ref ybi, .ref ysi, .ref ynu, .ref ymo])), (yt, .inl (cI, 7, .inl mq2_18))] H := hP
              have hD : va_D A [(ybi, .inl (cI, 4, .inl bi)), (ysi, .inl (cI, 4, .inl sq)), (ynu, .inl (cJ, 160, .inr (.inl nb))), (ymo, .inl (cJ, 40, .inr (.inl mv9))), (h0, .inr (9, [.ref ys, .ref yk, .ref yo, .ref yt, .int mk0, .ref yfa, .ref yfe, .int mL, .int mS, .int mM, .ref yro, .ref yhe, .ref ygr, .int mF, .int mC, .int mY, .ref yta, .int (nI (mz)), .int (nI (mf)), .int (nI (mt)), .int mv, .int mw, .ref ywa, .ref ybi, .ref ysi, .ref ynu, .ref ymo])), (yt, .inl (cI, 7, .inl mq2_18))] := hD
              subst hw_r_17
              exact W.iret (v := (-1000000001)) hx hb hr (fun t ht hW => ⟨⟨(-1000000001), (nb, mv9, mq2_18), rfl, ⟨(sp_cr3 c_11 c_14 c_15 (fun q => (sp_s1 c_16) q.1)), (fun j => sp_c0 (fun h => (sp_s1 c_16) h.2.2.2.1)), (fun _ _ => rfl)⟩, by rw [ht]; exact hP.sub [4, 0, 1, 2, 3, 5] rfl, hD.sub [4, 0, 1, 2, 3, 5] (by decide +kernel) rfl⟩, hS.F ht⟩) hS.2.2 dX9_copy_116 hlk
            · skip
              refine lv_iload hx hb dX9_copy_73 (lv_at hl 4 rfl) ?_
              refine lv_if_lt (tgt := 110) hx hb dX9_copy_75 (by decide) (fun c_19 => ?_) (fun c_19 => ?_)
              · skip
                refine lv_aload_n hx hb dX9_copy_110 rfl (lv_at hl 0 rfl) ?_
                refine lv_ldc (v := (-1000000001)) hx hb hown (hu _ uw648) dX9_copy_111 ?_
                refine xc_Vi (wr := [(ybi, .inl (cI, 4, .inl bi)), (ysi, .inl (cI, 4, .inl sq)), (ynu, .inl (cJ, 160, .inr (.inl nb))), (ymo, .inl (cJ, 40, .inr (.inl mv9)))]) hF (c_X9_finds_B l D cI cJ cZ cS ta sa sv s.heap.size h0 ys yk yo yt mk0 yfa yfe mL mS mM yro yhe ygr mF mC mY yta mz mf mt mv mw ywa ybi ysi ynu ymo mq ) kv_X9_70 ⟨rfl, rfl, Nat.le_of_ble_eq_true rfl, Nat.le_of_ble_eq_true rfl⟩ ⟨Nat.le_of_ble_eq_true rfl, Nat.le_of_ble_eq_true rfl⟩ hK hN hZ hP hD hS hA [0, 5] [1, 2, 3, 4] rfl rfl rfl rfl (by decide) 0 rfl rfl rfl rfl hl.1 rfl (Nat.le_of_ble_eq_true rfl) dX9_copy_113 (fun r_20 u_r_20 H locs hw_r_20 hP hD hS => ?_)
                obtain ⟨mq2_21, rfl⟩ : ∃ z, z = u_r_20 := ⟨_, rfl⟩
                try dsimp only at hw_r_20
                have hP : va_P D vwCl [(ybi, .inl (cI, 4, .inl bi)), (ysi, .inl (cI, 4, .inl sq)), (ynu, .inl (cJ, 160, .inr (.inl nb))), (ymo, .inl (cJ, 40, .inr (.inl mv9))), (h0, .inr (9, [.ref ys, .ref yk, .ref yo, .ref yt, .int mk0, .ref yfa, .ref yfe, .int mL, .int mS, .int mM, .ref yro, .ref yhe, .ref ygr, .int mF, .int mC, .int mY, .ref yta, .int (nI (mz)), .int (nI (mf)), .int (nI (mt)), .int mv, .int mw, .ref ywa, .ref ybi, .ref ysi, .ref ynu, .ref ymo])), (yt, .inl (cI, 7, .inl mq2_21))] H := hP
                have hD : va_D A [(ybi, .inl (cI, 4, .inl bi)), (ysi, .inl (cI, 4, .inl sq)), (ynu, .inl (cJ, 160, .inr (.inl nb))), (ymo, .inl (cJ, 40, .inr (.inl mv9))), (h0, .inr (9, [.ref ys, .ref yk, .ref yo, .ref yt, .int mk0, .ref yfa, .ref yfe, .int mL, .int mS, .int mM, .ref yro, .ref yhe, .ref ygr, .int mF, .int mC, .int mY, .ref yta, .int (nI (mz)), .int (nI (mf)), .int (nI (mt)), .int mv, .int mw, .ref ywa, .ref ybi, .ref ysi, .ref ynu, .ref ymo])), (yt, .inl (cI, 7, .inl mq2_21))] := hD
                subst hw_r_20
                exact W.iret (v := (-1000000001)) hx hb hr (fun t ht hW => ⟨⟨(-1000000001), (nb, mv9, mq2_21), rfl, ⟨(sp_cr3 c_11 c_14 c_15 (fun q => (sp_s1 c_19) q.2)), (fun j => sp_c0 (fun h => (sp_s1 c_19) h.2.2.2.2)), (fun _ _ => rfl)⟩, by rw [ht]; exact hP.sub [4, 0, 1, 2, 3, 5] rfl, hD.sub [4, 0, 1, 2, 3, 5] (by decide +kernel) rfl⟩, hS.F ht⟩) hS.2.2 dX9_copy_116 hlk
              · skip
                refine lv_iload hx hb dX9_copy_78 (lv_at hl 5 rfl) ?_
                refine lv_if_lt (tgt := 110) hx hb dX9_copy_80 (by decide) (fun c_22 => ?_) (fun c_22 => ?_)
                · skip
                  refine lv_aload_n hx hb dX9_copy_110 rfl (lv_at hl 0 rfl) ?_
                  refine lv_ldc (v := (-1000000001)) hx hb hown (hu _ uw648) dX9_copy_111 ?_
                  refine xc_Vi (wr := [(ybi, .inl (cI, 4, .inl bi)), (ysi, .inl (cI, 4, .inl sq)), (ynu, .inl (cJ, 160, .inr (.inl nb))), (ymo, .inl (cJ, 40, .inr (.inl mv9)))]) hF (c_X9_finds_B l D cI cJ cZ cS ta sa sv s.heap.size h0 ys yk yo yt mk0 yfa yfe mL mS mM yro yhe ygr mF mC mY yta mz mf mt mv mw ywa ybi ysi ynu ymo mq ) kv_X9_70 ⟨rfl, rfl, Nat.le_of_ble_eq_true rfl, Nat.le_of_ble_eq_true rfl⟩ ⟨Nat.le_of_ble_eq_true rfl, Nat.le_of_ble_eq_true rfl⟩ hK hN hZ hP hD hS hA [0, 5] [1, 2, 3, 4] rfl rfl rfl rfl (by decide) 0 rfl rfl rfl rfl hl.1 rfl (Nat.le_of_ble_eq_true rfl) dX9_copy_113 (fun r_23 u_r_23 H locs hw_r_23 hP hD hS => ?_)
                  obtain ⟨mq2_24, rfl⟩ : ∃ z, z = u_r_23 := ⟨_, rfl⟩
                  try dsimp only at hw_r_23
                  have hP : va_P D vwCl [(ybi, .inl (cI, 4, .inl bi)), (ysi, .inl (cI, 4, .inl sq)), (ynu, .inl (cJ, 160, .inr (.inl nb))), (ymo, .inl (cJ, 40, .inr (.inl mv9))), (h0, .inr (9, [.ref ys, .ref yk, .ref yo, .ref yt, .int mk0, .ref yfa, .ref yfe, .int mL, .int mS, .int mM, .ref yro, .ref yhe, .ref ygr, .int mF, .int mC, .int mY, .ref yta, .int (nI (mz)), .int (nI (mf)), .int (nI (mt)), .int mv, .int mw, .ref ywa, .ref ybi, .ref ysi, .ref ynu, .ref ymo])), (yt, .inl (cI, 7, .inl mq2_24))] H := hP
                  have hD : va_D A [(ybi, .inl (cI, 4, .inl bi)), (ysi, .inl (cI, 4, .inl sq)), (ynu, .inl (cJ, 160, .inr (.inl nb))), (ymo, .inl (cJ, 40, .inr (.inl mv9))), (h0, .inr (9, [.ref ys, .ref yk, .ref yo, .ref yt, .int mk0, .ref yfa, .ref yfe, .int mL, .int mS, .int mM, .ref yro, .ref yhe, .ref ygr, .int mF, .int mC, .int mY, .ref yta, .int (nI (mz)), .int (nI (mf)), .int (nI (mt)), .int mv, .int mw, .ref ywa, .ref ybi, .ref ysi, .ref ynu, .ref ymo])), (yt, .inl (cI, 7, .inl mq2_24))] := hD
                  subst hw_r_23
                  exact W.iret (v := (-1000000001)) hx hb hr (fun t ht hW => ⟨⟨(-1000000001), (nb, mv9, mq2_24), rfl, ⟨(sp_cr3 c_11 c_14 c_15 (fun q => (sp_s2 c_22) q.1)), (fun j => sp_c0 (fun h => (sp_s2 c_22) h.2.2.2.1)), (fun _ _ => rfl)⟩, by rw [ht]; exact hP.sub [4, 0, 1, 2, 3, 5] rfl, hD.sub [4, 0, 1, 2, 3, 5] (by decide +kernel) rfl⟩, hS.F ht⟩) hS.2.2 dX9_copy_116 hlk
                · skip
                  refine lv_iload hx hb dX9_copy_83 (lv_at hl 5 rfl) ?_
                  refine lv_aload_n hx hb dX9_copy_85 rfl (lv_at hl 0 rfl) ?_
                  refine xg hF kf_X9_46 hK hP 0 rfl rfl dX9_copy_86 ?_
                  refine lv_iload_n hx hb dX9_copy_89 rfl (lv_at hl 1 rfl) ?_
                  refine va_iald hx hb hK hP 2 0 rfl rfl (xin 3 4 (by decide) (by decide)) dX9_copy_90 ?_
                  refine xl_i (y := sq 3) (congrArg sq rfl) ?_
                  refine xl_i (y := nI (zq)) ez ?_
                  refine lv_iload_n hx hb dX9_copy_91 rfl (lv_at hl 2 rfl) ?_
                  refine lv_isub hx hb dX9_copy_92 ?_
                  refine lv_topi (fun x_25 ex_25 => ?_)
                  refine lv_icmp_gt (tgt := 110) hx hb dX9_copy_93 (by decide) (fun c_26 => ?_) (fun c_26 => ?_)
                  · skip
                    refine lv_aload_n hx hb dX9_copy_110 rfl (lv_at hl 0 rfl) ?_
                    refine lv_ldc (v := (-1000000001)) hx hb hown (hu _ uw648) dX9_copy_111 ?_
                    refine xc_Vi (wr := [(ybi, .inl (cI, 4, .inl bi)), (ysi, .inl (cI, 4, .inl sq)), (ynu, .inl (cJ, 160, .inr (.inl nb))), (ymo, .inl (cJ, 40, .inr (.inl mv9)))]) hF (c_X9_finds_B l D cI cJ cZ cS ta sa sv s.heap.size h0 ys yk yo yt mk0 yfa yfe mL mS mM yro yhe ygr mF mC mY yta mz mf mt mv mw ywa ybi ysi ynu ymo mq ) kv_X9_70 ⟨rfl, rfl, Nat.le_of_ble_eq_true rfl, Nat.le_of_ble_eq_true rfl⟩ ⟨Nat.le_of_ble_eq_true rfl, Nat.le_of_ble_eq_true rfl⟩ hK hN hZ hP hD hS hA [0, 5] [1, 2, 3, 4] rfl rfl rfl rfl (by decide) 0 rfl rfl rfl rfl hl.1 rfl (Nat.le_of_ble_eq_true rfl) dX9_copy_113 (fun r_27 u_r_27 H locs hw_r_27 hP hD hS => ?_)
                    obtain ⟨mq2_28, rfl⟩ : ∃ z, z = u_r_27 := ⟨_, rfl⟩
                    try dsimp only at hw_r_27
                    have hP : va_P D vwCl [(ybi, .inl (cI, 4, .inl bi)), (ysi, .inl (cI, 4, .inl sq)), (ynu, .inl (cJ, 160, .inr (.inl nb))), (ymo, .inl (cJ, 40, .inr (.inl mv9))), (h0, .inr (9, [.ref ys, .ref yk, .ref yo, .ref yt, .int mk0, .ref yfa, .ref yfe, .int mL, .int mS, .int mM, .ref yro, .ref yhe, .ref ygr, .int mF, .int mC, .int mY, .ref yta, .int (nI (mz)), .int (nI (mf)), .int (nI (mt)), .int mv, .int mw, .ref ywa, .ref ybi, .ref ysi, .ref ynu, .ref ymo])), (yt, .inl (cI, 7, .inl mq2_28))] H := hP
                    have hD : va_D A [(ybi, .inl (cI, 4, .inl bi)), (ysi, .inl (cI, 4, .inl sq)), (ynu, .inl (cJ, 160, .inr (.inl nb))), (ymo, .inl (cJ, 40, .inr (.inl mv9))), (h0, .inr (9, [.ref ys, .ref yk, .ref yo, .ref yt, .int mk0, .ref yfa, .ref yfe, .int mL, .int mS, .int mM, .ref yro, .ref yhe, .ref ygr, .int mF, .int mC, .int mY, .ref yta, .int (nI (mz)), .int (nI (mf)), .int (nI (mt)), .int mv, .int mw, .ref ywa, .ref ybi, .ref ysi, .ref ynu, .ref ymo])), (yt, .inl (cI, 7, .inl mq2_28))] := hD
                    subst hw_r_27
                    exact W.iret (v := (-1000000001)) hx hb hr (fun t ht hW => ⟨⟨(-1000000001), (nb, mv9, mq2_28), rfl, ⟨(sp_cr3 c_11 c_14 c_15 (fun q => (sp_s5 hzq c_16 c_22 ex_25 c_26) q.1)), (fun j => sp_c0 (fun h => (sp_s5 hzq c_16 c_22 ex_25 c_26) h.2.2.2.1)), (fun _ _ => rfl)⟩, by rw [ht]; exact hP.sub [4, 0, 1, 2, 3, 5] rfl, hD.sub [4, 0, 1, 2, 3, 5] (by decide +kernel) rfl⟩, hS.F ht⟩) hS.2.2 dX9_copy_116 hlk
                  · skip
                    refine lv_iload hx hb dX9_copy_96 (lv_at hl 5 rfl) ?_
                    refine lv_aload_n hx hb dX9_copy_98 rfl (lv_at hl 0 rfl) ?_
                    refine xg hF kf_X9_46 hK hP 0 rfl rfl dX9_copy_99 ?_
                    refine lv_iload_n hx hb dX9_copy_102 rfl (lv_at hl 3 rfl) ?_
                    refine va_iald hx hb hK hP 2 0 rfl rfl (xin 0 4 (by decide) (by decide)) dX9_copy_103 ?_
                    refine xl_i (y := sq 0) (congrArg sq rfl) ?_
                    refine xl_i (y := nI (zt)) et ?_
                    refine lv_iload hx hb dX9_copy_104 (lv_at hl 4 rfl) ?_
                    refine lv_isub hx hb dX9_copy_106 ?_
                    refine lv_topi (fun x_29 ex_29 => ?_)
                    refine lv_icmp_le (tgt := 117) hx hb dX9_copy_107 (by decide) (fun c_30 => ?_) (fun c_30 => ?_)
                    · skip
                      obtain ⟨y_31, hy_31, rfl⟩ := x_spk (by omega) c_16 c_22 ex_25 c_26
                      obtain ⟨y_32, hy_32, rfl⟩ := x_spj (by omega) (by omega) c_16 ex_25 c_26
                      obtain ⟨y_33, hy_33, rfl⟩ := x_spj (by omega) (by omega) c_19 ex_29 (Int32.not_lt.mpr c_30)
                      refine lv_iconst (v := 0) hx hb dX9_copy_117 (by decide) ?_
                      refine lv_istore (lv' := [(6, .int 0), (0, .ref h0), (1, .int 3), (2, .int (nI (y_32))), (3, .int 0), (4, .int (nI (y_33))), (5, .int (nI (y_31)))]) hx hb dX9_copy_118 hl (by decide) rfl (fun ls hl => ?_)
                      suffices loop_120 : ∀ (n_120 : Nat) (i : Nat) (m8 : Nat → Int64) (H : Heap) (locs : List Loc) (ls : Array Slot), y_31 - i < n_120 → (i ≤ y_31) → (∀ j, j < i → m8 j = nb (120 + y_32 + j)) → va_P D vwCl [(h0, .inr (9, [.ref ys, .ref yk, .ref yo, .ref yt, .int mk0, .ref yfa, .ref yfe, .int mL, .int mS, .int mM, .ref yro, .ref yhe, .ref ygr, .int mF, .int mC, .int mY, .ref yta, .int (nI (mz)), .int (nI (mf)), .int (nI (mt)), .int mv, .int mw, .ref ywa, .ref ybi, .ref ysi, .ref ynu, .ref ymo])), (ybi, .inl (cI, 4, .inl bi)), (ysi, .inl (cI, 4, .inl sq)), (ynu, .inl (cJ, 160, .inr (.inl nb))), (ymo, .inl (cJ, 40, .inr (.inl m8))), (yt, .inl (cI, 7, .inl mq))] H → va_D A [(h0, .inr (9, [.ref ys, .ref yk, .ref yo, .ref yt, .int mk0, .ref yfa, .ref yfe, .int mL, .int mS, .int mM, .ref yro, .ref yhe, .ref ygr, .int mF, .int mC, .int mY, .ref yta, .int (nI (mz)), .int (nI (mf)), .int (nI (mt)), .int mv, .int mw, .ref ywa, .ref ybi, .ref ysi, .ref ynu, .ref ymo])), (ybi, .inl (cI, 4, .inl bi)), (ysi, .inl (cI, 4, .inl sq)), (ynu, .inl (cJ, 160, .inr (.inl nb))), (ymo, .inl (cJ, 40, .inr (.inl m8))), (yt, .inl (cI, 7, .inl mq))] → va_S A s.heap H locs → lv_has ls 7 [(6, .int (nI (i))), (0, .ref h0), (1, .int 3), (2, .int (nI (y_32))), (3, .int 0), (4, .int (nI (y_33))), (5, .int (nI (y_31)))] → W p l e ({ frames := 2, cells := 0, slots := 0, locals := 45 }) s m ([.ref h0, .int 3, .int (nI (y_32)), .int 0, .int (nI (y_33)), .int (nI (y_31))] : List Value).toArray below meth c H locs 0 0 (MQ below (XQi (fun (r : Int32) (u : (Nat → Int64) × (Nat → Int64) × (Nat → Int32)) => match u with | (nb2, mv2, mq2) => ((r = sp_cr (bi 3) (bi 0) zq zt (nI (y_32)) (nI (y_33)) (nI (y_31)))) ∧ (∀ j, nb2 (0 + j) = sp_cn (bi 3) (bi 0) zq zt (nI (y_32)) (nI (y_33)) (nI (y_31)) (fun k => nb (120 + k)) j (nb (0 + j))) ∧ (∀ j, j < 0 ∨ 40 ≤ j → nb2 j = nb j)) D (fun (u : (Nat → Int64) × (Nat → Int64) × (Nat → Int32)) => match u with | (nb2, mv2, mq2) => [(h0, .inr (9, [.ref ys, .ref yk, .ref yo, .ref yt, .int mk0, .ref yfa, .ref yfe, .int mL, .int mS, .int mM, .ref yro, .ref yhe, .ref ygr, .int mF, .int mC, .int mY, .ref yta, .int (nI (mz)), .int (nI (mf)), .int (nI (mt)), .int mv, .int mw, .ref ywa, .ref ybi, .ref ysi, .ref ynu, .ref ymo])), (ybi, .inl (cI, 4, .inl bi)), (ysi, .inl (cI, 4, .inl sq)), (ynu, .inl (cJ, 160, .inr (.inl nb2))), (ymo, .inl (cJ, 40, .inr (.inl mv2))), (yt, .inl (cI, 7, .inl mq2))]) A) ([.ref h0, .int 3, .int (nI (y_32)), .int 0, .int (nI (y_33)), .int (nI (y_31))] : List Value).toArray s 0 0 A) (F0 m 120 ls []) by
                        exact loop_120 _ 0 mv9 _ _ _ (Nat.lt_succ_self _) (by omega) (fun j hj => absurd hj (Nat.not_lt_zero _)) hP hD hS (lv_sub hl [0, 1, 2, 3, 4, 5, 6] rfl)
                      intro n_120
                      induction n_120 with
                      | zero =>
                        intro i m8 H locs ls hm_120
                        exact absurd hm_120 (Nat.not_lt_zero _)
                      | succ n_120 ih_120 =>
                        intro i m8 H locs ls hm_120 hi hm8 hP hD hS hl
                        refine lv_iload hx hb dX9_copy_120 (lv_at hl 0 rfl) ?_
                        refine lv_iload hx hb dX9_copy_122 (lv_at hl 6 rfl) ?_
                        refine lv_icmp_ge (tgt := 154) hx hb dX9_copy_124 (by decide) (fun c_34 => ?_) (fun c_34 => ?_)
                        · skip
                          have nc_34 : y_31 ≤ i := xn_le (a := y_31) (b := i) (by omega) (by omega) c_34
                          refine lv_iconst (v := 0) hx hb dX9_copy_154 (by decide) ?_
                          refine lv_istore (lv' := [(6, .int 0), (0, .ref h0), (1, .int 3), (2, .int (nI (y_32))), (3, .int 0), (4, .int (nI (y_33))), (5, .int (nI (y_31)))]) hx hb dX9_copy_155 hl (by decide) rfl (fun ls hl => ?_)
                          suffices loop_157 : ∀ (n_157 : Nat) (i2 : Nat) (n8 : Nat → Int64) (H : Heap) (locs : List Loc) (ls : Array Slot), y_31 - i2 < n_157 → (i2 ≤ y_31) → (∀ j, n8 j = if 0 + y_33 ≤ j ∧ j < 0 + y_33 + i2 then m8 (j - (0 + y_33)) else nb j) → va_P D vwCl [(h0, .inr (9, [.ref ys, .ref yk, .ref yo, .ref yt, .int mk0, .ref yfa, .ref yfe, .int mL, .int mS, .int mM, .ref yro, .ref yhe, .ref ygr, .int mF, .int mC, .int mY, .ref yta, .int (nI (mz)), .int (nI (mf)), .int (nI (mt)), .int mv, .int mw, .ref ywa, .ref ybi, .ref ysi, .ref ynu, .ref ymo])), (ybi, .inl (cI, 4, .inl bi)), (ysi, .inl (cI, 4, .inl sq)), (ynu, .inl (cJ, 160, .inr (.inl n8))), (ymo, .inl (cJ, 40, .inr (.inl m8))), (yt, .inl (cI, 7, .inl mq))] H → va_D A [(h0, .inr (9, [.ref ys, .ref yk, .ref yo, .ref yt, .int mk0, .ref yfa, .ref yfe, .int mL, .int mS, .int mM, .ref yro, .ref yhe, .ref ygr, .int mF, .int mC, .int mY, .ref yta, .int (nI (mz)), .int (nI (mf)), .int (nI (mt)), .int mv, .int mw, .ref ywa, .ref ybi, .ref ysi, .ref ynu, .ref ymo])), (ybi, .inl (cI, 4, .inl bi)), (ysi, .inl (cI, 4, .inl sq)), (ynu, .inl (cJ, 160, .inr (.inl n8))), (ymo, .inl (cJ, 40, .inr (.inl m8))), (yt, .inl (cI, 7, .inl mq))] → va_S A s.heap H locs → lv_has ls 7 [(6, .int (nI (i2))), (0, .ref h0), (1, .int 3), (2, .int (nI (y_32))), (3, .int 0), (4, .int (nI (y_33))), (5, .int (nI (y_31)))] → W p l e ({ frames := 2, cells := 0, slots := 0, locals := 45 }) s m ([.ref h0, .int 3, .int (nI (y_32)), .int 0, .int (nI (y_33)), .int (nI (y_31))] : List Value).toArray below meth c H locs 0 0 (MQ below (XQi (fun (r : Int32) (u : (Nat → Int64) × (Nat → Int64) × (Nat → Int32)) => match u with | (nb2, mv2, mq2) => ((r = sp_cr (bi 3) (bi 0) zq zt (nI (y_32)) (nI (y_33)) (nI (y_31)))) ∧ (∀ j, nb2 (0 + j) = sp_cn (bi 3) (bi 0) zq zt (nI (y_32)) (nI (y_33)) (nI (y_31)) (fun k => nb (120 + k)) j (nb (0 + j))) ∧ (∀ j, j < 0 ∨ 40 ≤ j → nb2 j = nb j)) D (fun (u : (Nat → Int64) × (Nat → Int64) × (Nat → Int32)) => match u with | (nb2, mv2, mq2) => [(h0, .inr (9, [.ref ys, .ref yk, .ref yo, .ref yt, .int mk0, .ref yfa, .ref yfe, .int mL, .int mS, .int mM, .ref yro, .ref yhe, .ref ygr, .int mF, .int mC, .int mY, .ref yta, .int (nI (mz)), .int (nI (mf)), .int (nI (mt)), .int mv, .int mw, .ref ywa, .ref ybi, .ref ysi, .ref ynu, .ref ymo])), (ybi, .inl (cI, 4, .inl bi)), (ysi, .inl (cI, 4, .inl sq)), (ynu, .inl (cJ, 160, .inr (.inl nb2))), (ymo, .inl (cJ, 40, .inr (.inl mv2))), (yt, .inl (cI, 7, .inl mq2))]) A) ([.ref h0, .int 3, .int (nI (y_32)), .int 0, .int (nI (y_33)), .int (nI (y_31))] : List Value).toArray s 0 0 A) (F0 m 157 ls []) by
                            exact loop_157 _ 0 nb _ _ _ (Nat.lt_succ_self _) (by omega) (fun j => (if_neg (by omega)).symm) hP hD hS (lv_sub hl [0, 1, 2, 3, 4, 5, 6] rfl)
                          intro n_157
                          induction n_157 with
                          | zero =>
                            intro i2 n8 H locs ls hm_157
                            exact absurd hm_157 (Nat.not_lt_zero _)
                          | succ n_157 ih_157 =>
                            intro i2 n8 H locs ls hm_157 hi2 hn8 hP hD hS hl
                            refine lv_iload hx hb dX9_copy_157 (lv_at hl 0 rfl) ?_
                            refine lv_iload hx hb dX9_copy_159 (lv_at hl 6 rfl) ?_
                            refine lv_icmp_ge (tgt := 192) hx hb dX9_copy_161 (by decide) (fun c_35 => ?_) (fun c_35 => ?_)
                            · skip
                              have nc_35 : y_31 ≤ i2 := xn_le (a := y_31) (b := i2) (by omega) (by omega) c_35
                              refine lv_iload hx hb dX9_copy_192 (lv_at hl 6 rfl) ?_
                              have hn7 : ∀ j, n8 j = if 0 + y_33 ≤ j ∧ j < 0 + y_33 + y_31 then m8 (j - (0 + y_33)) else nb j := fun j => by rw [hn8 j, show i2 = y_31 by omega]
                              have hm7 : ∀ j, j < y_31 → m8 j = nb (120 + y_32 + j) := fun j hj => hm8 j (by omega)
                              exact W.iret (v := nI (y_31)) hx hb hr (fun t ht hW => ⟨⟨nI (y_31), (n8, m8, mq), rfl, ⟨(sp_cr4 c_11 c_14 c_15 (sp_nspan (by omega) (by omega)) (sp_nspan (by omega) (by omega))), (fun j9 => sp_c1 (K := 0) (M := 120) (by omega) (by omega) c_11 c_14 c_15 (by omega) (by omega) (fun i9 => sp_mv3 hn7 hm7 rfl rfl)), (fun j9 hj9 => by rw [hn7 j9, if_neg (by omega)])⟩, by rw [ht]; exact hP.sub [0, 1, 2, 3, 4, 5] rfl, hD.sub [0, 1, 2, 3, 4, 5] (by decide +kernel) rfl⟩, hS.F ht⟩) hS.2.2 dX9_copy_194 hlk
                            · skip
                              have nc_35 : i2 < y_31 := xn_nle (a := y_31) (b := i2) (by omega) (by omega) c_35
                              refine lv_aload_n hx hb dX9_copy_164 rfl (lv_at hl 1 rfl) ?_
                              refine xg hF kf_X9_49 hK hP 0 rfl rfl dX9_copy_165 ?_
                              refine lv_bipush (v := 40) hx hb dX9_copy_168 (by decide) ?_
                              refine lv_iload_n hx hb dX9_copy_170 rfl (lv_at hl 4 rfl) ?_
                              refine lv_imul hx hb dX9_copy_171 ?_
                              refine xl_i (y := 0) (by decide) ?_
                              refine lv_iload hx hb dX9_copy_172 (lv_at hl 5 rfl) ?_
                              refine lv_iadd hx hb dX9_copy_174 ?_
                              refine xl_i (y := nI (0 + y_33)) (nI_add 0 y_33) ?_
                              refine lv_iload hx hb dX9_copy_175 (lv_at hl 0 rfl) ?_
                              refine lv_iadd hx hb dX9_copy_177 ?_
                              refine xl_i (y := nI (0 + y_33 + i2)) (nI_add (0 + y_33) i2) ?_
                              refine lv_aload_n hx hb dX9_copy_178 rfl (lv_at hl 1 rfl) ?_
                              refine xg hF kf_X9_53 hK hP 0 rfl rfl dX9_copy_179 ?_
                              refine lv_iload hx hb dX9_copy_182 (lv_at hl 0 rfl) ?_
                              refine va_lald hx hb hK hP 4 1 rfl rfl (vp_in_nI (show i2 < 40 by omega) (by decide)) dX9_copy_184 ?_
                              refine xl_l (y := m8 i2) (congrArg m8 (nI_clamp (show i2 < 2 ^ 31 by omega))) ?_
                              refine va_last hx hb hK hP hD hS 3 1 rfl rfl (vp_in_nI (show 0 + y_33 + i2 < 160 by omega) (by decide)) dX9_copy_185 (fun H locs hP hD hS => ?_)
                              rw [nI_clamp (show 0 + y_33 + i2 < 2 ^ 31 by omega)] at hP hD
                              obtain ⟨f_36, ef_36⟩ : ∃ g, g = vp_updL n8 (0 + y_33 + i2) (m8 i2) := ⟨_, rfl⟩
                              rw [← ef_36] at hP hD
                              have hP : va_P D vwCl [(h0, .inr (9, [.ref ys, .ref yk, .ref yo, .ref yt, .int mk0, .ref yfa, .ref yfe, .int mL, .int mS, .int mM, .ref yro, .ref yhe, .ref ygr, .int mF, .int mC, .int mY, .ref yta, .int (nI (mz)), .int (nI (mf)), .int (nI (mt)), .int mv, .int mw, .ref ywa, .ref ybi, .ref ysi, .ref ynu, .ref ymo])), (ybi, .inl (cI, 4, .inl bi)), (ysi, .inl (cI, 4, .inl sq)), (ynu, .inl (cJ, 160, .inr (.inl f_36))), (ymo, .inl (cJ, 40, .inr (.inl m8))), (yt, .inl (cI, 7, .inl mq))] H := hP
                              have hD : va_D A [(h0, .inr (9, [.ref ys, .ref yk, .ref yo, .ref yt, .int mk0, .ref yfa, .ref yfe, .int mL, .int mS, .int mM, .ref yro, .ref yhe, .ref ygr, .int mF, .int mC, .int mY, .ref yta, .int (nI (mz)), .int (nI (mf)), .int (nI (mt)), .int mv, .int mw, .ref ywa, .ref ybi, .ref ysi, .ref ynu, .ref ymo])), (ybi, .inl (cI, 4, .inl bi)), (ysi, .inl (cI, 4, .inl sq)), (ynu, .inl (cJ, 160, .inr (.inl f_36))), (ymo, .inl (cJ, 40, .inr (.inl m8))), (yt, .inl (cI, 7, .inl mq))] := hD
                              refine lv_iinc (v := nI (i2 + 1)) (lv' := [(6, .int (nI (i2 + 1))), (0, .ref h0), (1, .int 3), (2, .int (nI (y_32))), (3, .int 0), (4, .int (nI (y_33))), (5, .int (nI (y_31)))]) hx hb dX9_copy_186 hl (k := 0) rfl (nI_1 (i2)) (by decide) rfl (fun ls hl => ?_)
                              refine lv_goto (tgt := 157) hx hb dX9_copy_189 (by decide) ?_
                              exact ih_157 (i2 + 1) f_36 _ _ _ (by omega) (by omega) (sp_mv2 hn8 ef_36) (hP.sub [0, 1, 2, 3, 4, 5] rfl) (hD.sub [0, 1, 2, 3, 4, 5] (by decide +kernel) rfl) hS (lv_sub hl [0, 1, 2, 3, 4, 5, 6] rfl)
                        · skip
                          have nc_34 : i < y_31 := xn_nle (a := y_31) (b := i) (by omega) (by omega) c_34
                          refine lv_aload_n hx hb dX9_copy_127 rfl (lv_at hl 1 rfl) ?_
                          refine xg hF kf_X9_53 hK hP 0 rfl rfl dX9_copy_128 ?_
                          refine lv_iload hx hb dX9_copy_131 (lv_at hl 0 rfl) ?_
                          refine lv_aload_n hx hb dX9_copy_133 rfl (lv_at hl 1 rfl) ?_
                          refine xg hF kf_X9_49 hK hP 0 rfl rfl dX9_copy_134 ?_
                          refine lv_bipush (v := 40) hx hb dX9_copy_137 (by decide) ?_
                          refine lv_iload_n hx hb dX9_copy_139 rfl (lv_at hl 2 rfl) ?_
                          refine lv_imul hx hb dX9_copy_140 ?_
                          refine xl_i (y := 120) (by decide) ?_
                          refine lv_iload_n hx hb dX9_copy_141 rfl (lv_at hl 3 rfl) ?_
                          refine lv_iadd hx hb dX9_copy_142 ?_
                          refine xl_i (y := nI (120 + y_32)) (nI_add 120 y_32) ?_
                          refine lv_iload hx hb dX9_copy_143 (lv_at hl 0 rfl) ?_
                          refine lv_iadd hx hb dX9_copy_145 ?_
                          refine xl_i (y := nI (120 + y_32 + i)) (nI_add (120 + y_32) i) ?_
                          refine va_lald hx hb hK hP 3 1 rfl rfl (vp_in_nI (show 120 + y_32 + i < 160 by omega) (by decide)) dX9_copy_146 ?_
                          refine xl_l (y := nb (120 + y_32 + i)) (congrArg nb (nI_clamp (show 120 + y_32 + i < 2 ^ 31 by omega))) ?_
                          refine va_last hx hb hK hP hD hS 4 1 rfl rfl (vp_in_nI (show i < 40 by omega) (by decide)) dX9_copy_147 (fun H locs hP hD hS => ?_)
                          rw [nI_clamp (show i < 2 ^ 31 by omega)] at hP hD
                          obtain ⟨f_37, ef_37⟩ : ∃ g, g = vp_updL m8 i (nb (120 + y_32 + i)) := ⟨_, rfl⟩
                          rw [← ef_37] at hP hD
                          have hP : va_P D vwCl [(h0, .inr (9, [.ref ys, .ref yk, .ref yo, .ref yt, .int mk0, .ref yfa, .ref yfe, .int mL, .int mS, .int mM, .ref yro, .ref yhe, .ref ygr, .int mF, .int mC, .int mY, .ref yta, .int (nI (mz)), .int (nI (mf)), .int (nI (mt)), .int mv, .int mw, .ref ywa, .ref ybi, .ref ysi, .ref ynu, .ref ymo])), (ybi, .inl (cI, 4, .inl bi)), (ysi, .inl (cI, 4, .inl sq)), (ynu, .inl (cJ, 160, .inr (.inl nb))), (ymo, .inl (cJ, 40, .inr (.inl f_37))), (yt, .inl (cI, 7, .inl mq))] H := hP
                          have hD : va_D A [(h0, .inr (9, [.ref ys, .ref yk, .ref yo, .ref yt, .int mk0, .ref yfa, .ref yfe, .int mL, .int mS, .int mM, .ref yro, .ref yhe, .ref ygr, .int mF, .int mC, .int mY, .ref yta, .int (nI (mz)), .int (nI (mf)), .int (nI (mt)), .int mv, .int mw, .ref ywa, .ref ybi, .ref ysi, .ref ynu, .ref ymo])), (ybi, .inl (cI, 4, .inl bi)), (ysi, .inl (cI, 4, .inl sq)), (ynu, .inl (cJ, 160, .inr (.inl nb))), (ymo, .inl (cJ, 40, .inr (.inl f_37))), (yt, .inl (cI, 7, .inl mq))] := hD
                          refine lv_iinc (v := nI (i + 1)) (lv' := [(6, .int (nI (i + 1))), (0, .ref h0), (1, .int 3), (2, .int (nI (y_32))), (3, .int 0), (4, .int (nI (y_33))), (5, .int (nI (y_31)))]) hx hb dX9_copy_148 hl (k := 0) rfl (nI_1 (i)) (by decide) rfl (fun ls hl => ?_)
                          refine lv_goto (tgt := 120) hx hb dX9_copy_151 (by decide) ?_
                          exact ih_120 (i + 1) f_37 _ _ _ (by omega) (by omega) (sp_mv1 hm8 ef_37) (hP.sub [0, 1, 2, 3, 4, 5] rfl) (hD.sub [0, 1, 2, 3, 4, 5] (by decide +kernel) rfl) hS (lv_sub hl [0, 1, 2, 3, 4, 5, 6] rfl)
                    · skip
                      refine lv_aload_n hx hb dX9_copy_110 rfl (lv_at hl 0 rfl) ?_
                      refine lv_ldc (v := (-1000000001)) hx hb hown (hu _ uw648) dX9_copy_111 ?_
                      refine xc_Vi (wr := [(ybi, .inl (cI, 4, .inl bi)), (ysi, .inl (cI, 4, .inl sq)), (ynu, .inl (cJ, 160, .inr (.inl nb))), (ymo, .inl (cJ, 40, .inr (.inl mv9)))]) hF (c_X9_finds_B l D cI cJ cZ cS ta sa sv s.heap.size h0 ys yk yo yt mk0 yfa yfe mL mS mM yro yhe ygr mF mC mY yta mz mf mt mv mw ywa ybi ysi ynu ymo mq ) kv_X9_70 ⟨rfl, rfl, Nat.le_of_ble_eq_true rfl, Nat.le_of_ble_eq_true rfl⟩ ⟨Nat.le_of_ble_eq_true rfl, Nat.le_of_ble_eq_true rfl⟩ hK hN hZ hP hD hS hA [0, 5] [1, 2, 3, 4] rfl rfl rfl rfl (by decide) 0 rfl rfl rfl rfl hl.1 rfl (Nat.le_of_ble_eq_true rfl) dX9_copy_113 (fun r_38 u_r_38 H locs hw_r_38 hP hD hS => ?_)
                      obtain ⟨mq2_39, rfl⟩ : ∃ z, z = u_r_38 := ⟨_, rfl⟩
                      try dsimp only at hw_r_38
                      have hP : va_P D vwCl [(ybi, .inl (cI, 4, .inl bi)), (ysi, .inl (cI, 4, .inl sq)), (ynu, .inl (cJ, 160, .inr (.inl nb))), (ymo, .inl (cJ, 40, .inr (.inl mv9))), (h0, .inr (9, [.ref ys, .ref yk, .ref yo, .ref yt, .int mk0, .ref yfa, .ref yfe, .int mL, .int mS, .int mM, .ref yro, .ref yhe, .ref ygr, .int mF, .int mC, .int mY, .ref yta, .int (nI (mz)), .int (nI (mf)), .int (nI (mt)), .int mv, .int mw, .ref ywa, .ref ybi, .ref ysi, .ref ynu, .ref ymo])), (yt, .inl (cI, 7, .inl mq2_39))] H := hP
                      have hD : va_D A [(ybi, .inl (cI, 4, .inl bi)), (ysi, .inl (cI, 4, .inl sq)), (ynu, .inl (cJ, 160, .inr (.inl nb))), (ymo, .inl (cJ, 40, .inr (.inl mv9))), (h0, .inr (9, [.ref ys, .ref yk, .ref yo, .ref yt, .int mk0, .ref yfa, .ref yfe, .int mL, .int mS, .int mM, .ref yro, .ref yhe, .ref ygr, .int mF, .int mC, .int mY, .ref yta, .int (nI (mz)), .int (nI (mf)), .int (nI (mt)), .int mv, .int mw, .ref ywa, .ref ybi, .ref ysi, .ref ynu, .ref ymo])), (yt, .inl (cI, 7, .inl mq2_39))] := hD
                      subst hw_r_38
                      exact W.iret (v := (-1000000001)) hx hb hr (fun t ht hW => ⟨⟨(-1000000001), (nb, mv9, mq2_39), rfl, ⟨(sp_cr3 c_11 c_14 c_15 (fun q => (sp_s5 hzt c_19 c_22 ex_29 (xlt c_30)) q.2)), (fun j => sp_c0 (fun h => (sp_s5 hzt c_19 c_22 ex_29 (xlt c_30)) h.2.2.2.2)), (fun _ _ => rfl)⟩, by rw [ht]; exact hP.sub [4, 0, 1, 2, 3, 5] rfl, hD.sub [4, 0, 1, 2, 3, 5] (by decide +kernel) rfl⟩, hS.F ht⟩) hS.2.2 dX9_copy_116 hlk
          · skip
            refine lv_aload_n hx hb dX9_copy_62 rfl (lv_at hl 0 rfl) ?_
            refine lv_ldc (v := (-1000000003)) hx hb hown (hu _ uw765) dX9_copy_63 ?_
            refine xc_Vi (wr := [(ybi, .inl (cI, 4, .inl bi)), (ysi, .inl (cI, 4, .inl sq)), (ynu, .inl (cJ, 160, .inr (.inl nb))), (ymo, .inl (cJ, 40, .inr (.inl mv9)))]) hF (c_X9_finds_K l D cI cJ cZ cS ta sa sv s.heap.size h0 ys yk yo yt mk0 yfa yfe mL mS mM yro yhe ygr mF mC mY yta mz mf mt mv mw ywa ybi ysi ynu ymo mq ) kv_X9_70 ⟨rfl, rfl, Nat.le_of_ble_eq_true rfl, Nat.le_of_ble_eq_true rfl⟩ ⟨Nat.le_of_ble_eq_true rfl, Nat.le_of_ble_eq_true rfl⟩ hK hN hZ hP hD hS hA [0, 5] [1, 2, 3, 4] rfl rfl rfl rfl (by decide) 0 rfl rfl rfl rfl hl.1 rfl (Nat.le_of_ble_eq_true rfl) dX9_copy_65 (fun r_40 u_r_40 H locs hw_r_40 hP hD hS => ?_)
            obtain ⟨mq2_41, rfl⟩ : ∃ z, z = u_r_40 := ⟨_, rfl⟩
            try dsimp only at hw_r_40
            have hP : va_P D vwCl [(ybi, .inl (cI, 4, .inl bi)), (ysi, .inl (cI, 4, .inl sq)), (ynu, .inl (cJ, 160, .inr (.inl nb))), (ymo, .inl (cJ, 40, .inr (.inl mv9))), (h0, .inr (9, [.ref ys, .ref yk, .ref yo, .ref yt, .int mk0, .ref yfa, .ref yfe, .int mL, .int mS, .int mM, .ref yro, .ref yhe, .ref ygr, .int mF, .int mC, .int mY, .ref yta, .int (nI (mz)), .int (nI (mf)), .int (nI (mt)), .int mv, .int mw, .ref ywa, .ref ybi, .ref ysi, .ref ynu, .ref ymo])), (yt, .inl (cI, 7, .inl mq2_41))] H := hP
            have hD : va_D A [(ybi, .inl (cI, 4, .inl bi)), (ysi, .inl (cI, 4, .inl sq)), (ynu, .inl (cJ, 160, .inr (.inl nb))), (ymo, .inl (cJ, 40, .inr (.inl mv9))), (h0, .inr (9, [.ref ys, .ref yk, .ref yo, .ref yt, .int mk0, .ref yfa, .ref yfe, .int mL, .int mS, .int mM, .ref yro, .ref yhe, .ref ygr, .int mF, .int mC, .int mY, .ref yta, .int (nI (mz)), .int (nI (mf)), .int (nI (mt)), .int mv, .int mw, .ref ywa, .ref ybi, .ref ysi, .ref ynu, .ref ymo])), (yt, .inl (cI, 7, .inl mq2_41))] := hD
            subst hw_r_40
            exact W.iret (v := (-1000000003)) hx hb hr (fun t ht hW => ⟨⟨(-1000000003), (nb, mv9, mq2_41), rfl, ⟨(sp_cr2 c_11 c_14 c_15), (fun j => sp_c0 (fun h => absurd h.2.2.1 c_15)), (fun _ _ => rfl)⟩, by rw [ht]; exact hP.sub [4, 0, 1, 2, 3, 5] rfl, hD.sub [4, 0, 1, 2, 3, 5] (by decide +kernel) rfl⟩, hS.F ht⟩) hS.2.2 dX9_copy_68 hlk
        · skip
          refine lv_aload_n hx hb dX9_copy_39 rfl (lv_at hl 0 rfl) ?_
          refine lv_ldcw (v := (-1000000006)) hx hb hown (hu _ uw910) dX9_copy_40 ?_
          refine xc_Vi (wr := [(ybi, .inl (cI, 4, .inl bi)), (ysi, .inl (cI, 4, .inl sq)), (ynu, .inl (cJ, 160, .inr (.inl nb))), (ymo, .inl (cJ, 40, .inr (.inl mv9)))]) hF (c_X9_finds_M l D cI cJ cZ cS ta sa sv s.heap.size h0 ys yk yo yt mk0 yfa yfe mL mS mM yro yhe ygr mF mC mY yta mz mf mt mv mw ywa ybi ysi ynu ymo mq ) kv_X9_70 ⟨rfl, rfl, Nat.le_of_ble_eq_true rfl, Nat.le_of_ble_eq_true rfl⟩ ⟨Nat.le_of_ble_eq_true rfl, Nat.le_of_ble_eq_true rfl⟩ hK hN hZ hP hD hS hA [0, 5] [1, 2, 3, 4] rfl rfl rfl rfl (by decide) 0 rfl rfl rfl rfl hl.1 rfl (Nat.le_of_ble_eq_true rfl) dX9_copy_43 (fun r_42 u_r_42 H locs hw_r_42 hP hD hS => ?_)
          obtain ⟨mq2_43, rfl⟩ : ∃ z, z = u_r_42 := ⟨_, rfl⟩
          try dsimp only at hw_r_42
          have hP : va_P D vwCl [(ybi, .inl (cI, 4, .inl bi)), (ysi, .inl (cI, 4, .inl sq)), (ynu, .inl (cJ, 160, .inr (.inl nb))), (ymo, .inl (cJ, 40, .inr (.inl mv9))), (h0, .inr (9, [.ref ys, .ref yk, .ref yo, .ref yt, .int mk0, .ref yfa, .ref yfe, .int mL, .int mS, .int mM, .ref yro, .ref yhe, .ref ygr, .int mF, .int mC, .int mY, .ref yta, .int (nI (mz)), .int (nI (mf)), .int (nI (mt)), .int mv, .int mw, .ref ywa, .ref ybi, .ref ysi, .ref ynu, .ref ymo])), (yt, .inl (cI, 7, .inl mq2_43))] H := hP
          have hD : va_D A [(ybi, .inl (cI, 4, .inl bi)), (ysi, .inl (cI, 4, .inl sq)), (ynu, .inl (cJ, 160, .inr (.inl nb))), (ymo, .inl (cJ, 40, .inr (.inl mv9))), (h0, .inr (9, [.ref ys, .ref yk, .ref yo, .ref yt, .int mk0, .ref yfa, .ref yfe, .int mL, .int mS, .int mM, .ref yro, .ref yhe, .ref ygr, .int mF, .int mC, .int mY, .ref yta, .int (nI (mz)), .int (nI (mf)), .int (nI (mt)), .int mv, .int mw, .ref ywa, .ref ybi, .ref ysi, .ref ynu, .ref ymo])), (yt, .inl (cI, 7, .inl mq2_43))] := hD
          subst hw_r_42
          exact W.iret (v := (-1000000006)) hx hb hr (fun t ht hW => ⟨⟨(-1000000006), (nb, mv9, mq2_43), rfl, ⟨(sp_cr1 (Or.inr c_14)), (fun j => sp_c0 (fun h => h.2.1 c_14)), (fun _ _ => rfl)⟩, by rw [ht]; exact hP.sub [4, 0, 1, 2, 3, 5] rfl, hD.sub [4, 0, 1, 2, 3, 5] (by decide +kernel) rfl⟩, hS.F ht⟩) hS.2.2 dX9_copy_46 hlk
    · exact absurd h_9 (by decide)
  · exact absurd h_4 (by decide)
set_option maxHeartbeats 4000000 in
set_option maxRecDepth 100000 in
theorem c_X9_copy_31 (l : Launch) (D : va_G) (cI cJ cZ cS : ClassId) (ta : Nat) (sa sv : Nat → Nat) (sz : Nat) (h0 : Nat) (ys : Nat) (yk : Nat) (yo : Nat) (yt : Nat) (mk0 : Int32) (yfa : Nat) (yfe : Nat) (mL : Int32) (mS : Int32) (mM : Int32) (yro : Nat) (yhe : Nat) (ygr : Nat) (mF : Int32) (mC : Int32) (mY : Int32) (yta : Nat) (mz : Nat) (mf : Nat) (mt : Nat) (mv : Int32) (mw : Int32) (ywa : Nat) (ybi : Nat) (ysi : Nat) (ynu : Nat) (ymo : Nat) (bi : Nat → Int32) (sq : Nat → Int32) (nb : Nat → Int64) (mv9 : Nat → Int64) (mq : Nat → Int32) (p1 : Int32) (p3 : Int32) (p4 : Int32) (zq : Nat) (zt : Nat) (ez : sq 3 = nI zq) (hzq : zq ≤ 40) (et : sq 1 = nI zt) (hzt : zt ≤ 40) (hsq : BA 4 41 sq) : Met l yX9_copy (Cond.code yX9_copy cX9_copy 7 (some .int) :: wsU) ({ frames := 2, cells := 0, slots := 0, locals := 45 }) (va_Pc [.ref h0, .int 3, .int p1, .int 1, .int p3, .int p4] (XW D (xT cI cJ cZ cS) ta sa sv [(h0, .inr (9, [.ref ys, .ref yk, .ref yo, .ref yt, .int mk0, .ref yfa, .ref yfe, .int mL, .int mS, .int mM, .ref yro, .ref yhe, .ref ygr, .int mF, .int mC, .int mY, .ref yta, .int (nI (mz)), .int (nI (mf)), .int (nI (mt)), .int mv, .int mw, .ref ywa, .ref ybi, .ref ysi, .ref ynu, .ref ymo])), (ybi, .inl (cI, 4, .inl bi)), (ysi, .inl (cI, 4, .inl sq)), (ynu, .inl (cJ, 160, .inr (.inl nb))), (ymo, .inl (cJ, 40, .inr (.inl mv9))), (yt, .inl (cI, 7, .inl mq))] sz)) (XQi (fun (r : Int32) (u : (Nat → Int64) × (Nat → Int64) × (Nat → Int32)) => match u with | (nb2, mv2, mq2) => ((r = sp_cr (bi 3) (bi 1) zq zt p1 p3 p4)) ∧ (∀ j, nb2 (40 + j) = sp_cn (bi 3) (bi 1) zq zt p1 p3 p4 (fun k => nb (120 + k)) j (nb (40 + j))) ∧ (∀ j, j < 40 ∨ 80 ≤ j → nb2 j = nb j)) D (fun (u : (Nat → Int64) × (Nat → Int64) × (Nat → Int32)) => match u with | (nb2, mv2, mq2) => [(h0, .inr (9, [.ref ys, .ref yk, .ref yo, .ref yt, .int mk0, .ref yfa, .ref yfe, .int mL, .int mS, .int mM, .ref yro, .ref yhe, .ref ygr, .int mF, .int mC, .int mY, .ref yta, .int (nI (mz)), .int (nI (mf)), .int (nI (mt)), .int mv, .int mw, .ref ywa, .ref ybi, .ref ysi, .ref ynu, .ref ymo])), (ybi, .inl (cI, 4, .inl bi)), (ysi, .inl (cI, 4, .inl sq)), (ynu, .inl (cJ, 160, .inr (.inl nb2))), (ymo, .inl (cJ, 40, .inr (.inl mv2))), (yt, .inl (cI, 7, .inl mq2))]) (va_A [(h0, .inr (9, [.ref ys, .ref yk, .ref yo, .ref yt, .int mk0, .ref yfa, .ref yfe, .int mL, .int mS, .int mM, .ref yro, .ref yhe, .ref ygr, .int mF, .int mC, .int mY, .ref yta, .int (nI (mz)), .int (nI (mf)), .int (nI (mt)), .int mv, .int mw, .ref ywa, .ref ybi, .ref ysi, .ref ynu, .ref ymo])), (ybi, .inl (cI, 4, .inl bi)), (ysi, .inl (cI, 4, .inl sq)), (ynu, .inl (cJ, 160, .inr (.inl nb))), (ymo, .inl (cJ, 40, .inr (.inl mv9))), (yt, .inl (cI, 7, .inl mq))] sz)) 0 0 (va_A [(h0, .inr (9, [.ref ys, .ref yk, .ref yo, .ref yt, .int mk0, .ref yfa, .ref yfe, .int mL, .int mS, .int mM, .ref yro, .ref yhe, .ref ygr, .int mF, .int mC, .int mY, .ref yta, .int (nI (mz)), .int (nI (mf)), .int (nI (mt)), .int mv, .int mw, .ref ywa, .ref ybi, .ref ysi, .ref ynu, .ref ymo])), (ybi, .inl (cI, 4, .inl bi)), (ysi, .inl (cI, 4, .inl sq)), (ynu, .inl (cJ, 160, .inr (.inl nb))), (ymo, .inl (cJ, 40, .inr (.inl mv9))), (yt, .inl (cI, 7, .inl mq))] sz) := by
  refine xh (QA := fun A => XQi (fun (r : Int32) (u : (Nat → Int64) × (Nat → Int64) × (Nat → Int32)) => match u with | (nb2, mv2, mq2) => ((r = sp_cr (bi 3) (bi 1) zq zt p1 p3 p4)) ∧ (∀ j, nb2 (40 + j) = sp_cn (bi 3) (bi 1) zq zt p1 p3 p4 (fun k => nb (120 + k)) j (nb (40 + j))) ∧ (∀ j, j < 40 ∨ 80 ≤ j → nb2 j = nb j)) D (fun (u : (Nat → Int64) × (Nat → Int64) × (Nat → Int32)) => match u with | (nb2, mv2, mq2) => [(h0, .inr (9, [.ref ys, .ref yk, .ref yo, .ref yt, .int mk0, .ref yfa, .ref yfe, .int mL, .int mS, .int mM, .ref yro, .ref yhe, .ref ygr, .int mF, .int mC, .int mY, .ref yta, .int (nI (mz)), .int (nI (mf)), .int (nI (mt)), .int mv, .int mw, .ref ywa, .ref ybi, .ref ysi, .ref ynu, .ref ymo])), (ybi, .inl (cI, 4, .inl bi)), (ysi, .inl (cI, 4, .inl sq)), (ynu, .inl (cJ, 160, .inr (.inl nb2))), (ymo, .inl (cJ, 40, .inr (.inl mv2))), (yt, .inl (cI, 7, .inl mq2))]) A) (fr := fun A => A) (by decide) (Nat.le_of_ble_eq_true rfl) ?_
  intro p e s m below meth c ls A hF hr hlk hin hsz hP hK hD hN hZ hA hS hl
  have hF : CallFix p m c cX9_copy 7 s _ _ RX9 := hF
  have hx := hF.1
  have hb := hF.2.1
  have hml := hF.2.2.1
  have hown := hF.2.2.2.1
  have hu : ∀ w ∈ wsU, w.before _ s = true := fun w h => hF.2.2.2.2 w (List.mem_cons_of_mem _ h)
  have hl : lv_has ls 7 [(0, .ref h0), (1, .int 3), (2, .int p1), (3, .int 1), (4, .int p3), (5, .int p4)] := hl
  refine lv_iload_n hx hb dX9_copy_0 rfl (lv_at hl 1 rfl) ?_
  refine xc_Sr hF (c_X9_isOne l D cI cJ cZ cS ta sa sv s.heap.size 3 ) ks_X9_305 ⟨rfl, rfl, Nat.le_of_ble_eq_true rfl, Nat.le_of_ble_eq_true rfl⟩ ⟨Nat.le_of_ble_eq_true rfl, Nat.le_of_ble_eq_true rfl⟩ hK hN hZ hP hD hS hA [] rfl rfl rfl hl.1 rfl (Nat.le_of_ble_eq_true rfl) dX9_copy_1 (fun r_1 hw_r_1 => ?_)
  rcases hw_r_1 with ⟨rfl, h_2, h_3⟩ | ⟨rfl, h_4⟩
  · skip
    refine lv_if_eq (tgt := 14) hx hb dX9_copy_4 (by decide) (fun c_5 => absurd c_5 (by decide)) (fun c_5 => ?_)
    refine lv_iload_n hx hb dX9_copy_7 rfl (lv_at hl 3 rfl) ?_
    refine xc_Sr hF (c_X9_isOne l D cI cJ cZ cS ta sa sv s.heap.size 1 ) ks_X9_305 ⟨rfl, rfl, Nat.le_of_ble_eq_true rfl, Nat.le_of_ble_eq_true rfl⟩ ⟨Nat.le_of_ble_eq_true rfl, Nat.le_of_ble_eq_true rfl⟩ hK hN hZ hP hD hS hA [] rfl rfl rfl hl.1 rfl (Nat.le_of_ble_eq_true rfl) dX9_copy_8 (fun r_6 hw_r_6 => ?_)
    rcases hw_r_6 with ⟨rfl, h_7, h_8⟩ | ⟨rfl, h_9⟩
    · skip
      refine lv_if_ne (tgt := 21) hx hb dX9_copy_11 (by decide) (fun c_10 => ?_) (fun c_10 => absurd c_10 (by decide))
      refine lv_aload_n hx hb dX9_copy_21 rfl (lv_at hl 0 rfl) ?_
      refine xg hF kf_X9_43 hK hP 0 rfl rfl dX9_copy_22 ?_
      refine lv_iload_n hx hb dX9_copy_25 rfl (lv_at hl 1 rfl) ?_
      refine va_iald hx hb hK hP 1 0 rfl rfl (xin 3 4 (by decide) (by decide)) dX9_copy_26 ?_
      refine xl_i (y := bi 3) (congrArg bi rfl) ?_
      refine lv_if_eq (tgt := 39) hx hb dX9_copy_27 (by decide) (fun c_11 => ?_) (fun c_11 => ?_)
      · skip
        refine lv_aload_n hx hb dX9_copy_39 rfl (lv_at hl 0 rfl) ?_
        refine lv_ldcw (v := (-1000000006)) hx hb hown (hu _ uw910) dX9_copy_40 ?_
        refine xc_Vi (wr := [(ybi, .inl (cI, 4, .inl bi)), (ysi, .inl (cI, 4, .inl sq)), (ynu, .inl (cJ, 160, .inr (.inl nb))), (ymo, .inl (cJ, 40, .inr (.inl mv9)))]) hF (c_X9_finds_M l D cI cJ cZ cS ta sa sv s.heap.size h0 ys yk yo yt mk0 yfa yfe mL mS mM yro yhe ygr mF mC mY yta mz mf mt mv mw ywa ybi ysi ynu ymo mq ) kv_X9_70 ⟨rfl, rfl, Nat.le_of_ble_eq_true rfl, Nat.le_of_ble_eq_true rfl⟩ ⟨Nat.le_of_ble_eq_true rfl, Nat.le_of_ble_eq_true rfl⟩ hK hN hZ hP hD hS hA [0, 5] [1, 2, 3, 4] rfl rfl rfl rfl (by decide) 0 rfl rfl rfl rfl hl.1 rfl (Nat.le_of_ble_eq_true rfl) dX9_copy_43 (fun r_12 u_r_12 H locs hw_r_12 hP hD hS => ?_)
        obtain ⟨mq2_13, rfl⟩ : ∃ z, z = u_r_12 := ⟨_, rfl⟩
        try dsimp only at hw_r_12
        have hP : va_P D vwCl [(ybi, .inl (cI, 4, .inl bi)), (ysi, .inl (cI, 4, .inl sq)), (ynu, .inl (cJ, 160, .inr (.inl nb))), (ymo, .inl (cJ, 40, .inr (.inl mv9))), (h0, .inr (9, [.ref ys, .ref yk, .ref yo, .ref yt, .int mk0, .ref yfa, .ref yfe, .int mL, .int mS, .int mM, .ref yro, .ref yhe, .ref ygr, .int mF, .int mC, .int mY, .ref yta, .int (nI (mz)), .int (nI (mf)), .int (nI (mt)), .int mv, .int mw, .ref ywa, .ref ybi, .ref ysi, .ref ynu, .ref ymo])), (yt, .inl (cI, 7, .inl mq2_13))] H := hP
        have hD : va_D A [(ybi, .inl (cI, 4, .inl bi)), (ysi, .inl (cI, 4, .inl sq)), (ynu, .inl (cJ, 160, .inr (.inl nb))), (ymo, .inl (cJ, 40, .inr (.inl mv9))), (h0, .inr (9, [.ref ys, .ref yk, .ref yo, .ref yt, .int mk0, .ref yfa, .ref yfe, .int mL, .int mS, .int mM, .ref yro, .ref yhe, .ref ygr, .int mF, .int mC, .int mY, .ref yta, .int (nI (mz)), .int (nI (mf)), .int (nI (mt)), .int mv, .int mw, .ref ywa, .ref ybi, .ref ysi, .ref ynu, .ref ymo])), (yt, .inl (cI, 7, .inl mq2_13))] := hD
        subst hw_r_12
        exact W.iret (v := (-1000000006)) hx hb hr (fun t ht hW => ⟨⟨(-1000000006), (nb, mv9, mq2_13), rfl, ⟨(sp_cr1 (Or.inl c_11)), (fun j => sp_c0 (fun h => h.1 c_11)), (fun _ _ => rfl)⟩, by rw [ht]; exact hP.sub [4, 0, 1, 2, 3, 5] rfl, hD.sub [4, 0, 1, 2, 3, 5] (by decide +kernel) rfl⟩, hS.F ht⟩) hS.2.2 dX9_copy_46 hlk
      · skip
        refine lv_aload_n hx hb dX9_copy_30 rfl (lv_at hl 0 rfl) ?_
        refine xg hF kf_X9_43 hK hP 0 rfl rfl dX9_copy_31 ?_
        refine lv_iload_n hx hb dX9_copy_34 rfl (lv_at hl 3 rfl) ?_
        refine va_iald hx hb hK hP 1 0 rfl rfl (xin 1 4 (by decide) (by decide)) dX9_copy_35 ?_
        refine xl_i (y := bi 1) (congrArg bi rfl) ?_
        refine lv_if_ne (tgt := 47) hx hb dX9_copy_36 (by decide) (fun c_14 => ?_) (fun c_14 => ?_)
        · skip
          refine lv_aload_n hx hb dX9_copy_47 rfl (lv_at hl 0 rfl) ?_
          refine xg hF kf_X9_43 hK hP 0 rfl rfl dX9_copy_48 ?_
          refine lv_iload_n hx hb dX9_copy_51 rfl (lv_at hl 1 rfl) ?_
          refine va_iald hx hb hK hP 1 0 rfl rfl (xin 3 4 (by decide) (by decide)) dX9_copy_52 ?_
          refine xl_i (y := bi 3) (congrArg bi rfl) ?_
          refine lv_aload_n hx hb dX9_copy_53 rfl (lv_at hl 0 rfl) ?_
          refine xg hF kf_X9_43 hK hP 0 rfl rfl dX9_copy_54 ?_
          refine lv_iload_n hx hb dX9_copy_57 rfl (lv_at hl 3 rfl) ?_
          refine va_iald hx hb hK hP 1 0 rfl rfl (xin 1 4 (by decide) (by decide)) dX9_copy_58 ?_
          refine xl_i (y := bi 1) (congrArg bi rfl) ?_
          refine lv_icmp_eq (tgt := 69) hx hb dX9_copy_59 (by decide) (fun c_15 => ?_) (fun c_15 => ?_)
          · skip
            refine lv_iload_n hx hb dX9_copy_69 rfl (lv_at hl 2 rfl) ?_
            refine lv_if_lt (tgt := 110) hx hb dX9_copy_70 (by decide) (fun c_16 => ?_) (fun c_16 => ?_)
            · skip
              refine lv_aload_n hx hb dX9_copy_110 rfl (lv_at hl 0 rfl) ?_
              refine lv_ldc (v := (-1000000001)) hx hb hown (hu _ uw648) dX9_copy_111 ?_
              refine xc_Vi (wr := [(ybi, .inl (cI, 4, .inl bi)), (ysi, .inl (cI, 4, .inl sq)), (ynu, .inl (cJ, 160, .inr (.inl nb))), (ymo, .inl (cJ, 40, .inr (.inl mv9)))]) hF (c_X9_finds_B l D cI cJ cZ cS ta sa sv s.heap.size h0 ys yk yo yt mk0 yfa yfe mL mS mM yro yhe ygr mF mC mY yta mz mf mt mv mw ywa ybi ysi ynu ymo mq ) kv_X9_70 ⟨rfl, rfl, Nat.le_of_ble_eq_true rfl, Nat.le_of_ble_eq_true rfl⟩ ⟨Nat.le_of_ble_eq_true rfl, Nat.le_of_ble_eq_true rfl⟩ hK hN hZ hP hD hS hA [0, 5] [1, 2, 3, 4] rfl rfl rfl rfl (by decide) 0 rfl rfl rfl rfl hl.1 rfl (Nat.le_of_ble_eq_true rfl) dX9_copy_113 (fun r_17 u_r_17 H locs hw_r_17 hP hD hS => ?_)
              obtain ⟨mq2_18, rfl⟩ : ∃ z, z = u_r_17 := ⟨_, rfl⟩
              try dsimp only at hw_r_17
              have hP : va_P D vwCl [(ybi, .inl (cI, 4, .inl bi)), (ysi, .inl (cI, 4, .inl sq)), (ynu, .inl (cJ, 160, .inr (.inl nb))), (ymo, .inl (cJ, 40, .inr (.inl mv9))), (h0, .inr (9, [.ref ys, .ref yk, .ref yo, .ref yt, .int mk0, .ref yfa, .ref yfe, .int mL, .int mS, .int mM, .ref yro, .ref yhe, .ref ygr, .int mF, .int mC, .int mY, .ref yta, .int (nI (mz)), .int (nI (mf)), .int (nI (mt)), .int mv, .int mw, .ref ywa, .ref ybi, .ref ysi, .ref ynu, .ref ymo])), (yt, .inl (cI, 7, .inl mq2_18))] H := hP
              have hD : va_D A [(ybi, .inl (cI, 4, .inl bi)), (ysi, .inl (cI, 4, .inl sq)), (ynu, .inl (cJ, 160, .inr (.inl nb))), (ymo, .inl (cJ, 40, .inr (.inl mv9))), (h0, .inr (9, [.ref ys, .ref yk, .ref yo, .ref yt, .int mk0, .ref yfa, .ref yfe, .int mL, .int mS, .int mM, .ref yro, .ref yhe, .ref ygr, .int mF, .int mC, .int mY, .ref yta, .int (nI (mz)), .int (nI (mf)), .int (nI (mt)), .int mv, .int mw, .ref ywa, .ref ybi, .ref ysi, .ref ynu, .ref ymo])), (yt, .inl (cI, 7, .inl mq2_18))] := hD
              subst hw_r_17
              exact W.iret (v := (-1000000001)) hx hb hr (fun t ht hW => ⟨⟨(-1000000001), (nb, mv9, mq2_18), rfl, ⟨(sp_cr3 c_11 c_14 c_15 (fun q => (sp_s1 c_16) q.1)), (fun j => sp_c0 (fun h => (sp_s1 c_16) h.2.2.2.1)), (fun _ _ => rfl)⟩, by rw [ht]; exact hP.sub [4, 0, 1, 2, 3, 5] rfl, hD.sub [4, 0, 1, 2, 3, 5] (by decide +kernel) rfl⟩, hS.F ht⟩) hS.2.2 dX9_copy_116 hlk
            · skip
              refine lv_iload hx hb dX9_copy_73 (lv_at hl 4 rfl) ?_
              refine lv_if_lt (tgt := 110) hx hb dX9_copy_75 (by decide) (fun c_19 => ?_) (fun c_19 => ?_)
              · skip
                refine lv_aload_n hx hb dX9_copy_110 rfl (lv_at hl 0 rfl) ?_
                refine lv_ldc (v := (-1000000001)) hx hb hown (hu _ uw648) dX9_copy_111 ?_
                refine xc_Vi (wr := [(ybi, .inl (cI, 4, .inl bi)), (ysi, .inl (cI, 4, .inl sq)), (ynu, .inl (cJ, 160, .inr (.inl nb))), (ymo, .inl (cJ, 40, .inr (.inl mv9)))]) hF (c_X9_finds_B l D cI cJ cZ cS ta sa sv s.heap.size h0 ys yk yo yt mk0 yfa yfe mL mS mM yro yhe ygr mF mC mY yta mz mf mt mv mw ywa ybi ysi ynu ymo mq ) kv_X9_70 ⟨rfl, rfl, Nat.le_of_ble_eq_true rfl, Nat.le_of_ble_eq_true rfl⟩ ⟨Nat.le_of_ble_eq_true rfl, Nat.le_of_ble_eq_true rfl⟩ hK hN hZ hP hD hS hA [0, 5] [1, 2, 3, 4] rfl rfl rfl rfl (by decide) 0 rfl rfl rfl rfl hl.1 rfl (Nat.le_of_ble_eq_true rfl) dX9_copy_113 (fun r_20 u_r_20 H locs hw_r_20 hP hD hS => ?_)
                obtain ⟨mq2_21, rfl⟩ : ∃ z, z = u_r_20 := ⟨_, rfl⟩
                try dsimp only at hw_r_20
                have hP : va_P D vwCl [(ybi, .inl (cI, 4, .inl bi)), (ysi, .inl (cI, 4, .inl sq)), (ynu, .inl (cJ, 160, .inr (.inl nb))), (ymo, .inl (cJ, 40, .inr (.inl mv9))), (h0, .inr (9, [.ref ys, .ref yk, .ref yo, .ref yt, .int mk0, .ref yfa, .ref yfe, .int mL, .int mS, .int mM, .ref yro, .ref yhe, .ref ygr, .int mF, .int mC, .int mY, .ref yta, .int (nI (mz)), .int (nI (mf)), .int (nI (mt)), .int mv, .int mw, .ref ywa, .ref ybi, .ref ysi, .ref ynu, .ref ymo])), (yt, .inl (cI, 7, .inl mq2_21))] H := hP
                have hD : va_D A [(ybi, .inl (cI, 4, .inl bi)), (ysi, .inl (cI, 4, .inl sq)), (ynu, .inl (cJ, 160, .inr (.inl nb))), (ymo, .inl (cJ, 40, .inr (.inl mv9))), (h0, .inr (9, [.ref ys, .ref yk, .ref yo, .ref yt, .int mk0, .ref yfa, .ref yfe, .int mL, .int mS, .int mM, .ref yro, .ref yhe, .ref ygr, .int mF, .int mC, .int mY, .ref yta, .int (nI (mz)), .int (nI (mf)), .int (nI (mt)), .int mv, .int mw, .ref ywa, .ref ybi, .ref ysi, .ref ynu, .ref ymo])), (yt, .inl (cI, 7, .inl mq2_21))] := hD
                subst hw_r_20
                exact W.iret (v := (-1000000001)) hx hb hr (fun t ht hW => ⟨⟨(-1000000001), (nb, mv9, mq2_21), rfl, ⟨(sp_cr3 c_11 c_14 c_15 (fun q => (sp_s1 c_19) q.2)), (fun j => sp_c0 (fun h => (sp_s1 c_19) h.2.2.2.2)), (fun _ _ => rfl)⟩, by rw [ht]; exact hP.sub [4, 0, 1, 2, 3, 5] rfl, hD.sub [4, 0, 1, 2, 3, 5] (by decide +kernel) rfl⟩, hS.F ht⟩) hS.2.2 dX9_copy_116 hlk
              · skip
                refine lv_iload hx hb dX9_copy_78 (lv_at hl 5 rfl) ?_
                refine lv_if_lt (tgt := 110) hx hb dX9_copy_80 (by decide) (fun c_22 => ?_) (fun c_22 => ?_)
                · skip
                  refine lv_aload_n hx hb dX9_copy_110 rfl (lv_at hl 0 rfl) ?_
                  refine lv_ldc (v := (-1000000001)) hx hb hown (hu _ uw648) dX9_copy_111 ?_
                  refine xc_Vi (wr := [(ybi, .inl (cI, 4, .inl bi)), (ysi, .inl (cI, 4, .inl sq)), (ynu, .inl (cJ, 160, .inr (.inl nb))), (ymo, .inl (cJ, 40, .inr (.inl mv9)))]) hF (c_X9_finds_B l D cI cJ cZ cS ta sa sv s.heap.size h0 ys yk yo yt mk0 yfa yfe mL mS mM yro yhe ygr mF mC mY yta mz mf mt mv mw ywa ybi ysi ynu ymo mq ) kv_X9_70 ⟨rfl, rfl, Nat.le_of_ble_eq_true rfl, Nat.le_of_ble_eq_true rfl⟩ ⟨Nat.le_of_ble_eq_true rfl, Nat.le_of_ble_eq_true rfl⟩ hK hN hZ hP hD hS hA [0, 5] [1, 2, 3, 4] rfl rfl rfl rfl (by decide) 0 rfl rfl rfl rfl hl.1 rfl (Nat.le_of_ble_eq_true rfl) dX9_copy_113 (fun r_23 u_r_23 H locs hw_r_23 hP hD hS => ?_)
                  obtain ⟨mq2_24, rfl⟩ : ∃ z, z = u_r_23 := ⟨_, rfl⟩
                  try dsimp only at hw_r_23
                  have hP : va_P D vwCl [(ybi, .inl (cI, 4, .inl bi)), (ysi, .inl (cI, 4, .inl sq)), (ynu, .inl (cJ, 160, .inr (.inl nb))), (ymo, .inl (cJ, 40, .inr (.inl mv9))), (h0, .inr (9, [.ref ys, .ref yk, .ref yo, .ref yt, .int mk0, .ref yfa, .ref yfe, .int mL, .int mS, .int mM, .ref yro, .ref yhe, .ref ygr, .int mF, .int mC, .int mY, .ref yta, .int (nI (mz)), .int (nI (mf)), .int (nI (mt)), .int mv, .int mw, .ref ywa, .ref ybi, .ref ysi, .ref ynu, .ref ymo])), (yt, .inl (cI, 7, .inl mq2_24))] H := hP
                  have hD : va_D A [(ybi, .inl (cI, 4, .inl bi)), (ysi, .inl (cI, 4, .inl sq)), (ynu, .inl (cJ, 160, .inr (.inl nb))), (ymo, .inl (cJ, 40, .inr (.inl mv9))), (h0, .inr (9, [.ref ys, .ref yk, .ref yo, .ref yt, .int mk0, .ref yfa, .ref yfe, .int mL, .int mS, .int mM, .ref yro, .ref yhe, .ref ygr, .int mF, .int mC, .int mY, .ref yta, .int (nI (mz)), .int (nI (mf)), .int (nI (mt)), .int mv, .int mw, .ref ywa, .ref ybi, .ref ysi, .ref ynu, .ref ymo])), (yt, .inl (cI, 7, .inl mq2_24))] := hD
                  subst hw_r_23
                  exact W.iret (v := (-1000000001)) hx hb hr (fun t ht hW => ⟨⟨(-1000000001), (nb, mv9, mq2_24), rfl, ⟨(sp_cr3 c_11 c_14 c_15 (fun q => (sp_s2 c_22) q.1)), (fun j => sp_c0 (fun h => (sp_s2 c_22) h.2.2.2.1)), (fun _ _ => rfl)⟩, by rw [ht]; exact hP.sub [4, 0, 1, 2, 3, 5] rfl, hD.sub [4, 0, 1, 2, 3, 5] (by decide +kernel) rfl⟩, hS.F ht⟩) hS.2.2 dX9_copy_116 hlk
                · skip
                  refine lv_iload hx hb dX9_copy_83 (lv_at hl 5 rfl) ?_
                  refine lv_aload_n hx hb dX9_copy_85 rfl (lv_at hl 0 rfl) ?_
                  refine xg hF kf_X9_46 hK hP 0 rfl rfl dX9_copy_86 ?_
                  refine lv_iload_n hx hb dX9_copy_89 rfl (lv_at hl 1 rfl) ?_
                  refine va_iald hx hb hK hP 2 0 rfl rfl (xin 3 4 (by decide) (by decide)) dX9_copy_90 ?_
                  refine xl_i (y := sq 3) (congrArg sq rfl) ?_
                  refine xl_i (y := nI (zq)) ez ?_
                  refine lv_iload_n hx hb dX9_copy_91 rfl (lv_at hl 2 rfl) ?_
                  refine lv_isub hx hb dX9_copy_92 ?_
                  refine lv_topi (fun x_25 ex_25 => ?_)
                  refine lv_icmp_gt (tgt := 110) hx hb dX9_copy_93 (by decide) (fun c_26 => ?_) (fun c_26 => ?_)
                  · skip
                    refine lv_aload_n hx hb dX9_copy_110 rfl (lv_at hl 0 rfl) ?_
                    refine lv_ldc (v := (-1000000001)) hx hb hown (hu _ uw648) dX9_copy_111 ?_
                    refine xc_Vi (wr := [(ybi, .inl (cI, 4, .inl bi)), (ysi, .inl (cI, 4, .inl sq)), (ynu, .inl (cJ, 160, .inr (.inl nb))), (ymo, .inl (cJ, 40, .inr (.inl mv9)))]) hF (c_X9_finds_B l D cI cJ cZ cS ta sa sv s.heap.size h0 ys yk yo yt mk0 yfa yfe mL mS mM yro yhe ygr mF mC mY yta mz mf mt mv mw ywa ybi ysi ynu ymo mq ) kv_X9_70 ⟨rfl, rfl, Nat.le_of_ble_eq_true rfl, Nat.le_of_ble_eq_true rfl⟩ ⟨Nat.le_of_ble_eq_true rfl, Nat.le_of_ble_eq_true rfl⟩ hK hN hZ hP hD hS hA [0, 5] [1, 2, 3, 4] rfl rfl rfl rfl (by decide) 0 rfl rfl rfl rfl hl.1 rfl (Nat.le_of_ble_eq_true rfl) dX9_copy_113 (fun r_27 u_r_27 H locs hw_r_27 hP hD hS => ?_)
                    obtain ⟨mq2_28, rfl⟩ : ∃ z, z = u_r_27 := ⟨_, rfl⟩
                    try dsimp only at hw_r_27
                    have hP : va_P D vwCl [(ybi, .inl (cI, 4, .inl bi)), (ysi, .inl (cI, 4, .inl sq)), (ynu, .inl (cJ, 160, .inr (.inl nb))), (ymo, .inl (cJ, 40, .inr (.inl mv9))), (h0, .inr (9, [.ref ys, .ref yk, .ref yo, .ref yt, .int mk0, .ref yfa, .ref yfe, .int mL, .int mS, .int mM, .ref yro, .ref yhe, .ref ygr, .int mF, .int mC, .int mY, .ref yta, .int (nI (mz)), .int (nI (mf)), .int (nI (mt)), .int mv, .int mw, .ref ywa, .ref ybi, .ref ysi, .ref ynu, .ref ymo])), (yt, .inl (cI, 7, .inl mq2_28))] H := hP
                    have hD : va_D A [(ybi, .inl (cI, 4, .inl bi)), (ysi, .inl (cI, 4, .inl sq)), (ynu, .inl (cJ, 160, .inr (.inl nb))), (ymo, .inl (cJ, 40, .inr (.inl mv9))), (h0, .inr (9, [.ref ys, .ref yk, .ref yo, .ref yt, .int mk0, .ref yfa, .ref yfe, .int mL, .int mS, .int mM, .ref yro, .ref yhe, .ref ygr, .int mF, .int mC, .int mY, .ref yta, .int (nI (mz)), .int (nI (mf)), .int (nI (mt)), .int mv, .int mw, .ref ywa, .ref ybi, .ref ysi, .ref ynu, .ref ymo])), (yt, .inl (cI, 7, .inl mq2_28))] := hD
                    subst hw_r_27
                    exact W.iret (v := (-1000000001)) hx hb hr (fun t ht hW => ⟨⟨(-1000000001), (nb, mv9, mq2_28), rfl, ⟨(sp_cr3 c_11 c_14 c_15 (fun q => (sp_s5 hzq c_16 c_22 ex_25 c_26) q.1)), (fun j => sp_c0 (fun h => (sp_s5 hzq c_16 c_22 ex_25 c_26) h.2.2.2.1)), (fun _ _ => rfl)⟩, by rw [ht]; exact hP.sub [4, 0, 1, 2, 3, 5] rfl, hD.sub [4, 0, 1, 2, 3, 5] (by decide +kernel) rfl⟩, hS.F ht⟩) hS.2.2 dX9_copy_116 hlk
                  · skip
                    refine lv_iload hx hb dX9_copy_96 (lv_at hl 5 rfl) ?_
                    refine lv_aload_n hx hb dX9_copy_98 rfl (lv_at hl 0 rfl) ?_
                    refine xg hF kf_X9_46 hK hP 0 rfl rfl dX9_copy_99 ?_
                    refine lv_iload_n hx hb dX9_copy_102 rfl (lv_at hl 3 rfl) ?_
                    refine va_iald hx hb hK hP 2 0 rfl rfl (xin 1 4 (by decide) (by decide)) dX9_copy_103 ?_
                    refine xl_i (y := sq 1) (congrArg sq rfl) ?_
                    refine xl_i (y := nI (zt)) et ?_
                    refine lv_iload hx hb dX9_copy_104 (lv_at hl 4 rfl) ?_
                    refine lv_isub hx hb dX9_copy_106 ?_
                    refine lv_topi (fun x_29 ex_29 => ?_)
                    refine lv_icmp_le (tgt := 117) hx hb dX9_copy_107 (by decide) (fun c_30 => ?_) (fun c_30 => ?_)
                    · skip
                      obtain ⟨y_31, hy_31, rfl⟩ := x_spk (by omega) c_16 c_22 ex_25 c_26
                      obtain ⟨y_32, hy_32, rfl⟩ := x_spj (by omega) (by omega) c_16 ex_25 c_26
                      obtain ⟨y_33, hy_33, rfl⟩ := x_spj (by omega) (by omega) c_19 ex_29 (Int32.not_lt.mpr c_30)
                      refine lv_iconst (v := 0) hx hb dX9_copy_117 (by decide) ?_
                      refine lv_istore (lv' := [(6, .int 0), (0, .ref h0), (1, .int 3), (2, .int (nI (y_32))), (3, .int 1), (4, .int (nI (y_33))), (5, .int (nI (y_31)))]) hx hb dX9_copy_118 hl (by decide) rfl (fun ls hl => ?_)
                      suffices loop_120 : ∀ (n_120 : Nat) (i : Nat) (m8 : Nat → Int64) (H : Heap) (locs : List Loc) (ls : Array Slot), y_31 - i < n_120 → (i ≤ y_31) → (∀ j, j < i → m8 j = nb (120 + y_32 + j)) → va_P D vwCl [(h0, .inr (9, [.ref ys, .ref yk, .ref yo, .ref yt, .int mk0, .ref yfa, .ref yfe, .int mL, .int mS, .int mM, .ref yro, .ref yhe, .ref ygr, .int mF, .int mC, .int mY, .ref yta, .int (nI (mz)), .int (nI (mf)), .int (nI (mt)), .int mv, .int mw, .ref ywa, .ref ybi, .ref ysi, .ref ynu, .ref ymo])), (ybi, .inl (cI, 4, .inl bi)), (ysi, .inl (cI, 4, .inl sq)), (ynu, .inl (cJ, 160, .inr (.inl nb))), (ymo, .inl (cJ, 40, .inr (.inl m8))), (yt, .inl (cI, 7, .inl mq))] H → va_D A [(h0, .inr (9, [.ref ys, .ref yk, .ref yo, .ref yt, .int mk0, .ref yfa, .ref yfe, .int mL, .int mS, .int mM, .ref yro, .ref yhe, .ref ygr, .int mF, .int mC, .int mY, .ref yta, .int (nI (mz)), .int (nI (mf)), .int (nI (mt)), .int mv, .int mw, .ref ywa, .ref ybi, .ref ysi, .ref ynu, .ref ymo])), (ybi, .inl (cI, 4, .inl bi)), (ysi, .inl (cI, 4, .inl sq)), (ynu, .inl (cJ, 160, .inr (.inl nb))), (ymo, .inl (cJ, 40, .inr (.inl m8))), (yt, .inl (cI, 7, .inl mq))] → va_S A s.heap H locs → lv_has ls 7 [(6, .int (nI (i))), (0, .ref h0), (1, .int 3), (2, .int (nI (y_32))), (3, .int 1), (4, .int (nI (y_33))), (5, .int (nI (y_31)))] → W p l e ({ frames := 2, cells := 0, slots := 0, locals := 45 }) s m ([.ref h0, .int 3, .int (nI (y_32)), .int 1, .int (nI (y_33)), .int (nI (y_31))] : List Value).toArray below meth c H locs 0 0 (MQ below (XQi (fun (r : Int32) (u : (Nat → Int64) × (Nat → Int64) × (Nat → Int32)) => match u with | (nb2, mv2, mq2) => ((r = sp_cr (bi 3) (bi 1) zq zt (nI (y_32)) (nI (y_33)) (nI (y_31)))) ∧ (∀ j, nb2 (40 + j) = sp_cn (bi 3) (bi 1) zq zt (nI (y_32)) (nI (y_33)) (nI (y_31)) (fun k => nb (120 + k)) j (nb (40 + j))) ∧ (∀ j, j < 40 ∨ 80 ≤ j → nb2 j = nb j)) D (fun (u : (Nat → Int64) × (Nat → Int64) × (Nat → Int32)) => match u with | (nb2, mv2, mq2) => [(h0, .inr (9, [.ref ys, .ref yk, .ref yo, .ref yt, .int mk0, .ref yfa, .ref yfe, .int mL, .int mS, .int mM, .ref yro, .ref yhe, .ref ygr, .int mF, .int mC, .int mY, .ref yta, .int (nI (mz)), .int (nI (mf)), .int (nI (mt)), .int mv, .int mw, .ref ywa, .ref ybi, .ref ysi, .ref ynu, .ref ymo])), (ybi, .inl (cI, 4, .inl bi)), (ysi, .inl (cI, 4, .inl sq)), (ynu, .inl (cJ, 160, .inr (.inl nb2))), (ymo, .inl (cJ, 40, .inr (.inl mv2))), (yt, .inl (cI, 7, .inl mq2))]) A) ([.ref h0, .int 3, .int (nI (y_32)), .int 1, .int (nI (y_33)), .int (nI (y_31))] : List Value).toArray s 0 0 A) (F0 m 120 ls []) by
                        exact loop_120 _ 0 mv9 _ _ _ (Nat.lt_succ_self _) (by omega) (fun j hj => absurd hj (Nat.not_lt_zero _)) hP hD hS (lv_sub hl [0, 1, 2, 3, 4, 5, 6] rfl)
                      intro n_120
                      induction n_120 with
                      | zero =>
                        intro i m8 H locs ls hm_120
                        exact absurd hm_120 (Nat.not_lt_zero _)
                      | succ n_120 ih_120 =>
                        intro i m8 H locs ls hm_120 hi hm8 hP hD hS hl
                        refine lv_iload hx hb dX9_copy_120 (lv_at hl 0 rfl) ?_
                        refine lv_iload hx hb dX9_copy_122 (lv_at hl 6 rfl) ?_
                        refine lv_icmp_ge (tgt := 154) hx hb dX9_copy_124 (by decide) (fun c_34 => ?_) (fun c_34 => ?_)
                        · skip
                          have nc_34 : y_31 ≤ i := xn_le (a := y_31) (b := i) (by omega) (by omega) c_34
                          refine lv_iconst (v := 0) hx hb dX9_copy_154 (by decide) ?_
                          refine lv_istore (lv' := [(6, .int 0), (0, .ref h0), (1, .int 3), (2, .int (nI (y_32))), (3, .int 1), (4, .int (nI (y_33))), (5, .int (nI (y_31)))]) hx hb dX9_copy_155 hl (by decide) rfl (fun ls hl => ?_)
                          suffices loop_157 : ∀ (n_157 : Nat) (i2 : Nat) (n8 : Nat → Int64) (H : Heap) (locs : List Loc) (ls : Array Slot), y_31 - i2 < n_157 → (i2 ≤ y_31) → (∀ j, n8 j = if 40 + y_33 ≤ j ∧ j < 40 + y_33 + i2 then m8 (j - (40 + y_33)) else nb j) → va_P D vwCl [(h0, .inr (9, [.ref ys, .ref yk, .ref yo, .ref yt, .int mk0, .ref yfa, .ref yfe, .int mL, .int mS, .int mM, .ref yro, .ref yhe, .ref ygr, .int mF, .int mC, .int mY, .ref yta, .int (nI (mz)), .int (nI (mf)), .int (nI (mt)), .int mv, .int mw, .ref ywa, .ref ybi, .ref ysi, .ref ynu, .ref ymo])), (ybi, .inl (cI, 4, .inl bi)), (ysi, .inl (cI, 4, .inl sq)), (ynu, .inl (cJ, 160, .inr (.inl n8))), (ymo, .inl (cJ, 40, .inr (.inl m8))), (yt, .inl (cI, 7, .inl mq))] H → va_D A [(h0, .inr (9, [.ref ys, .ref yk, .ref yo, .ref yt, .int mk0, .ref yfa, .ref yfe, .int mL, .int mS, .int mM, .ref yro, .ref yhe, .ref ygr, .int mF, .int mC, .int mY, .ref yta, .int (nI (mz)), .int (nI (mf)), .int (nI (mt)), .int mv, .int mw, .ref ywa, .ref ybi, .ref ysi, .ref ynu, .ref ymo])), (ybi, .inl (cI, 4, .inl bi)), (ysi, .inl (cI, 4, .inl sq)), (ynu, .inl (cJ, 160, .inr (.inl n8))), (ymo, .inl (cJ, 40, .inr (.inl m8))), (yt, .inl (cI, 7, .inl mq))] → va_S A s.heap H locs → lv_has ls 7 [(6, .int (nI (i2))), (0, .ref h0), (1, .int 3), (2, .int (nI (y_32))), (3, .int 1), (4, .int (nI (y_33))), (5, .int (nI (y_31)))] → W p l e ({ frames := 2, cells := 0, slots := 0, locals := 45 }) s m ([.ref h0, .int 3, .int (nI (y_32)), .int 1, .int (nI (y_33)), .int (nI (y_31))] : List Value).toArray below meth c H locs 0 0 (MQ below (XQi (fun (r : Int32) (u : (Nat → Int64) × (Nat → Int64) × (Nat → Int32)) => match u with | (nb2, mv2, mq2) => ((r = sp_cr (bi 3) (bi 1) zq zt (nI (y_32)) (nI (y_33)) (nI (y_31)))) ∧ (∀ j, nb2 (40 + j) = sp_cn (bi 3) (bi 1) zq zt (nI (y_32)) (nI (y_33)) (nI (y_31)) (fun k => nb (120 + k)) j (nb (40 + j))) ∧ (∀ j, j < 40 ∨ 80 ≤ j → nb2 j = nb j)) D (fun (u : (Nat → Int64) × (Nat → Int64) × (Nat → Int32)) => match u with | (nb2, mv2, mq2) => [(h0, .inr (9, [.ref ys, .ref yk, .ref yo, .ref yt, .int mk0, .ref yfa, .ref yfe, .int mL, .int mS, .int mM, .ref yro, .ref yhe, .ref ygr, .int mF, .int mC, .int mY, .ref yta, .int (nI (mz)), .int (nI (mf)), .int (nI (mt)), .int mv, .int mw, .ref ywa, .ref ybi, .ref ysi, .ref ynu, .ref ymo])), (ybi, .inl (cI, 4, .inl bi)), (ysi, .inl (cI, 4, .inl sq)), (ynu, .inl (cJ, 160, .inr (.inl nb2))), (ymo, .inl (cJ, 40, .inr (.inl mv2))), (yt, .inl (cI, 7, .inl mq2))]) A) ([.ref h0, .int 3, .int (nI (y_32)), .int 1, .int (nI (y_33)), .int (nI (y_31))] : List Value).toArray s 0 0 A) (F0 m 157 ls []) by
                            exact loop_157 _ 0 nb _ _ _ (Nat.lt_succ_self _) (by omega) (fun j => (if_neg (by omega)).symm) hP hD hS (lv_sub hl [0, 1, 2, 3, 4, 5, 6] rfl)
                          intro n_157
                          induction n_157 with
                          | zero =>
                            intro i2 n8 H locs ls hm_157
                            exact absurd hm_157 (Nat.not_lt_zero _)
                          | succ n_157 ih_157 =>
                            intro i2 n8 H locs ls hm_157 hi2 hn8 hP hD hS hl
                            refine lv_iload hx hb dX9_copy_157 (lv_at hl 0 rfl) ?_
                            refine lv_iload hx hb dX9_copy_159 (lv_at hl 6 rfl) ?_
                            refine lv_icmp_ge (tgt := 192) hx hb dX9_copy_161 (by decide) (fun c_35 => ?_) (fun c_35 => ?_)
                            · skip
                              have nc_35 : y_31 ≤ i2 := xn_le (a := y_31) (b := i2) (by omega) (by omega) c_35
                              refine lv_iload hx hb dX9_copy_192 (lv_at hl 6 rfl) ?_
                              have hn7 : ∀ j, n8 j = if 40 + y_33 ≤ j ∧ j < 40 + y_33 + y_31 then m8 (j - (40 + y_33)) else nb j := fun j => by rw [hn8 j, show i2 = y_31 by omega]
                              have hm7 : ∀ j, j < y_31 → m8 j = nb (120 + y_32 + j) := fun j hj => hm8 j (by omega)
                              exact W.iret (v := nI (y_31)) hx hb hr (fun t ht hW => ⟨⟨nI (y_31), (n8, m8, mq), rfl, ⟨(sp_cr4 c_11 c_14 c_15 (sp_nspan (by omega) (by omega)) (sp_nspan (by omega) (by omega))), (fun j9 => sp_c1 (K := 40) (M := 120) (by omega) (by omega) c_11 c_14 c_15 (by omega) (by omega) (fun i9 => sp_mv3 hn7 hm7 rfl rfl)), (fun j9 hj9 => by rw [hn7 j9, if_neg (by omega)])⟩, by rw [ht]; exact hP.sub [0, 1, 2, 3, 4, 5] rfl, hD.sub [0, 1, 2, 3, 4, 5] (by decide +kernel) rfl⟩, hS.F ht⟩) hS.2.2 dX9_copy_194 hlk
                            · skip
                              have nc_35 : i2 < y_31 := xn_nle (a := y_31) (b := i2) (by omega) (by omega) c_35
                              refine lv_aload_n hx hb dX9_copy_164 rfl (lv_at hl 1 rfl) ?_
                              refine xg hF kf_X9_49 hK hP 0 rfl rfl dX9_copy_165 ?_
                              refine lv_bipush (v := 40) hx hb dX9_copy_168 (by decide) ?_
                              refine lv_iload_n hx hb dX9_copy_170 rfl (lv_at hl 4 rfl) ?_
                              refine lv_imul hx hb dX9_copy_171 ?_
                              refine xl_i (y := 40) (by decide) ?_
                              refine lv_iload hx hb dX9_copy_172 (lv_at hl 5 rfl) ?_
                              refine lv_iadd hx hb dX9_copy_174 ?_
                              refine xl_i (y := nI (40 + y_33)) (nI_add 40 y_33) ?_
                              refine lv_iload hx hb dX9_copy_175 (lv_at hl 0 rfl) ?_
                              refine lv_iadd hx hb dX9_copy_177 ?_
                              refine xl_i (y := nI (40 + y_33 + i2)) (nI_add (40 + y_33) i2) ?_
                              refine lv_aload_n hx hb dX9_copy_178 rfl (lv_at hl 1 rfl) ?_
                              refine xg hF kf_X9_53 hK hP 0 rfl rfl dX9_copy_179 ?_
                              refine lv_iload hx hb dX9_copy_182 (lv_at hl 0 rfl) ?_
                              refine va_lald hx hb hK hP 4 1 rfl rfl (vp_in_nI (show i2 < 40 by omega) (by decide)) dX9_copy_184 ?_
                              refine xl_l (y := m8 i2) (congrArg m8 (nI_clamp (show i2 < 2 ^ 31 by omega))) ?_
                              refine va_last hx hb hK hP hD hS 3 1 rfl rfl (vp_in_nI (show 40 + y_33 + i2 < 160 by omega) (by decide)) dX9_copy_185 (fun H locs hP hD hS => ?_)
                              rw [nI_clamp (show 40 + y_33 + i2 < 2 ^ 31 by omega)] at hP hD
                              obtain ⟨f_36, ef_36⟩ : ∃ g, g = vp_updL n8 (40 + y_33 + i2) (m8 i2) := ⟨_, rfl⟩
                              rw [← ef_36] at hP hD
                              have hP : va_P D vwCl [(h0, .inr (9, [.ref ys, .ref yk, .ref yo, .ref yt, .int mk0, .ref yfa, .ref yfe, .int mL, .int mS, .int mM, .ref yro, .ref yhe, .ref ygr, .int mF, .int mC, .int mY, .ref yta, .int (nI (mz)), .int (nI (mf)), .int (nI (mt)), .int mv, .int mw, .ref ywa, .ref ybi, .ref ysi, .ref ynu, .ref ymo])), (ybi, .inl (cI, 4, .inl bi)), (ysi, .inl (cI, 4, .inl sq)), (ynu, .inl (cJ, 160, .inr (.inl f_36))), (ymo, .inl (cJ, 40, .inr (.inl m8))), (yt, .inl (cI, 7, .inl mq))] H := hP
                              have hD : va_D A [(h0, .inr (9, [.ref ys, .ref yk, .ref yo, .ref yt, .int mk0, .ref yfa, .ref yfe, .int mL, .int mS, .int mM, .ref yro, .ref yhe, .ref ygr, .int mF, .int mC, .int mY, .ref yta, .int (nI (mz)), .int (nI (mf)), .int (nI (mt)), .int mv, .int mw, .ref ywa, .ref ybi, .ref ysi, .ref ynu, .ref ymo])), (ybi, .inl (cI, 4, .inl bi)), (ysi, .inl (cI, 4, .inl sq)), (ynu, .inl (cJ, 160, .inr (.inl f_36))), (ymo, .inl (cJ, 40, .inr (.inl m8))), (yt, .inl (cI, 7, .inl mq))] := hD
                              refine lv_iinc (v := nI (i2 + 1)) (lv' := [(6, .int (nI (i2 + 1))), (0, .ref h0), (1, .int 3), (2, .int (nI (y_32))), (3, .int 1), (4, .int (nI (y_33))), (5, .int (nI (y_31)))]) hx hb dX9_copy_186 hl (k := 0) rfl (nI_1 (i2)) (by decide) rfl (fun ls hl => ?_)
                              refine lv_goto (tgt := 157) hx hb dX9_copy_189 (by decide) ?_
                              exact ih_157 (i2 + 1) f_36 _ _ _ (by omega) (by omega) (sp_mv2 hn8 ef_36) (hP.sub [0, 1, 2, 3, 4, 5] rfl) (hD.sub [0, 1, 2, 3, 4, 5] (by decide +kernel) rfl) hS (lv_sub hl [0, 1, 2, 3, 4, 5, 6] rfl)
                        · skip
                          have nc_34 : i < y_31 := xn_nle (a := y_31) (b := i) (by omega) (by omega) c_34
                          refine lv_aload_n hx hb dX9_copy_127 rfl (lv_at hl 1 rfl) ?_
                          refine xg hF kf_X9_53 hK hP 0 rfl rfl dX9_copy_128 ?_
                          refine lv_iload hx hb dX9_copy_131 (lv_at hl 0 rfl) ?_
                          refine lv_aload_n hx hb dX9_copy_133 rfl (lv_at hl 1 rfl) ?_
                          refine xg hF kf_X9_49 hK hP 0 rfl rfl dX9_copy_134 ?_
                          refine lv_bipush (v := 40) hx hb dX9_copy_137 (by decide) ?_
                          refine lv_iload_n hx hb dX9_copy_139 rfl (lv_at hl 2 rfl) ?_
                          refine lv_imul hx hb dX9_copy_140 ?_
                          refine xl_i (y := 120) (by decide) ?_
                          refine lv_iload_n hx hb dX9_copy_141 rfl (lv_at hl 3 rfl) ?_
                          refine lv_iadd hx hb dX9_copy_142 ?_
                          refine xl_i (y := nI (120 + y_32)) (nI_add 120 y_32) ?_
                          refine lv_iload hx hb dX9_copy_143 (lv_at hl 0 rfl) ?_
                          refine lv_iadd hx hb dX9_copy_145 ?_
                          refine xl_i (y := nI (120 + y_32 + i)) (nI_add (120 + y_32) i) ?_
                          refine va_lald hx hb hK hP 3 1 rfl rfl (vp_in_nI (show 120 + y_32 + i < 160 by omega) (by decide)) dX9_copy_146 ?_
                          refine xl_l (y := nb (120 + y_32 + i)) (congrArg nb (nI_clamp (show 120 + y_32 + i < 2 ^ 31 by omega))) ?_
                          refine va_last hx hb hK hP hD hS 4 1 rfl rfl (vp_in_nI (show i < 40 by omega) (by decide)) dX9_copy_147 (fun H locs hP hD hS => ?_)
                          rw [nI_clamp (show i < 2 ^ 31 by omega)] at hP hD
                          obtain ⟨f_37, ef_37⟩ : ∃ g, g = vp_updL m8 i (nb (120 + y_32 + i)) := ⟨_, rfl⟩
                          rw [← ef_37] at hP hD
                          have hP : va_P D vwCl [(h0, .inr (9, [.ref ys, .ref yk, .ref yo, .ref yt, .int mk0, .ref yfa, .ref yfe, .int mL, .int mS, .int mM, .ref yro, .ref yhe, .ref ygr, .int mF, .int mC, .int mY, .ref yta, .int (nI (mz)), .int (nI (mf)), .int (nI (mt)), .int mv, .int mw, .ref ywa, .ref ybi, .ref ysi, .ref ynu, .ref ymo])), (ybi, .inl (cI, 4, .inl bi)), (ysi, .inl (cI, 4, .inl sq)), (ynu, .inl (cJ, 160, .inr (.inl nb))), (ymo, .inl (cJ, 40, .inr (.inl f_37))), (yt, .inl (cI, 7, .inl mq))] H := hP
                          have hD : va_D A [(h0, .inr (9, [.ref ys, .ref yk, .ref yo, .ref yt, .int mk0, .ref yfa, .ref yfe, .int mL, .int mS, .int mM, .ref yro, .ref yhe, .ref ygr, .int mF, .int mC, .int mY, .ref yta, .int (nI (mz)), .int (nI (mf)), .int (nI (mt)), .int mv, .int mw, .ref ywa, .ref ybi, .ref ysi, .ref ynu, .ref ymo])), (ybi, .inl (cI, 4, .inl bi)), (ysi, .inl (cI, 4, .inl sq)), (ynu, .inl (cJ, 160, .inr (.inl nb))), (ymo, .inl (cJ, 40, .inr (.inl f_37))), (yt, .inl (cI, 7, .inl mq))] := hD
                          refine lv_iinc (v := nI (i + 1)) (lv' := [(6, .int (nI (i + 1))), (0, .ref h0), (1, .int 3), (2, .int (nI (y_32))), (3, .int 1), (4, .int (nI (y_33))), (5, .int (nI (y_31)))]) hx hb dX9_copy_148 hl (k := 0) rfl (nI_1 (i)) (by decide) rfl (fun ls hl => ?_)
                          refine lv_goto (tgt := 120) hx hb dX9_copy_151 (by decide) ?_
                          exact ih_120 (i + 1) f_37 _ _ _ (by omega) (by omega) (sp_mv1 hm8 ef_37) (hP.sub [0, 1, 2, 3, 4, 5] rfl) (hD.sub [0, 1, 2, 3, 4, 5] (by decide +kernel) rfl) hS (lv_sub hl [0, 1, 2, 3, 4, 5, 6] rfl)
                    · skip
                      refine lv_aload_n hx hb dX9_copy_110 rfl (lv_at hl 0 rfl) ?_
                      refine lv_ldc (v := (-1000000001)) hx hb hown (hu _ uw648) dX9_copy_111 ?_
                      refine xc_Vi (wr := [(ybi, .inl (cI, 4, .inl bi)), (ysi, .inl (cI, 4, .inl sq)), (ynu, .inl (cJ, 160, .inr (.inl nb))), (ymo, .inl (cJ, 40, .inr (.inl mv9)))]) hF (c_X9_finds_B l D cI cJ cZ cS ta sa sv s.heap.size h0 ys yk yo yt mk0 yfa yfe mL mS mM yro yhe ygr mF mC mY yta mz mf mt mv mw ywa ybi ysi ynu ymo mq ) kv_X9_70 ⟨rfl, rfl, Nat.le_of_ble_eq_true rfl, Nat.le_of_ble_eq_true rfl⟩ ⟨Nat.le_of_ble_eq_true rfl, Nat.le_of_ble_eq_true rfl⟩ hK hN hZ hP hD hS hA [0, 5] [1, 2, 3, 4] rfl rfl rfl rfl (by decide) 0 rfl rfl rfl rfl hl.1 rfl (Nat.le_of_ble_eq_true rfl) dX9_copy_113 (fun r_38 u_r_38 H locs hw_r_38 hP hD hS => ?_)
                      obtain ⟨mq2_39, rfl⟩ : ∃ z, z = u_r_38 := ⟨_, rfl⟩
                      try dsimp only at hw_r_38
                      have hP : va_P D vwCl [(ybi, .inl (cI, 4, .inl bi)), (ysi, .inl (cI, 4, .inl sq)), (ynu, .inl (cJ, 160, .inr (.inl nb))), (ymo, .inl (cJ, 40, .inr (.inl mv9))), (h0, .inr (9, [.ref ys, .ref yk, .ref yo, .ref yt, .int mk0, .ref yfa, .ref yfe, .int mL, .int mS, .int mM, .ref yro, .ref yhe, .ref ygr, .int mF, .int mC, .int mY, .ref yta, .int (nI (mz)), .int (nI (mf)), .int (nI (mt)), .int mv, .int mw, .ref ywa, .ref ybi, .ref ysi, .ref ynu, .ref ymo])), (yt, .inl (cI, 7, .inl mq2_39))] H := hP
                      have hD : va_D A [(ybi, .inl (cI, 4, .inl bi)), (ysi, .inl (cI, 4, .inl sq)), (ynu, .inl (cJ, 160, .inr (.inl nb))), (ymo, .inl (cJ, 40, .inr (.inl mv9))), (h0, .inr (9, [.ref ys, .ref yk, .ref yo, .ref yt, .int mk0, .ref yfa, .ref yfe, .int mL, .int mS, .int mM, .ref yro, .ref yhe, .ref ygr, .int mF, .int mC, .int mY, .ref yta, .int (nI (mz)), .int (nI (mf)), .int (nI (mt)), .int mv, .int mw, .ref ywa, .ref ybi, .ref ysi, .ref ynu, .ref ymo])), (yt, .inl (cI, 7, .inl mq2_39))] := hD
                      subst hw_r_38
                      exact W.iret (v := (-1000000001)) hx hb hr (fun t ht hW => ⟨⟨(-1000000001), (nb, mv9, mq2_39), rfl, ⟨(sp_cr3 c_11 c_14 c_15 (fun q => (sp_s5 hzt c_19 c_22 ex_29 (xlt c_30)) q.2)), (fun j => sp_c0 (fun h => (sp_s5 hzt c_19 c_22 ex_29 (xlt c_30)) h.2.2.2.2)), (fun _ _ => rfl)⟩, by rw [ht]; exact hP.sub [4, 0, 1, 2, 3, 5] rfl, hD.sub [4, 0, 1, 2, 3, 5] (by decide +kernel) rfl⟩, hS.F ht⟩) hS.2.2 dX9_copy_116 hlk
          · skip
            refine lv_aload_n hx hb dX9_copy_62 rfl (lv_at hl 0 rfl) ?_
            refine lv_ldc (v := (-1000000003)) hx hb hown (hu _ uw765) dX9_copy_63 ?_
            refine xc_Vi (wr := [(ybi, .inl (cI, 4, .inl bi)), (ysi, .inl (cI, 4, .inl sq)), (ynu, .inl (cJ, 160, .inr (.inl nb))), (ymo, .inl (cJ, 40, .inr (.inl mv9)))]) hF (c_X9_finds_K l D cI cJ cZ cS ta sa sv s.heap.size h0 ys yk yo yt mk0 yfa yfe mL mS mM yro yhe ygr mF mC mY yta mz mf mt mv mw ywa ybi ysi ynu ymo mq ) kv_X9_70 ⟨rfl, rfl, Nat.le_of_ble_eq_true rfl, Nat.le_of_ble_eq_true rfl⟩ ⟨Nat.le_of_ble_eq_true rfl, Nat.le_of_ble_eq_true rfl⟩ hK hN hZ hP hD hS hA [0, 5] [1, 2, 3, 4] rfl rfl rfl rfl (by decide) 0 rfl rfl rfl rfl hl.1 rfl (Nat.le_of_ble_eq_true rfl) dX9_copy_65 (fun r_40 u_r_40 H locs hw_r_40 hP hD hS => ?_)
            obtain ⟨mq2_41, rfl⟩ : ∃ z, z = u_r_40 := ⟨_, rfl⟩
            try dsimp only at hw_r_40
            have hP : va_P D vwCl [(ybi, .inl (cI, 4, .inl bi)), (ysi, .inl (cI, 4, .inl sq)), (ynu, .inl (cJ, 160, .inr (.inl nb))), (ymo, .inl (cJ, 40, .inr (.inl mv9))), (h0, .inr (9, [.ref ys, .ref yk, .ref yo, .ref yt, .int mk0, .ref yfa, .ref yfe, .int mL, .int mS, .int mM, .ref yro, .ref yhe, .ref ygr, .int mF, .int mC, .int mY, .ref yta, .int (nI (mz)), .int (nI (mf)), .int (nI (mt)), .int mv, .int mw, .ref ywa, .ref ybi, .ref ysi, .ref ynu, .ref ymo])), (yt, .inl (cI, 7, .inl mq2_41))] H := hP
            have hD : va_D A [(ybi, .inl (cI, 4, .inl bi)), (ysi, .inl (cI, 4, .inl sq)), (ynu, .inl (cJ, 160, .inr (.inl nb))), (ymo, .inl (cJ, 40, .inr (.inl mv9))), (h0, .inr (9, [.ref ys, .ref yk, .ref yo, .ref yt, .int mk0, .ref yfa, .ref yfe, .int mL, .int mS, .int mM, .ref yro, .ref yhe, .ref ygr, .int mF, .int mC, .int mY, .ref yta, .int (nI (mz)), .int (nI (mf)), .int (nI (mt)), .int mv, .int mw, .ref ywa, .ref ybi, .ref ysi, .ref ynu, .ref ymo])), (yt, .inl (cI, 7, .inl mq2_41))] := hD
            subst hw_r_40
            exact W.iret (v := (-1000000003)) hx hb hr (fun t ht hW => ⟨⟨(-1000000003), (nb, mv9, mq2_41), rfl, ⟨(sp_cr2 c_11 c_14 c_15), (fun j => sp_c0 (fun h => absurd h.2.2.1 c_15)), (fun _ _ => rfl)⟩, by rw [ht]; exact hP.sub [4, 0, 1, 2, 3, 5] rfl, hD.sub [4, 0, 1, 2, 3, 5] (by decide +kernel) rfl⟩, hS.F ht⟩) hS.2.2 dX9_copy_68 hlk
        · skip
          refine lv_aload_n hx hb dX9_copy_39 rfl (lv_at hl 0 rfl) ?_
          refine lv_ldcw (v := (-1000000006)) hx hb hown (hu _ uw910) dX9_copy_40 ?_
          refine xc_Vi (wr := [(ybi, .inl (cI, 4, .inl bi)), (ysi, .inl (cI, 4, .inl sq)), (ynu, .inl (cJ, 160, .inr (.inl nb))), (ymo, .inl (cJ, 40, .inr (.inl mv9)))]) hF (c_X9_finds_M l D cI cJ cZ cS ta sa sv s.heap.size h0 ys yk yo yt mk0 yfa yfe mL mS mM yro yhe ygr mF mC mY yta mz mf mt mv mw ywa ybi ysi ynu ymo mq ) kv_X9_70 ⟨rfl, rfl, Nat.le_of_ble_eq_true rfl, Nat.le_of_ble_eq_true rfl⟩ ⟨Nat.le_of_ble_eq_true rfl, Nat.le_of_ble_eq_true rfl⟩ hK hN hZ hP hD hS hA [0, 5] [1, 2, 3, 4] rfl rfl rfl rfl (by decide) 0 rfl rfl rfl rfl hl.1 rfl (Nat.le_of_ble_eq_true rfl) dX9_copy_43 (fun r_42 u_r_42 H locs hw_r_42 hP hD hS => ?_)
          obtain ⟨mq2_43, rfl⟩ : ∃ z, z = u_r_42 := ⟨_, rfl⟩
          try dsimp only at hw_r_42
          have hP : va_P D vwCl [(ybi, .inl (cI, 4, .inl bi)), (ysi, .inl (cI, 4, .inl sq)), (ynu, .inl (cJ, 160, .inr (.inl nb))), (ymo, .inl (cJ, 40, .inr (.inl mv9))), (h0, .inr (9, [.ref ys, .ref yk, .ref yo, .ref yt, .int mk0, .ref yfa, .ref yfe, .int mL, .int mS, .int mM, .ref yro, .ref yhe, .ref ygr, .int mF, .int mC, .int mY, .ref yta, .int (nI (mz)), .int (nI (mf)), .int (nI (mt)), .int mv, .int mw, .ref ywa, .ref ybi, .ref ysi, .ref ynu, .ref ymo])), (yt, .inl (cI, 7, .inl mq2_43))] H := hP
          have hD : va_D A [(ybi, .inl (cI, 4, .inl bi)), (ysi, .inl (cI, 4, .inl sq)), (ynu, .inl (cJ, 160, .inr (.inl nb))), (ymo, .inl (cJ, 40, .inr (.inl mv9))), (h0, .inr (9, [.ref ys, .ref yk, .ref yo, .ref yt, .int mk0, .ref yfa, .ref yfe, .int mL, .int mS, .int mM, .ref yro, .ref yhe, .ref ygr, .int mF, .int mC, .int mY, .ref yta, .int (nI (mz)), .int (nI (mf)), .int (nI (mt)), .int mv, .int mw, .ref ywa, .ref ybi, .ref ysi, .ref ynu, .ref ymo])), (yt, .inl (cI, 7, .inl mq2_43))] := hD
          subst hw_r_42
          exact W.iret (v := (-1000000006)) hx hb hr (fun t ht hW => ⟨⟨(-1000000006), (nb, mv9, mq2_43), rfl, ⟨(sp_cr1 (Or.inr c_14)), (fun j => sp_c0 (fun h => h.2.1 c_14)), (fun _ _ => rfl)⟩, by rw [ht]; exact hP.sub [4, 0, 1, 2, 3, 5] rfl, hD.sub [4, 0, 1, 2, 3, 5] (by decide +kernel) rfl⟩, hS.F ht⟩) hS.2.2 dX9_copy_46 hlk
    · exact absurd h_9 (by decide)
  · exact absurd h_4 (by decide)
set_option maxHeartbeats 4000000 in
set_option maxRecDepth 100000 in
theorem c_X9_copy_32 (l : Launch) (D : va_G) (cI cJ cZ cS : ClassId) (ta : Nat) (sa sv : Nat → Nat) (sz : Nat) (h0 : Nat) (ys : Nat) (yk : Nat) (yo : Nat) (yt : Nat) (mk0 : Int32) (yfa : Nat) (yfe : Nat) (mL : Int32) (mS : Int32) (mM : Int32) (yro : Nat) (yhe : Nat) (ygr : Nat) (mF : Int32) (mC : Int32) (mY : Int32) (yta : Nat) (mz : Nat) (mf : Nat) (mt : Nat) (mv : Int32) (mw : Int32) (ywa : Nat) (ybi : Nat) (ysi : Nat) (ynu : Nat) (ymo : Nat) (bi : Nat → Int32) (sq : Nat → Int32) (nb : Nat → Int64) (mv9 : Nat → Int64) (mq : Nat → Int32) (p1 : Int32) (p3 : Int32) (p4 : Int32) (zq : Nat) (zt : Nat) (ez : sq 3 = nI zq) (hzq : zq ≤ 40) (et : sq 2 = nI zt) (hzt : zt ≤ 40) (hsq : BA 4 41 sq) : Met l yX9_copy (Cond.code yX9_copy cX9_copy 7 (some .int) :: wsU) ({ frames := 2, cells := 0, slots := 0, locals := 45 }) (va_Pc [.ref h0, .int 3, .int p1, .int 2, .int p3, .int p4] (XW D (xT cI cJ cZ cS) ta sa sv [(h0, .inr (9, [.ref ys, .ref yk, .ref yo, .ref yt, .int mk0, .ref yfa, .ref yfe, .int mL, .int mS, .int mM, .ref yro, .ref yhe, .ref ygr, .int mF, .int mC, .int mY, .ref yta, .int (nI (mz)), .int (nI (mf)), .int (nI (mt)), .int mv, .int mw, .ref ywa, .ref ybi, .ref ysi, .ref ynu, .ref ymo])), (ybi, .inl (cI, 4, .inl bi)), (ysi, .inl (cI, 4, .inl sq)), (ynu, .inl (cJ, 160, .inr (.inl nb))), (ymo, .inl (cJ, 40, .inr (.inl mv9))), (yt, .inl (cI, 7, .inl mq))] sz)) (XQi (fun (r : Int32) (u : (Nat → Int64) × (Nat → Int64) × (Nat → Int32)) => match u with | (nb2, mv2, mq2) => ((r = sp_cr (bi 3) (bi 2) zq zt p1 p3 p4)) ∧ (∀ j, nb2 (80 + j) = sp_cn (bi 3) (bi 2) zq zt p1 p3 p4 (fun k => nb (120 + k)) j (nb (80 + j))) ∧ (∀ j, j < 80 ∨ 120 ≤ j → nb2 j = nb j)) D (fun (u : (Nat → Int64) × (Nat → Int64) × (Nat → Int32)) => match u with | (nb2, mv2, mq2) => [(h0, .inr (9, [.ref ys, .ref yk, .ref yo, .ref yt, .int mk0, .ref yfa, .ref yfe, .int mL, .int mS, .int mM, .ref yro, .ref yhe, .ref ygr, .int mF, .int mC, .int mY, .ref yta, .int (nI (mz)), .int (nI (mf)), .int (nI (mt)), .int mv, .int mw, .ref ywa, .ref ybi, .ref ysi, .ref ynu, .ref ymo])), (ybi, .inl (cI, 4, .inl bi)), (ysi, .inl (cI, 4, .inl sq)), (ynu, .inl (cJ, 160, .inr (.inl nb2))), (ymo, .inl (cJ, 40, .inr (.inl mv2))), (yt, .inl (cI, 7, .inl mq2))]) (va_A [(h0, .inr (9, [.ref ys, .ref yk, .ref yo, .ref yt, .int mk0, .ref yfa, .ref yfe, .int mL, .int mS, .int mM, .ref yro, .ref yhe, .ref ygr, .int mF, .int mC, .int mY, .ref yta, .int (nI (mz)), .int (nI (mf)), .int (nI (mt)), .int mv, .int mw, .ref ywa, .ref ybi, .ref ysi, .ref ynu, .ref ymo])), (ybi, .inl (cI, 4, .inl bi)), (ysi, .inl (cI, 4, .inl sq)), (ynu, .inl (cJ, 160, .inr (.inl nb))), (ymo, .inl (cJ, 40, .inr (.inl mv9))), (yt, .inl (cI, 7, .inl mq))] sz)) 0 0 (va_A [(h0, .inr (9, [.ref ys, .ref yk, .ref yo, .ref yt, .int mk0, .ref yfa, .ref yfe, .int mL, .int mS, .int mM, .ref yro, .ref yhe, .ref ygr, .int mF, .int mC, .int mY, .ref yta, .int (nI (mz)), .int (nI (mf)), .int (nI (mt)), .int mv, .int mw, .ref ywa, .ref ybi, .ref ysi, .ref ynu, .ref ymo])), (ybi, .inl (cI, 4, .inl bi)), (ysi, .inl (cI, 4, .inl sq)), (ynu, .inl (cJ, 160, .inr (.inl nb))), (ymo, .inl (cJ, 40, .inr (.inl mv9))), (yt, .inl (cI, 7, .inl mq))] sz) := by
  refine xh (QA := fun A => XQi (fun (r : Int32) (u : (Nat → Int64) × (Nat → Int64) × (Nat → Int32)) => match u with | (nb2, mv2, mq2) => ((r = sp_cr (bi 3) (bi 2) zq zt p1 p3 p4)) ∧ (∀ j, nb2 (80 + j) = sp_cn (bi 3) (bi 2) zq zt p1 p3 p4 (fun k => nb (120 + k)) j (nb (80 + j))) ∧ (∀ j, j < 80 ∨ 120 ≤ j → nb2 j = nb j)) D (fun (u : (Nat → Int64) × (Nat → Int64) × (Nat → Int32)) => match u with | (nb2, mv2, mq2) => [(h0, .inr (9, [.ref ys, .ref yk, .ref yo, .ref yt, .int mk0, .ref yfa, .ref yfe, .int mL, .int mS, .int mM, .ref yro, .ref yhe, .ref ygr, .int mF, .int mC, .int mY, .ref yta, .int (nI (mz)), .int (nI (mf)), .int (nI (mt)), .int mv, .int mw, .ref ywa, .ref ybi, .ref ysi, .ref ynu, .ref ymo])), (ybi, .inl (cI, 4, .inl bi)), (ysi, .inl (cI, 4, .inl sq)), (ynu, .inl (cJ, 160, .inr (.inl nb2))), (ymo, .inl (cJ, 40, .inr (.inl mv2))), (yt, .inl (cI, 7, .inl mq2))]) A) (fr := fun A => A) (by decide) (Nat.le_of_ble_eq_true rfl) ?_
  intro p e s m below meth c ls A hF hr hlk hin hsz hP hK hD hN hZ hA hS hl
  have hF : CallFix p m c cX9_copy 7 s _ _ RX9 := hF
  have hx := hF.1
  have hb := hF.2.1
  have hml := hF.2.2.1
  have hown := hF.2.2.2.1
  have hu : ∀ w ∈ wsU, w.before _ s = true := fun w h => hF.2.2.2.2 w (List.mem_cons_of_mem _ h)
  have hl : lv_has ls 7 [(0, .ref h0), (1, .int 3), (2, .int p1), (3, .int 2), (4, .int p3), (5, .int p4)] := hl
  refine lv_iload_n hx hb dX9_copy_0 rfl (lv_at hl 1 rfl) ?_
  refine xc_Sr hF (c_X9_isOne l D cI cJ cZ cS ta sa sv s.heap.size 3 ) ks_X9_305 ⟨rfl, rfl, Nat.le_of_ble_eq_true rfl, Nat.le_of_ble_eq_true rfl⟩ ⟨Nat.le_of_ble_eq_true rfl, Nat.le_of_ble_eq_true rfl⟩ hK hN hZ hP hD hS hA [] rfl rfl rfl hl.1 rfl (Nat.le_of_ble_eq_true rfl) dX9_copy_1 (fun r_1 hw_r_1 => ?_)
  rcases hw_r_1 with ⟨rfl, h_2, h_3⟩ | ⟨rfl, h_4⟩
  · skip
    refine lv_if_eq (tgt := 14) hx hb dX9_copy_4 (by decide) (fun c_5 => absurd c_5 (by decide)) (fun c_5 => ?_)
    refine lv_iload_n hx hb dX9_copy_7 rfl (lv_at hl 3 rfl) ?_
    refine xc_Sr hF (c_X9_isOne l D cI cJ cZ cS ta sa sv s.heap.size 2 ) ks_X9_305 ⟨rfl, rfl, Nat.le_of_ble_eq_true rfl, Nat.le_of_ble_eq_true rfl⟩ ⟨Nat.le_of_ble_eq_true rfl, Nat.le_of_ble_eq_true rfl⟩ hK hN hZ hP hD hS hA [] rfl rfl rfl hl.1 rfl (Nat.le_of_ble_eq_true rfl) dX9_copy_8 (fun r_6 hw_r_6 => ?_)
    rcases hw_r_6 with ⟨rfl, h_7, h_8⟩ | ⟨rfl, h_9⟩
    · skip
      refine lv_if_ne (tgt := 21) hx hb dX9_copy_11 (by decide) (fun c_10 => ?_) (fun c_10 => absurd c_10 (by decide))
      refine lv_aload_n hx hb dX9_copy_21 rfl (lv_at hl 0 rfl) ?_
      refine xg hF kf_X9_43 hK hP 0 rfl rfl dX9_copy_22 ?_
      refine lv_iload_n hx hb dX9_copy_25 rfl (lv_at hl 1 rfl) ?_
      refine va_iald hx hb hK hP 1 0 rfl rfl (xin 3 4 (by decide) (by decide)) dX9_copy_26 ?_
      refine xl_i (y := bi 3) (congrArg bi rfl) ?_
      refine lv_if_eq (tgt := 39) hx hb dX9_copy_27 (by decide) (fun c_11 => ?_) (fun c_11 => ?_)
      · skip
        refine lv_aload_n hx hb dX9_copy_39 rfl (lv_at hl 0 rfl) ?_
        refine lv_ldcw (v := (-1000000006)) hx hb hown (hu _ uw910) dX9_copy_40 ?_
        refine xc_Vi (wr := [(ybi, .inl (cI, 4, .inl bi)), (ysi, .inl (cI, 4, .inl sq)), (ynu, .inl (cJ, 160, .inr (.inl nb))), (ymo, .inl (cJ, 40, .inr (.inl mv9)))]) hF (c_X9_finds_M l D cI cJ cZ cS ta sa sv s.heap.size h0 ys yk yo yt mk0 yfa yfe mL mS mM yro yhe ygr mF mC mY yta mz mf mt mv mw ywa ybi ysi ynu ymo mq ) kv_X9_70 ⟨rfl, rfl, Nat.le_of_ble_eq_true rfl, Nat.le_of_ble_eq_true rfl⟩ ⟨Nat.le_of_ble_eq_true rfl, Nat.le_of_ble_eq_true rfl⟩ hK hN hZ hP hD hS hA [0, 5] [1, 2, 3, 4] rfl rfl rfl rfl (by decide) 0 rfl rfl rfl rfl hl.1 rfl (Nat.le_of_ble_eq_true rfl) dX9_copy_43 (fun r_12 u_r_12 H locs hw_r_12 hP hD hS => ?_)
        obtain ⟨mq2_13, rfl⟩ : ∃ z, z = u_r_12 := ⟨_, rfl⟩
        try dsimp only at hw_r_12
        have hP : va_P D vwCl [(ybi, .inl (cI, 4, .inl bi)), (ysi, .inl (cI, 4, .inl sq)), (ynu, .inl (cJ, 160, .inr (.inl nb))), (ymo, .inl (cJ, 40, .inr (.inl mv9))), (h0, .inr (9, [.ref ys, .ref yk, .ref yo, .ref yt, .int mk0, .ref yfa, .ref yfe, .int mL, .int mS, .int mM, .ref yro, .ref yhe, .ref ygr, .int mF, .int mC, .int mY, .ref yta, .int (nI (mz)), .int (nI (mf)), .int (nI (mt)), .int mv, .int mw, .ref ywa, .ref ybi, .ref ysi, .ref ynu, .ref ymo])), (yt, .inl (cI, 7, .inl mq2_13))] H := hP
        have hD : va_D A [(ybi, .inl (cI, 4, .inl bi)), (ysi, .inl (cI, 4, .inl sq)), (ynu, .inl (cJ, 160, .inr (.inl nb))), (ymo, .inl (cJ, 40, .inr (.inl mv9))), (h0, .inr (9, [.ref ys, .ref yk, .ref yo, .ref yt, .int mk0, .ref yfa, .ref yfe, .int mL, .int mS, .int mM, .ref yro, .ref yhe, .ref ygr, .int mF, .int mC, .int mY, .ref yta, .int (nI (mz)), .int (nI (mf)), .int (nI (mt)), .int mv, .int mw, .ref ywa, .ref ybi, .ref ysi, .ref ynu, .ref ymo])), (yt, .inl (cI, 7, .inl mq2_13))] := hD
        subst hw_r_12
        exact W.iret (v := (-1000000006)) hx hb hr (fun t ht hW => ⟨⟨(-1000000006), (nb, mv9, mq2_13), rfl, ⟨(sp_cr1 (Or.inl c_11)), (fun j => sp_c0 (fun h => h.1 c_11)), (fun _ _ => rfl)⟩, by rw [ht]; exact hP.sub [4, 0, 1, 2, 3, 5] rfl, hD.sub [4, 0, 1, 2, 3, 5] (by decide +kernel) rfl⟩, hS.F ht⟩) hS.2.2 dX9_copy_46 hlk
      · skip
        refine lv_aload_n hx hb dX9_copy_30 rfl (lv_at hl 0 rfl) ?_
        refine xg hF kf_X9_43 hK hP 0 rfl rfl dX9_copy_31 ?_
        refine lv_iload_n hx hb dX9_copy_34 rfl (lv_at hl 3 rfl) ?_
        refine va_iald hx hb hK hP 1 0 rfl rfl (xin 2 4 (by decide) (by decide)) dX9_copy_35 ?_
        refine xl_i (y := bi 2) (congrArg bi rfl) ?_
        refine lv_if_ne (tgt := 47) hx hb dX9_copy_36 (by decide) (fun c_14 => ?_) (fun c_14 => ?_)
        · skip
          refine lv_aload_n hx hb dX9_copy_47 rfl (lv_at hl 0 rfl) ?_
          refine xg hF kf_X9_43 hK hP 0 rfl rfl dX9_copy_48 ?_
          refine lv_iload_n hx hb dX9_copy_51 rfl (lv_at hl 1 rfl) ?_
          refine va_iald hx hb hK hP 1 0 rfl rfl (xin 3 4 (by decide) (by decide)) dX9_copy_52 ?_
          refine xl_i (y := bi 3) (congrArg bi rfl) ?_
          refine lv_aload_n hx hb dX9_copy_53 rfl (lv_at hl 0 rfl) ?_
          refine xg hF kf_X9_43 hK hP 0 rfl rfl dX9_copy_54 ?_
          refine lv_iload_n hx hb dX9_copy_57 rfl (lv_at hl 3 rfl) ?_
          refine va_iald hx hb hK hP 1 0 rfl rfl (xin 2 4 (by decide) (by decide)) dX9_copy_58 ?_
          refine xl_i (y := bi 2) (congrArg bi rfl) ?_
          refine lv_icmp_eq (tgt := 69) hx hb dX9_copy_59 (by decide) (fun c_15 => ?_) (fun c_15 => ?_)
          · skip
            refine lv_iload_n hx hb dX9_copy_69 rfl (lv_at hl 2 rfl) ?_
            refine lv_if_lt (tgt := 110) hx hb dX9_copy_70 (by decide) (fun c_16 => ?_) (fun c_16 => ?_)
            · skip
              refine lv_aload_n hx hb dX9_copy_110 rfl (lv_at hl 0 rfl) ?_
              refine lv_ldc (v := (-1000000001)) hx hb hown (hu _ uw648) dX9_copy_111 ?_
              refine xc_Vi (wr := [(ybi, .inl (cI, 4, .inl bi)), (ysi, .inl (cI, 4, .inl sq)), (ynu, .inl (cJ, 160, .inr (.inl nb))), (ymo, .inl (cJ, 40, .inr (.inl mv9)))]) hF (c_X9_finds_B l D cI cJ cZ cS ta sa sv s.heap.size h0 ys yk yo yt mk0 yfa yfe mL mS mM yro yhe ygr mF mC mY yta mz mf mt mv mw ywa ybi ysi ynu ymo mq ) kv_X9_70 ⟨rfl, rfl, Nat.le_of_ble_eq_true rfl, Nat.le_of_ble_eq_true rfl⟩ ⟨Nat.le_of_ble_eq_true rfl, Nat.le_of_ble_eq_true rfl⟩ hK hN hZ hP hD hS hA [0, 5] [1, 2, 3, 4] rfl rfl rfl rfl (by decide) 0 rfl rfl rfl rfl hl.1 rfl (Nat.le_of_ble_eq_true rfl) dX9_copy_113 (fun r_17 u_r_17 H locs hw_r_17 hP hD hS => ?_)
              obtain ⟨mq2_18, rfl⟩ : ∃ z, z = u_r_17 := ⟨_, rfl⟩
              try dsimp only at hw_r_17
              have hP : va_P D vwCl [(ybi, .inl (cI, 4, .inl bi)), (ysi, .inl (cI, 4, .inl sq)), (ynu, .inl (cJ, 160, .inr (.inl nb))), (ymo, .inl (cJ, 40, .inr (.inl mv9))), (h0, .inr (9, [.ref ys, .ref yk, .ref yo, .ref yt, .int mk0, .ref yfa, .ref yfe, .int mL, .int mS, .int mM, .ref yro, .ref yhe, .ref ygr, .int mF, .int mC, .int mY, .ref yta, .int (nI (mz)), .int (nI (mf)), .int (nI (mt)), .int mv, .int mw, .ref ywa, .ref ybi, .ref ysi, .ref ynu, .ref ymo])), (yt, .inl (cI, 7, .inl mq2_18))] H := hP
              have hD : va_D A [(ybi, .inl (cI, 4, .inl bi)), (ysi, .inl (cI, 4, .inl sq)), (ynu, .inl (cJ, 160, .inr (.inl nb))), (ymo, .inl (cJ, 40, .inr (.inl mv9))), (h0, .inr (9, [.ref ys, .ref yk, .ref yo, .ref yt, .int mk0, .ref yfa, .ref yfe, .int mL, .int mS, .int mM, .ref yro, .ref yhe, .ref ygr, .int mF, .int mC, .int mY, .ref yta, .int (nI (mz)), .int (nI (mf)), .int (nI (mt)), .int mv, .int mw, .ref ywa, .ref ybi, .ref ysi, .ref ynu, .ref ymo])), (yt, .inl (cI, 7, .inl mq2_18))] := hD
              subst hw_r_17
              exact W.iret (v := (-1000000001)) hx hb hr (fun t ht hW => ⟨⟨(-1000000001), (nb, mv9, mq2_18), rfl, ⟨(sp_cr3 c_11 c_14 c_15 (fun q => (sp_s1 c_16) q.1)), (fun j => sp_c0 (fun h => (sp_s1 c_16) h.2.2.2.1)), (fun _ _ => rfl)⟩, by rw [ht]; exact hP.sub [4, 0, 1, 2, 3, 5] rfl, hD.sub [4, 0, 1, 2, 3, 5] (by decide +kernel) rfl⟩, hS.F ht⟩) hS.2.2 dX9_copy_116 hlk
            · skip
              refine lv_iload hx hb dX9_copy_73 (lv_at hl 4 rfl) ?_
              refine lv_if_lt (tgt := 110) hx hb dX9_copy_75 (by decide) (fun c_19 => ?_) (fun c_19 => ?_)
              · skip
                refine lv_aload_n hx hb dX9_copy_110 rfl (lv_at hl 0 rfl) ?_
                refine lv_ldc (v := (-1000000001)) hx hb hown (hu _ uw648) dX9_copy_111 ?_
                refine xc_Vi (wr := [(ybi, .inl (cI, 4, .inl bi)), (ysi, .inl (cI, 4, .inl sq)), (ynu, .inl (cJ, 160, .inr (.inl nb))), (ymo, .inl (cJ, 40, .inr (.inl mv9)))]) hF (c_X9_finds_B l D cI cJ cZ cS ta sa sv s.heap.size h0 ys yk yo yt mk0 yfa yfe mL mS mM yro yhe ygr mF mC mY yta mz mf mt mv mw ywa ybi ysi ynu ymo mq ) kv_X9_70 ⟨rfl, rfl, Nat.le_of_ble_eq_true rfl, Nat.le_of_ble_eq_true rfl⟩ ⟨Nat.le_of_ble_eq_true rfl, Nat.le_of_ble_eq_true rfl⟩ hK hN hZ hP hD hS hA [0, 5] [1, 2, 3, 4] rfl rfl rfl rfl (by decide) 0 rfl rfl rfl rfl hl.1 rfl (Nat.le_of_ble_eq_true rfl) dX9_copy_113 (fun r_20 u_r_20 H locs hw_r_20 hP hD hS => ?_)
                obtain ⟨mq2_21, rfl⟩ : ∃ z, z = u_r_20 := ⟨_, rfl⟩
                try dsimp only at hw_r_20
                have hP : va_P D vwCl [(ybi, .inl (cI, 4, .inl bi)), (ysi, .inl (cI, 4, .inl sq)), (ynu, .inl (cJ, 160, .inr (.inl nb))), (ymo, .inl (cJ, 40, .inr (.inl mv9))), (h0, .inr (9, [.ref ys, .ref yk, .ref yo, .ref yt, .int mk0, .ref yfa, .ref yfe, .int mL, .int mS, .int mM, .ref yro, .ref yhe, .ref ygr, .int mF, .int mC, .int mY, .ref yta, .int (nI (mz)), .int (nI (mf)), .int (nI (mt)), .int mv, .int mw, .ref ywa, .ref ybi, .ref ysi, .ref ynu, .ref ymo])), (yt, .inl (cI, 7, .inl mq2_21))] H := hP
                have hD : va_D A [(ybi, .inl (cI, 4, .inl bi)), (ysi, .inl (cI, 4, .inl sq)), (ynu, .inl (cJ, 160, .inr (.inl nb))), (ymo, .inl (cJ, 40, .inr (.inl mv9))), (h0, .inr (9, [.ref ys, .ref yk, .ref yo, .ref yt, .int mk0, .ref yfa, .ref yfe, .int mL, .int mS, .int mM, .ref yro, .ref yhe, .ref ygr, .int mF, .int mC, .int mY, .ref yta, .int (nI (mz)), .int (nI (mf)), .int (nI (mt)), .int mv, .int mw, .ref ywa, .ref ybi, .ref ysi, .ref ynu, .ref ymo])), (yt, .inl (cI, 7, .inl mq2_21))] := hD
                subst hw_r_20
                exact W.iret (v := (-1000000001)) hx hb hr (fun t ht hW => ⟨⟨(-1000000001), (nb, mv9, mq2_21), rfl, ⟨(sp_cr3 c_11 c_14 c_15 (fun q => (sp_s1 c_19) q.2)), (fun j => sp_c0 (fun h => (sp_s1 c_19) h.2.2.2.2)), (fun _ _ => rfl)⟩, by rw [ht]; exact hP.sub [4, 0, 1, 2, 3, 5] rfl, hD.sub [4, 0, 1, 2, 3, 5] (by decide +kernel) rfl⟩, hS.F ht⟩) hS.2.2 dX9_copy_116 hlk
              · skip
                refine lv_iload hx hb dX9_copy_78 (lv_at hl 5 rfl) ?_
                refine lv_if_lt (tgt := 110) hx hb dX9_copy_80 (by decide) (fun c_22 => ?_) (fun c_22 => ?_)
                · skip
                  refine lv_aload_n hx hb dX9_copy_110 rfl (lv_at hl 0 rfl) ?_
                  refine lv_ldc (v := (-1000000001)) hx hb hown (hu _ uw648) dX9_copy_111 ?_
                  refine xc_Vi (wr := [(ybi, .inl (cI, 4, .inl bi)), (ysi, .inl (cI, 4, .inl sq)), (ynu, .inl (cJ, 160, .inr (.inl nb))), (ymo, .inl (cJ, 40, .inr (.inl mv9)))]) hF (c_X9_finds_B l D cI cJ cZ cS ta sa sv s.heap.size h0 ys yk yo yt mk0 yfa yfe mL mS mM yro yhe ygr mF mC mY yta mz mf mt mv mw ywa ybi ysi ynu ymo mq ) kv_X9_70 ⟨rfl, rfl, Nat.le_of_ble_eq_true rfl, Nat.le_of_ble_eq_true rfl⟩ ⟨Nat.le_of_ble_eq_true rfl, Nat.le_of_ble_eq_true rfl⟩ hK hN hZ hP hD hS hA [0, 5] [1, 2, 3, 4] rfl rfl rfl rfl (by decide) 0 rfl rfl rfl rfl hl.1 rfl (Nat.le_of_ble_eq_true rfl) dX9_copy_113 (fun r_23 u_r_23 H locs hw_r_23 hP hD hS => ?_)
                  obtain ⟨mq2_24, rfl⟩ : ∃ z, z = u_r_23 := ⟨_, rfl⟩
                  try dsimp only at hw_r_23
                  have hP : va_P D vwCl [(ybi, .inl (cI, 4, .inl bi)), (ysi, .inl (cI, 4, .inl sq)), (ynu, .inl (cJ, 160, .inr (.inl nb))), (ymo, .inl (cJ, 40, .inr (.inl mv9))), (h0, .inr (9, [.ref ys, .ref yk, .ref yo, .ref yt, .int mk0, .ref yfa, .ref yfe, .int mL, .int mS, .int mM, .ref yro, .ref yhe, .ref ygr, .int mF, .int mC, .int mY, .ref yta, .int (nI (mz)), .int (nI (mf)), .int (nI (mt)), .int mv, .int mw, .ref ywa, .ref ybi, .ref ysi, .ref ynu, .ref ymo])), (yt, .inl (cI, 7, .inl mq2_24))] H := hP
                  have hD : va_D A [(ybi, .inl (cI, 4, .inl bi)), (ysi, .inl (cI, 4, .inl sq)), (ynu, .inl (cJ, 160, .inr (.inl nb))), (ymo, .inl (cJ, 40, .inr (.inl mv9))), (h0, .inr (9, [.ref ys, .ref yk, .ref yo, .ref yt, .int mk0, .ref yfa, .ref yfe, .int mL, .int mS, .int mM, .ref yro, .ref yhe, .ref ygr, .int mF, .int mC, .int mY, .ref yta, .int (nI (mz)), .int (nI (mf)), .int (nI (mt)), .int mv, .int mw, .ref ywa, .ref ybi, .ref ysi, .ref ynu, .ref ymo])), (yt, .inl (cI, 7, .inl mq2_24))] := hD
                  subst hw_r_23
                  exact W.iret (v := (-1000000001)) hx hb hr (fun t ht hW => ⟨⟨(-1000000001), (nb, mv9, mq2_24), rfl, ⟨(sp_cr3 c_11 c_14 c_15 (fun q => (sp_s2 c_22) q.1)), (fun j => sp_c0 (fun h => (sp_s2 c_22) h.2.2.2.1)), (fun _ _ => rfl)⟩, by rw [ht]; exact hP.sub [4, 0, 1, 2, 3, 5] rfl, hD.sub [4, 0, 1, 2, 3, 5] (by decide +kernel) rfl⟩, hS.F ht⟩) hS.2.2 dX9_copy_116 hlk
                · skip
                  refine lv_iload hx hb dX9_copy_83 (lv_at hl 5 rfl) ?_
                  refine lv_aload_n hx hb dX9_copy_85 rfl (lv_at hl 0 rfl) ?_
                  refine xg hF kf_X9_46 hK hP 0 rfl rfl dX9_copy_86 ?_
                  refine lv_iload_n hx hb dX9_copy_89 rfl (lv_at hl 1 rfl) ?_
                  refine va_iald hx hb hK hP 2 0 rfl rfl (xin 3 4 (by decide) (by decide)) dX9_copy_90 ?_
                  refine xl_i (y := sq 3) (congrArg sq rfl) ?_
                  refine xl_i (y := nI (zq)) ez ?_
                  refine lv_iload_n hx hb dX9_copy_91 rfl (lv_at hl 2 rfl) ?_
                  refine lv_isub hx hb dX9_copy_92 ?_
                  refine lv_topi (fun x_25 ex_25 => ?_)
                  refine lv_icmp_gt (tgt := 110) hx hb dX9_copy_93 (by decide) (fun c_26 => ?_) (fun c_26 => ?_)
                  · skip
                    refine lv_aload_n hx hb dX9_copy_110 rfl (lv_at hl 0 rfl) ?_
                    refine lv_ldc (v := (-1000000001)) hx hb hown (hu _ uw648) dX9_copy_111 ?_
                    refine xc_Vi (wr := [(ybi, .inl (cI, 4, .inl bi)), (ysi, .inl (cI, 4, .inl sq)), (ynu, .inl (cJ, 160, .inr (.inl nb))), (ymo, .inl (cJ, 40, .inr (.inl mv9)))]) hF (c_X9_finds_B l D cI cJ cZ cS ta sa sv s.heap.size h0 ys yk yo yt mk0 yfa yfe mL mS mM yro yhe ygr mF mC mY yta mz mf mt mv mw ywa ybi ysi ynu ymo mq ) kv_X9_70 ⟨rfl, rfl, Nat.le_of_ble_eq_true rfl, Nat.le_of_ble_eq_true rfl⟩ ⟨Nat.le_of_ble_eq_true rfl, Nat.le_of_ble_eq_true rfl⟩ hK hN hZ hP hD hS hA [0, 5] [1, 2, 3, 4] rfl rfl rfl rfl (by decide) 0 rfl rfl rfl rfl hl.1 rfl (Nat.le_of_ble_eq_true rfl) dX9_copy_113 (fun r_27 u_r_27 H locs hw_r_27 hP hD hS => ?_)
                    obtain ⟨mq2_28, rfl⟩ : ∃ z, z = u_r_27 := ⟨_, rfl⟩
                    try dsimp only at hw_r_27
                    have hP : va_P D vwCl [(ybi, .inl (cI, 4, .inl bi)), (ysi, .inl (cI, 4, .inl sq)), (ynu, .inl (cJ, 160, .inr (.inl nb))), (ymo, .inl (cJ, 40, .inr (.inl mv9))), (h0, .inr (9, [.ref ys, .ref yk, .ref yo, .ref yt, .int mk0, .ref yfa, .ref yfe, .int mL, .int mS, .int mM, .ref yro, .ref yhe, .ref ygr, .int mF, .int mC, .int mY, .ref yta, .int (nI (mz)), .int (nI (mf)), .int (nI (mt)), .int mv, .int mw, .ref ywa, .ref ybi, .ref ysi, .ref ynu, .ref ymo])), (yt, .inl (cI, 7, .inl mq2_28))] H := hP
                    have hD : va_D A [(ybi, .inl (cI, 4, .inl bi)), (ysi, .inl (cI, 4, .inl sq)), (ynu, .inl (cJ, 160, .inr (.inl nb))), (ymo, .inl (cJ, 40, .inr (.inl mv9))), (h0, .inr (9, [.ref ys, .ref yk, .ref yo, .ref yt, .int mk0, .ref yfa, .ref yfe, .int mL, .int mS, .int mM, .ref yro, .ref yhe, .ref ygr, .int mF, .int mC, .int mY, .ref yta, .int (nI (mz)), .int (nI (mf)), .int (nI (mt)), .int mv, .int mw, .ref ywa, .ref ybi, .ref ysi, .ref ynu, .ref ymo])), (yt, .inl (cI, 7, .inl mq2_28))] := hD
                    subst hw_r_27
                    exact W.iret (v := (-1000000001)) hx hb hr (fun t ht hW => ⟨⟨(-1000000001), (nb, mv9, mq2_28), rfl, ⟨(sp_cr3 c_11 c_14 c_15 (fun q => (sp_s5 hzq c_16 c_22 ex_25 c_26) q.1)), (fun j => sp_c0 (fun h => (sp_s5 hzq c_16 c_22 ex_25 c_26) h.2.2.2.1)), (fun _ _ => rfl)⟩, by rw [ht]; exact hP.sub [4, 0, 1, 2, 3, 5] rfl, hD.sub [4, 0, 1, 2, 3, 5] (by decide +kernel) rfl⟩, hS.F ht⟩) hS.2.2 dX9_copy_116 hlk
                  · skip
                    refine lv_iload hx hb dX9_copy_96 (lv_at hl 5 rfl) ?_
                    refine lv_aload_n hx hb dX9_copy_98 rfl (lv_at hl 0 rfl) ?_
                    refine xg hF kf_X9_46 hK hP 0 rfl rfl dX9_copy_99 ?_
                    refine lv_iload_n hx hb dX9_copy_102 rfl (lv_at hl 3 rfl) ?_
                    refine va_iald hx hb hK hP 2 0 rfl rfl (xin 2 4 (by decide) (by decide)) dX9_copy_103 ?_
                    refine xl_i (y := sq 2) (congrArg sq rfl) ?_
                    refine xl_i (y := nI (zt)) et ?_
                    refine lv_iload hx hb dX9_copy_104 (lv_at hl 4 rfl) ?_
                    refine lv_isub hx hb dX9_copy_106 ?_
                    refine lv_topi (fun x_29 ex_29 => ?_)
                    refine lv_icmp_le (tgt := 117) hx hb dX9_copy_107 (by decide) (fun c_30 => ?_) (fun c_30 => ?_)
                    · skip
                      obtain ⟨y_31, hy_31, rfl⟩ := x_spk (by omega) c_16 c_22 ex_25 c_26
                      obtain ⟨y_32, hy_32, rfl⟩ := x_spj (by omega) (by omega) c_16 ex_25 c_26
                      obtain ⟨y_33, hy_33, rfl⟩ := x_spj (by omega) (by omega) c_19 ex_29 (Int32.not_lt.mpr c_30)
                      refine lv_iconst (v := 0) hx hb dX9_copy_117 (by decide) ?_
                      refine lv_istore (lv' := [(6, .int 0), (0, .ref h0), (1, .int 3), (2, .int (nI (y_32))), (3, .int 2), (4, .int (nI (y_33))), (5, .int (nI (y_31)))]) hx hb dX9_copy_118 hl (by decide) rfl (fun ls hl => ?_)
                      suffices loop_120 : ∀ (n_120 : Nat) (i : Nat) (m8 : Nat → Int64) (H : Heap) (locs : List Loc) (ls : Array Slot), y_31 - i < n_120 → (i ≤ y_31) → (∀ j, j < i → m8 j = nb (120 + y_32 + j)) → va_P D vwCl [(h0, .inr (9, [.ref ys, .ref yk, .ref yo, .ref yt, .int mk0, .ref yfa, .ref yfe, .int mL, .int mS, .int mM, .ref yro, .ref yhe, .ref ygr, .int mF, .int mC, .int mY, .ref yta, .int (nI (mz)), .int (nI (mf)), .int (nI (mt)), .int mv, .int mw, .ref ywa, .ref ybi, .ref ysi, .ref ynu, .ref ymo])), (ybi, .inl (cI, 4, .inl bi)), (ysi, .inl (cI, 4, .inl sq)), (ynu, .inl (cJ, 160, .inr (.inl nb))), (ymo, .inl (cJ, 40, .inr (.inl m8))), (yt, .inl (cI, 7, .inl mq))] H → va_D A [(h0, .inr (9, [.ref ys, .ref yk, .ref yo, .ref yt, .int mk0, .ref yfa, .ref yfe, .int mL, .int mS, .int mM, .ref yro, .ref yhe, .ref ygr, .int mF, .int mC, .int mY, .ref yta, .int (nI (mz)), .int (nI (mf)), .int (nI (mt)), .int mv, .int mw, .ref ywa, .ref ybi, .ref ysi, .ref ynu, .ref ymo])), (ybi, .inl (cI, 4, .inl bi)), (ysi, .inl (cI, 4, .inl sq)), (ynu, .inl (cJ, 160, .inr (.inl nb))), (ymo, .inl (cJ, 40, .inr (.inl m8))), (yt, .inl (cI, 7, .inl mq))] → va_S A s.heap H locs → lv_has ls 7 [(6, .int (nI (i))), (0, .ref h0), (1, .int 3), (2, .int (nI (y_32))), (3, .int 2), (4, .int (nI (y_33))), (5, .int (nI (y_31)))] → W p l e ({ frames := 2, cells := 0, slots := 0, locals := 45 }) s m ([.ref h0, .int 3, .int (nI (y_32)), .int 2, .int (nI (y_33)), .int (nI (y_31))] : List Value).toArray below meth c H locs 0 0 (MQ below (XQi (fun (r : Int32) (u : (Nat → Int64) × (Nat → Int64) × (Nat → Int32)) => match u with | (nb2, mv2, mq2) => ((r = sp_cr (bi 3) (bi 2) zq zt (nI (y_32)) (nI (y_33)) (nI (y_31)))) ∧ (∀ j, nb2 (80 + j) = sp_cn (bi 3) (bi 2) zq zt (nI (y_32)) (nI (y_33)) (nI (y_31)) (fun k => nb (120 + k)) j (nb (80 + j))) ∧ (∀ j, j < 80 ∨ 120 ≤ j → nb2 j = nb j)) D (fun (u : (Nat → Int64) × (Nat → Int64) × (Nat → Int32)) => match u with | (nb2, mv2, mq2) => [(h0, .inr (9, [.ref ys, .ref yk, .ref yo, .ref yt, .int mk0, .ref yfa, .ref yfe, .int mL, .int mS, .int mM, .ref yro, .ref yhe, .ref ygr, .int mF, .int mC, .int mY, .ref yta, .int (nI (mz)), .int (nI (mf)), .int (nI (mt)), .int mv, .int mw, .ref ywa, .ref ybi, .ref ysi, .ref ynu, .ref ymo])), (ybi, .inl (cI, 4, .inl bi)), (ysi, .inl (cI, 4, .inl sq)), (ynu, .inl (cJ, 160, .inr (.inl nb2))), (ymo, .inl (cJ, 40, .inr (.inl mv2))), (yt, .inl (cI, 7, .inl mq2))]) A) ([.ref h0, .int 3, .int (nI (y_32)), .int 2, .int (nI (y_33)), .int (nI (y_31))] : List Value).toArray s 0 0 A) (F0 m 120 ls []) by
                        exact loop_120 _ 0 mv9 _ _ _ (Nat.lt_succ_self _) (by omega) (fun j hj => absurd hj (Nat.not_lt_zero _)) hP hD hS (lv_sub hl [0, 1, 2, 3, 4, 5, 6] rfl)
                      intro n_120
                      induction n_120 with
                      | zero =>
                        intro i m8 H locs ls hm_120
                        exact absurd hm_120 (Nat.not_lt_zero _)
                      | succ n_120 ih_120 =>
                        intro i m8 H locs ls hm_120 hi hm8 hP hD hS hl
                        refine lv_iload hx hb dX9_copy_120 (lv_at hl 0 rfl) ?_
                        refine lv_iload hx hb dX9_copy_122 (lv_at hl 6 rfl) ?_
                        refine lv_icmp_ge (tgt := 154) hx hb dX9_copy_124 (by decide) (fun c_34 => ?_) (fun c_34 => ?_)
                        · skip
                          have nc_34 : y_31 ≤ i := xn_le (a := y_31) (b := i) (by omega) (by omega) c_34
                          refine lv_iconst (v := 0) hx hb dX9_copy_154 (by decide) ?_
                          refine lv_istore (lv' := [(6, .int 0), (0, .ref h0), (1, .int 3), (2, .int (nI (y_32))), (3, .int 2), (4, .int (nI (y_33))), (5, .int (nI (y_31)))]) hx hb dX9_copy_155 hl (by decide) rfl (fun ls hl => ?_)
                          suffices loop_157 : ∀ (n_157 : Nat) (i2 : Nat) (n8 : Nat → Int64) (H : Heap) (locs : List Loc) (ls : Array Slot), y_31 - i2 < n_157 → (i2 ≤ y_31) → (∀ j, n8 j = if 80 + y_33 ≤ j ∧ j < 80 + y_33 + i2 then m8 (j - (80 + y_33)) else nb j) → va_P D vwCl [(h0, .inr (9, [.ref ys, .ref yk, .ref yo, .ref yt, .int mk0, .ref yfa, .ref yfe, .int mL, .int mS, .int mM, .ref yro, .ref yhe, .ref ygr, .int mF, .int mC, .int mY, .ref yta, .int (nI (mz)), .int (nI (mf)), .int (nI (mt)), .int mv, .int mw, .ref ywa, .ref ybi, .ref ysi, .ref ynu, .ref ymo])), (ybi, .inl (cI, 4, .inl bi)), (ysi, .inl (cI, 4, .inl sq)), (ynu, .inl (cJ, 160, .inr (.inl n8))), (ymo, .inl (cJ, 40, .inr (.inl m8))), (yt, .inl (cI, 7, .inl mq))] H → va_D A [(h0, .inr (9, [.ref ys, .ref yk, .ref yo, .ref yt, .int mk0, .ref yfa, .ref yfe, .int mL, .int mS, .int mM, .ref yro, .ref yhe, .ref ygr, .int mF, .int mC, .int mY, .ref yta, .int (nI (mz)), .int (nI (mf)), .int (nI (mt)), .int mv, .int mw, .ref ywa, .ref ybi, .ref ysi, .ref ynu, .ref ymo])), (ybi, .inl (cI, 4, .inl bi)), (ysi, .inl (cI, 4, .inl sq)), (ynu, .inl (cJ, 160, .inr (.inl n8))), (ymo, .inl (cJ, 40, .inr (.inl m8))), (yt, .inl (cI, 7, .inl mq))] → va_S A s.heap H locs → lv_has ls 7 [(6, .int (nI (i2))), (0, .ref h0), (1, .int 3), (2, .int (nI (y_32))), (3, .int 2), (4, .int (nI (y_33))), (5, .int (nI (y_31)))] → W p l e ({ frames := 2, cells := 0, slots := 0, locals := 45 }) s m ([.ref h0, .int 3, .int (nI (y_32)), .int 2, .int (nI (y_33)), .int (nI (y_31))] : List Value).toArray below meth c H locs 0 0 (MQ below (XQi (fun (r : Int32) (u : (Nat → Int64) × (Nat → Int64) × (Nat → Int32)) => match u with | (nb2, mv2, mq2) => ((r = sp_cr (bi 3) (bi 2) zq zt (nI (y_32)) (nI (y_33)) (nI (y_31)))) ∧ (∀ j, nb2 (80 + j) = sp_cn (bi 3) (bi 2) zq zt (nI (y_32)) (nI (y_33)) (nI (y_31)) (fun k => nb (120 + k)) j (nb (80 + j))) ∧ (∀ j, j < 80 ∨ 120 ≤ j → nb2 j = nb j)) D (fun (u : (Nat → Int64) × (Nat → Int64) × (Nat → Int32)) => match u with | (nb2, mv2, mq2) => [(h0, .inr (9, [.ref ys, .ref yk, .ref yo, .ref yt, .int mk0, .ref yfa, .ref yfe, .int mL, .int mS, .int mM, .ref yro, .ref yhe, .ref ygr, .int mF, .int mC, .int mY, .ref yta, .int (nI (mz)), .int (nI (mf)), .int (nI (mt)), .int mv, .int mw, .ref ywa, .ref ybi, .ref ysi, .ref ynu, .ref ymo])), (ybi, .inl (cI, 4, .inl bi)), (ysi, .inl (cI, 4, .inl sq)), (ynu, .inl (cJ, 160, .inr (.inl nb2))), (ymo, .inl (cJ, 40, .inr (.inl mv2))), (yt, .inl (cI, 7, .inl mq2))]) A) ([.ref h0, .int 3, .int (nI (y_32)), .int 2, .int (nI (y_33)), .int (nI (y_31))] : List Value).toArray s 0 0 A) (F0 m 157 ls []) by
                            exact loop_157 _ 0 nb _ _ _ (Nat.lt_succ_self _) (by omega) (fun j => (if_neg (by omega)).symm) hP hD hS (lv_sub hl [0, 1, 2, 3, 4, 5, 6] rfl)
                          intro n_157
                          induction n_157 with
                          | zero =>
                            intro i2 n8 H locs ls hm_157
                            exact absurd hm_157 (Nat.not_lt_zero _)
                          | succ n_157 ih_157 =>
                            intro i2 n8 H locs ls hm_157 hi2 hn8 hP hD hS hl
                            refine lv_iload hx hb dX9_copy_157 (lv_at hl 0 rfl) ?_
                            refine lv_iload hx hb dX9_copy_159 (lv_at hl 6 rfl) ?_
                            refine lv_icmp_ge (tgt := 192) hx hb dX9_copy_161 (by decide) (fun c_35 => ?_) (fun c_35 => ?_)
                            · skip
                              have nc_35 : y_31 ≤ i2 := xn_le (a := y_31) (b := i2) (by omega) (by omega) c_35
                              refine lv_iload hx hb dX9_copy_192 (lv_at hl 6 rfl) ?_
                              have hn7 : ∀ j, n8 j = if 80 + y_33 ≤ j ∧ j < 80 + y_33 + y_31 then m8 (j - (80 + y_33)) else nb j := fun j => by rw [hn8 j, show i2 = y_31 by omega]
                              have hm7 : ∀ j, j < y_31 → m8 j = nb (120 + y_32 + j) := fun j hj => hm8 j (by omega)
                              exact W.iret (v := nI (y_31)) hx hb hr (fun t ht hW => ⟨⟨nI (y_31), (n8, m8, mq), rfl, ⟨(sp_cr4 c_11 c_14 c_15 (sp_nspan (by omega) (by omega)) (sp_nspan (by omega) (by omega))), (fun j9 => sp_c1 (K := 80) (M := 120) (by omega) (by omega) c_11 c_14 c_15 (by omega) (by omega) (fun i9 => sp_mv3 hn7 hm7 rfl rfl)), (fun j9 hj9 => by rw [hn7 j9, if_neg (by omega)])⟩, by rw [ht]; exact hP.sub [0, 1, 2, 3, 4, 5] rfl, hD.sub [0, 1, 2, 3, 4, 5] (by decide +kernel) rfl⟩, hS.F ht⟩) hS.2.2 dX9_copy_194 hlk
                            · skip
                              have nc_35 : i2 < y_31 := xn_nle (a := y_31) (b := i2) (by omega) (by omega) c_35
                              refine lv_aload_n hx hb dX9_copy_164 rfl (lv_at hl 1 rfl) ?_
                              refine xg hF kf_X9_49 hK hP 0 rfl rfl dX9_copy_165 ?_
                              refine lv_bipush (v := 40) hx hb dX9_copy_168 (by decide) ?_
                              refine lv_iload_n hx hb dX9_copy_170 rfl (lv_at hl 4 rfl) ?_
                              refine lv_imul hx hb dX9_copy_171 ?_
                              refine xl_i (y := 80) (by decide) ?_
                              refine lv_iload hx hb dX9_copy_172 (lv_at hl 5 rfl) ?_
                              refine lv_iadd hx hb dX9_copy_174 ?_
                              refine xl_i (y := nI (80 + y_33)) (nI_add 80 y_33) ?_
                              refine lv_iload hx hb dX9_copy_175 (lv_at hl 0 rfl) ?_
                              refine lv_iadd hx hb dX9_copy_177 ?_
                              refine xl_i (y := nI (80 + y_33 + i2)) (nI_add (80 + y_33) i2) ?_
                              refine lv_aload_n hx hb dX9_copy_178 rfl (lv_at hl 1 rfl) ?_
                              refine xg hF kf_X9_53 hK hP 0 rfl rfl dX9_copy_179 ?_
                              refine lv_iload hx hb dX9_copy_182 (lv_at hl 0 rfl) ?_
                              refine va_lald hx hb hK hP 4 1 rfl rfl (vp_in_nI (show i2 < 40 by omega) (by decide)) dX9_copy_184 ?_
                              refine xl_l (y := m8 i2) (congrArg m8 (nI_clamp (show i2 < 2 ^ 31 by omega))) ?_
                              refine va_last hx hb hK hP hD hS 3 1 rfl rfl (vp_in_nI (show 80 + y_33 + i2 < 160 by omega) (by decide)) dX9_copy_185 (fun H locs hP hD hS => ?_)
                              rw [nI_clamp (show 80 + y_33 + i2 < 2 ^ 31 by omega)] at hP hD
                              obtain ⟨f_36, ef_36⟩ : ∃ g, g = vp_updL n8 (80 + y_33 + i2) (m8 i2) := ⟨_, rfl⟩
                              rw [← ef_36] at hP hD
                              have hP : va_P D vwCl [(h0, .inr (9, [.ref ys, .ref yk, .ref yo, .ref yt, .int mk0, .ref yfa, .ref yfe, .int mL, .int mS, .int mM, .ref yro, .ref yhe, .ref ygr, .int mF, .int mC, .int mY, .ref yta, .int (nI (mz)), .int (nI (mf)), .int (nI (mt)), .int mv, .int mw, .ref ywa, .ref ybi, .ref ysi, .ref ynu, .ref ymo])), (ybi, .inl (cI, 4, .inl bi)), (ysi, .inl (cI, 4, .inl sq)), (ynu, .inl (cJ, 160, .inr (.inl f_36))), (ymo, .inl (cJ, 40, .inr (.inl m8))), (yt, .inl (cI, 7, .inl mq))] H := hP
                              have hD : va_D A [(h0, .inr (9, [.ref ys, .ref yk, .ref yo, .ref yt, .int mk0, .ref yfa, .ref yfe, .int mL, .int mS, .int mM, .ref yro, .ref yhe, .ref ygr, .int mF, .int mC, .int mY, .ref yta, .int (nI (mz)), .int (nI (mf)), .int (nI (mt)), .int mv, .int mw, .ref ywa, .ref ybi, .ref ysi, .ref ynu, .ref ymo])), (ybi, .inl (cI, 4, .inl bi)), (ysi, .inl (cI, 4, .inl sq)), (ynu, .inl (cJ, 160, .inr (.inl f_36))), (ymo, .inl (cJ, 40, .inr (.inl m8))), (yt, .inl (cI, 7, .inl mq))] := hD
                              refine lv_iinc (v := nI (i2 + 1)) (lv' := [(6, .int (nI (i2 + 1))), (0, .ref h0), (1, .int 3), (2, .int (nI (y_32))), (3, .int 2), (4, .int (nI (y_33))), (5, .int (nI (y_31)))]) hx hb dX9_copy_186 hl (k := 0) rfl (nI_1 (i2)) (by decide) rfl (fun ls hl => ?_)
                              refine lv_goto (tgt := 157) hx hb dX9_copy_189 (by decide) ?_
                              exact ih_157 (i2 + 1) f_36 _ _ _ (by omega) (by omega) (sp_mv2 hn8 ef_36) (hP.sub [0, 1, 2, 3, 4, 5] rfl) (hD.sub [0, 1, 2, 3, 4, 5] (by decide +kernel) rfl) hS (lv_sub hl [0, 1, 2, 3, 4, 5, 6] rfl)
                        · skip
                          have nc_34 : i < y_31 := xn_nle (a := y_31) (b := i) (by omega) (by omega) c_34
                          refine lv_aload_n hx hb dX9_copy_127 rfl (lv_at hl 1 rfl) ?_
                          refine xg hF kf_X9_53 hK hP 0 rfl rfl dX9_copy_128 ?_
                          refine lv_iload hx hb dX9_copy_131 (lv_at hl 0 rfl) ?_
                          refine lv_aload_n hx hb dX9_copy_133 rfl (lv_at hl 1 rfl) ?_
                          refine xg hF kf_X9_49 hK hP 0 rfl rfl dX9_copy_134 ?_
                          refine lv_bipush (v := 40) hx hb dX9_copy_137 (by decide) ?_
                          refine lv_iload_n hx hb dX9_copy_139 rfl (lv_at hl 2 rfl) ?_
                          refine lv_imul hx hb dX9_copy_140 ?_
                          refine xl_i (y := 120) (by decide) ?_
                          refine lv_iload_n hx hb dX9_copy_141 rfl (lv_at hl 3 rfl) ?_
                          refine lv_iadd hx hb dX9_copy_142 ?_
                          refine xl_i (y := nI (120 + y_32)) (nI_add 120 y_32) ?_
                          refine lv_iload hx hb dX9_copy_143 (lv_at hl 0 rfl) ?_
                          refine lv_iadd hx hb dX9_copy_145 ?_
                          refine xl_i (y := nI (120 + y_32 + i)) (nI_add (120 + y_32) i) ?_
                          refine va_lald hx hb hK hP 3 1 rfl rfl (vp_in_nI (show 120 + y_32 + i < 160 by omega) (by decide)) dX9_copy_146 ?_
                          refine xl_l (y := nb (120 + y_32 + i)) (congrArg nb (nI_clamp (show 120 + y_32 + i < 2 ^ 31 by omega))) ?_
                          refine va_last hx hb hK hP hD hS 4 1 rfl rfl (vp_in_nI (show i < 40 by omega) (by decide)) dX9_copy_147 (fun H locs hP hD hS => ?_)
                          rw [nI_clamp (show i < 2 ^ 31 by omega)] at hP hD
                          obtain ⟨f_37, ef_37⟩ : ∃ g, g = vp_updL m8 i (nb (120 + y_32 + i)) := ⟨_, rfl⟩
                          rw [← ef_37] at hP hD
                          have hP : va_P D vwCl [(h0, .inr (9, [.ref ys, .ref yk, .ref yo, .ref yt, .int mk0, .ref yfa, .ref yfe, .int mL, .int mS, .int mM, .ref yro, .ref yhe, .ref ygr, .int mF, .int mC, .int mY, .ref yta, .int (nI (mz)), .int (nI (mf)), .int (nI (mt)), .int mv, .int mw, .ref ywa, .ref ybi, .ref ysi, .ref ynu, .ref ymo])), (ybi, .inl (cI, 4, .inl bi)), (ysi, .inl (cI, 4, .inl sq)), (ynu, .inl (cJ, 160, .inr (.inl nb))), (ymo, .inl (cJ, 40, .inr (.inl f_37))), (yt, .inl (cI, 7, .inl mq))] H := hP
                          have hD : va_D A [(h0, .inr (9, [.ref ys, .ref yk, .ref yo, .ref yt, .int mk0, .ref yfa, .ref yfe, .int mL, .int mS, .int mM, .ref yro, .ref yhe, .ref ygr, .int mF, .int mC, .int mY, .ref yta, .int (nI (mz)), .int (nI (mf)), .int (nI (mt)), .int mv, .int mw, .ref ywa, .ref ybi, .ref ysi, .ref ynu, .ref ymo])), (ybi, .inl (cI, 4, .inl bi)), (ysi, .inl (cI, 4, .inl sq)), (ynu, .inl (cJ, 160, .inr (.inl nb))), (ymo, .inl (cJ, 40, .inr (.inl f_37))), (yt, .inl (cI, 7, .inl mq))] := hD
                          refine lv_iinc (v := nI (i + 1)) (lv' := [(6, .int (nI (i + 1))), (0, .ref h0), (1, .int 3), (2, .int (nI (y_32))), (3, .int 2), (4, .int (nI (y_33))), (5, .int (nI (y_31)))]) hx hb dX9_copy_148 hl (k := 0) rfl (nI_1 (i)) (by decide) rfl (fun ls hl => ?_)
                          refine lv_goto (tgt := 120) hx hb dX9_copy_151 (by decide) ?_
                          exact ih_120 (i + 1) f_37 _ _ _ (by omega) (by omega) (sp_mv1 hm8 ef_37) (hP.sub [0, 1, 2, 3, 4, 5] rfl) (hD.sub [0, 1, 2, 3, 4, 5] (by decide +kernel) rfl) hS (lv_sub hl [0, 1, 2, 3, 4, 5, 6] rfl)
                    · skip
                      refine lv_aload_n hx hb dX9_copy_110 rfl (lv_at hl 0 rfl) ?_
                      refine lv_ldc (v := (-1000000001)) hx hb hown (hu _ uw648) dX9_copy_111 ?_
                      refine xc_Vi (wr := [(ybi, .inl (cI, 4, .inl bi)), (ysi, .inl (cI, 4, .inl sq)), (ynu, .inl (cJ, 160, .inr (.inl nb))), (ymo, .inl (cJ, 40, .inr (.inl mv9)))]) hF (c_X9_finds_B l D cI cJ cZ cS ta sa sv s.heap.size h0 ys yk yo yt mk0 yfa yfe mL mS mM yro yhe ygr mF mC mY yta mz mf mt mv mw ywa ybi ysi ynu ymo mq ) kv_X9_70 ⟨rfl, rfl, Nat.le_of_ble_eq_true rfl, Nat.le_of_ble_eq_true rfl⟩ ⟨Nat.le_of_ble_eq_true rfl, Nat.le_of_ble_eq_true rfl⟩ hK hN hZ hP hD hS hA [0, 5] [1, 2, 3, 4] rfl rfl rfl rfl (by decide) 0 rfl rfl rfl rfl hl.1 rfl (Nat.le_of_ble_eq_true rfl) dX9_copy_113 (fun r_38 u_r_38 H locs hw_r_38 hP hD hS => ?_)
                      obtain ⟨mq2_39, rfl⟩ : ∃ z, z = u_r_38 := ⟨_, rfl⟩
                      try dsimp only at hw_r_38
                      have hP : va_P D vwCl [(ybi, .inl (cI, 4, .inl bi)), (ysi, .inl (cI, 4, .inl sq)), (ynu, .inl (cJ, 160, .inr (.inl nb))), (ymo, .inl (cJ, 40, .inr (.inl mv9))), (h0, .inr (9, [.ref ys, .ref yk, .ref yo, .ref yt, .int mk0, .ref yfa, .ref yfe, .int mL, .int mS, .int mM, .ref yro, .ref yhe, .ref ygr, .int mF, .int mC, .int mY, .ref yta, .int (nI (mz)), .int (nI (mf)), .int (nI (mt)), .int mv, .int mw, .ref ywa, .ref ybi, .ref ysi, .ref ynu, .ref ymo])), (yt, .inl (cI, 7, .inl mq2_39))] H := hP
                      have hD : va_D A [(ybi, .inl (cI, 4, .inl bi)), (ysi, .inl (cI, 4, .inl sq)), (ynu, .inl (cJ, 160, .inr (.inl nb))), (ymo, .inl (cJ, 40, .inr (.inl mv9))), (h0, .inr (9, [.ref ys, .ref yk, .ref yo, .ref yt, .int mk0, .ref yfa, .ref yfe, .int mL, .int mS, .int mM, .ref yro, .ref yhe, .ref ygr, .int mF, .int mC, .int mY, .ref yta, .int (nI (mz)), .int (nI (mf)), .int (nI (mt)), .int mv, .int mw, .ref ywa, .ref ybi, .ref ysi, .ref ynu, .ref ymo])), (yt, .inl (cI, 7, .inl mq2_39))] := hD
                      subst hw_r_38
                      exact W.iret (v := (-1000000001)) hx hb hr (fun t ht hW => ⟨⟨(-1000000001), (nb, mv9, mq2_39), rfl, ⟨(sp_cr3 c_11 c_14 c_15 (fun q => (sp_s5 hzt c_19 c_22 ex_29 (xlt c_30)) q.2)), (fun j => sp_c0 (fun h => (sp_s5 hzt c_19 c_22 ex_29 (xlt c_30)) h.2.2.2.2)), (fun _ _ => rfl)⟩, by rw [ht]; exact hP.sub [4, 0, 1, 2, 3, 5] rfl, hD.sub [4, 0, 1, 2, 3, 5] (by decide +kernel) rfl⟩, hS.F ht⟩) hS.2.2 dX9_copy_116 hlk
          · skip
            refine lv_aload_n hx hb dX9_copy_62 rfl (lv_at hl 0 rfl) ?_
            refine lv_ldc (v := (-1000000003)) hx hb hown (hu _ uw765) dX9_copy_63 ?_
            refine xc_Vi (wr := [(ybi, .inl (cI, 4, .inl bi)), (ysi, .inl (cI, 4, .inl sq)), (ynu, .inl (cJ, 160, .inr (.inl nb))), (ymo, .inl (cJ, 40, .inr (.inl mv9)))]) hF (c_X9_finds_K l D cI cJ cZ cS ta sa sv s.heap.size h0 ys yk yo yt mk0 yfa yfe mL mS mM yro yhe ygr mF mC mY yta mz mf mt mv mw ywa ybi ysi ynu ymo mq ) kv_X9_70 ⟨rfl, rfl, Nat.le_of_ble_eq_true rfl, Nat.le_of_ble_eq_true rfl⟩ ⟨Nat.le_of_ble_eq_true rfl, Nat.le_of_ble_eq_true rfl⟩ hK hN hZ hP hD hS hA [0, 5] [1, 2, 3, 4] rfl rfl rfl rfl (by decide) 0 rfl rfl rfl rfl hl.1 rfl (Nat.le_of_ble_eq_true rfl) dX9_copy_65 (fun r_40 u_r_40 H locs hw_r_40 hP hD hS => ?_)
            obtain ⟨mq2_41, rfl⟩ : ∃ z, z = u_r_40 := ⟨_, rfl⟩
            try dsimp only at hw_r_40
            have hP : va_P D vwCl [(ybi, .inl (cI, 4, .inl bi)), (ysi, .inl (cI, 4, .inl sq)), (ynu, .inl (cJ, 160, .inr (.inl nb))), (ymo, .inl (cJ, 40, .inr (.inl mv9))), (h0, .inr (9, [.ref ys, .ref yk, .ref yo, .ref yt, .int mk0, .ref yfa, .ref yfe, .int mL, .int mS, .int mM, .ref yro, .ref yhe, .ref ygr, .int mF, .int mC, .int mY, .ref yta, .int (nI (mz)), .int (nI (mf)), .int (nI (mt)), .int mv, .int mw, .ref ywa, .ref ybi, .ref ysi, .ref ynu, .ref ymo])), (yt, .inl (cI, 7, .inl mq2_41))] H := hP
            have hD : va_D A [(ybi, .inl (cI, 4, .inl bi)), (ysi, .inl (cI, 4, .inl sq)), (ynu, .inl (cJ, 160, .inr (.inl nb))), (ymo, .inl (cJ, 40, .inr (.inl mv9))), (h0, .inr (9, [.ref ys, .ref yk, .ref yo, .ref yt, .int mk0, .ref yfa, .ref yfe, .int mL, .int mS, .int mM, .ref yro, .ref yhe, .ref ygr, .int mF, .int mC, .int mY, .ref yta, .int (nI (mz)), .int (nI (mf)), .int (nI (mt)), .int mv, .int mw, .ref ywa, .ref ybi, .ref ysi, .ref ynu, .ref ymo])), (yt, .inl (cI, 7, .inl mq2_41))] := hD
            subst hw_r_40
            exact W.iret (v := (-1000000003)) hx hb hr (fun t ht hW => ⟨⟨(-1000000003), (nb, mv9, mq2_41), rfl, ⟨(sp_cr2 c_11 c_14 c_15), (fun j => sp_c0 (fun h => absurd h.2.2.1 c_15)), (fun _ _ => rfl)⟩, by rw [ht]; exact hP.sub [4, 0, 1, 2, 3, 5] rfl, hD.sub [4, 0, 1, 2, 3, 5] (by decide +kernel) rfl⟩, hS.F ht⟩) hS.2.2 dX9_copy_68 hlk
        · skip
          refine lv_aload_n hx hb dX9_copy_39 rfl (lv_at hl 0 rfl) ?_
          refine lv_ldcw (v := (-1000000006)) hx hb hown (hu _ uw910) dX9_copy_40 ?_
          refine xc_Vi (wr := [(ybi, .inl (cI, 4, .inl bi)), (ysi, .inl (cI, 4, .inl sq)), (ynu, .inl (cJ, 160, .inr (.inl nb))), (ymo, .inl (cJ, 40, .inr (.inl mv9)))]) hF (c_X9_finds_M l D cI cJ cZ cS ta sa sv s.heap.size h0 ys yk yo yt mk0 yfa yfe mL mS mM yro yhe ygr mF mC mY yta mz mf mt mv mw ywa ybi ysi ynu ymo mq ) kv_X9_70 ⟨rfl, rfl, Nat.le_of_ble_eq_true rfl, Nat.le_of_ble_eq_true rfl⟩ ⟨Nat.le_of_ble_eq_true rfl, Nat.le_of_ble_eq_true rfl⟩ hK hN hZ hP hD hS hA [0, 5] [1, 2, 3, 4] rfl rfl rfl rfl (by decide) 0 rfl rfl rfl rfl hl.1 rfl (Nat.le_of_ble_eq_true rfl) dX9_copy_43 (fun r_42 u_r_42 H locs hw_r_42 hP hD hS => ?_)
          obtain ⟨mq2_43, rfl⟩ : ∃ z, z = u_r_42 := ⟨_, rfl⟩
          try dsimp only at hw_r_42
          have hP : va_P D vwCl [(ybi, .inl (cI, 4, .inl bi)), (ysi, .inl (cI, 4, .inl sq)), (ynu, .inl (cJ, 160, .inr (.inl nb))), (ymo, .inl (cJ, 40, .inr (.inl mv9))), (h0, .inr (9, [.ref ys, .ref yk, .ref yo, .ref yt, .int mk0, .ref yfa, .ref yfe, .int mL, .int mS, .int mM, .ref yro, .ref yhe, .ref ygr, .int mF, .int mC, .int mY, .ref yta, .int (nI (mz)), .int (nI (mf)), .int (nI (mt)), .int mv, .int mw, .ref ywa, .ref ybi, .ref ysi, .ref ynu, .ref ymo])), (yt, .inl (cI, 7, .inl mq2_43))] H := hP
          have hD : va_D A [(ybi, .inl (cI, 4, .inl bi)), (ysi, .inl (cI, 4, .inl sq)), (ynu, .inl (cJ, 160, .inr (.inl nb))), (ymo, .inl (cJ, 40, .inr (.inl mv9))), (h0, .inr (9, [.ref ys, .ref yk, .ref yo, .ref yt, .int mk0, .ref yfa, .ref yfe, .int mL, .int mS, .int mM, .ref yro, .ref yhe, .ref ygr, .int mF, .int mC, .int mY, .ref yta, .int (nI (mz)), .int (nI (mf)), .int (nI (mt)), .int mv, .int mw, .ref ywa, .ref ybi, .ref ysi, .ref ynu, .ref ymo])), (yt, .inl (cI, 7, .inl mq2_43))] := hD
          subst hw_r_42
          exact W.iret (v := (-1000000006)) hx hb hr (fun t ht hW => ⟨⟨(-1000000006), (nb, mv9, mq2_43), rfl, ⟨(sp_cr1 (Or.inr c_14)), (fun j => sp_c0 (fun h => h.2.1 c_14)), (fun _ _ => rfl)⟩, by rw [ht]; exact hP.sub [4, 0, 1, 2, 3, 5] rfl, hD.sub [4, 0, 1, 2, 3, 5] (by decide +kernel) rfl⟩, hS.F ht⟩) hS.2.2 dX9_copy_46 hlk
    · exact absurd h_9 (by decide)
  · exact absurd h_4 (by decide)
set_option maxHeartbeats 4000000 in
set_option maxRecDepth 100000 in
theorem c_X9_copy_33 (l : Launch) (D : va_G) (cI cJ cZ cS : ClassId) (ta : Nat) (sa sv : Nat → Nat) (sz : Nat) (h0 : Nat) (ys : Nat) (yk : Nat) (yo : Nat) (yt : Nat) (mk0 : Int32) (yfa : Nat) (yfe : Nat) (mL : Int32) (mS : Int32) (mM : Int32) (yro : Nat) (yhe : Nat) (ygr : Nat) (mF : Int32) (mC : Int32) (mY : Int32) (yta : Nat) (mz : Nat) (mf : Nat) (mt : Nat) (mv : Int32) (mw : Int32) (ywa : Nat) (ybi : Nat) (ysi : Nat) (ynu : Nat) (ymo : Nat) (bi : Nat → Int32) (sq : Nat → Int32) (nb : Nat → Int64) (mv9 : Nat → Int64) (mq : Nat → Int32) (p1 : Int32) (p3 : Int32) (p4 : Int32) (zq : Nat) (zt : Nat) (ez : sq 3 = nI zq) (hzq : zq ≤ 40) (et : sq 3 = nI zt) (hzt : zt ≤ 40) (hsq : BA 4 41 sq) : Met l yX9_copy (Cond.code yX9_copy cX9_copy 7 (some .int) :: wsU) ({ frames := 2, cells := 0, slots := 0, locals := 45 }) (va_Pc [.ref h0, .int 3, .int p1, .int 3, .int p3, .int p4] (XW D (xT cI cJ cZ cS) ta sa sv [(h0, .inr (9, [.ref ys, .ref yk, .ref yo, .ref yt, .int mk0, .ref yfa, .ref yfe, .int mL, .int mS, .int mM, .ref yro, .ref yhe, .ref ygr, .int mF, .int mC, .int mY, .ref yta, .int (nI (mz)), .int (nI (mf)), .int (nI (mt)), .int mv, .int mw, .ref ywa, .ref ybi, .ref ysi, .ref ynu, .ref ymo])), (ybi, .inl (cI, 4, .inl bi)), (ysi, .inl (cI, 4, .inl sq)), (ynu, .inl (cJ, 160, .inr (.inl nb))), (ymo, .inl (cJ, 40, .inr (.inl mv9))), (yt, .inl (cI, 7, .inl mq))] sz)) (XQi (fun (r : Int32) (u : (Nat → Int64) × (Nat → Int64) × (Nat → Int32)) => match u with | (nb2, mv2, mq2) => ((r = sp_cr (bi 3) (bi 3) zq zt p1 p3 p4)) ∧ (∀ j, nb2 (120 + j) = sp_cn (bi 3) (bi 3) zq zt p1 p3 p4 (fun k => nb (120 + k)) j (nb (120 + j))) ∧ (∀ j, j < 120 ∨ 160 ≤ j → nb2 j = nb j)) D (fun (u : (Nat → Int64) × (Nat → Int64) × (Nat → Int32)) => match u with | (nb2, mv2, mq2) => [(h0, .inr (9, [.ref ys, .ref yk, .ref yo, .ref yt, .int mk0, .ref yfa, .ref yfe, .int mL, .int mS, .int mM, .ref yro, .ref yhe, .ref ygr, .int mF, .int mC, .int mY, .ref yta, .int (nI (mz)), .int (nI (mf)), .int (nI (mt)), .int mv, .int mw, .ref ywa, .ref ybi, .ref ysi, .ref ynu, .ref ymo])), (ybi, .inl (cI, 4, .inl bi)), (ysi, .inl (cI, 4, .inl sq)), (ynu, .inl (cJ, 160, .inr (.inl nb2))), (ymo, .inl (cJ, 40, .inr (.inl mv2))), (yt, .inl (cI, 7, .inl mq2))]) (va_A [(h0, .inr (9, [.ref ys, .ref yk, .ref yo, .ref yt, .int mk0, .ref yfa, .ref yfe, .int mL, .int mS, .int mM, .ref yro, .ref yhe, .ref ygr, .int mF, .int mC, .int mY, .ref yta, .int (nI (mz)), .int (nI (mf)), .int (nI (mt)), .int mv, .int mw, .ref ywa, .ref ybi, .ref ysi, .ref ynu, .ref ymo])), (ybi, .inl (cI, 4, .inl bi)), (ysi, .inl (cI, 4, .inl sq)), (ynu, .inl (cJ, 160, .inr (.inl nb))), (ymo, .inl (cJ, 40, .inr (.inl mv9))), (yt, .inl (cI, 7, .inl mq))] sz)) 0 0 (va_A [(h0, .inr (9, [.ref ys, .ref yk, .ref yo, .ref yt, .int mk0, .ref yfa, .ref yfe, .int mL, .int mS, .int mM, .ref yro, .ref yhe, .ref ygr, .int mF, .int mC, .int mY, .ref yta, .int (nI (mz)), .int (nI (mf)), .int (nI (mt)), .int mv, .int mw, .ref ywa, .ref ybi, .ref ysi, .ref ynu, .ref ymo])), (ybi, .inl (cI, 4, .inl bi)), (ysi, .inl (cI, 4, .inl sq)), (ynu, .inl (cJ, 160, .inr (.inl nb))), (ymo, .inl (cJ, 40, .inr (.inl mv9))), (yt, .inl (cI, 7, .inl mq))] sz) := by
  refine xh (QA := fun A => XQi (fun (r : Int32) (u : (Nat → Int64) × (Nat → Int64) × (Nat → Int32)) => match u with | (nb2, mv2, mq2) => ((r = sp_cr (bi 3) (bi 3) zq zt p1 p3 p4)) ∧ (∀ j, nb2 (120 + j) = sp_cn (bi 3) (bi 3) zq zt p1 p3 p4 (fun k => nb (120 + k)) j (nb (120 + j))) ∧ (∀ j, j < 120 ∨ 160 ≤ j → nb2 j = nb j)) D (fun (u : (Nat → Int64) × (Nat → Int64) × (Nat → Int32)) => match u with | (nb2, mv2, mq2) => [(h0, .inr (9, [.ref ys, .ref yk, .ref yo, .ref yt, .int mk0, .ref yfa, .ref yfe, .int mL, .int mS, .int mM, .ref yro, .ref yhe, .ref ygr, .int mF, .int mC, .int mY, .ref yta, .int (nI (mz)), .int (nI (mf)), .int (nI (mt)), .int mv, .int mw, .ref ywa, .ref ybi, .ref ysi, .ref ynu, .ref ymo])), (ybi, .inl (cI, 4, .inl bi)), (ysi, .inl (cI, 4, .inl sq)), (ynu, .inl (cJ, 160, .inr (.inl nb2))), (ymo, .inl (cJ, 40, .inr (.inl mv2))), (yt, .inl (cI, 7, .inl mq2))]) A) (fr := fun A => A) (by decide) (Nat.le_of_ble_eq_true rfl) ?_
  intro p e s m below meth c ls A hF hr hlk hin hsz hP hK hD hN hZ hA hS hl
  have hF : CallFix p m c cX9_copy 7 s _ _ RX9 := hF
  have hx := hF.1
  have hb := hF.2.1
  have hml := hF.2.2.1
  have hown := hF.2.2.2.1
  have hu : ∀ w ∈ wsU, w.before _ s = true := fun w h => hF.2.2.2.2 w (List.mem_cons_of_mem _ h)
  have hl : lv_has ls 7 [(0, .ref h0), (1, .int 3), (2, .int p1), (3, .int 3), (4, .int p3), (5, .int p4)] := hl
  refine lv_iload_n hx hb dX9_copy_0 rfl (lv_at hl 1 rfl) ?_
  refine xc_Sr hF (c_X9_isOne l D cI cJ cZ cS ta sa sv s.heap.size 3 ) ks_X9_305 ⟨rfl, rfl, Nat.le_of_ble_eq_true rfl, Nat.le_of_ble_eq_true rfl⟩ ⟨Nat.le_of_ble_eq_true rfl, Nat.le_of_ble_eq_true rfl⟩ hK hN hZ hP hD hS hA [] rfl rfl rfl hl.1 rfl (Nat.le_of_ble_eq_true rfl) dX9_copy_1 (fun r_1 hw_r_1 => ?_)
  rcases hw_r_1 with ⟨rfl, h_2, h_3⟩ | ⟨rfl, h_4⟩
  · skip
    refine lv_if_eq (tgt := 14) hx hb dX9_copy_4 (by decide) (fun c_5 => absurd c_5 (by decide)) (fun c_5 => ?_)
    refine lv_iload_n hx hb dX9_copy_7 rfl (lv_at hl 3 rfl) ?_
    refine xc_Sr hF (c_X9_isOne l D cI cJ cZ cS ta sa sv s.heap.size 3 ) ks_X9_305 ⟨rfl, rfl, Nat.le_of_ble_eq_true rfl, Nat.le_of_ble_eq_true rfl⟩ ⟨Nat.le_of_ble_eq_true rfl, Nat.le_of_ble_eq_true rfl⟩ hK hN hZ hP hD hS hA [] rfl rfl rfl hl.1 rfl (Nat.le_of_ble_eq_true rfl) dX9_copy_8 (fun r_6 hw_r_6 => ?_)
    rcases hw_r_6 with ⟨rfl, h_7, h_8⟩ | ⟨rfl, h_9⟩
    · skip
      refine lv_if_ne (tgt := 21) hx hb dX9_copy_11 (by decide) (fun c_10 => ?_) (fun c_10 => absurd c_10 (by decide))
      refine lv_aload_n hx hb dX9_copy_21 rfl (lv_at hl 0 rfl) ?_
      refine xg hF kf_X9_43 hK hP 0 rfl rfl dX9_copy_22 ?_
      refine lv_iload_n hx hb dX9_copy_25 rfl (lv_at hl 1 rfl) ?_
      refine va_iald hx hb hK hP 1 0 rfl rfl (xin 3 4 (by decide) (by decide)) dX9_copy_26 ?_
      refine xl_i (y := bi 3) (congrArg bi rfl) ?_
      refine lv_if_eq (tgt := 39) hx hb dX9_copy_27 (by decide) (fun c_11 => ?_) (fun c_11 => ?_)
      · skip
        refine lv_aload_n hx hb dX9_copy_39 rfl (lv_at hl 0 rfl) ?_
        refine lv_ldcw (v := (-1000000006)) hx hb hown (hu _ uw910) dX9_copy_40 ?_
        refine xc_Vi (wr := [(ybi, .inl (cI, 4, .inl bi)), (ysi, .inl (cI, 4, .inl sq)), (ynu, .inl (cJ, 160, .inr (.inl nb))), (ymo, .inl (cJ, 40, .inr (.inl mv9)))]) hF (c_X9_finds_M l D cI cJ cZ cS ta sa sv s.heap.size h0 ys yk yo yt mk0 yfa yfe mL mS mM yro yhe ygr mF mC mY yta mz mf mt mv mw ywa ybi ysi ynu ymo mq ) kv_X9_70 ⟨rfl, rfl, Nat.le_of_ble_eq_true rfl, Nat.le_of_ble_eq_true rfl⟩ ⟨Nat.le_of_ble_eq_true rfl, Nat.le_of_ble_eq_true rfl⟩ hK hN hZ hP hD hS hA [0, 5] [1, 2, 3, 4] rfl rfl rfl rfl (by decide) 0 rfl rfl rfl rfl hl.1 rfl (Nat.le_of_ble_eq_true rfl) dX9_copy_43 (fun r_12 u_r_12 H locs hw_r_12 hP hD hS => ?_)
        obtain ⟨mq2_13, rfl⟩ : ∃ z, z = u_r_12 := ⟨_, rfl⟩
        try dsimp only at hw_r_12
        have hP : va_P D vwCl [(ybi, .inl (cI, 4, .inl bi)), (ysi, .inl (cI, 4, .inl sq)), (ynu, .inl (cJ, 160, .inr (.inl nb))), (ymo, .inl (cJ, 40, .inr (.inl mv9))), (h0, .inr (9, [.ref ys, .ref yk, .ref yo, .ref yt, .int mk0, .ref yfa, .ref yfe, .int mL, .int mS, .int mM, .ref yro, .ref yhe, .ref ygr, .int mF, .int mC, .int mY, .ref yta, .int (nI (mz)), .int (nI (mf)), .int (nI (mt)), .int mv, .int mw, .ref ywa, .ref ybi, .ref ysi, .ref ynu, .ref ymo])), (yt, .inl (cI, 7, .inl mq2_13))] H := hP
        have hD : va_D A [(ybi, .inl (cI, 4, .inl bi)), (ysi, .inl (cI, 4, .inl sq)), (ynu, .inl (cJ, 160, .inr (.inl nb))), (ymo, .inl (cJ, 40, .inr (.inl mv9))), (h0, .inr (9, [.ref ys, .ref yk, .ref yo, .ref yt, .int mk0, .ref yfa, .ref yfe, .int mL, .int mS, .int mM, .ref yro, .ref yhe, .ref ygr, .int mF, .int mC, .int mY, .ref yta, .int (nI (mz)), .int (nI (mf)), .int (nI (mt)), .int mv, .int mw, .ref ywa, .ref ybi, .ref ysi, .ref ynu, .ref ymo])), (yt, .inl (cI, 7, .inl mq2_13))] := hD
        subst hw_r_12
        exact W.iret (v := (-1000000006)) hx hb hr (fun t ht hW => ⟨⟨(-1000000006), (nb, mv9, mq2_13), rfl, ⟨(sp_cr1 (Or.inl c_11)), (fun j => sp_c0 (fun h => h.1 c_11)), (fun _ _ => rfl)⟩, by rw [ht]; exact hP.sub [4, 0, 1, 2, 3, 5] rfl, hD.sub [4, 0, 1, 2, 3, 5] (by decide +kernel) rfl⟩, hS.F ht⟩) hS.2.2 dX9_copy_46 hlk
      · skip
        refine lv_aload_n hx hb dX9_copy_30 rfl (lv_at hl 0 rfl) ?_
        refine xg hF kf_X9_43 hK hP 0 rfl rfl dX9_copy_31 ?_
        refine lv_iload_n hx hb dX9_copy_34 rfl (lv_at hl 3 rfl) ?_
        refine va_iald hx hb hK hP 1 0 rfl rfl (xin 3 4 (by decide) (by decide)) dX9_copy_35 ?_
        refine xl_i (y := bi 3) (congrArg bi rfl) ?_
        refine lv_if_ne (tgt := 47) hx hb dX9_copy_36 (by decide) (fun c_14 => ?_) (fun c_14 => ?_)
        · skip
          refine lv_aload_n hx hb dX9_copy_47 rfl (lv_at hl 0 rfl) ?_
          refine xg hF kf_X9_43 hK hP 0 rfl rfl dX9_copy_48 ?_
          refine lv_iload_n hx hb dX9_copy_51 rfl (lv_at hl 1 rfl) ?_
          refine va_iald hx hb hK hP 1 0 rfl rfl (xin 3 4 (by decide) (by decide)) dX9_copy_52 ?_
          refine xl_i (y := bi 3) (congrArg bi rfl) ?_
          refine lv_aload_n hx hb dX9_copy_53 rfl (lv_at hl 0 rfl) ?_
          refine xg hF kf_X9_43 hK hP 0 rfl rfl dX9_copy_54 ?_
          refine lv_iload_n hx hb dX9_copy_57 rfl (lv_at hl 3 rfl) ?_
          refine va_iald hx hb hK hP 1 0 rfl rfl (xin 3 4 (by decide) (by decide)) dX9_copy_58 ?_
          refine xl_i (y := bi 3) (congrArg bi rfl) ?_
          refine lv_icmp_eq (tgt := 69) hx hb dX9_copy_59 (by decide) (fun c_15 => ?_) (fun c_15 => absurd rfl c_15)
          refine lv_iload_n hx hb dX9_copy_69 rfl (lv_at hl 2 rfl) ?_
          refine lv_if_lt (tgt := 110) hx hb dX9_copy_70 (by decide) (fun c_16 => ?_) (fun c_16 => ?_)
          · skip
            refine lv_aload_n hx hb dX9_copy_110 rfl (lv_at hl 0 rfl) ?_
            refine lv_ldc (v := (-1000000001)) hx hb hown (hu _ uw648) dX9_copy_111 ?_
            refine xc_Vi (wr := [(ybi, .inl (cI, 4, .inl bi)), (ysi, .inl (cI, 4, .inl sq)), (ynu, .inl (cJ, 160, .inr (.inl nb))), (ymo, .inl (cJ, 40, .inr (.inl mv9)))]) hF (c_X9_finds_B l D cI cJ cZ cS ta sa sv s.heap.size h0 ys yk yo yt mk0 yfa yfe mL mS mM yro yhe ygr mF mC mY yta mz mf mt mv mw ywa ybi ysi ynu ymo mq ) kv_X9_70 ⟨rfl, rfl, Nat.le_of_ble_eq_true rfl, Nat.le_of_ble_eq_true rfl⟩ ⟨Nat.le_of_ble_eq_true rfl, Nat.le_of_ble_eq_true rfl⟩ hK hN hZ hP hD hS hA [0, 5] [1, 2, 3, 4] rfl rfl rfl rfl (by decide) 0 rfl rfl rfl rfl hl.1 rfl (Nat.le_of_ble_eq_true rfl) dX9_copy_113 (fun r_17 u_r_17 H locs hw_r_17 hP hD hS => ?_)
            obtain ⟨mq2_18, rfl⟩ : ∃ z, z = u_r_17 := ⟨_, rfl⟩
            try dsimp only at hw_r_17
            have hP : va_P D vwCl [(ybi, .inl (cI, 4, .inl bi)), (ysi, .inl (cI, 4, .inl sq)), (ynu, .inl (cJ, 160, .inr (.inl nb))), (ymo, .inl (cJ, 40, .inr (.inl mv9))), (h0, .inr (9, [.ref ys, .ref yk, .ref yo, .ref yt, .int mk0, .ref yfa, .ref yfe, .int mL, .int mS, .int mM, .ref yro, .ref yhe, .ref ygr, .int mF, .int mC, .int mY, .ref yta, .int (nI (mz)), .int (nI (mf)), .int (nI (mt)), .int mv, .int mw, .ref ywa, .ref ybi, .ref ysi, .ref ynu, .ref ymo])), (yt, .inl (cI, 7, .inl mq2_18))] H := hP
            have hD : va_D A [(ybi, .inl (cI, 4, .inl bi)), (ysi, .inl (cI, 4, .inl sq)), (ynu, .inl (cJ, 160, .inr (.inl nb))), (ymo, .inl (cJ, 40, .inr (.inl mv9))), (h0, .inr (9, [.ref ys, .ref yk, .ref yo, .ref yt, .int mk0, .ref yfa, .ref yfe, .int mL, .int mS, .int mM, .ref yro, .ref yhe, .ref ygr, .int mF, .int mC, .int mY, .ref yta, .int (nI (mz)), .int (nI (mf)), .int (nI (mt)), .int mv, .int mw, .ref ywa, .ref ybi, .ref ysi, .ref ynu, .ref ymo])), (yt, .inl (cI, 7, .inl mq2_18))] := hD
            subst hw_r_17
            exact W.iret (v := (-1000000001)) hx hb hr (fun t ht hW => ⟨⟨(-1000000001), (nb, mv9, mq2_18), rfl, ⟨(sp_cr3 c_14 c_14 rfl (fun q => (sp_s1 c_16) q.1)), (fun j => sp_c0 (fun h => (sp_s1 c_16) h.2.2.2.1)), (fun _ _ => rfl)⟩, by rw [ht]; exact hP.sub [4, 0, 1, 2, 3, 5] rfl, hD.sub [4, 0, 1, 2, 3, 5] (by decide +kernel) rfl⟩, hS.F ht⟩) hS.2.2 dX9_copy_116 hlk
          · skip
            refine lv_iload hx hb dX9_copy_73 (lv_at hl 4 rfl) ?_
            refine lv_if_lt (tgt := 110) hx hb dX9_copy_75 (by decide) (fun c_19 => ?_) (fun c_19 => ?_)
            · skip
              refine lv_aload_n hx hb dX9_copy_110 rfl (lv_at hl 0 rfl) ?_
              refine lv_ldc (v := (-1000000001)) hx hb hown (hu _ uw648) dX9_copy_111 ?_
              refine xc_Vi (wr := [(ybi, .inl (cI, 4, .inl bi)), (ysi, .inl (cI, 4, .inl sq)), (ynu, .inl (cJ, 160, .inr (.inl nb))), (ymo, .inl (cJ, 40, .inr (.inl mv9)))]) hF (c_X9_finds_B l D cI cJ cZ cS ta sa sv s.heap.size h0 ys yk yo yt mk0 yfa yfe mL mS mM yro yhe ygr mF mC mY yta mz mf mt mv mw ywa ybi ysi ynu ymo mq ) kv_X9_70 ⟨rfl, rfl, Nat.le_of_ble_eq_true rfl, Nat.le_of_ble_eq_true rfl⟩ ⟨Nat.le_of_ble_eq_true rfl, Nat.le_of_ble_eq_true rfl⟩ hK hN hZ hP hD hS hA [0, 5] [1, 2, 3, 4] rfl rfl rfl rfl (by decide) 0 rfl rfl rfl rfl hl.1 rfl (Nat.le_of_ble_eq_true rfl) dX9_copy_113 (fun r_20 u_r_20 H locs hw_r_20 hP hD hS => ?_)
              obtain ⟨mq2_21, rfl⟩ : ∃ z, z = u_r_20 := ⟨_, rfl⟩
              try dsimp only at hw_r_20
              have hP : va_P D vwCl [(ybi, .inl (cI, 4, .inl bi)), (ysi, .inl (cI, 4, .inl sq)), (ynu, .inl (cJ, 160, .inr (.inl nb))), (ymo, .inl (cJ, 40, .inr (.inl mv9))), (h0, .inr (9, [.ref ys, .ref yk, .ref yo, .ref yt, .int mk0, .ref yfa, .ref yfe, .int mL, .int mS, .int mM, .ref yro, .ref yhe, .ref ygr, .int mF, .int mC, .int mY, .ref yta, .int (nI (mz)), .int (nI (mf)), .int (nI (mt)), .int mv, .int mw, .ref ywa, .ref ybi, .ref ysi, .ref ynu, .ref ymo])), (yt, .inl (cI, 7, .inl mq2_21))] H := hP
              have hD : va_D A [(ybi, .inl (cI, 4, .inl bi)), (ysi, .inl (cI, 4, .inl sq)), (ynu, .inl (cJ, 160, .inr (.inl nb))), (ymo, .inl (cJ, 40, .inr (.inl mv9))), (h0, .inr (9, [.ref ys, .ref yk, .ref yo, .ref yt, .int mk0, .ref yfa, .ref yfe, .int mL, .int mS, .int mM, .ref yro, .ref yhe, .ref ygr, .int mF, .int mC, .int mY, .ref yta, .int (nI (mz)), .int (nI (mf)), .int (nI (mt)), .int mv, .int mw, .ref ywa, .ref ybi, .ref ysi, .ref ynu, .ref ymo])), (yt, .inl (cI, 7, .inl mq2_21))] := hD
              subst hw_r_20
              exact W.iret (v := (-1000000001)) hx hb hr (fun t ht hW => ⟨⟨(-1000000001), (nb, mv9, mq2_21), rfl, ⟨(sp_cr3 c_14 c_14 rfl (fun q => (sp_s1 c_19) q.2)), (fun j => sp_c0 (fun h => (sp_s1 c_19) h.2.2.2.2)), (fun _ _ => rfl)⟩, by rw [ht]; exact hP.sub [4, 0, 1, 2, 3, 5] rfl, hD.sub [4, 0, 1, 2, 3, 5] (by decide +kernel) rfl⟩, hS.F ht⟩) hS.2.2 dX9_copy_116 hlk
            · skip
              refine lv_iload hx hb dX9_copy_78 (lv_at hl 5 rfl) ?_
              refine lv_if_lt (tgt := 110) hx hb dX9_copy_80 (by decide) (fun c_22 => ?_) (fun c_22 => ?_)
              · skip
                refine lv_aload_n hx hb dX9_copy_110 rfl (lv_at hl 0 rfl) ?_
                refine lv_ldc (v := (-1000000001)) hx hb hown (hu _ uw648) dX9_copy_111 ?_
                refine xc_Vi (wr := [(ybi, .inl (cI, 4, .inl bi)), (ysi, .inl (cI, 4, .inl sq)), (ynu, .inl (cJ, 160, .inr (.inl nb))), (ymo, .inl (cJ, 40, .inr (.inl mv9)))]) hF (c_X9_finds_B l D cI cJ cZ cS ta sa sv s.heap.size h0 ys yk yo yt mk0 yfa yfe mL mS mM yro yhe ygr mF mC mY yta mz mf mt mv mw ywa ybi ysi ynu ymo mq ) kv_X9_70 ⟨rfl, rfl, Nat.le_of_ble_eq_true rfl, Nat.le_of_ble_eq_true rfl⟩ ⟨Nat.le_of_ble_eq_true rfl, Nat.le_of_ble_eq_true rfl⟩ hK hN hZ hP hD hS hA [0, 5] [1, 2, 3, 4] rfl rfl rfl rfl (by decide) 0 rfl rfl rfl rfl hl.1 rfl (Nat.le_of_ble_eq_true rfl) dX9_copy_113 (fun r_23 u_r_23 H locs hw_r_23 hP hD hS => ?_)
                obtain ⟨mq2_24, rfl⟩ : ∃ z, z = u_r_23 := ⟨_, rfl⟩
                try dsimp only at hw_r_23
                have hP : va_P D vwCl [(ybi, .inl (cI, 4, .inl bi)), (ysi, .inl (cI, 4, .inl sq)), (ynu, .inl (cJ, 160, .inr (.inl nb))), (ymo, .inl (cJ, 40, .inr (.inl mv9))), (h0, .inr (9, [.ref ys, .ref yk, .ref yo, .ref yt, .int mk0, .ref yfa, .ref yfe, .int mL, .int mS, .int mM, .ref yro, .ref yhe, .ref ygr, .int mF, .int mC, .int mY, .ref yta, .int (nI (mz)), .int (nI (mf)), .int (nI (mt)), .int mv, .int mw, .ref ywa, .ref ybi, .ref ysi, .ref ynu, .ref ymo])), (yt, .inl (cI, 7, .inl mq2_24))] H := hP
                have hD : va_D A [(ybi, .inl (cI, 4, .inl bi)), (ysi, .inl (cI, 4, .inl sq)), (ynu, .inl (cJ, 160, .inr (.inl nb))), (ymo, .inl (cJ, 40, .inr (.inl mv9))), (h0, .inr (9, [.ref ys, .ref yk, .ref yo, .ref yt, .int mk0, .ref yfa, .ref yfe, .int mL, .int mS, .int mM, .ref yro, .ref yhe, .ref ygr, .int mF, .int mC, .int mY, .ref yta, .int (nI (mz)), .int (nI (mf)), .int (nI (mt)), .int mv, .int mw, .ref ywa, .ref ybi, .ref ysi, .ref ynu, .ref ymo])), (yt, .inl (cI, 7, .inl mq2_24))] := hD
                subst hw_r_23
                exact W.iret (v := (-1000000001)) hx hb hr (fun t ht hW => ⟨⟨(-1000000001), (nb, mv9, mq2_24), rfl, ⟨(sp_cr3 c_14 c_14 rfl (fun q => (sp_s2 c_22) q.1)), (fun j => sp_c0 (fun h => (sp_s2 c_22) h.2.2.2.1)), (fun _ _ => rfl)⟩, by rw [ht]; exact hP.sub [4, 0, 1, 2, 3, 5] rfl, hD.sub [4, 0, 1, 2, 3, 5] (by decide +kernel) rfl⟩, hS.F ht⟩) hS.2.2 dX9_copy_116 hlk
              · skip
                refine lv_iload hx hb dX9_copy_83 (lv_at hl 5 rfl) ?_
                refine lv_aload_n hx hb dX9_copy_85 rfl (lv_at hl 0 rfl) ?_
                refine xg hF kf_X9_46 hK hP 0 rfl rfl dX9_copy_86 ?_
                refine lv_iload_n hx hb dX9_copy_89 rfl (lv_at hl 1 rfl) ?_
                refine va_iald hx hb hK hP 2 0 rfl rfl (xin 3 4 (by decide) (by decide)) dX9_copy_90 ?_
                refine xl_i (y := sq 3) (congrArg sq rfl) ?_
                refine xl_i (y := nI (zq)) ez ?_
                refine lv_iload_n hx hb dX9_copy_91 rfl (lv_at hl 2 rfl) ?_
                refine lv_isub hx hb dX9_copy_92 ?_
                refine lv_topi (fun x_25 ex_25 => ?_)
                refine lv_icmp_gt (tgt := 110) hx hb dX9_copy_93 (by decide) (fun c_26 => ?_) (fun c_26 => ?_)
                · skip
                  refine lv_aload_n hx hb dX9_copy_110 rfl (lv_at hl 0 rfl) ?_
                  refine lv_ldc (v := (-1000000001)) hx hb hown (hu _ uw648) dX9_copy_111 ?_
                  refine xc_Vi (wr := [(ybi, .inl (cI, 4, .inl bi)), (ysi, .inl (cI, 4, .inl sq)), (ynu, .inl (cJ, 160, .inr (.inl nb))), (ymo, .inl (cJ, 40, .inr (.inl mv9)))]) hF (c_X9_finds_B l D cI cJ cZ cS ta sa sv s.heap.size h0 ys yk yo yt mk0 yfa yfe mL mS mM yro yhe ygr mF mC mY yta mz mf mt mv mw ywa ybi ysi ynu ymo mq ) kv_X9_70 ⟨rfl, rfl, Nat.le_of_ble_eq_true rfl, Nat.le_of_ble_eq_true rfl⟩ ⟨Nat.le_of_ble_eq_true rfl, Nat.le_of_ble_eq_true rfl⟩ hK hN hZ hP hD hS hA [0, 5] [1, 2, 3, 4] rfl rfl rfl rfl (by decide) 0 rfl rfl rfl rfl hl.1 rfl (Nat.le_of_ble_eq_true rfl) dX9_copy_113 (fun r_27 u_r_27 H locs hw_r_27 hP hD hS => ?_)
                  obtain ⟨mq2_28, rfl⟩ : ∃ z, z = u_r_27 := ⟨_, rfl⟩
                  try dsimp only at hw_r_27
                  have hP : va_P D vwCl [(ybi, .inl (cI, 4, .inl bi)), (ysi, .inl (cI, 4, .inl sq)), (ynu, .inl (cJ, 160, .inr (.inl nb))), (ymo, .inl (cJ, 40, .inr (.inl mv9))), (h0, .inr (9, [.ref ys, .ref yk, .ref yo, .ref yt, .int mk0, .ref yfa, .ref yfe, .int mL, .int mS, .int mM, .ref yro, .ref yhe, .ref ygr, .int mF, .int mC, .int mY, .ref yta, .int (nI (mz)), .int (nI (mf)), .int (nI (mt)), .int mv, .int mw, .ref ywa, .ref ybi, .ref ysi, .ref ynu, .ref ymo])), (yt, .inl (cI, 7, .inl mq2_28))] H := hP
                  have hD : va_D A [(ybi, .inl (cI, 4, .inl bi)), (ysi, .inl (cI, 4, .inl sq)), (ynu, .inl (cJ, 160, .inr (.inl nb))), (ymo, .inl (cJ, 40, .inr (.inl mv9))), (h0, .inr (9, [.ref ys, .ref yk, .ref yo, .ref yt, .int mk0, .ref yfa, .ref yfe, .int mL, .int mS, .int mM, .ref yro, .ref yhe, .ref ygr, .int mF, .int mC, .int mY, .ref yta, .int (nI (mz)), .int (nI (mf)), .int (nI (mt)), .int mv, .int mw, .ref ywa, .ref ybi, .ref ysi, .ref ynu, .ref ymo])), (yt, .inl (cI, 7, .inl mq2_28))] := hD
                  subst hw_r_27
                  exact W.iret (v := (-1000000001)) hx hb hr (fun t ht hW => ⟨⟨(-1000000001), (nb, mv9, mq2_28), rfl, ⟨(sp_cr3 c_14 c_14 rfl (fun q => (sp_s5 hzq c_16 c_22 ex_25 c_26) q.1)), (fun j => sp_c0 (fun h => (sp_s5 hzq c_16 c_22 ex_25 c_26) h.2.2.2.1)), (fun _ _ => rfl)⟩, by rw [ht]; exact hP.sub [4, 0, 1, 2, 3, 5] rfl, hD.sub [4, 0, 1, 2, 3, 5] (by decide +kernel) rfl⟩, hS.F ht⟩) hS.2.2 dX9_copy_116 hlk
                · skip
                  refine lv_iload hx hb dX9_copy_96 (lv_at hl 5 rfl) ?_
                  refine lv_aload_n hx hb dX9_copy_98 rfl (lv_at hl 0 rfl) ?_
                  refine xg hF kf_X9_46 hK hP 0 rfl rfl dX9_copy_99 ?_
                  refine lv_iload_n hx hb dX9_copy_102 rfl (lv_at hl 3 rfl) ?_
                  refine va_iald hx hb hK hP 2 0 rfl rfl (xin 3 4 (by decide) (by decide)) dX9_copy_103 ?_
                  refine xl_i (y := sq 3) (congrArg sq rfl) ?_
                  refine xl_i (y := nI (zt)) et ?_
                  refine lv_iload hx hb dX9_copy_104 (lv_at hl 4 rfl) ?_
                  refine lv_isub hx hb dX9_copy_106 ?_
                  refine lv_topi (fun x_29 ex_29 => ?_)
                  refine lv_icmp_le (tgt := 117) hx hb dX9_copy_107 (by decide) (fun c_30 => ?_) (fun c_30 => ?_)
                  · skip
                    obtain ⟨y_31, hy_31, rfl⟩ := x_spk (by omega) c_16 c_22 ex_25 c_26
                    obtain ⟨y_32, hy_32, rfl⟩ := x_spj (by omega) (by omega) c_16 ex_25 c_26
                    obtain ⟨y_33, hy_33, rfl⟩ := x_spj (by omega) (by omega) c_19 ex_29 (Int32.not_lt.mpr c_30)
                    refine lv_iconst (v := 0) hx hb dX9_copy_117 (by decide) ?_
                    refine lv_istore (lv' := [(6, .int 0), (0, .ref h0), (1, .int 3), (2, .int (nI (y_32))), (3, .int 3), (4, .int (nI (y_33))), (5, .int (nI (y_31)))]) hx hb dX9_copy_118 hl (by decide) rfl (fun ls hl => ?_)
                    suffices loop_120 : ∀ (n_120 : Nat) (i : Nat) (m8 : Nat → Int64) (H : Heap) (locs : List Loc) (ls : Array Slot), y_31 - i < n_120 → (i ≤ y_31) → (∀ j, j < i → m8 j = nb (120 + y_32 + j)) → va_P D vwCl [(h0, .inr (9, [.ref ys, .ref yk, .ref yo, .ref yt, .int mk0, .ref yfa, .ref yfe, .int mL, .int mS, .int mM, .ref yro, .ref yhe, .ref ygr, .int mF, .int mC, .int mY, .ref yta, .int (nI (mz)), .int (nI (mf)), .int (nI (mt)), .int mv, .int mw, .ref ywa, .ref ybi, .ref ysi, .ref ynu, .ref ymo])), (ybi, .inl (cI, 4, .inl bi)), (ysi, .inl (cI, 4, .inl sq)), (ynu, .inl (cJ, 160, .inr (.inl nb))), (ymo, .inl (cJ, 40, .inr (.inl m8))), (yt, .inl (cI, 7, .inl mq))] H → va_D A [(h0, .inr (9, [.ref ys, .ref yk, .ref yo, .ref yt, .int mk0, .ref yfa, .ref yfe, .int mL, .int mS, .int mM, .ref yro, .ref yhe, .ref ygr, .int mF, .int mC, .int mY, .ref yta, .int (nI (mz)), .int (nI (mf)), .int (nI (mt)), .int mv, .int mw, .ref ywa, .ref ybi, .ref ysi, .ref ynu, .ref ymo])), (ybi, .inl (cI, 4, .inl bi)), (ysi, .inl (cI, 4, .inl sq)), (ynu, .inl (cJ, 160, .inr (.inl nb))), (ymo, .inl (cJ, 40, .inr (.inl m8))), (yt, .inl (cI, 7, .inl mq))] → va_S A s.heap H locs → lv_has ls 7 [(6, .int (nI (i))), (0, .ref h0), (1, .int 3), (2, .int (nI (y_32))), (3, .int 3), (4, .int (nI (y_33))), (5, .int (nI (y_31)))] → W p l e ({ frames := 2, cells := 0, slots := 0, locals := 45 }) s m ([.ref h0, .int 3, .int (nI (y_32)), .int 3, .int (nI (y_33)), .int (nI (y_31))] : List Value).toArray below meth c H locs 0 0 (MQ below (XQi (fun (r : Int32) (u : (Nat → Int64) × (Nat → Int64) × (Nat → Int32)) => match u with | (nb2, mv2, mq2) => ((r = sp_cr (bi 3) (bi 3) zq zt (nI (y_32)) (nI (y_33)) (nI (y_31)))) ∧ (∀ j, nb2 (120 + j) = sp_cn (bi 3) (bi 3) zq zt (nI (y_32)) (nI (y_33)) (nI (y_31)) (fun k => nb (120 + k)) j (nb (120 + j))) ∧ (∀ j, j < 120 ∨ 160 ≤ j → nb2 j = nb j)) D (fun (u : (Nat → Int64) × (Nat → Int64) × (Nat → Int32)) => match u with | (nb2, mv2, mq2) => [(h0, .inr (9, [.ref ys, .ref yk, .ref yo, .ref yt, .int mk0, .ref yfa, .ref yfe, .int mL, .int mS, .int mM, .ref yro, .ref yhe, .ref ygr, .int mF, .int mC, .int mY, .ref yta, .int (nI (mz)), .int (nI (mf)), .int (nI (mt)), .int mv, .int mw, .ref ywa, .ref ybi, .ref ysi, .ref ynu, .ref ymo])), (ybi, .inl (cI, 4, .inl bi)), (ysi, .inl (cI, 4, .inl sq)), (ynu, .inl (cJ, 160, .inr (.inl nb2))), (ymo, .inl (cJ, 40, .inr (.inl mv2))), (yt, .inl (cI, 7, .inl mq2))]) A) ([.ref h0, .int 3, .int (nI (y_32)), .int 3, .int (nI (y_33)), .int (nI (y_31))] : List Value).toArray s 0 0 A) (F0 m 120 ls []) by
                      exact loop_120 _ 0 mv9 _ _ _ (Nat.lt_succ_self _) (by omega) (fun j hj => absurd hj (Nat.not_lt_zero _)) hP hD hS (lv_sub hl [0, 1, 2, 3, 4, 5, 6] rfl)
                    intro n_120
                    induction n_120 with
                    | zero =>
                      intro i m8 H locs ls hm_120
                      exact absurd hm_120 (Nat.not_lt_zero _)
                    | succ n_120 ih_120 =>
                      intro i m8 H locs ls hm_120 hi hm8 hP hD hS hl
                      refine lv_iload hx hb dX9_copy_120 (lv_at hl 0 rfl) ?_
                      refine lv_iload hx hb dX9_copy_122 (lv_at hl 6 rfl) ?_
                      refine lv_icmp_ge (tgt := 154) hx hb dX9_copy_124 (by decide) (fun c_34 => ?_) (fun c_34 => ?_)
                      · skip
                        have nc_34 : y_31 ≤ i := xn_le (a := y_31) (b := i) (by omega) (by omega) c_34
                        refine lv_iconst (v := 0) hx hb dX9_copy_154 (by decide) ?_
                        refine lv_istore (lv' := [(6, .int 0), (0, .ref h0), (1, .int 3), (2, .int (nI (y_32))), (3, .int 3), (4, .int (nI (y_33))), (5, .int (nI (y_31)))]) hx hb dX9_copy_155 hl (by decide) rfl (fun ls hl => ?_)
                        suffices loop_157 : ∀ (n_157 : Nat) (i2 : Nat) (n8 : Nat → Int64) (H : Heap) (locs : List Loc) (ls : Array Slot), y_31 - i2 < n_157 → (i2 ≤ y_31) → (∀ j, n8 j = if 120 + y_33 ≤ j ∧ j < 120 + y_33 + i2 then m8 (j - (120 + y_33)) else nb j) → va_P D vwCl [(h0, .inr (9, [.ref ys, .ref yk, .ref yo, .ref yt, .int mk0, .ref yfa, .ref yfe, .int mL, .int mS, .int mM, .ref yro, .ref yhe, .ref ygr, .int mF, .int mC, .int mY, .ref yta, .int (nI (mz)), .int (nI (mf)), .int (nI (mt)), .int mv, .int mw, .ref ywa, .ref ybi, .ref ysi, .ref ynu, .ref ymo])), (ybi, .inl (cI, 4, .inl bi)), (ysi, .inl (cI, 4, .inl sq)), (ynu, .inl (cJ, 160, .inr (.inl n8))), (ymo, .inl (cJ, 40, .inr (.inl m8))), (yt, .inl (cI, 7, .inl mq))] H → va_D A [(h0, .inr (9, [.ref ys, .ref yk, .ref yo, .ref yt, .int mk0, .ref yfa, .ref yfe, .int mL, .int mS, .int mM, .ref yro, .ref yhe, .ref ygr, .int mF, .int mC, .int mY, .ref yta, .int (nI (mz)), .int (nI (mf)), .int (nI (mt)), .int mv, .int mw, .ref ywa, .ref ybi, .ref ysi, .ref ynu, .ref ymo])), (ybi, .inl (cI, 4, .inl bi)), (ysi, .inl (cI, 4, .inl sq)), (ynu, .inl (cJ, 160, .inr (.inl n8))), (ymo, .inl (cJ, 40, .inr (.inl m8))), (yt, .inl (cI, 7, .inl mq))] → va_S A s.heap H locs → lv_has ls 7 [(6, .int (nI (i2))), (0, .ref h0), (1, .int 3), (2, .int (nI (y_32))), (3, .int 3), (4, .int (nI (y_33))), (5, .int (nI (y_31)))] → W p l e ({ frames := 2, cells := 0, slots := 0, locals := 45 }) s m ([.ref h0, .int 3, .int (nI (y_32)), .int 3, .int (nI (y_33)), .int (nI (y_31))] : List Value).toArray below meth c H locs 0 0 (MQ below (XQi (fun (r : Int32) (u : (Nat → Int64) × (Nat → Int64) × (Nat → Int32)) => match u with | (nb2, mv2, mq2) => ((r = sp_cr (bi 3) (bi 3) zq zt (nI (y_32)) (nI (y_33)) (nI (y_31)))) ∧ (∀ j, nb2 (120 + j) = sp_cn (bi 3) (bi 3) zq zt (nI (y_32)) (nI (y_33)) (nI (y_31)) (fun k => nb (120 + k)) j (nb (120 + j))) ∧ (∀ j, j < 120 ∨ 160 ≤ j → nb2 j = nb j)) D (fun (u : (Nat → Int64) × (Nat → Int64) × (Nat → Int32)) => match u with | (nb2, mv2, mq2) => [(h0, .inr (9, [.ref ys, .ref yk, .ref yo, .ref yt, .int mk0, .ref yfa, .ref yfe, .int mL, .int mS, .int mM, .ref yro, .ref yhe, .ref ygr, .int mF, .int mC, .int mY, .ref yta, .int (nI (mz)), .int (nI (mf)), .int (nI (mt)), .int mv, .int mw, .ref ywa, .ref ybi, .ref ysi, .ref ynu, .ref ymo])), (ybi, .inl (cI, 4, .inl bi)), (ysi, .inl (cI, 4, .inl sq)), (ynu, .inl (cJ, 160, .inr (.inl nb2))), (ymo, .inl (cJ, 40, .inr (.inl mv2))), (yt, .inl (cI, 7, .inl mq2))]) A) ([.ref h0, .int 3, .int (nI (y_32)), .int 3, .int (nI (y_33)), .int (nI (y_31))] : List Value).toArray s 0 0 A) (F0 m 157 ls []) by
                          exact loop_157 _ 0 nb _ _ _ (Nat.lt_succ_self _) (by omega) (fun j => (if_neg (by omega)).symm) hP hD hS (lv_sub hl [0, 1, 2, 3, 4, 5, 6] rfl)
                        intro n_157
                        induction n_157 with
                        | zero =>
                          intro i2 n8 H locs ls hm_157
                          exact absurd hm_157 (Nat.not_lt_zero _)
                        | succ n_157 ih_157 =>
                          intro i2 n8 H locs ls hm_157 hi2 hn8 hP hD hS hl
                          refine lv_iload hx hb dX9_copy_157 (lv_at hl 0 rfl) ?_
                          refine lv_iload hx hb dX9_copy_159 (lv_at hl 6 rfl) ?_
                          refine lv_icmp_ge (tgt := 192) hx hb dX9_copy_161 (by decide) (fun c_35 => ?_) (fun c_35 => ?_)
                          · skip
                            have nc_35 : y_31 ≤ i2 := xn_le (a := y_31) (b := i2) (by omega) (by omega) c_35
                            refine lv_iload hx hb dX9_copy_192 (lv_at hl 6 rfl) ?_
                            have hn7 : ∀ j, n8 j = if 120 + y_33 ≤ j ∧ j < 120 + y_33 + y_31 then m8 (j - (120 + y_33)) else nb j := fun j => by rw [hn8 j, show i2 = y_31 by omega]
                            have hm7 : ∀ j, j < y_31 → m8 j = nb (120 + y_32 + j) := fun j hj => hm8 j (by omega)
                            exact W.iret (v := nI (y_31)) hx hb hr (fun t ht hW => ⟨⟨nI (y_31), (n8, m8, mq), rfl, ⟨(sp_cr4 c_14 c_14 rfl (sp_nspan (by omega) (by omega)) (sp_nspan (by omega) (by omega))), (fun j9 => sp_c1 (K := 120) (M := 120) (by omega) (by omega) c_14 c_14 rfl (by omega) (by omega) (fun i9 => sp_mv3 hn7 hm7 rfl rfl)), (fun j9 hj9 => by rw [hn7 j9, if_neg (by omega)])⟩, by rw [ht]; exact hP.sub [0, 1, 2, 3, 4, 5] rfl, hD.sub [0, 1, 2, 3, 4, 5] (by decide +kernel) rfl⟩, hS.F ht⟩) hS.2.2 dX9_copy_194 hlk
                          · skip
                            have nc_35 : i2 < y_31 := xn_nle (a := y_31) (b := i2) (by omega) (by omega) c_35
                            refine lv_aload_n hx hb dX9_copy_164 rfl (lv_at hl 1 rfl) ?_
                            refine xg hF kf_X9_49 hK hP 0 rfl rfl dX9_copy_165 ?_
                            refine lv_bipush (v := 40) hx hb dX9_copy_168 (by decide) ?_
                            refine lv_iload_n hx hb dX9_copy_170 rfl (lv_at hl 4 rfl) ?_
                            refine lv_imul hx hb dX9_copy_171 ?_
                            refine xl_i (y := 120) (by decide) ?_
                            refine lv_iload hx hb dX9_copy_172 (lv_at hl 5 rfl) ?_
                            refine lv_iadd hx hb dX9_copy_174 ?_
                            refine xl_i (y := nI (120 + y_33)) (nI_add 120 y_33) ?_
                            refine lv_iload hx hb dX9_copy_175 (lv_at hl 0 rfl) ?_
                            refine lv_iadd hx hb dX9_copy_177 ?_
                            refine xl_i (y := nI (120 + y_33 + i2)) (nI_add (120 + y_33) i2) ?_
                            refine lv_aload_n hx hb dX9_copy_178 rfl (lv_at hl 1 rfl) ?_
                            refine xg hF kf_X9_53 hK hP 0 rfl rfl dX9_copy_179 ?_
                            refine lv_iload hx hb dX9_copy_182 (lv_at hl 0 rfl) ?_
                            refine va_lald hx hb hK hP 4 1 rfl rfl (vp_in_nI (show i2 < 40 by omega) (by decide)) dX9_copy_184 ?_
                            refine xl_l (y := m8 i2) (congrArg m8 (nI_clamp (show i2 < 2 ^ 31 by omega))) ?_
                            refine va_last hx hb hK hP hD hS 3 1 rfl rfl (vp_in_nI (show 120 + y_33 + i2 < 160 by omega) (by decide)) dX9_copy_185 (fun H locs hP hD hS => ?_)
                            rw [nI_clamp (show 120 + y_33 + i2 < 2 ^ 31 by omega)] at hP hD
                            obtain ⟨f_36, ef_36⟩ : ∃ g, g = vp_updL n8 (120 + y_33 + i2) (m8 i2) := ⟨_, rfl⟩
                            rw [← ef_36] at hP hD
                            have hP : va_P D vwCl [(h0, .inr (9, [.ref ys, .ref yk, .ref yo, .ref yt, .int mk0, .ref yfa, .ref yfe, .int mL, .int mS, .int mM, .ref yro, .ref yhe, .ref ygr, .int mF, .int mC, .int mY, .ref yta, .int (nI (mz)), .int (nI (mf)), .int (nI (mt)), .int mv, .int mw, .ref ywa, .ref ybi, .ref ysi, .ref ynu, .ref ymo])), (ybi, .inl (cI, 4, .inl bi)), (ysi, .inl (cI, 4, .inl sq)), (ynu, .inl (cJ, 160, .inr (.inl f_36))), (ymo, .inl (cJ, 40, .inr (.inl m8))), (yt, .inl (cI, 7, .inl mq))] H := hP
                            have hD : va_D A [(h0, .inr (9, [.ref ys, .ref yk, .ref yo, .ref yt, .int mk0, .ref yfa, .ref yfe, .int mL, .int mS, .int mM, .ref yro, .ref yhe, .ref ygr, .int mF, .int mC, .int mY, .ref yta, .int (nI (mz)), .int (nI (mf)), .int (nI (mt)), .int mv, .int mw, .ref ywa, .ref ybi, .ref ysi, .ref ynu, .ref ymo])), (ybi, .inl (cI, 4, .inl bi)), (ysi, .inl (cI, 4, .inl sq)), (ynu, .inl (cJ, 160, .inr (.inl f_36))), (ymo, .inl (cJ, 40, .inr (.inl m8))), (yt, .inl (cI, 7, .inl mq))] := hD
                            refine lv_iinc (v := nI (i2 + 1)) (lv' := [(6, .int (nI (i2 + 1))), (0, .ref h0), (1, .int 3), (2, .int (nI (y_32))), (3, .int 3), (4, .int (nI (y_33))), (5, .int (nI (y_31)))]) hx hb dX9_copy_186 hl (k := 0) rfl (nI_1 (i2)) (by decide) rfl (fun ls hl => ?_)
                            refine lv_goto (tgt := 157) hx hb dX9_copy_189 (by decide) ?_
                            exact ih_157 (i2 + 1) f_36 _ _ _ (by omega) (by omega) (sp_mv2 hn8 ef_36) (hP.sub [0, 1, 2, 3, 4, 5] rfl) (hD.sub [0, 1, 2, 3, 4, 5] (by decide +kernel) rfl) hS (lv_sub hl [0, 1, 2, 3, 4, 5, 6] rfl)
                      · skip
                        have nc_34 : i < y_31 := xn_nle (a := y_31) (b := i) (by omega) (by omega) c_34
                        refine lv_aload_n hx hb dX9_copy_127 rfl (lv_at hl 1 rfl) ?_
                        refine xg hF kf_X9_53 hK hP 0 rfl rfl dX9_copy_128 ?_
                        refine lv_iload hx hb dX9_copy_131 (lv_at hl 0 rfl) ?_
                        refine lv_aload_n hx hb dX9_copy_133 rfl (lv_at hl 1 rfl) ?_
                        refine xg hF kf_X9_49 hK hP 0 rfl rfl dX9_copy_134 ?_
                        refine lv_bipush (v := 40) hx hb dX9_copy_137 (by decide) ?_
                        refine lv_iload_n hx hb dX9_copy_139 rfl (lv_at hl 2 rfl) ?_
                        refine lv_imul hx hb dX9_copy_140 ?_
                        refine xl_i (y := 120) (by decide) ?_
                        refine lv_iload_n hx hb dX9_copy_141 rfl (lv_at hl 3 rfl) ?_
                        refine lv_iadd hx hb dX9_copy_142 ?_
                        refine xl_i (y := nI (120 + y_32)) (nI_add 120 y_32) ?_
                        refine lv_iload hx hb dX9_copy_143 (lv_at hl 0 rfl) ?_
                        refine lv_iadd hx hb dX9_copy_145 ?_
                        refine xl_i (y := nI (120 + y_32 + i)) (nI_add (120 + y_32) i) ?_
                        refine va_lald hx hb hK hP 3 1 rfl rfl (vp_in_nI (show 120 + y_32 + i < 160 by omega) (by decide)) dX9_copy_146 ?_
                        refine xl_l (y := nb (120 + y_32 + i)) (congrArg nb (nI_clamp (show 120 + y_32 + i < 2 ^ 31 by omega))) ?_
                        refine va_last hx hb hK hP hD hS 4 1 rfl rfl (vp_in_nI (show i < 40 by omega) (by decide)) dX9_copy_147 (fun H locs hP hD hS => ?_)
                        rw [nI_clamp (show i < 2 ^ 31 by omega)] at hP hD
                        obtain ⟨f_37, ef_37⟩ : ∃ g, g = vp_updL m8 i (nb (120 + y_32 + i)) := ⟨_, rfl⟩
                        rw [← ef_37] at hP hD
                        have hP : va_P D vwCl [(h0, .inr (9, [.ref ys, .ref yk, .ref yo, .ref yt, .int mk0, .ref yfa, .ref yfe, .int mL, .int mS, .int mM, .ref yro, .ref yhe, .ref ygr, .int mF, .int mC, .int mY, .ref yta, .int (nI (mz)), .int (nI (mf)), .int (nI (mt)), .int mv, .int mw, .ref ywa, .ref ybi, .ref ysi, .ref ynu, .ref ymo])), (ybi, .inl (cI, 4, .inl bi)), (ysi, .inl (cI, 4, .inl sq)), (ynu, .inl (cJ, 160, .inr (.inl nb))), (ymo, .inl (cJ, 40, .inr (.inl f_37))), (yt, .inl (cI, 7, .inl mq))] H := hP
                        have hD : va_D A [(h0, .inr (9, [.ref ys, .ref yk, .ref yo, .ref yt, .int mk0, .ref yfa, .ref yfe, .int mL, .int mS, .int mM, .ref yro, .ref yhe, .ref ygr, .int mF, .int mC, .int mY, .ref yta, .int (nI (mz)), .int (nI (mf)), .int (nI (mt)), .int mv, .int mw, .ref ywa, .ref ybi, .ref ysi, .ref ynu, .ref ymo])), (ybi, .inl (cI, 4, .inl bi)), (ysi, .inl (cI, 4, .inl sq)), (ynu, .inl (cJ, 160, .inr (.inl nb))), (ymo, .inl (cJ, 40, .inr (.inl f_37))), (yt, .inl (cI, 7, .inl mq))] := hD
                        refine lv_iinc (v := nI (i + 1)) (lv' := [(6, .int (nI (i + 1))), (0, .ref h0), (1, .int 3), (2, .int (nI (y_32))), (3, .int 3), (4, .int (nI (y_33))), (5, .int (nI (y_31)))]) hx hb dX9_copy_148 hl (k := 0) rfl (nI_1 (i)) (by decide) rfl (fun ls hl => ?_)
                        refine lv_goto (tgt := 120) hx hb dX9_copy_151 (by decide) ?_
                        exact ih_120 (i + 1) f_37 _ _ _ (by omega) (by omega) (sp_mv1 hm8 ef_37) (hP.sub [0, 1, 2, 3, 4, 5] rfl) (hD.sub [0, 1, 2, 3, 4, 5] (by decide +kernel) rfl) hS (lv_sub hl [0, 1, 2, 3, 4, 5, 6] rfl)
                  · skip
                    refine lv_aload_n hx hb dX9_copy_110 rfl (lv_at hl 0 rfl) ?_
                    refine lv_ldc (v := (-1000000001)) hx hb hown (hu _ uw648) dX9_copy_111 ?_
                    refine xc_Vi (wr := [(ybi, .inl (cI, 4, .inl bi)), (ysi, .inl (cI, 4, .inl sq)), (ynu, .inl (cJ, 160, .inr (.inl nb))), (ymo, .inl (cJ, 40, .inr (.inl mv9)))]) hF (c_X9_finds_B l D cI cJ cZ cS ta sa sv s.heap.size h0 ys yk yo yt mk0 yfa yfe mL mS mM yro yhe ygr mF mC mY yta mz mf mt mv mw ywa ybi ysi ynu ymo mq ) kv_X9_70 ⟨rfl, rfl, Nat.le_of_ble_eq_true rfl, Nat.le_of_ble_eq_true rfl⟩ ⟨Nat.le_of_ble_eq_true rfl, Nat.le_of_ble_eq_true rfl⟩ hK hN hZ hP hD hS hA [0, 5] [1, 2, 3, 4] rfl rfl rfl rfl (by decide) 0 rfl rfl rfl rfl hl.1 rfl (Nat.le_of_ble_eq_true rfl) dX9_copy_113 (fun r_38 u_r_38 H locs hw_r_38 hP hD hS => ?_)
                    obtain ⟨mq2_39, rfl⟩ : ∃ z, z = u_r_38 := ⟨_, rfl⟩
                    try dsimp only at hw_r_38
                    have hP : va_P D vwCl [(ybi, .inl (cI, 4, .inl bi)), (ysi, .inl (cI, 4, .inl sq)), (ynu, .inl (cJ, 160, .inr (.inl nb))), (ymo, .inl (cJ, 40, .inr (.inl mv9))), (h0, .inr (9, [.ref ys, .ref yk, .ref yo, .ref yt, .int mk0, .ref yfa, .ref yfe, .int mL, .int mS, .int mM, .ref yro, .ref yhe, .ref ygr, .int mF, .int mC, .int mY, .ref yta, .int (nI (mz)), .int (nI (mf)), .int (nI (mt)), .int mv, .int mw, .ref ywa, .ref ybi, .ref ysi, .ref ynu, .ref ymo])), (yt, .inl (cI, 7, .inl mq2_39))] H := hP
                    have hD : va_D A [(ybi, .inl (cI, 4, .inl bi)), (ysi, .inl (cI, 4, .inl sq)), (ynu, .inl (cJ, 160, .inr (.inl nb))), (ymo, .inl (cJ, 40, .inr (.inl mv9))), (h0, .inr (9, [.ref ys, .ref yk, .ref yo, .ref yt, .int mk0, .ref yfa, .ref yfe, .int mL, .int mS, .int mM, .ref yro, .ref yhe, .ref ygr, .int mF, .int mC, .int mY, .ref yta, .int (nI (mz)), .int (nI (mf)), .int (nI (mt)), .int mv, .int mw, .ref ywa, .ref ybi, .ref ysi, .ref ynu, .ref ymo])), (yt, .inl (cI, 7, .inl mq2_39))] := hD
                    subst hw_r_38
                    exact W.iret (v := (-1000000001)) hx hb hr (fun t ht hW => ⟨⟨(-1000000001), (nb, mv9, mq2_39), rfl, ⟨(sp_cr3 c_14 c_14 rfl (fun q => (sp_s5 hzt c_19 c_22 ex_29 (xlt c_30)) q.2)), (fun j => sp_c0 (fun h => (sp_s5 hzt c_19 c_22 ex_29 (xlt c_30)) h.2.2.2.2)), (fun _ _ => rfl)⟩, by rw [ht]; exact hP.sub [4, 0, 1, 2, 3, 5] rfl, hD.sub [4, 0, 1, 2, 3, 5] (by decide +kernel) rfl⟩, hS.F ht⟩) hS.2.2 dX9_copy_116 hlk
        · skip
          refine lv_aload_n hx hb dX9_copy_39 rfl (lv_at hl 0 rfl) ?_
          refine lv_ldcw (v := (-1000000006)) hx hb hown (hu _ uw910) dX9_copy_40 ?_
          refine xc_Vi (wr := [(ybi, .inl (cI, 4, .inl bi)), (ysi, .inl (cI, 4, .inl sq)), (ynu, .inl (cJ, 160, .inr (.inl nb))), (ymo, .inl (cJ, 40, .inr (.inl mv9)))]) hF (c_X9_finds_M l D cI cJ cZ cS ta sa sv s.heap.size h0 ys yk yo yt mk0 yfa yfe mL mS mM yro yhe ygr mF mC mY yta mz mf mt mv mw ywa ybi ysi ynu ymo mq ) kv_X9_70 ⟨rfl, rfl, Nat.le_of_ble_eq_true rfl, Nat.le_of_ble_eq_true rfl⟩ ⟨Nat.le_of_ble_eq_true rfl, Nat.le_of_ble_eq_true rfl⟩ hK hN hZ hP hD hS hA [0, 5] [1, 2, 3, 4] rfl rfl rfl rfl (by decide) 0 rfl rfl rfl rfl hl.1 rfl (Nat.le_of_ble_eq_true rfl) dX9_copy_43 (fun r_40 u_r_40 H locs hw_r_40 hP hD hS => ?_)
          obtain ⟨mq2_41, rfl⟩ : ∃ z, z = u_r_40 := ⟨_, rfl⟩
          try dsimp only at hw_r_40
          have hP : va_P D vwCl [(ybi, .inl (cI, 4, .inl bi)), (ysi, .inl (cI, 4, .inl sq)), (ynu, .inl (cJ, 160, .inr (.inl nb))), (ymo, .inl (cJ, 40, .inr (.inl mv9))), (h0, .inr (9, [.ref ys, .ref yk, .ref yo, .ref yt, .int mk0, .ref yfa, .ref yfe, .int mL, .int mS, .int mM, .ref yro, .ref yhe, .ref ygr, .int mF, .int mC, .int mY, .ref yta, .int (nI (mz)), .int (nI (mf)), .int (nI (mt)), .int mv, .int mw, .ref ywa, .ref ybi, .ref ysi, .ref ynu, .ref ymo])), (yt, .inl (cI, 7, .inl mq2_41))] H := hP
          have hD : va_D A [(ybi, .inl (cI, 4, .inl bi)), (ysi, .inl (cI, 4, .inl sq)), (ynu, .inl (cJ, 160, .inr (.inl nb))), (ymo, .inl (cJ, 40, .inr (.inl mv9))), (h0, .inr (9, [.ref ys, .ref yk, .ref yo, .ref yt, .int mk0, .ref yfa, .ref yfe, .int mL, .int mS, .int mM, .ref yro, .ref yhe, .ref ygr, .int mF, .int mC, .int mY, .ref yta, .int (nI (mz)), .int (nI (mf)), .int (nI (mt)), .int mv, .int mw, .ref ywa, .ref ybi, .ref ysi, .ref ynu, .ref ymo])), (yt, .inl (cI, 7, .inl mq2_41))] := hD
          subst hw_r_40
          exact W.iret (v := (-1000000006)) hx hb hr (fun t ht hW => ⟨⟨(-1000000006), (nb, mv9, mq2_41), rfl, ⟨(sp_cr1 (Or.inl c_14)), (fun j => sp_c0 (fun h => h.1 c_14)), (fun _ _ => rfl)⟩, by rw [ht]; exact hP.sub [4, 0, 1, 2, 3, 5] rfl, hD.sub [4, 0, 1, 2, 3, 5] (by decide +kernel) rfl⟩, hS.F ht⟩) hS.2.2 dX9_copy_46 hlk
    · exact absurd h_9 (by decide)
  · exact absurd h_4 (by decide)
