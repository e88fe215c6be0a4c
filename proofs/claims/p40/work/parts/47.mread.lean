def LRX9_read_14 : List UInt8 := []
def LBX9_read_13 : List UInt8 := [0x1d, 0x60, 0xac]
def LRX9_read_13 : List UInt8 := LBX9_read_13 ++ LRX9_read_14
def LBX9_read_12 : List UInt8 := [0x1d, 0x60, 0x04, 0x64, 0x2f, 0x88, 0x60, 0x2e, 0xa0, 0x00, 0x07, 0x03, 0xa7, 0x00, 0x06, 0x04]
def LRX9_read_12 : List UInt8 := LBX9_read_12 ++ LRX9_read_13
def LBX9_read_11 : List UInt8 := [0x31, 0x10, 0x28, 0x1b, 0x68, 0x2f, 0x88, 0x68, 0x2a, 0xb4, 0x00, 0x31, 0x10, 0x28, 0x1b, 0x68]
def LRX9_read_11 : List UInt8 := LBX9_read_11 ++ LRX9_read_12
def LBX9_read_10 : List UInt8 := [0xa2, 0x00, 0x05, 0x04, 0xac, 0x15, 0x04, 0x2a, 0xb4, 0x00, 0x16, 0x10, 0x0a, 0x2a, 0xb4, 0x00]
def LRX9_read_10 : List UInt8 := LBX9_read_10 ++ LRX9_read_11
def LBX9_read_9 : List UInt8 := [0x06, 0x88, 0xb6, 0x00, 0x64, 0x60, 0x36, 0x04, 0x84, 0x05, 0x01, 0xa7, 0xff, 0x94, 0x1d, 0x05]
def LRX9_read_9 : List UInt8 := LBX9_read_9 ++ LRX9_read_10
def LBX9_read_8 : List UInt8 := [0x00, 0x61, 0x9a, 0x00, 0x08, 0x15, 0x05, 0x04, 0x60, 0xac, 0x15, 0x04, 0x2a, 0x15, 0x08, 0x16]
def LRX9_read_8 : List UInt8 := LBX9_read_8 ++ LRX9_read_9
def LBX9_read_7 : List UInt8 := [0x16, 0x06, 0x15, 0x08, 0x85, 0x94, 0x99, 0x00, 0x0f, 0x2a, 0x15, 0x08, 0x16, 0x06, 0x88, 0xb6]
def LRX9_read_7 : List UInt8 := LBX9_read_7 ++ LRX9_read_8
def LBX9_read_6 : List UInt8 := [0xb4, 0x00, 0x31, 0x10, 0x28, 0x1b, 0x68, 0x15, 0x05, 0x60, 0x04, 0x64, 0x2f, 0x88, 0x36, 0x08]
def LRX9_read_6 : List UInt8 := LBX9_read_6 ++ LRX9_read_7
def LBX9_read_5 : List UInt8 := [0x00, 0x39, 0x9a, 0x00, 0x08, 0x15, 0x05, 0x04, 0x60, 0xac, 0x15, 0x05, 0x9e, 0x00, 0x3c, 0x2a]
def LRX9_read_5 : List UInt8 := LBX9_read_5 ++ LRX9_read_6
def LBX9_read_4 : List UInt8 := [0x2f, 0x37, 0x06, 0x16, 0x06, 0x09, 0x2a, 0xb4, 0x00, 0x07, 0x03, 0x2e, 0x04, 0x64, 0x85, 0xb8]
def LRX9_read_4 : List UInt8 := LBX9_read_4 ++ LRX9_read_5
def LBX9_read_3 : List UInt8 := [0x05, 0x1d, 0xa2, 0x00, 0x6c, 0x2a, 0xb4, 0x00, 0x31, 0x10, 0x28, 0x1b, 0x68, 0x15, 0x05, 0x60]
def LRX9_read_3 : List UInt8 := LBX9_read_3 ++ LRX9_read_4
def LBX9_read_2 : List UInt8 := [0x46, 0xac, 0x2a, 0xb4, 0x00, 0x2e, 0x1b, 0x2e, 0x3e, 0x03, 0x36, 0x04, 0x03, 0x36, 0x05, 0x15]
def LRX9_read_2 : List UInt8 := LBX9_read_2 ++ LRX9_read_3
def LBX9_read_1 : List UInt8 := [0x2a, 0xb6, 0x00, 0x71, 0x2a, 0xb4, 0x00, 0x6d, 0x99, 0x00, 0x0a, 0x2a, 0x12, 0x74, 0xb6, 0x00]
def LRX9_read_1 : List UInt8 := LBX9_read_1 ++ LRX9_read_2
def LBX9_read_0 : List UInt8 := [0x2a, 0x1b, 0xb6, 0x01, 0x36, 0x3d, 0x1c, 0x99, 0x00, 0x09, 0x2a, 0x1c, 0xb6, 0x00, 0x46, 0xac]
def LRX9_read_0 : List UInt8 := LBX9_read_0 ++ LRX9_read_1
set_option maxRecDepth 100000 in
theorem LBX9_read_eq : cX9_read.data.toList = LRX9_read_0 := by decide +kernel
theorem LBX9_readr_0 (k : Nat) : cX9_read.data.toList[0 + k]? = LRX9_read_0[k]? := by rw [LBX9_read_eq, Nat.zero_add]
theorem LBX9_readr_1 (k : Nat) : cX9_read.data.toList[16 + k]? = LRX9_read_1[k]? := by
  have h := LBX9_readr_0 (16 + k)
  rw [show 0 + (16 + k) = 16 + k by omega] at h
  rw [h]
  exact (List.getElem?_append_right (l₁ := LBX9_read_0) (l₂ := LRX9_read_1) (show 16 ≤ 16 + k by omega)).trans (congrArg (fun i => LRX9_read_1[i]?) (show 16 + k - 16 = k by omega))
theorem LBX9_readr_2 (k : Nat) : cX9_read.data.toList[32 + k]? = LRX9_read_2[k]? := by
  have h := LBX9_readr_1 (16 + k)
  rw [show 16 + (16 + k) = 32 + k by omega] at h
  rw [h]
  exact (List.getElem?_append_right (l₁ := LBX9_read_1) (l₂ := LRX9_read_2) (show 16 ≤ 16 + k by omega)).trans (congrArg (fun i => LRX9_read_2[i]?) (show 16 + k - 16 = k by omega))
theorem LBX9_readr_3 (k : Nat) : cX9_read.data.toList[48 + k]? = LRX9_read_3[k]? := by
  have h := LBX9_readr_2 (16 + k)
  rw [show 32 + (16 + k) = 48 + k by omega] at h
  rw [h]
  exact (List.getElem?_append_right (l₁ := LBX9_read_2) (l₂ := LRX9_read_3) (show 16 ≤ 16 + k by omega)).trans (congrArg (fun i => LRX9_read_3[i]?) (show 16 + k - 16 = k by omega))
theorem LBX9_readr_4 (k : Nat) : cX9_read.data.toList[64 + k]? = LRX9_read_4[k]? := by
  have h := LBX9_readr_3 (16 + k)
  rw [show 48 + (16 + k) = 64 + k by omega] at h
  rw [h]
  exact (List.getElem?_append_right (l₁ := LBX9_read_3) (l₂ := LRX9_read_4) (show 16 ≤ 16 + k by omega)).trans (congrArg (fun i => LRX9_read_4[i]?) (show 16 + k - 16 = k by omega))
theorem LBX9_readr_5 (k : Nat) : cX9_read.data.toList[80 + k]? = LRX9_read_5[k]? := by
  have h := LBX9_readr_4 (16 + k)
  rw [show 64 + (16 + k) = 80 + k by omega] at h
  rw [h]
  exact (List.getElem?_append_right (l₁ := LBX9_read_4) (l₂ := LRX9_read_5) (show 16 ≤ 16 + k by omega)).trans (congrArg (fun i => LRX9_read_5[i]?) (show 16 + k - 16 = k by omega))
theorem LBX9_readr_6 (k : Nat) : cX9_read.data.toList[96 + k]? = LRX9_read_6[k]? := by
  have h := LBX9_readr_5 (16 + k)
  rw [show 80 + (16 + k) = 96 + k by omega] at h
  rw [h]
  exact (List.getElem?_append_right (l₁ := LBX9_read_5) (l₂ := LRX9_read_6) (show 16 ≤ 16 + k by omega)).trans (congrArg (fun i => LRX9_read_6[i]?) (show 16 + k - 16 = k by omega))
theorem LBX9_readr_7 (k : Nat) : cX9_read.data.toList[112 + k]? = LRX9_read_7[k]? := by
  have h := LBX9_readr_6 (16 + k)
  rw [show 96 + (16 + k) = 112 + k by omega] at h
  rw [h]
  exact (List.getElem?_append_right (l₁ := LBX9_read_6) (l₂ := LRX9_read_7) (show 16 ≤ 16 + k by omega)).trans (congrArg (fun i => LRX9_read_7[i]?) (show 16 + k - 16 = k by omega))
theorem LBX9_readr_8 (k : Nat) : cX9_read.data.toList[128 + k]? = LRX9_read_8[k]? := by
  have h := LBX9_readr_7 (16 + k)
  rw [show 112 + (16 + k) = 128 + k by omega] at h
  rw [h]
  exact (List.getElem?_append_right (l₁ := LBX9_read_7) (l₂ := LRX9_read_8) (show 16 ≤ 16 + k by omega)).trans (congrArg (fun i => LRX9_read_8[i]?) (show 16 + k - 16 = k by omega))
theorem LBX9_readr_9 (k : Nat) : cX9_read.data.toList[144 + k]? = LRX9_read_9[k]? := by
  have h := LBX9_readr_8 (16 + k)
  rw [show 128 + (16 + k) = 144 + k by omega] at h
  rw [h]
  exact (List.getElem?_append_right (l₁ := LBX9_read_8) (l₂ := LRX9_read_9) (show 16 ≤ 16 + k by omega)).trans (congrArg (fun i => LRX9_read_9[i]?) (show 16 + k - 16 = k by omega))
theorem LBX9_readr_10 (k : Nat) : cX9_read.data.toList[160 + k]? = LRX9_read_10[k]? := by
  have h := LBX9_readr_9 (16 + k)
  rw [show 144 + (16 + k) = 160 + k by omega] at h
  rw [h]
  exact (List.getElem?_append_right (l₁ := LBX9_read_9) (l₂ := LRX9_read_10) (show 16 ≤ 16 + k by omega)).trans (congrArg (fun i => LRX9_read_10[i]?) (show 16 + k - 16 = k by omega))
theorem LBX9_readr_11 (k : Nat) : cX9_read.data.toList[176 + k]? = LRX9_read_11[k]? := by
  have h := LBX9_readr_10 (16 + k)
  rw [show 160 + (16 + k) = 176 + k by omega] at h
  rw [h]
  exact (List.getElem?_append_right (l₁ := LBX9_read_10) (l₂ := LRX9_read_11) (show 16 ≤ 16 + k by omega)).trans (congrArg (fun i => LRX9_read_11[i]?) (show 16 + k - 16 = k by omega))
theorem LBX9_readr_12 (k : Nat) : cX9_read.data.toList[192 + k]? = LRX9_read_12[k]? := by
  have h := LBX9_readr_11 (16 + k)
  rw [show 176 + (16 + k) = 192 + k by omega] at h
  rw [h]
  exact (List.getElem?_append_right (l₁ := LBX9_read_11) (l₂ := LRX9_read_12) (show 16 ≤ 16 + k by omega)).trans (congrArg (fun i => LRX9_read_12[i]?) (show 16 + k - 16 = k by omega))
theorem LBX9_readr_13 (k : Nat) : cX9_read.data.toList[208 + k]? = LRX9_read_13[k]? := by
  have h := LBX9_readr_12 (16 + k)
  rw [show 192 + (16 + k) = 208 + k by omega] at h
  rw [h]
  exact (List.getElem?_append_right (l₁ := LBX9_read_12) (l₂ := LRX9_read_13) (show 16 ≤ 16 + k by omega)).trans (congrArg (fun i => LRX9_read_13[i]?) (show 16 + k - 16 = k by omega))
theorem dX9_read_0 : decode cX9_read 0 = .ok (.aload_n 0, 1) := dk_42_ (show cX9_read.data.toList[0]? = some 0x2a from (LBX9_readr_0 0).trans (by decide +kernel))
theorem dX9_read_1 : decode cX9_read 1 = .ok (.iload_n 1, 1) := dk_27_ (show cX9_read.data.toList[1]? = some 0x1b from (LBX9_readr_0 1).trans (by decide +kernel))
theorem dX9_read_2 : decode cX9_read 2 = .ok (.invokevirtual 310, 3) := dk_182_ (show cX9_read.data.toList[2]? = some 0xb6 from (LBX9_readr_0 2).trans (by decide +kernel)) (show cX9_read.data.toList[3]? = some 0x01 from (LBX9_readr_0 3).trans (by decide +kernel)) (show cX9_read.data.toList[4]? = some 0x36 from (LBX9_readr_0 4).trans (by decide +kernel)) (by decide)
theorem dX9_read_5 : decode cX9_read 5 = .ok (.istore_n 2, 1) := dk_61_ (show cX9_read.data.toList[5]? = some 0x3d from (LBX9_readr_0 5).trans (by decide +kernel))
theorem dX9_read_6 : decode cX9_read 6 = .ok (.iload_n 2, 1) := dk_28_ (show cX9_read.data.toList[6]? = some 0x1c from (LBX9_readr_0 6).trans (by decide +kernel))
theorem dX9_read_7 : decode cX9_read 7 = .ok (.ifCond .eq 9, 3) := dk_153_ (show cX9_read.data.toList[7]? = some 0x99 from (LBX9_readr_0 7).trans (by decide +kernel)) (show cX9_read.data.toList[8]? = some 0x00 from (LBX9_readr_0 8).trans (by decide +kernel)) (show cX9_read.data.toList[9]? = some 0x09 from (LBX9_readr_0 9).trans (by decide +kernel)) (by decide)
theorem dX9_read_10 : decode cX9_read 10 = .ok (.aload_n 0, 1) := dk_42_ (show cX9_read.data.toList[10]? = some 0x2a from (LBX9_readr_0 10).trans (by decide +kernel))
theorem dX9_read_11 : decode cX9_read 11 = .ok (.iload_n 2, 1) := dk_28_ (show cX9_read.data.toList[11]? = some 0x1c from (LBX9_readr_0 11).trans (by decide +kernel))
theorem dX9_read_12 : decode cX9_read 12 = .ok (.invokevirtual 70, 3) := dk_182_ (show cX9_read.data.toList[12]? = some 0xb6 from (LBX9_readr_0 12).trans (by decide +kernel)) (show cX9_read.data.toList[13]? = some 0x00 from (LBX9_readr_0 13).trans (by decide +kernel)) (show cX9_read.data.toList[14]? = some 0x46 from (LBX9_readr_0 14).trans (by decide +kernel)) (by decide)
theorem dX9_read_15 : decode cX9_read 15 = .ok (.ireturn, 1) := dk_172_ (show cX9_read.data.toList[15]? = some 0xac from (LBX9_readr_0 15).trans (by decide +kernel))
theorem dX9_read_16 : decode cX9_read 16 = .ok (.aload_n 0, 1) := dk_42_ (show cX9_read.data.toList[16]? = some 0x2a from (LBX9_readr_1 0).trans (by decide +kernel))
theorem dX9_read_17 : decode cX9_read 17 = .ok (.invokevirtual 113, 3) := dk_182_ (show cX9_read.data.toList[17]? = some 0xb6 from (LBX9_readr_1 1).trans (by decide +kernel)) (show cX9_read.data.toList[18]? = some 0x00 from (LBX9_readr_1 2).trans (by decide +kernel)) (show cX9_read.data.toList[19]? = some 0x71 from (LBX9_readr_1 3).trans (by decide +kernel)) (by decide)
theorem dX9_read_20 : decode cX9_read 20 = .ok (.aload_n 0, 1) := dk_42_ (show cX9_read.data.toList[20]? = some 0x2a from (LBX9_readr_1 4).trans (by decide +kernel))
theorem dX9_read_21 : decode cX9_read 21 = .ok (.getfield 109, 3) := dk_180_ (show cX9_read.data.toList[21]? = some 0xb4 from (LBX9_readr_1 5).trans (by decide +kernel)) (show cX9_read.data.toList[22]? = some 0x00 from (LBX9_readr_1 6).trans (by decide +kernel)) (show cX9_read.data.toList[23]? = some 0x6d from (LBX9_readr_1 7).trans (by decide +kernel)) (by decide)
theorem dX9_read_24 : decode cX9_read 24 = .ok (.ifCond .eq 10, 3) := dk_153_ (show cX9_read.data.toList[24]? = some 0x99 from (LBX9_readr_1 8).trans (by decide +kernel)) (show cX9_read.data.toList[25]? = some 0x00 from (LBX9_readr_1 9).trans (by decide +kernel)) (show cX9_read.data.toList[26]? = some 0x0a from (LBX9_readr_1 10).trans (by decide +kernel)) (by decide)
theorem dX9_read_27 : decode cX9_read 27 = .ok (.aload_n 0, 1) := dk_42_ (show cX9_read.data.toList[27]? = some 0x2a from (LBX9_readr_1 11).trans (by decide +kernel))
theorem dX9_read_28 : decode cX9_read 28 = .ok (.ldc 116, 2) := dk_18_ (show cX9_read.data.toList[28]? = some 0x12 from (LBX9_readr_1 12).trans (by decide +kernel)) (show cX9_read.data.toList[29]? = some 0x74 from (LBX9_readr_1 13).trans (by decide +kernel)) (by decide)
theorem dX9_read_30 : decode cX9_read 30 = .ok (.invokevirtual 70, 3) := dk_182_ (show cX9_read.data.toList[30]? = some 0xb6 from (LBX9_readr_1 14).trans (by decide +kernel)) (show cX9_read.data.toList[31]? = some 0x00 from (LBX9_readr_1 15).trans (by decide +kernel)) (show cX9_read.data.toList[32]? = some 0x46 from (LBX9_readr_2 0).trans (by decide +kernel)) (by decide)
theorem dX9_read_33 : decode cX9_read 33 = .ok (.ireturn, 1) := dk_172_ (show cX9_read.data.toList[33]? = some 0xac from (LBX9_readr_2 1).trans (by decide +kernel))
theorem dX9_read_34 : decode cX9_read 34 = .ok (.aload_n 0, 1) := dk_42_ (show cX9_read.data.toList[34]? = some 0x2a from (LBX9_readr_2 2).trans (by decide +kernel))
theorem dX9_read_35 : decode cX9_read 35 = .ok (.getfield 46, 3) := dk_180_ (show cX9_read.data.toList[35]? = some 0xb4 from (LBX9_readr_2 3).trans (by decide +kernel)) (show cX9_read.data.toList[36]? = some 0x00 from (LBX9_readr_2 4).trans (by decide +kernel)) (show cX9_read.data.toList[37]? = some 0x2e from (LBX9_readr_2 5).trans (by decide +kernel)) (by decide)
theorem dX9_read_38 : decode cX9_read 38 = .ok (.iload_n 1, 1) := dk_27_ (show cX9_read.data.toList[38]? = some 0x1b from (LBX9_readr_2 6).trans (by decide +kernel))
theorem dX9_read_39 : decode cX9_read 39 = .ok (.iaload, 1) := dk_46_ (show cX9_read.data.toList[39]? = some 0x2e from (LBX9_readr_2 7).trans (by decide +kernel))
theorem dX9_read_40 : decode cX9_read 40 = .ok (.istore_n 3, 1) := dk_62_ (show cX9_read.data.toList[40]? = some 0x3e from (LBX9_readr_2 8).trans (by decide +kernel))
theorem dX9_read_41 : decode cX9_read 41 = .ok (.iconst 0, 1) := dk_3_ (show cX9_read.data.toList[41]? = some 0x03 from (LBX9_readr_2 9).trans (by decide +kernel))
theorem dX9_read_42 : decode cX9_read 42 = .ok (.istore 4, 2) := dk_54_ (show cX9_read.data.toList[42]? = some 0x36 from (LBX9_readr_2 10).trans (by decide +kernel)) (show cX9_read.data.toList[43]? = some 0x04 from (LBX9_readr_2 11).trans (by decide +kernel)) (by decide)
theorem dX9_read_44 : decode cX9_read 44 = .ok (.iconst 0, 1) := dk_3_ (show cX9_read.data.toList[44]? = some 0x03 from (LBX9_readr_2 12).trans (by decide +kernel))
theorem dX9_read_45 : decode cX9_read 45 = .ok (.istore 5, 2) := dk_54_ (show cX9_read.data.toList[45]? = some 0x36 from (LBX9_readr_2 13).trans (by decide +kernel)) (show cX9_read.data.toList[46]? = some 0x05 from (LBX9_readr_2 14).trans (by decide +kernel)) (by decide)
theorem dX9_read_47 : decode cX9_read 47 = .ok (.iload 5, 2) := dk_21_ (show cX9_read.data.toList[47]? = some 0x15 from (LBX9_readr_2 15).trans (by decide +kernel)) (show cX9_read.data.toList[48]? = some 0x05 from (LBX9_readr_3 0).trans (by decide +kernel)) (by decide)
theorem dX9_read_49 : decode cX9_read 49 = .ok (.iload_n 3, 1) := dk_29_ (show cX9_read.data.toList[49]? = some 0x1d from (LBX9_readr_3 1).trans (by decide +kernel))
theorem dX9_read_50 : decode cX9_read 50 = .ok (.if_icmp .ge 108, 3) := dk_162_ (show cX9_read.data.toList[50]? = some 0xa2 from (LBX9_readr_3 2).trans (by decide +kernel)) (show cX9_read.data.toList[51]? = some 0x00 from (LBX9_readr_3 3).trans (by decide +kernel)) (show cX9_read.data.toList[52]? = some 0x6c from (LBX9_readr_3 4).trans (by decide +kernel)) (by decide)
theorem dX9_read_53 : decode cX9_read 53 = .ok (.aload_n 0, 1) := dk_42_ (show cX9_read.data.toList[53]? = some 0x2a from (LBX9_readr_3 5).trans (by decide +kernel))
theorem dX9_read_54 : decode cX9_read 54 = .ok (.getfield 49, 3) := dk_180_ (show cX9_read.data.toList[54]? = some 0xb4 from (LBX9_readr_3 6).trans (by decide +kernel)) (show cX9_read.data.toList[55]? = some 0x00 from (LBX9_readr_3 7).trans (by decide +kernel)) (show cX9_read.data.toList[56]? = some 0x31 from (LBX9_readr_3 8).trans (by decide +kernel)) (by decide)
theorem dX9_read_57 : decode cX9_read 57 = .ok (.bipush 40, 2) := dk_16_ (show cX9_read.data.toList[57]? = some 0x10 from (LBX9_readr_3 9).trans (by decide +kernel)) (show cX9_read.data.toList[58]? = some 0x28 from (LBX9_readr_3 10).trans (by decide +kernel)) (by decide)
theorem dX9_read_59 : decode cX9_read 59 = .ok (.iload_n 1, 1) := dk_27_ (show cX9_read.data.toList[59]? = some 0x1b from (LBX9_readr_3 11).trans (by decide +kernel))
theorem dX9_read_60 : decode cX9_read 60 = .ok (.imul, 1) := dk_104_ (show cX9_read.data.toList[60]? = some 0x68 from (LBX9_readr_3 12).trans (by decide +kernel))
theorem dX9_read_61 : decode cX9_read 61 = .ok (.iload 5, 2) := dk_21_ (show cX9_read.data.toList[61]? = some 0x15 from (LBX9_readr_3 13).trans (by decide +kernel)) (show cX9_read.data.toList[62]? = some 0x05 from (LBX9_readr_3 14).trans (by decide +kernel)) (by decide)
theorem dX9_read_63 : decode cX9_read 63 = .ok (.iadd, 1) := dk_96_ (show cX9_read.data.toList[63]? = some 0x60 from (LBX9_readr_3 15).trans (by decide +kernel))
theorem dX9_read_64 : decode cX9_read 64 = .ok (.laload, 1) := dk_47_ (show cX9_read.data.toList[64]? = some 0x2f from (LBX9_readr_4 0).trans (by decide +kernel))
theorem dX9_read_65 : decode cX9_read 65 = .ok (.lstore 6, 2) := dk_55_ (show cX9_read.data.toList[65]? = some 0x37 from (LBX9_readr_4 1).trans (by decide +kernel)) (show cX9_read.data.toList[66]? = some 0x06 from (LBX9_readr_4 2).trans (by decide +kernel)) (by decide)
theorem dX9_read_67 : decode cX9_read 67 = .ok (.lload 6, 2) := dk_22_ (show cX9_read.data.toList[67]? = some 0x16 from (LBX9_readr_4 3).trans (by decide +kernel)) (show cX9_read.data.toList[68]? = some 0x06 from (LBX9_readr_4 4).trans (by decide +kernel)) (by decide)
theorem dX9_read_69 : decode cX9_read 69 = .ok (.lconst 0, 1) := dk_9_ (show cX9_read.data.toList[69]? = some 0x09 from (LBX9_readr_4 5).trans (by decide +kernel))
theorem dX9_read_70 : decode cX9_read 70 = .ok (.aload_n 0, 1) := dk_42_ (show cX9_read.data.toList[70]? = some 0x2a from (LBX9_readr_4 6).trans (by decide +kernel))
theorem dX9_read_71 : decode cX9_read 71 = .ok (.getfield 7, 3) := dk_180_ (show cX9_read.data.toList[71]? = some 0xb4 from (LBX9_readr_4 7).trans (by decide +kernel)) (show cX9_read.data.toList[72]? = some 0x00 from (LBX9_readr_4 8).trans (by decide +kernel)) (show cX9_read.data.toList[73]? = some 0x07 from (LBX9_readr_4 9).trans (by decide +kernel)) (by decide)
theorem dX9_read_74 : decode cX9_read 74 = .ok (.iconst 0, 1) := dk_3_ (show cX9_read.data.toList[74]? = some 0x03 from (LBX9_readr_4 10).trans (by decide +kernel))
theorem dX9_read_75 : decode cX9_read 75 = .ok (.iaload, 1) := dk_46_ (show cX9_read.data.toList[75]? = some 0x2e from (LBX9_readr_4 11).trans (by decide +kernel))
theorem dX9_read_76 : decode cX9_read 76 = .ok (.iconst 1, 1) := dk_4_ (show cX9_read.data.toList[76]? = some 0x04 from (LBX9_readr_4 12).trans (by decide +kernel))
theorem dX9_read_77 : decode cX9_read 77 = .ok (.isub, 1) := dk_100_ (show cX9_read.data.toList[77]? = some 0x64 from (LBX9_readr_4 13).trans (by decide +kernel))
theorem dX9_read_78 : decode cX9_read 78 = .ok (.i2l, 1) := dk_133_ (show cX9_read.data.toList[78]? = some 0x85 from (LBX9_readr_4 14).trans (by decide +kernel))
theorem dX9_read_79 : decode cX9_read 79 = .ok (.invokestatic 57, 3) := dk_184_ (show cX9_read.data.toList[79]? = some 0xb8 from (LBX9_readr_4 15).trans (by decide +kernel)) (show cX9_read.data.toList[80]? = some 0x00 from (LBX9_readr_5 0).trans (by decide +kernel)) (show cX9_read.data.toList[81]? = some 0x39 from (LBX9_readr_5 1).trans (by decide +kernel)) (by decide)
theorem dX9_read_82 : decode cX9_read 82 = .ok (.ifCond .ne 8, 3) := dk_154_ (show cX9_read.data.toList[82]? = some 0x9a from (LBX9_readr_5 2).trans (by decide +kernel)) (show cX9_read.data.toList[83]? = some 0x00 from (LBX9_readr_5 3).trans (by decide +kernel)) (show cX9_read.data.toList[84]? = some 0x08 from (LBX9_readr_5 4).trans (by decide +kernel)) (by decide)
theorem dX9_read_85 : decode cX9_read 85 = .ok (.iload 5, 2) := dk_21_ (show cX9_read.data.toList[85]? = some 0x15 from (LBX9_readr_5 5).trans (by decide +kernel)) (show cX9_read.data.toList[86]? = some 0x05 from (LBX9_readr_5 6).trans (by decide +kernel)) (by decide)
theorem dX9_read_87 : decode cX9_read 87 = .ok (.iconst 1, 1) := dk_4_ (show cX9_read.data.toList[87]? = some 0x04 from (LBX9_readr_5 7).trans (by decide +kernel))
theorem dX9_read_88 : decode cX9_read 88 = .ok (.iadd, 1) := dk_96_ (show cX9_read.data.toList[88]? = some 0x60 from (LBX9_readr_5 8).trans (by decide +kernel))
theorem dX9_read_89 : decode cX9_read 89 = .ok (.ireturn, 1) := dk_172_ (show cX9_read.data.toList[89]? = some 0xac from (LBX9_readr_5 9).trans (by decide +kernel))
theorem dX9_read_90 : decode cX9_read 90 = .ok (.iload 5, 2) := dk_21_ (show cX9_read.data.toList[90]? = some 0x15 from (LBX9_readr_5 10).trans (by decide +kernel)) (show cX9_read.data.toList[91]? = some 0x05 from (LBX9_readr_5 11).trans (by decide +kernel)) (by decide)
theorem dX9_read_92 : decode cX9_read 92 = .ok (.ifCond .le 60, 3) := dk_158_ (show cX9_read.data.toList[92]? = some 0x9e from (LBX9_readr_5 12).trans (by decide +kernel)) (show cX9_read.data.toList[93]? = some 0x00 from (LBX9_readr_5 13).trans (by decide +kernel)) (show cX9_read.data.toList[94]? = some 0x3c from (LBX9_readr_5 14).trans (by decide +kernel)) (by decide)
theorem dX9_read_95 : decode cX9_read 95 = .ok (.aload_n 0, 1) := dk_42_ (show cX9_read.data.toList[95]? = some 0x2a from (LBX9_readr_5 15).trans (by decide +kernel))
theorem dX9_read_96 : decode cX9_read 96 = .ok (.getfield 49, 3) := dk_180_ (show cX9_read.data.toList[96]? = some 0xb4 from (LBX9_readr_6 0).trans (by decide +kernel)) (show cX9_read.data.toList[97]? = some 0x00 from (LBX9_readr_6 1).trans (by decide +kernel)) (show cX9_read.data.toList[98]? = some 0x31 from (LBX9_readr_6 2).trans (by decide +kernel)) (by decide)
theorem dX9_read_99 : decode cX9_read 99 = .ok (.bipush 40, 2) := dk_16_ (show cX9_read.data.toList[99]? = some 0x10 from (LBX9_readr_6 3).trans (by decide +kernel)) (show cX9_read.data.toList[100]? = some 0x28 from (LBX9_readr_6 4).trans (by decide +kernel)) (by decide)
theorem dX9_read_101 : decode cX9_read 101 = .ok (.iload_n 1, 1) := dk_27_ (show cX9_read.data.toList[101]? = some 0x1b from (LBX9_readr_6 5).trans (by decide +kernel))
theorem dX9_read_102 : decode cX9_read 102 = .ok (.imul, 1) := dk_104_ (show cX9_read.data.toList[102]? = some 0x68 from (LBX9_readr_6 6).trans (by decide +kernel))
theorem dX9_read_103 : decode cX9_read 103 = .ok (.iload 5, 2) := dk_21_ (show cX9_read.data.toList[103]? = some 0x15 from (LBX9_readr_6 7).trans (by decide +kernel)) (show cX9_read.data.toList[104]? = some 0x05 from (LBX9_readr_6 8).trans (by decide +kernel)) (by decide)
theorem dX9_read_105 : decode cX9_read 105 = .ok (.iadd, 1) := dk_96_ (show cX9_read.data.toList[105]? = some 0x60 from (LBX9_readr_6 9).trans (by decide +kernel))
theorem dX9_read_106 : decode cX9_read 106 = .ok (.iconst 1, 1) := dk_4_ (show cX9_read.data.toList[106]? = some 0x04 from (LBX9_readr_6 10).trans (by decide +kernel))
theorem dX9_read_107 : decode cX9_read 107 = .ok (.isub, 1) := dk_100_ (show cX9_read.data.toList[107]? = some 0x64 from (LBX9_readr_6 11).trans (by decide +kernel))
theorem dX9_read_108 : decode cX9_read 108 = .ok (.laload, 1) := dk_47_ (show cX9_read.data.toList[108]? = some 0x2f from (LBX9_readr_6 12).trans (by decide +kernel))
theorem dX9_read_109 : decode cX9_read 109 = .ok (.l2i, 1) := dk_136_ (show cX9_read.data.toList[109]? = some 0x88 from (LBX9_readr_6 13).trans (by decide +kernel))
theorem dX9_read_110 : decode cX9_read 110 = .ok (.istore 8, 2) := dk_54_ (show cX9_read.data.toList[110]? = some 0x36 from (LBX9_readr_6 14).trans (by decide +kernel)) (show cX9_read.data.toList[111]? = some 0x08 from (LBX9_readr_6 15).trans (by decide +kernel)) (by decide)
theorem dX9_read_112 : decode cX9_read 112 = .ok (.lload 6, 2) := dk_22_ (show cX9_read.data.toList[112]? = some 0x16 from (LBX9_readr_7 0).trans (by decide +kernel)) (show cX9_read.data.toList[113]? = some 0x06 from (LBX9_readr_7 1).trans (by decide +kernel)) (by decide)
theorem dX9_read_114 : decode cX9_read 114 = .ok (.iload 8, 2) := dk_21_ (show cX9_read.data.toList[114]? = some 0x15 from (LBX9_readr_7 2).trans (by decide +kernel)) (show cX9_read.data.toList[115]? = some 0x08 from (LBX9_readr_7 3).trans (by decide +kernel)) (by decide)
theorem dX9_read_116 : decode cX9_read 116 = .ok (.i2l, 1) := dk_133_ (show cX9_read.data.toList[116]? = some 0x85 from (LBX9_readr_7 4).trans (by decide +kernel))
theorem dX9_read_117 : decode cX9_read 117 = .ok (.lcmp, 1) := dk_148_ (show cX9_read.data.toList[117]? = some 0x94 from (LBX9_readr_7 5).trans (by decide +kernel))
theorem dX9_read_118 : decode cX9_read 118 = .ok (.ifCond .eq 15, 3) := dk_153_ (show cX9_read.data.toList[118]? = some 0x99 from (LBX9_readr_7 6).trans (by decide +kernel)) (show cX9_read.data.toList[119]? = some 0x00 from (LBX9_readr_7 7).trans (by decide +kernel)) (show cX9_read.data.toList[120]? = some 0x0f from (LBX9_readr_7 8).trans (by decide +kernel)) (by decide)
theorem dX9_read_121 : decode cX9_read 121 = .ok (.aload_n 0, 1) := dk_42_ (show cX9_read.data.toList[121]? = some 0x2a from (LBX9_readr_7 9).trans (by decide +kernel))
theorem dX9_read_122 : decode cX9_read 122 = .ok (.iload 8, 2) := dk_21_ (show cX9_read.data.toList[122]? = some 0x15 from (LBX9_readr_7 10).trans (by decide +kernel)) (show cX9_read.data.toList[123]? = some 0x08 from (LBX9_readr_7 11).trans (by decide +kernel)) (by decide)
theorem dX9_read_124 : decode cX9_read 124 = .ok (.lload 6, 2) := dk_22_ (show cX9_read.data.toList[124]? = some 0x16 from (LBX9_readr_7 12).trans (by decide +kernel)) (show cX9_read.data.toList[125]? = some 0x06 from (LBX9_readr_7 13).trans (by decide +kernel)) (by decide)
theorem dX9_read_126 : decode cX9_read 126 = .ok (.l2i, 1) := dk_136_ (show cX9_read.data.toList[126]? = some 0x88 from (LBX9_readr_7 14).trans (by decide +kernel))
theorem dX9_read_127 : decode cX9_read 127 = .ok (.invokevirtual 97, 3) := dk_182_ (show cX9_read.data.toList[127]? = some 0xb6 from (LBX9_readr_7 15).trans (by decide +kernel)) (show cX9_read.data.toList[128]? = some 0x00 from (LBX9_readr_8 0).trans (by decide +kernel)) (show cX9_read.data.toList[129]? = some 0x61 from (LBX9_readr_8 1).trans (by decide +kernel)) (by decide)
theorem dX9_read_130 : decode cX9_read 130 = .ok (.ifCond .ne 8, 3) := dk_154_ (show cX9_read.data.toList[130]? = some 0x9a from (LBX9_readr_8 2).trans (by decide +kernel)) (show cX9_read.data.toList[131]? = some 0x00 from (LBX9_readr_8 3).trans (by decide +kernel)) (show cX9_read.data.toList[132]? = some 0x08 from (LBX9_readr_8 4).trans (by decide +kernel)) (by decide)
theorem dX9_read_133 : decode cX9_read 133 = .ok (.iload 5, 2) := dk_21_ (show cX9_read.data.toList[133]? = some 0x15 from (LBX9_readr_8 5).trans (by decide +kernel)) (show cX9_read.data.toList[134]? = some 0x05 from (LBX9_readr_8 6).trans (by decide +kernel)) (by decide)
theorem dX9_read_135 : decode cX9_read 135 = .ok (.iconst 1, 1) := dk_4_ (show cX9_read.data.toList[135]? = some 0x04 from (LBX9_readr_8 7).trans (by decide +kernel))
theorem dX9_read_136 : decode cX9_read 136 = .ok (.iadd, 1) := dk_96_ (show cX9_read.data.toList[136]? = some 0x60 from (LBX9_readr_8 8).trans (by decide +kernel))
theorem dX9_read_137 : decode cX9_read 137 = .ok (.ireturn, 1) := dk_172_ (show cX9_read.data.toList[137]? = some 0xac from (LBX9_readr_8 9).trans (by decide +kernel))
theorem dX9_read_138 : decode cX9_read 138 = .ok (.iload 4, 2) := dk_21_ (show cX9_read.data.toList[138]? = some 0x15 from (LBX9_readr_8 10).trans (by decide +kernel)) (show cX9_read.data.toList[139]? = some 0x04 from (LBX9_readr_8 11).trans (by decide +kernel)) (by decide)
theorem dX9_read_140 : decode cX9_read 140 = .ok (.aload_n 0, 1) := dk_42_ (show cX9_read.data.toList[140]? = some 0x2a from (LBX9_readr_8 12).trans (by decide +kernel))
theorem dX9_read_141 : decode cX9_read 141 = .ok (.iload 8, 2) := dk_21_ (show cX9_read.data.toList[141]? = some 0x15 from (LBX9_readr_8 13).trans (by decide +kernel)) (show cX9_read.data.toList[142]? = some 0x08 from (LBX9_readr_8 14).trans (by decide +kernel)) (by decide)
theorem dX9_read_143 : decode cX9_read 143 = .ok (.lload 6, 2) := dk_22_ (show cX9_read.data.toList[143]? = some 0x16 from (LBX9_readr_8 15).trans (by decide +kernel)) (show cX9_read.data.toList[144]? = some 0x06 from (LBX9_readr_9 0).trans (by decide +kernel)) (by decide)
theorem dX9_read_145 : decode cX9_read 145 = .ok (.l2i, 1) := dk_136_ (show cX9_read.data.toList[145]? = some 0x88 from (LBX9_readr_9 1).trans (by decide +kernel))
theorem dX9_read_146 : decode cX9_read 146 = .ok (.invokevirtual 100, 3) := dk_182_ (show cX9_read.data.toList[146]? = some 0xb6 from (LBX9_readr_9 2).trans (by decide +kernel)) (show cX9_read.data.toList[147]? = some 0x00 from (LBX9_readr_9 3).trans (by decide +kernel)) (show cX9_read.data.toList[148]? = some 0x64 from (LBX9_readr_9 4).trans (by decide +kernel)) (by decide)
theorem dX9_read_149 : decode cX9_read 149 = .ok (.iadd, 1) := dk_96_ (show cX9_read.data.toList[149]? = some 0x60 from (LBX9_readr_9 5).trans (by decide +kernel))
theorem dX9_read_150 : decode cX9_read 150 = .ok (.istore 4, 2) := dk_54_ (show cX9_read.data.toList[150]? = some 0x36 from (LBX9_readr_9 6).trans (by decide +kernel)) (show cX9_read.data.toList[151]? = some 0x04 from (LBX9_readr_9 7).trans (by decide +kernel)) (by decide)
theorem dX9_read_152 : decode cX9_read 152 = .ok (.iinc 5 1, 3) := dk_132_ (show cX9_read.data.toList[152]? = some 0x84 from (LBX9_readr_9 8).trans (by decide +kernel)) (show cX9_read.data.toList[153]? = some 0x05 from (LBX9_readr_9 9).trans (by decide +kernel)) (show cX9_read.data.toList[154]? = some 0x01 from (LBX9_readr_9 10).trans (by decide +kernel)) (by decide) (by decide)
theorem dX9_read_155 : decode cX9_read 155 = .ok (.goto (-108), 3) := dk_167_ (show cX9_read.data.toList[155]? = some 0xa7 from (LBX9_readr_9 11).trans (by decide +kernel)) (show cX9_read.data.toList[156]? = some 0xff from (LBX9_readr_9 12).trans (by decide +kernel)) (show cX9_read.data.toList[157]? = some 0x94 from (LBX9_readr_9 13).trans (by decide +kernel)) (by decide)
theorem dX9_read_158 : decode cX9_read 158 = .ok (.iload_n 3, 1) := dk_29_ (show cX9_read.data.toList[158]? = some 0x1d from (LBX9_readr_9 14).trans (by decide +kernel))
theorem dX9_read_159 : decode cX9_read 159 = .ok (.iconst 2, 1) := dk_5_ (show cX9_read.data.toList[159]? = some 0x05 from (LBX9_readr_9 15).trans (by decide +kernel))
theorem dX9_read_160 : decode cX9_read 160 = .ok (.if_icmp .ge 5, 3) := dk_162_ (show cX9_read.data.toList[160]? = some 0xa2 from (LBX9_readr_10 0).trans (by decide +kernel)) (show cX9_read.data.toList[161]? = some 0x00 from (LBX9_readr_10 1).trans (by decide +kernel)) (show cX9_read.data.toList[162]? = some 0x05 from (LBX9_readr_10 2).trans (by decide +kernel)) (by decide)
theorem dX9_read_163 : decode cX9_read 163 = .ok (.iconst 1, 1) := dk_4_ (show cX9_read.data.toList[163]? = some 0x04 from (LBX9_readr_10 3).trans (by decide +kernel))
theorem dX9_read_164 : decode cX9_read 164 = .ok (.ireturn, 1) := dk_172_ (show cX9_read.data.toList[164]? = some 0xac from (LBX9_readr_10 4).trans (by decide +kernel))
theorem dX9_read_165 : decode cX9_read 165 = .ok (.iload 4, 2) := dk_21_ (show cX9_read.data.toList[165]? = some 0x15 from (LBX9_readr_10 5).trans (by decide +kernel)) (show cX9_read.data.toList[166]? = some 0x04 from (LBX9_readr_10 6).trans (by decide +kernel)) (by decide)
theorem dX9_read_167 : decode cX9_read 167 = .ok (.aload_n 0, 1) := dk_42_ (show cX9_read.data.toList[167]? = some 0x2a from (LBX9_readr_10 7).trans (by decide +kernel))
theorem dX9_read_168 : decode cX9_read 168 = .ok (.getfield 22, 3) := dk_180_ (show cX9_read.data.toList[168]? = some 0xb4 from (LBX9_readr_10 8).trans (by decide +kernel)) (show cX9_read.data.toList[169]? = some 0x00 from (LBX9_readr_10 9).trans (by decide +kernel)) (show cX9_read.data.toList[170]? = some 0x16 from (LBX9_readr_10 10).trans (by decide +kernel)) (by decide)
theorem dX9_read_171 : decode cX9_read 171 = .ok (.bipush 10, 2) := dk_16_ (show cX9_read.data.toList[171]? = some 0x10 from (LBX9_readr_10 11).trans (by decide +kernel)) (show cX9_read.data.toList[172]? = some 0x0a from (LBX9_readr_10 12).trans (by decide +kernel)) (by decide)
theorem dX9_read_173 : decode cX9_read 173 = .ok (.aload_n 0, 1) := dk_42_ (show cX9_read.data.toList[173]? = some 0x2a from (LBX9_readr_10 13).trans (by decide +kernel))
theorem dX9_read_174 : decode cX9_read 174 = .ok (.getfield 49, 3) := dk_180_ (show cX9_read.data.toList[174]? = some 0xb4 from (LBX9_readr_10 14).trans (by decide +kernel)) (show cX9_read.data.toList[175]? = some 0x00 from (LBX9_readr_10 15).trans (by decide +kernel)) (show cX9_read.data.toList[176]? = some 0x31 from (LBX9_readr_11 0).trans (by decide +kernel)) (by decide)
theorem dX9_read_177 : decode cX9_read 177 = .ok (.bipush 40, 2) := dk_16_ (show cX9_read.data.toList[177]? = some 0x10 from (LBX9_readr_11 1).trans (by decide +kernel)) (show cX9_read.data.toList[178]? = some 0x28 from (LBX9_readr_11 2).trans (by decide +kernel)) (by decide)
theorem dX9_read_179 : decode cX9_read 179 = .ok (.iload_n 1, 1) := dk_27_ (show cX9_read.data.toList[179]? = some 0x1b from (LBX9_readr_11 3).trans (by decide +kernel))
theorem dX9_read_180 : decode cX9_read 180 = .ok (.imul, 1) := dk_104_ (show cX9_read.data.toList[180]? = some 0x68 from (LBX9_readr_11 4).trans (by decide +kernel))
theorem dX9_read_181 : decode cX9_read 181 = .ok (.laload, 1) := dk_47_ (show cX9_read.data.toList[181]? = some 0x2f from (LBX9_readr_11 5).trans (by decide +kernel))
theorem dX9_read_182 : decode cX9_read 182 = .ok (.l2i, 1) := dk_136_ (show cX9_read.data.toList[182]? = some 0x88 from (LBX9_readr_11 6).trans (by decide +kernel))
theorem dX9_read_183 : decode cX9_read 183 = .ok (.imul, 1) := dk_104_ (show cX9_read.data.toList[183]? = some 0x68 from (LBX9_readr_11 7).trans (by decide +kernel))
theorem dX9_read_184 : decode cX9_read 184 = .ok (.aload_n 0, 1) := dk_42_ (show cX9_read.data.toList[184]? = some 0x2a from (LBX9_readr_11 8).trans (by decide +kernel))
theorem dX9_read_185 : decode cX9_read 185 = .ok (.getfield 49, 3) := dk_180_ (show cX9_read.data.toList[185]? = some 0xb4 from (LBX9_readr_11 9).trans (by decide +kernel)) (show cX9_read.data.toList[186]? = some 0x00 from (LBX9_readr_11 10).trans (by decide +kernel)) (show cX9_read.data.toList[187]? = some 0x31 from (LBX9_readr_11 11).trans (by decide +kernel)) (by decide)
theorem dX9_read_188 : decode cX9_read 188 = .ok (.bipush 40, 2) := dk_16_ (show cX9_read.data.toList[188]? = some 0x10 from (LBX9_readr_11 12).trans (by decide +kernel)) (show cX9_read.data.toList[189]? = some 0x28 from (LBX9_readr_11 13).trans (by decide +kernel)) (by decide)
theorem dX9_read_190 : decode cX9_read 190 = .ok (.iload_n 1, 1) := dk_27_ (show cX9_read.data.toList[190]? = some 0x1b from (LBX9_readr_11 14).trans (by decide +kernel))
theorem dX9_read_191 : decode cX9_read 191 = .ok (.imul, 1) := dk_104_ (show cX9_read.data.toList[191]? = some 0x68 from (LBX9_readr_11 15).trans (by decide +kernel))
theorem dX9_read_192 : decode cX9_read 192 = .ok (.iload_n 3, 1) := dk_29_ (show cX9_read.data.toList[192]? = some 0x1d from (LBX9_readr_12 0).trans (by decide +kernel))
theorem dX9_read_193 : decode cX9_read 193 = .ok (.iadd, 1) := dk_96_ (show cX9_read.data.toList[193]? = some 0x60 from (LBX9_readr_12 1).trans (by decide +kernel))
theorem dX9_read_194 : decode cX9_read 194 = .ok (.iconst 1, 1) := dk_4_ (show cX9_read.data.toList[194]? = some 0x04 from (LBX9_readr_12 2).trans (by decide +kernel))
theorem dX9_read_195 : decode cX9_read 195 = .ok (.isub, 1) := dk_100_ (show cX9_read.data.toList[195]? = some 0x64 from (LBX9_readr_12 3).trans (by decide +kernel))
theorem dX9_read_196 : decode cX9_read 196 = .ok (.laload, 1) := dk_47_ (show cX9_read.data.toList[196]? = some 0x2f from (LBX9_readr_12 4).trans (by decide +kernel))
theorem dX9_read_197 : decode cX9_read 197 = .ok (.l2i, 1) := dk_136_ (show cX9_read.data.toList[197]? = some 0x88 from (LBX9_readr_12 5).trans (by decide +kernel))
theorem dX9_read_198 : decode cX9_read 198 = .ok (.iadd, 1) := dk_96_ (show cX9_read.data.toList[198]? = some 0x60 from (LBX9_readr_12 6).trans (by decide +kernel))
theorem dX9_read_199 : decode cX9_read 199 = .ok (.iaload, 1) := dk_46_ (show cX9_read.data.toList[199]? = some 0x2e from (LBX9_readr_12 7).trans (by decide +kernel))
theorem dX9_read_200 : decode cX9_read 200 = .ok (.if_icmp .ne 7, 3) := dk_160_ (show cX9_read.data.toList[200]? = some 0xa0 from (LBX9_readr_12 8).trans (by decide +kernel)) (show cX9_read.data.toList[201]? = some 0x00 from (LBX9_readr_12 9).trans (by decide +kernel)) (show cX9_read.data.toList[202]? = some 0x07 from (LBX9_readr_12 10).trans (by decide +kernel)) (by decide)
theorem dX9_read_203 : decode cX9_read 203 = .ok (.iconst 0, 1) := dk_3_ (show cX9_read.data.toList[203]? = some 0x03 from (LBX9_readr_12 11).trans (by decide +kernel))
theorem dX9_read_204 : decode cX9_read 204 = .ok (.goto 6, 3) := dk_167_ (show cX9_read.data.toList[204]? = some 0xa7 from (LBX9_readr_12 12).trans (by decide +kernel)) (show cX9_read.data.toList[205]? = some 0x00 from (LBX9_readr_12 13).trans (by decide +kernel)) (show cX9_read.data.toList[206]? = some 0x06 from (LBX9_readr_12 14).trans (by decide +kernel)) (by decide)
theorem dX9_read_207 : decode cX9_read 207 = .ok (.iconst 1, 1) := dk_4_ (show cX9_read.data.toList[207]? = some 0x04 from (LBX9_readr_12 15).trans (by decide +kernel))
theorem dX9_read_208 : decode cX9_read 208 = .ok (.iload_n 3, 1) := dk_29_ (show cX9_read.data.toList[208]? = some 0x1d from (LBX9_readr_13 0).trans (by decide +kernel))
theorem dX9_read_209 : decode cX9_read 209 = .ok (.iadd, 1) := dk_96_ (show cX9_read.data.toList[209]? = some 0x60 from (LBX9_readr_13 1).trans (by decide +kernel))
theorem dX9_read_210 : decode cX9_read 210 = .ok (.ireturn, 1) := dk_172_ (show cX9_read.data.toList[210]? = some 0xac from (LBX9_readr_13 2).trans (by decide +kernel))
set_option maxHeartbeats 4000000 in
set_option maxRecDepth 100000 in
theorem c_X9_read_o (l : Launch) (D : va_G) (cI cJ cZ cS : ClassId) (ta : Nat) (sa sv : Nat → Nat) (sz : Nat) (h0 : Nat) (ys : Nat) (yk : Nat) (yo : Nat) (yt : Nat) (mk0 : Int32) (yfa : Nat) (yfe : Nat) (mL : Int32) (mS : Int32) (mM : Int32) (yro : Nat) (yhe : Nat) (ygr : Nat) (mF : Int32) (mC : Int32) (mY : Int32) (yta : Nat) (mz : Nat) (mf : Nat) (mt : Nat) (mv : Int32) (mw : Int32) (ywa : Nat) (ybi : Nat) (ysi : Nat) (ynu : Nat) (ymo : Nat) (mq : Nat → Int32) (p0 : Int32) (ho : p0 < 0 ∨ 3 < p0) : Met l yX9_read (Cond.code yX9_read cX9_read 9 (some .int) :: wsU) ({ frames := 3, cells := 0, slots := 0, locals := 66 }) (va_Pc [.ref h0, .int p0] (XW D (xT cI cJ cZ cS) ta sa sv [(h0, .inr (9, [.ref ys, .ref yk, .ref yo, .ref yt, .int mk0, .ref yfa, .ref yfe, .int mL, .int mS, .int mM, .ref yro, .ref yhe, .ref ygr, .int mF, .int mC, .int mY, .ref yta, .int (nI (mz)), .int (nI (mf)), .int (nI (mt)), .int mv, .int mw, .ref ywa, .ref ybi, .ref ysi, .ref ynu, .ref ymo])), (yt, .inl (cI, 7, .inl mq))] sz)) (XQi (fun (r : Int32) (mq2 : (Nat → Int32)) => ((r = (-1000000001)))) D (fun (mq2 : Nat → Int32) => [(h0, .inr (9, [.ref ys, .ref yk, .ref yo, .ref yt, .int mk0, .ref yfa, .ref yfe, .int mL, .int mS, .int mM, .ref yro, .ref yhe, .ref ygr, .int mF, .int mC, .int mY, .ref yta, .int (nI (mz)), .int (nI (mf)), .int (nI (mt)), .int mv, .int mw, .ref ywa, .ref ybi, .ref ysi, .ref ynu, .ref ymo])), (yt, .inl (cI, 7, .inl mq2))]) (va_A [(h0, .inr (9, [.ref ys, .ref yk, .ref yo, .ref yt, .int mk0, .ref yfa, .ref yfe, .int mL, .int mS, .int mM, .ref yro, .ref yhe, .ref ygr, .int mF, .int mC, .int mY, .ref yta, .int (nI (mz)), .int (nI (mf)), .int (nI (mt)), .int mv, .int mw, .ref ywa, .ref ybi, .ref ysi, .ref ynu, .ref ymo])), (yt, .inl (cI, 7, .inl mq))] sz)) 0 0 (va_A [(h0, .inr (9, [.ref ys, .ref yk, .ref yo, .ref yt, .int mk0, .ref yfa, .ref yfe, .int mL, .int mS, .int mM, .ref yro, .ref yhe, .ref ygr, .int mF, .int mC, .int mY, .ref yta, .int (nI (mz)), .int (nI (mf)), .int (nI (mt)), .int mv, .int mw, .ref ywa, .ref ybi, .ref ysi, .ref ynu, .ref ymo])), (yt, .inl (cI, 7, .inl mq))] sz) := by
  refine xh (QA := fun A => XQi (fun (r : Int32) (mq2 : (Nat → Int32)) => ((r = (-1000000001)))) D (fun (mq2 : Nat → Int32) => [(h0, .inr (9, [.ref ys, .ref yk, .ref yo, .ref yt, .int mk0, .ref yfa, .ref yfe, .int mL, .int mS, .int mM, .ref yro, .ref yhe, .ref ygr, .int mF, .int mC, .int mY, .ref yta, .int (nI (mz)), .int (nI (mf)), .int (nI (mt)), .int mv, .int mw, .ref ywa, .ref ybi, .ref ysi, .ref ynu, .ref ymo])), (yt, .inl (cI, 7, .inl mq2))]) A) (fr := fun A => A) (by decide) (Nat.le_of_ble_eq_true rfl) ?_
  intro p e s m below meth c ls A hF hr hlk hin hsz hP hK hD hN hZ hA hS hl
  have hF : CallFix p m c cX9_read 9 s _ _ RX9 := hF
  have hx := hF.1
  have hb := hF.2.1
  have hml := hF.2.2.1
  have hown := hF.2.2.2.1
  have hu : ∀ w ∈ wsU, w.before _ s = true := fun w h => hF.2.2.2.2 w (List.mem_cons_of_mem _ h)
  have hl : lv_has ls 9 [(0, .ref h0), (1, .int p0)] := hl
  refine lv_aload_n hx hb dX9_read_0 rfl (lv_at hl 0 rfl) ?_
  refine lv_iload_n hx hb dX9_read_1 rfl (lv_at hl 1 rfl) ?_
  refine xc_Vr hF (c_X9_wrong_o l D cI cJ cZ cS ta sa sv s.heap.size h0 ys yk yo yt mk0 yfa yfe mL mS mM yro yhe ygr mF mC mY yta mz mf mt mv mw ywa ybi ysi ynu ymo p0 ho) kv_X9_310 ⟨rfl, rfl, Nat.le_of_ble_eq_true rfl, Nat.le_of_ble_eq_true rfl⟩ ⟨Nat.le_of_ble_eq_true rfl, Nat.le_of_ble_eq_true rfl⟩ hK hN hZ hP hD hS hA [0] rfl rfl 0 rfl rfl rfl rfl hl.1 rfl (Nat.le_of_ble_eq_true rfl) dX9_read_2 (fun r_1 hw_r_1 => ?_)
  subst hw_r_1
  refine lv_istore_n (lv' := [(2, .int (-1000000001)), (0, .ref h0), (1, .int p0)]) hx hb dX9_read_5 rfl hl (by decide) rfl (fun ls hl => ?_)
  refine lv_iload_n hx hb dX9_read_6 rfl (lv_at hl 0 rfl) ?_
  refine lv_if_eq (tgt := 16) hx hb dX9_read_7 (by decide) (fun c_2 => absurd c_2 (by decide)) (fun c_2 => ?_)
  refine lv_aload_n hx hb dX9_read_10 rfl (lv_at hl 1 rfl) ?_
  refine lv_iload_n hx hb dX9_read_11 rfl (lv_at hl 0 rfl) ?_
  refine xc_Vi (wr := []) hF (c_X9_finds_B l D cI cJ cZ cS ta sa sv s.heap.size h0 ys yk yo yt mk0 yfa yfe mL mS mM yro yhe ygr mF mC mY yta mz mf mt mv mw ywa ybi ysi ynu ymo mq ) kv_X9_70 ⟨rfl, rfl, Nat.le_of_ble_eq_true rfl, Nat.le_of_ble_eq_true rfl⟩ ⟨Nat.le_of_ble_eq_true rfl, Nat.le_of_ble_eq_true rfl⟩ hK hN hZ hP hD hS hA [0, 1] [] rfl rfl rfl rfl (by decide) 0 rfl rfl rfl rfl hl.1 rfl (Nat.le_of_ble_eq_true rfl) dX9_read_12 (fun r_3 u_r_3 H locs hw_r_3 hP hD hS => ?_)
  obtain ⟨mq2_4, rfl⟩ : ∃ z, z = u_r_3 := ⟨_, rfl⟩
  try dsimp only at hw_r_3
  have hP : va_P D vwCl [(h0, .inr (9, [.ref ys, .ref yk, .ref yo, .ref yt, .int mk0, .ref yfa, .ref yfe, .int mL, .int mS, .int mM, .ref yro, .ref yhe, .ref ygr, .int mF, .int mC, .int mY, .ref yta, .int (nI (mz)), .int (nI (mf)), .int (nI (mt)), .int mv, .int mw, .ref ywa, .ref ybi, .ref ysi, .ref ynu, .ref ymo])), (yt, .inl (cI, 7, .inl mq2_4))] H := hP
  have hD : va_D A [(h0, .inr (9, [.ref ys, .ref yk, .ref yo, .ref yt, .int mk0, .ref yfa, .ref yfe, .int mL, .int mS, .int mM, .ref yro, .ref yhe, .ref ygr, .int mF, .int mC, .int mY, .ref yta, .int (nI (mz)), .int (nI (mf)), .int (nI (mt)), .int mv, .int mw, .ref ywa, .ref ybi, .ref ysi, .ref ynu, .ref ymo])), (yt, .inl (cI, 7, .inl mq2_4))] := hD
  subst hw_r_3
  exact W.iret (v := (-1000000001)) hx hb hr (fun t ht hW => ⟨⟨(-1000000001), mq2_4, rfl, (by first | exact rfl), by rw [ht]; exact hP.sub [0, 1] rfl, hD.sub [0, 1] (by decide) rfl⟩, hS.F ht⟩) hS.2.2 dX9_read_15 hlk
set_option maxHeartbeats 4000000 in
set_option maxRecDepth 100000 in
theorem c_X9_read_0 (l : Launch) (D : va_G) (cI cJ cZ cS : ClassId) (ta : Nat) (sa sv : Nat → Nat) (sz : Nat) (h0 : Nat) (ys : Nat) (yk : Nat) (yo : Nat) (yt : Nat) (mk0 : Int32) (yfa : Nat) (yfe : Nat) (mL : Int32) (mS : Int32) (mM : Int32) (yro : Nat) (yhe : Nat) (ygr : Nat) (mF : Int32) (mC : Int32) (mY : Int32) (yta : Nat) (mz : Nat) (mf : Nat) (mt : Nat) (mv : Int32) (mw : Int32) (ywa : Nat) (ybi : Nat) (ysi : Nat) (ynu : Nat) (ymo : Nat) (ms : Nat → Int32) (fa : Nat → Int32) (fe : Nat → Int32) (bi : Nat → Int32) (sq : Nat → Int32) (nb : Nat → Int64) (mq : Nat → Int32) (P : Nat) (Rn : Nat) (Wn : Nat) (fae : Nat → Int32) (fal : Nat → Int32) (fau : Nat → Int32) (fao : Nat → Int32) (farn : Nat → Int32) (farp : Nat → Int32) (fak : Nat → Int32) (fawn : Nat → Int32) (fawp : Nat → Int32) (fat : Nat → Int32) (fas : Nat → Int32) (bt : Int32) (zq : Nat) (nu : Nat → Int64) (hbt9 : bi 0 = bt) (ez : sq 0 = nI zq) (hzq : zq ≤ 40) (hn : ∀ j, j < 40 → nb (0 + j) = nu j) (hEI : EI fal fau fao) (hsq : BA 4 41 sq) (hs0 : ms 0 = nI P) (hs1 : ms 1 = nI Rn) (hs2 : ms 2 = nI Wn) (hsS : SI ms) (hsM : MI ms) (hsp : P ≤ 10) (hsr : Rn ≤ 8) (hsw : Wn ≤ 8) (hsR : RI Rn ms) (hsG : FR P ms fae fal fau fao farn farp fak fawn fawp fat fas) : Met l yX9_read (Cond.code yX9_read cX9_read 9 (some .int) :: wsU) ({ frames := 3, cells := 0, slots := 0, locals := 66 }) (va_Pc [.ref h0, .int 0] (XW D (xT cI cJ cZ cS) ta sa sv [(h0, .inr (9, [.ref ys, .ref yk, .ref yo, .ref yt, .int mk0, .ref yfa, .ref yfe, .int mL, .int mS, .int mM, .ref yro, .ref yhe, .ref ygr, .int mF, .int mC, .int mY, .ref yta, .int (nI (mz)), .int (nI (mf)), .int (nI (mt)), .int mv, .int mw, .ref ywa, .ref ybi, .ref ysi, .ref ynu, .ref ymo])), (ys, .inl (cI, 449, .inl ms)), (yfa, .inl (cI, 100, .inl fa)), (yfe, .inl (cI, 100, .inl fe)), (ybi, .inl (cI, 4, .inl bi)), (ysi, .inl (cI, 4, .inl sq)), (ynu, .inl (cJ, 160, .inr (.inl nb))), (yt, .inl (cI, 7, .inl mq))] sz)) (XQi (fun (r : Int32) (u : Int32 × (Nat → Int32) × (Nat → Int32) × (Nat → Int32)) => match u with | (mL2, fa2, fe2, mq2) => ((r = rdR fal fao nu P zq bt))) D (fun (u : Int32 × (Nat → Int32) × (Nat → Int32) × (Nat → Int32)) => match u with | (mL2, fa2, fe2, mq2) => [(h0, .inr (9, [.ref ys, .ref yk, .ref yo, .ref yt, .int mk0, .ref yfa, .ref yfe, .int mL2, .int mS, .int mM, .ref yro, .ref yhe, .ref ygr, .int mF, .int mC, .int mY, .ref yta, .int (nI (mz)), .int (nI (mf)), .int (nI (mt)), .int mv, .int mw, .ref ywa, .ref ybi, .ref ysi, .ref ynu, .ref ymo])), (ys, .inl (cI, 449, .inl ms)), (yfa, .inl (cI, 100, .inl fa2)), (yfe, .inl (cI, 100, .inl fe2)), (ybi, .inl (cI, 4, .inl bi)), (ysi, .inl (cI, 4, .inl sq)), (ynu, .inl (cJ, 160, .inr (.inl nb))), (yt, .inl (cI, 7, .inl mq2))]) (va_A [(h0, .inr (9, [.ref ys, .ref yk, .ref yo, .ref yt, .int mk0, .ref yfa, .ref yfe, .int mL, .int mS, .int mM, .ref yro, .ref yhe, .ref ygr, .int mF, .int mC, .int mY, .ref yta, .int (nI (mz)), .int (nI (mf)), .int (nI (mt)), .int mv, .int mw, .ref ywa, .ref ybi, .ref ysi, .ref ynu, .ref ymo])), (ys, .inl (cI, 449, .inl ms)), (yfa, .inl (cI, 100, .inl fa)), (yfe, .inl (cI, 100, .inl fe)), (ybi, .inl (cI, 4, .inl bi)), (ysi, .inl (cI, 4, .inl sq)), (ynu, .inl (cJ, 160, .inr (.inl nb))), (yt, .inl (cI, 7, .inl mq))] sz)) 0 0 (va_A [(h0, .inr (9, [.ref ys, .ref yk, .ref yo, .ref yt, .int mk0, .ref yfa, .ref yfe, .int mL, .int mS, .int mM, .ref yro, .ref yhe, .ref ygr, .int mF, .int mC, .int mY, .ref yta, .int (nI (mz)), .int (nI (mf)), .int (nI (mt)), .int mv, .int mw, .ref ywa, .ref ybi, .ref ysi, .ref ynu, .ref ymo])), (ys, .inl (cI, 449, .inl ms)), (yfa, .inl (cI, 100, .inl fa)), (yfe, .inl (cI, 100, .inl fe)), (ybi, .inl (cI, 4, .inl bi)), (ysi, .inl (cI, 4, .inl sq)), (ynu, .inl (cJ, 160, .inr (.inl nb))), (yt, .inl (cI, 7, .inl mq))] sz) := by
  refine xh (QA := fun A => XQi (fun (r : Int32) (u : Int32 × (Nat → Int32) × (Nat → Int32) × (Nat → Int32)) => match u with | (mL2, fa2, fe2, mq2) => ((r = rdR fal fao nu P zq bt))) D (fun (u : Int32 × (Nat → Int32) × (Nat → Int32) × (Nat → Int32)) => match u with | (mL2, fa2, fe2, mq2) => [(h0, .inr (9, [.ref ys, .ref yk, .ref yo, .ref yt, .int mk0, .ref yfa, .ref yfe, .int mL2, .int mS, .int mM, .ref yro, .ref yhe, .ref ygr, .int mF, .int mC, .int mY, .ref yta, .int (nI (mz)), .int (nI (mf)), .int (nI (mt)), .int mv, .int mw, .ref ywa, .ref ybi, .ref ysi, .ref ynu, .ref ymo])), (ys, .inl (cI, 449, .inl ms)), (yfa, .inl (cI, 100, .inl fa2)), (yfe, .inl (cI, 100, .inl fe2)), (ybi, .inl (cI, 4, .inl bi)), (ysi, .inl (cI, 4, .inl sq)), (ynu, .inl (cJ, 160, .inr (.inl nb))), (yt, .inl (cI, 7, .inl mq2))]) A) (fr := fun A => A) (by decide) (Nat.le_of_ble_eq_true rfl) ?_
  intro p e s m below meth c ls A hF hr hlk hin hsz hP hK hD hN hZ hA hS hl
  have hF : CallFix p m c cX9_read 9 s _ _ RX9 := hF
  have hx := hF.1
  have hb := hF.2.1
  have hml := hF.2.2.1
  have hown := hF.2.2.2.1
  have hu : ∀ w ∈ wsU, w.before _ s = true := fun w h => hF.2.2.2.2 w (List.mem_cons_of_mem _ h)
  have hl : lv_has ls 9 [(0, .ref h0), (1, .int 0)] := hl
  refine lv_aload_n hx hb dX9_read_0 rfl (lv_at hl 0 rfl) ?_
  refine lv_iload_n hx hb dX9_read_1 rfl (lv_at hl 1 rfl) ?_
  refine xc_Vr hF (c_X9_wrong_0 l D cI cJ cZ cS ta sa sv s.heap.size h0 ys yk yo yt mk0 yfa yfe mL mS mM yro yhe ygr mF mC mY yta mz mf mt mv mw ywa ybi ysi ynu ymo bi ) kv_X9_310 ⟨rfl, rfl, Nat.le_of_ble_eq_true rfl, Nat.le_of_ble_eq_true rfl⟩ ⟨Nat.le_of_ble_eq_true rfl, Nat.le_of_ble_eq_true rfl⟩ hK hN hZ hP hD hS hA [0, 4] rfl rfl 0 rfl rfl rfl rfl hl.1 rfl (Nat.le_of_ble_eq_true rfl) dX9_read_2 (fun r_1 hw_r_1 => ?_)
  rcases hw_r_1 with ⟨rfl, h_2⟩ | ⟨rfl, h_3⟩
  · skip
    refine lv_istore_n (lv' := [(2, .int (-1000000006)), (0, .ref h0), (1, .int 0)]) hx hb dX9_read_5 rfl hl (by decide) rfl (fun ls hl => ?_)
    refine lv_iload_n hx hb dX9_read_6 rfl (lv_at hl 0 rfl) ?_
    refine lv_if_eq (tgt := 16) hx hb dX9_read_7 (by decide) (fun c_4 => absurd c_4 (by decide)) (fun c_4 => ?_)
    refine lv_aload_n hx hb dX9_read_10 rfl (lv_at hl 1 rfl) ?_
    refine lv_iload_n hx hb dX9_read_11 rfl (lv_at hl 0 rfl) ?_
    refine xc_Vi (wr := [(ys, .inl (cI, 449, .inl ms)), (yfa, .inl (cI, 100, .inl fa)), (yfe, .inl (cI, 100, .inl fe)), (ybi, .inl (cI, 4, .inl bi)), (ysi, .inl (cI, 4, .inl sq)), (ynu, .inl (cJ, 160, .inr (.inl nb)))]) hF (c_X9_finds_M l D cI cJ cZ cS ta sa sv s.heap.size h0 ys yk yo yt mk0 yfa yfe mL mS mM yro yhe ygr mF mC mY yta mz mf mt mv mw ywa ybi ysi ynu ymo mq ) kv_X9_70 ⟨rfl, rfl, Nat.le_of_ble_eq_true rfl, Nat.le_of_ble_eq_true rfl⟩ ⟨Nat.le_of_ble_eq_true rfl, Nat.le_of_ble_eq_true rfl⟩ hK hN hZ hP hD hS hA [0, 7] [1, 2, 3, 4, 5, 6] rfl rfl rfl (by decide +kernel) (by decide +kernel) 0 rfl rfl rfl rfl hl.1 rfl (Nat.le_of_ble_eq_true rfl) dX9_read_12 (fun r_5 u_r_5 H locs hw_r_5 hP hD hS => ?_)
    obtain ⟨mq2_6, rfl⟩ : ∃ z, z = u_r_5 := ⟨_, rfl⟩
    try dsimp only at hw_r_5
    have hP : va_P D vwCl [(ys, .inl (cI, 449, .inl ms)), (yfa, .inl (cI, 100, .inl fa)), (yfe, .inl (cI, 100, .inl fe)), (ybi, .inl (cI, 4, .inl bi)), (ysi, .inl (cI, 4, .inl sq)), (ynu, .inl (cJ, 160, .inr (.inl nb))), (h0, .inr (9, [.ref ys, .ref yk, .ref yo, .ref yt, .int mk0, .ref yfa, .ref yfe, .int mL, .int mS, .int mM, .ref yro, .ref yhe, .ref ygr, .int mF, .int mC, .int mY, .ref yta, .int (nI (mz)), .int (nI (mf)), .int (nI (mt)), .int mv, .int mw, .ref ywa, .ref ybi, .ref ysi, .ref ynu, .ref ymo])), (yt, .inl (cI, 7, .inl mq2_6))] H := hP
    have hD : va_D A [(ys, .inl (cI, 449, .inl ms)), (yfa, .inl (cI, 100, .inl fa)), (yfe, .inl (cI, 100, .inl fe)), (ybi, .inl (cI, 4, .inl bi)), (ysi, .inl (cI, 4, .inl sq)), (ynu, .inl (cJ, 160, .inr (.inl nb))), (h0, .inr (9, [.ref ys, .ref yk, .ref yo, .ref yt, .int mk0, .ref yfa, .ref yfe, .int mL, .int mS, .int mM, .ref yro, .ref yhe, .ref ygr, .int mF, .int mC, .int mY, .ref yta, .int (nI (mz)), .int (nI (mf)), .int (nI (mt)), .int mv, .int mw, .ref ywa, .ref ybi, .ref ysi, .ref ynu, .ref ymo])), (yt, .inl (cI, 7, .inl mq2_6))] := hD
    subst hw_r_5
    exact W.iret (v := (-1000000006)) hx hb hr (fun t ht hW => ⟨⟨(-1000000006), (mL, fa, fe, mq2_6), rfl, rd_m (hbt9.symm.trans h_2), by rw [ht]; exact hP.sub [6, 0, 1, 2, 3, 4, 5, 7] rfl, hD.sub [6, 0, 1, 2, 3, 4, 5, 7] (by decide +kernel) rfl⟩, hS.F ht⟩) hS.2.2 dX9_read_15 hlk
  · skip
    refine lv_istore_n (lv' := [(2, .int 0), (0, .ref h0), (1, .int 0)]) hx hb dX9_read_5 rfl hl (by decide) rfl (fun ls hl => ?_)
    refine lv_iload_n hx hb dX9_read_6 rfl (lv_at hl 0 rfl) ?_
    refine lv_if_eq (tgt := 16) hx hb dX9_read_7 (by decide) (fun c_7 => ?_) (fun c_7 => absurd (by decide) c_7)
    refine lv_aload_n hx hb dX9_read_16 rfl (lv_at hl 1 rfl) ?_
    refine xc_Vv (wr := [(ybi, .inl (cI, 4, .inl bi)), (ysi, .inl (cI, 4, .inl sq)), (ynu, .inl (cJ, 160, .inr (.inl nb))), (yt, .inl (cI, 7, .inl mq))]) hF (c_X9_findFar l D cI cJ cZ cS ta sa sv s.heap.size h0 ys yk yo yt mk0 yfa yfe mL mS mM yro yhe ygr mF mC mY yta mz mf mt mv mw ywa ybi ysi ynu ymo ms fa fe P Rn Wn fae fal fau fao farn farp fak fawn fawp fat fas hs0 hs1 hs2 hsS hsM hsp hsr hsw hsR hsG) kv_X9_113 ⟨rfl, rfl, Nat.le_of_ble_eq_true rfl, Nat.le_of_ble_eq_true rfl⟩ ⟨Nat.le_of_ble_eq_true rfl, Nat.le_of_ble_eq_true rfl⟩ hK hN hZ hP hD hS hA [0, 1, 2, 3] [4, 5, 6, 7] rfl rfl (by decide +kernel) (by decide +kernel) (by decide +kernel) 0 rfl rfl rfl rfl hl.1 rfl (Nat.le_of_ble_eq_true rfl) dX9_read_17 (fun u_r_8 H locs hw_r_8 hP hD hS => ?_)
    obtain ⟨mL2_9, fa2_10, fe2_11⟩ := u_r_8
    try dsimp only at hw_r_8
    have i_12 := hw_r_8
    have hP : va_P D vwCl [(ybi, .inl (cI, 4, .inl bi)), (ysi, .inl (cI, 4, .inl sq)), (ynu, .inl (cJ, 160, .inr (.inl nb))), (yt, .inl (cI, 7, .inl mq)), (h0, .inr (9, [.ref ys, .ref yk, .ref yo, .ref yt, .int mk0, .ref yfa, .ref yfe, .int mL2_9, .int mS, .int mM, .ref yro, .ref yhe, .ref ygr, .int mF, .int mC, .int mY, .ref yta, .int (nI (mz)), .int (nI (mf)), .int (nI (mt)), .int mv, .int mw, .ref ywa, .ref ybi, .ref ysi, .ref ynu, .ref ymo])), (ys, .inl (cI, 449, .inl ms)), (yfa, .inl (cI, 100, .inl fa2_10)), (yfe, .inl (cI, 100, .inl fe2_11))] H := hP
    have hD : va_D A [(ybi, .inl (cI, 4, .inl bi)), (ysi, .inl (cI, 4, .inl sq)), (ynu, .inl (cJ, 160, .inr (.inl nb))), (yt, .inl (cI, 7, .inl mq)), (h0, .inr (9, [.ref ys, .ref yk, .ref yo, .ref yt, .int mk0, .ref yfa, .ref yfe, .int mL2_9, .int mS, .int mM, .ref yro, .ref yhe, .ref ygr, .int mF, .int mC, .int mY, .ref yta, .int (nI (mz)), .int (nI (mf)), .int (nI (mt)), .int mv, .int mw, .ref ywa, .ref ybi, .ref ysi, .ref ynu, .ref ymo])), (ys, .inl (cI, 449, .inl ms)), (yfa, .inl (cI, 100, .inl fa2_10)), (yfe, .inl (cI, 100, .inl fe2_11))] := hD
    refine lv_aload_n hx hb dX9_read_20 rfl (lv_at hl 1 rfl) ?_
    refine xg hF kf_X9_109 hK hP 4 rfl rfl dX9_read_21 ?_
    refine lv_if_eq (tgt := 34) hx hb dX9_read_24 (by decide) (fun c_13 => ?_) (fun c_13 => ?_)
    · skip
      refine lv_aload_n hx hb dX9_read_34 rfl (lv_at hl 1 rfl) ?_
      refine xg hF kf_X9_46 hK hP 4 rfl rfl dX9_read_35 ?_
      refine lv_iload_n hx hb dX9_read_38 rfl (lv_at hl 2 rfl) ?_
      refine va_iald hx hb hK hP 1 0 rfl rfl (xin 0 4 (by decide) (by decide)) dX9_read_39 ?_
      refine xl_i (y := sq 0) (congrArg sq rfl) ?_
      refine xl_i (y := nI (zq)) ez ?_
      refine lv_istore_n (lv' := [(3, .int (nI (zq))), (2, .int 0), (0, .ref h0), (1, .int 0)]) hx hb dX9_read_40 rfl hl (by decide) rfl (fun ls hl => ?_)
      refine lv_iconst (v := 0) hx hb dX9_read_41 (by decide) ?_
      refine lv_istore (lv' := [(4, .int 0), (3, .int (nI (zq))), (2, .int 0), (0, .ref h0), (1, .int 0)]) hx hb dX9_read_42 hl (by decide) rfl (fun ls hl => ?_)
      refine lv_iconst (v := 0) hx hb dX9_read_44 (by decide) ?_
      refine lv_istore (lv' := [(5, .int 0), (4, .int 0), (3, .int (nI (zq))), (2, .int 0), (0, .ref h0), (1, .int 0)]) hx hb dX9_read_45 hl (by decide) rfl (fun ls hl => ?_)
      suffices loop_47 : ∀ (n_47 : Nat) (i : Nat) (u8 : Int32) (H : Heap) (locs : List Loc) (ls : Array Slot), zq - i < n_47 → (i ≤ zq) → (RDI fal fao nu P i u8) → va_P D vwCl [(ybi, .inl (cI, 4, .inl bi)), (ysi, .inl (cI, 4, .inl sq)), (ynu, .inl (cJ, 160, .inr (.inl nb))), (yt, .inl (cI, 7, .inl mq)), (h0, .inr (9, [.ref ys, .ref yk, .ref yo, .ref yt, .int mk0, .ref yfa, .ref yfe, .int mL2_9, .int mS, .int mM, .ref yro, .ref yhe, .ref ygr, .int mF, .int mC, .int mY, .ref yta, .int (nI (mz)), .int (nI (mf)), .int (nI (mt)), .int mv, .int mw, .ref ywa, .ref ybi, .ref ysi, .ref ynu, .ref ymo])), (ys, .inl (cI, 449, .inl ms)), (yfa, .inl (cI, 100, .inl fa2_10)), (yfe, .inl (cI, 100, .inl fe2_11))] H → va_D A [(ybi, .inl (cI, 4, .inl bi)), (ysi, .inl (cI, 4, .inl sq)), (ynu, .inl (cJ, 160, .inr (.inl nb))), (yt, .inl (cI, 7, .inl mq)), (h0, .inr (9, [.ref ys, .ref yk, .ref yo, .ref yt, .int mk0, .ref yfa, .ref yfe, .int mL2_9, .int mS, .int mM, .ref yro, .ref yhe, .ref ygr, .int mF, .int mC, .int mY, .ref yta, .int (nI (mz)), .int (nI (mf)), .int (nI (mt)), .int mv, .int mw, .ref ywa, .ref ybi, .ref ysi, .ref ynu, .ref ymo])), (ys, .inl (cI, 449, .inl ms)), (yfa, .inl (cI, 100, .inl fa2_10)), (yfe, .inl (cI, 100, .inl fe2_11))] → va_S A s.heap H locs → lv_has ls 9 [(5, .int (nI (i))), (4, .int u8), (3, .int (nI (zq))), (2, .int 0), (0, .ref h0), (1, .int 0)] → W p l e ({ frames := 3, cells := 0, slots := 0, locals := 66 }) s m ([.ref h0, .int 0] : List Value).toArray below meth c H locs 0 0 (MQ below (XQi (fun (r : Int32) (u : Int32 × (Nat → Int32) × (Nat → Int32) × (Nat → Int32)) => match u with | (mL2, fa2, fe2, mq2) => ((r = rdR fal fao nu P zq bt))) D (fun (u : Int32 × (Nat → Int32) × (Nat → Int32) × (Nat → Int32)) => match u with | (mL2, fa2, fe2, mq2) => [(h0, .inr (9, [.ref ys, .ref yk, .ref yo, .ref yt, .int mk0, .ref yfa, .ref yfe, .int mL2, .int mS, .int mM, .ref yro, .ref yhe, .ref ygr, .int mF, .int mC, .int mY, .ref yta, .int (nI (mz)), .int (nI (mf)), .int (nI (mt)), .int mv, .int mw, .ref ywa, .ref ybi, .ref ysi, .ref ynu, .ref ymo])), (ys, .inl (cI, 449, .inl ms)), (yfa, .inl (cI, 100, .inl fa2)), (yfe, .inl (cI, 100, .inl fe2)), (ybi, .inl (cI, 4, .inl bi)), (ysi, .inl (cI, 4, .inl sq)), (ynu, .inl (cJ, 160, .inr (.inl nb))), (yt, .inl (cI, 7, .inl mq2))]) A) ([.ref h0, .int 0] : List Value).toArray s 0 0 A) (F0 m 47 ls []) by
        exact loop_47 _ 0 0 _ _ _ (Nat.lt_succ_self _) (by omega) RDI.zero hP hD hS (lv_sub hl [0, 1, 2, 3, 4, 5] rfl)
      intro n_47
      induction n_47 with
      | zero =>
        intro i u8 H locs ls hm_47
        exact absurd hm_47 (Nat.not_lt_zero _)
      | succ n_47 ih_47 =>
        intro i u8 H locs ls hm_47 hi hr9 hP hD hS hl
        refine lv_iload hx hb dX9_read_47 (lv_at hl 0 rfl) ?_
        refine lv_iload_n hx hb dX9_read_49 rfl (lv_at hl 2 rfl) ?_
        refine lv_icmp_ge (tgt := 158) hx hb dX9_read_50 (by decide) (fun c_14 => ?_) (fun c_14 => ?_)
        · skip
          have nc_14 : zq ≤ i := xn_le (a := zq) (b := i) (by omega) (by omega) c_14
          refine lv_iload_n hx hb dX9_read_158 rfl (lv_at hl 2 rfl) ?_
          refine lv_iconst (v := 2) hx hb dX9_read_159 (by decide) ?_
          refine lv_icmp_ge (tgt := 165) hx hb dX9_read_160 (by decide) (fun c_15 => ?_) (fun c_15 => ?_)
          · skip
            have nc_15 : 2 ≤ zq := xn_le (a := 2) (b := zq) (by omega) (by omega) c_15
            refine lv_iload hx hb dX9_read_165 (lv_at hl 1 rfl) ?_
            refine lv_aload_n hx hb dX9_read_167 rfl (lv_at hl 4 rfl) ?_
            refine xg hF kf_X9_22 hK hP 4 rfl rfl dX9_read_168 ?_
            refine lv_bipush (v := 10) hx hb dX9_read_171 (by decide) ?_
            refine lv_aload_n hx hb dX9_read_173 rfl (lv_at hl 4 rfl) ?_
            refine xg hF kf_X9_49 hK hP 4 rfl rfl dX9_read_174 ?_
            refine lv_bipush (v := 40) hx hb dX9_read_177 (by decide) ?_
            refine lv_iload_n hx hb dX9_read_179 rfl (lv_at hl 5 rfl) ?_
            refine lv_imul hx hb dX9_read_180 ?_
            refine xl_i (y := 0) (by decide) ?_
            refine va_lald hx hb hK hP 2 1 rfl rfl (xin 0 160 (by decide) (by decide)) dX9_read_181 ?_
            refine xl_l (y := nb 0) (congrArg nb rfl) ?_
            refine xl_l (y := nu 0) (hn 0 (by omega)) ?_
            have hy7 := (hr9.pv (by omega) (show 0 < i by omega)).1
            refine lv_l2i (v := (nu 0).toInt32) hx hb dX9_read_182 rfl ?_
            refine xl_i (y := nI (pl9 nu 0)) (by rw [(hr9.pv (by omega) (show 0 < i by omega)).2, lN_i]) ?_
            refine lv_imul hx hb dX9_read_183 ?_
            refine xl_i (y := nI (10 * (pl9 nu 0))) (pk_mul 10 (pl9 nu 0)) ?_
            refine lv_aload_n hx hb dX9_read_184 rfl (lv_at hl 4 rfl) ?_
            refine xg hF kf_X9_49 hK hP 4 rfl rfl dX9_read_185 ?_
            refine lv_bipush (v := 40) hx hb dX9_read_188 (by decide) ?_
            refine lv_iload_n hx hb dX9_read_190 rfl (lv_at hl 5 rfl) ?_
            refine lv_imul hx hb dX9_read_191 ?_
            refine xl_i (y := 0) (by decide) ?_
            refine lv_iload_n hx hb dX9_read_192 rfl (lv_at hl 2 rfl) ?_
            refine lv_iadd hx hb dX9_read_193 ?_
            refine xl_i (y := nI (0 + zq)) (nI_add 0 zq) ?_
            refine lv_iconst (v := 1) hx hb dX9_read_194 (by decide) ?_
            refine lv_isub hx hb dX9_read_195 ?_
            refine xl_i (y := nI (0 + zq - 1)) (pk_sub (show 1 ≤ 0 + zq by omega)) ?_
            refine va_lald hx hb hK hP 2 1 rfl rfl (vp_in_nI (show 0 + zq - 1 < 160 by omega) (by decide)) dX9_read_196 ?_
            refine xl_l (y := nb (0 + zq - 1)) (congrArg nb (nI_clamp (show 0 + zq - 1 < 2 ^ 31 by omega))) ?_
            refine xl_l (y := nu (zq - 1)) ((congrArg nb (by omega)).trans (hn (zq - 1) (by omega))) ?_
            have hy6 := (hr9.pv (by omega) (show zq - 1 < i by omega)).1
            refine lv_l2i (v := (nu (zq - 1)).toInt32) hx hb dX9_read_197 rfl ?_
            refine xl_i (y := nI (pl9 nu (zq - 1))) (by rw [(hr9.pv (by omega) (show (zq - 1) < i by omega)).2, lN_i]) ?_
            refine lv_iadd hx hb dX9_read_198 ?_
            refine xl_i (y := nI (10 * (pl9 nu 0) + (pl9 nu (zq - 1)))) (nI_add (10 * (pl9 nu 0)) (pl9 nu (zq - 1))) ?_
            refine va_iald hx hb hK hP 6 0 rfl rfl (vp_in_nI (show 10 * (pl9 nu 0) + (pl9 nu (zq - 1)) < 100 by omega) (by decide)) dX9_read_199 ?_
            refine xl_i (y := fa2_10 (10 * (pl9 nu 0) + (pl9 nu (zq - 1)))) (congrArg fa2_10 (nI_clamp (show 10 * (pl9 nu 0) + (pl9 nu (zq - 1)) < 2 ^ 31 by omega))) ?_
            refine lv_icmp_ne (tgt := 207) hx hb dX9_read_200 (by decide) (fun c_16 => ?_) (fun c_16 => ?_)
            · skip
              refine lv_iconst (v := 1) hx hb dX9_read_207 (by decide) ?_
              refine lv_iload_n hx hb dX9_read_208 rfl (lv_at hl 2 rfl) ?_
              refine lv_iadd hx hb dX9_read_209 ?_
              refine xl_i (y := nI (1 + zq)) (nI_add 1 zq) ?_
              exact W.iret (v := nI (1 + zq)) hx hb hr (fun t ht hW => ⟨⟨nI (1 + zq), (mL2_9, fa2_10, fe2_11, mq), rfl, rd_y (fun h => h_3 (hbt9.trans h)) (fw_Gd.nl (fin_0 hsG (by omega) i_12 c_13) (by omega)) ((congrArg nI (show 1 + zq = zq + 1 by omega)).trans (RDI.rn (show RDI fal fao nu P zq u8 from by rw [show zq = i by omega]; exact hr9) (by omega) (fin_0 hsG (by omega) i_12 c_13) (by omega) rfl rfl c_16)), by rw [ht]; exact hP.sub [4, 5, 6, 7, 0, 1, 2, 3] rfl, hD.sub [4, 5, 6, 7, 0, 1, 2, 3] (by decide +kernel) rfl⟩, hS.F ht⟩) hS.2.2 dX9_read_210 hlk
            · skip
              refine lv_iconst (v := 0) hx hb dX9_read_203 (by decide) ?_
              refine lv_goto (tgt := 210) hx hb dX9_read_204 (by decide) ?_
              exact W.iret (v := 0) hx hb hr (fun t ht hW => ⟨⟨0, (mL2_9, fa2_10, fe2_11, mq), rfl, rd_y (fun h => h_3 (hbt9.trans h)) (fw_Gd.nl (fin_0 hsG (by omega) i_12 c_13) (by omega)) (RDI.ry (show RDI fal fao nu P zq u8 from by rw [show zq = i by omega]; exact hr9) (by omega) (fin_0 hsG (by omega) i_12 c_13) (by omega) rfl rfl c_16), by rw [ht]; exact hP.sub [4, 5, 6, 7, 0, 1, 2, 3] rfl, hD.sub [4, 5, 6, 7, 0, 1, 2, 3] (by decide +kernel) rfl⟩, hS.F ht⟩) hS.2.2 dX9_read_210 hlk
          · skip
            have nc_15 : zq < 2 := xn_nle (a := 2) (b := zq) (by omega) (by omega) c_15
            refine lv_iconst (v := 1) hx hb dX9_read_163 (by decide) ?_
            exact W.iret (v := 1) hx hb hr (fun t ht hW => ⟨⟨1, (mL2_9, fa2_10, fe2_11, mq), rfl, rd_y (fun h => h_3 (hbt9.trans h)) (fw_Gd.nl (fin_0 hsG (by omega) i_12 c_13) (by omega)) (rd_small (by omega)), by rw [ht]; exact hP.sub [4, 5, 6, 7, 0, 1, 2, 3] rfl, hD.sub [4, 5, 6, 7, 0, 1, 2, 3] (by decide +kernel) rfl⟩, hS.F ht⟩) hS.2.2 dX9_read_164 hlk
        · skip
          have nc_14 : i < zq := xn_nle (a := zq) (b := i) (by omega) (by omega) c_14
          refine lv_aload_n hx hb dX9_read_53 rfl (lv_at hl 4 rfl) ?_
          refine xg hF kf_X9_49 hK hP 4 rfl rfl dX9_read_54 ?_
          refine lv_bipush (v := 40) hx hb dX9_read_57 (by decide) ?_
          refine lv_iload_n hx hb dX9_read_59 rfl (lv_at hl 5 rfl) ?_
          refine lv_imul hx hb dX9_read_60 ?_
          refine xl_i (y := 0) (by decide) ?_
          refine lv_iload hx hb dX9_read_61 (lv_at hl 0 rfl) ?_
          refine lv_iadd hx hb dX9_read_63 ?_
          refine xl_i (y := nI (0 + i)) (nI_add 0 i) ?_
          refine va_lald hx hb hK hP 2 1 rfl rfl (vp_in_nI (show 0 + i < 160 by omega) (by decide)) dX9_read_64 ?_
          refine xl_l (y := nb (0 + i)) (congrArg nb (nI_clamp (show 0 + i < 2 ^ 31 by omega))) ?_
          refine xl_l (y := nu i) (hn i (by omega)) ?_
          refine lv_lstore (lv' := [(6, .long (nu i)), (5, .int (nI (i))), (4, .int u8), (3, .int (nI (zq))), (2, .int 0), (0, .ref h0), (1, .int 0)]) hx hb dX9_read_65 hl (by decide) rfl (fun ls hl => ?_)
          refine lv_lload hx hb dX9_read_67 (lv_at hl 0 rfl) ?_
          refine lv_lconst (v := 0) hx hb dX9_read_69 (by decide) ?_
          refine xl_l (y := (0 : Int32).toInt64) (by decide) ?_
          refine lv_aload_n hx hb dX9_read_70 rfl (lv_at hl 5 rfl) ?_
          refine xg hF kf_X9_7 hK hP 4 rfl rfl dX9_read_71 ?_
          refine lv_iconst (v := 0) hx hb dX9_read_74 (by decide) ?_
          refine va_iald hx hb hK hP 5 0 rfl rfl (xin 0 449 (by decide) (by decide)) dX9_read_75 ?_
          refine xl_i (y := nI (P)) hs0 ?_
          refine lv_iconst (v := 1) hx hb dX9_read_76 (by decide) ?_
          refine lv_isub hx hb dX9_read_77 ?_
          refine lv_topi (fun x_17 ex_17 => ?_)
          refine lv_i2l (v := x_17.toInt64) hx hb dX9_read_78 rfl ?_
          refine xc_Sr hF (c_X9_inL l D cI cJ cZ cS ta sa sv H.size (nu i) 0 x_17 ) ks_X9_57 ⟨rfl, rfl, Nat.le_of_ble_eq_true rfl, Nat.le_of_ble_eq_true rfl⟩ ⟨Nat.le_of_ble_eq_true rfl, Nat.le_of_ble_eq_true rfl⟩ hK hN hZ hP hD hS hA [] rfl rfl rfl hl.1 rfl (Nat.le_of_ble_eq_true rfl) dX9_read_79 (fun r_18 hw_r_18 => ?_)
          rcases hw_r_18 with ⟨rfl, h_19, h_20⟩ | ⟨rfl, h_21⟩
          · skip
            refine lv_if_ne (tgt := 90) hx hb dX9_read_82 (by decide) (fun c_22 => ?_) (fun c_22 => absurd c_22 (by decide))
            obtain ⟨y9, hy9, ey9⟩ := x_inPL (by omega) ex_17 h_19 h_20
            refine lv_iload hx hb dX9_read_90 (lv_at hl 1 rfl) ?_
            refine lv_if_le (tgt := 152) hx hb dX9_read_92 (by decide) (fun c_23 => ?_) (fun c_23 => ?_)
            · skip
              have nc_23 : i ≤ 0 := xn_le (a := i) (b := 0) (by omega) (by omega) c_23
              refine lv_iinc (v := nI (i + 1)) (lv' := [(5, .int (nI (i + 1))), (6, .long (nu i)), (4, .int u8), (3, .int (nI (zq))), (2, .int 0), (0, .ref h0), (1, .int 0)]) hx hb dX9_read_152 hl (k := 1) rfl (nI_1 (i)) (by decide) rfl (fun ls hl => ?_)
              refine lv_goto (tgt := 47) hx hb dX9_read_155 (by decide) ?_
              exact ih_47 (i + 1) u8 _ _ _ (by omega) (by omega) (hr9.first (by omega) (by omega) ey9) (hP.sub [0, 1, 2, 3, 4, 5, 6, 7] rfl) (hD.sub [0, 1, 2, 3, 4, 5, 6, 7] (by decide +kernel) rfl) hS (lv_sub hl [0, 2, 3, 4, 5, 6] rfl)
            · skip
              have nc_23 : 0 < i := xn_nle (a := i) (b := 0) (by omega) (by omega) c_23
              refine lv_aload_n hx hb dX9_read_95 rfl (lv_at hl 5 rfl) ?_
              refine xg hF kf_X9_49 hK hP 4 rfl rfl dX9_read_96 ?_
              refine lv_bipush (v := 40) hx hb dX9_read_99 (by decide) ?_
              refine lv_iload_n hx hb dX9_read_101 rfl (lv_at hl 6 rfl) ?_
              refine lv_imul hx hb dX9_read_102 ?_
              refine xl_i (y := 0) (by decide) ?_
              refine lv_iload hx hb dX9_read_103 (lv_at hl 1 rfl) ?_
              refine lv_iadd hx hb dX9_read_105 ?_
              refine xl_i (y := nI (0 + i)) (nI_add 0 i) ?_
              refine lv_iconst (v := 1) hx hb dX9_read_106 (by decide) ?_
              refine lv_isub hx hb dX9_read_107 ?_
              refine xl_i (y := nI (0 + i - 1)) (pk_sub (show 1 ≤ 0 + i by omega)) ?_
              refine va_lald hx hb hK hP 2 1 rfl rfl (vp_in_nI (show 0 + i - 1 < 160 by omega) (by decide)) dX9_read_108 ?_
              refine xl_l (y := nb (0 + i - 1)) (congrArg nb (nI_clamp (show 0 + i - 1 < 2 ^ 31 by omega))) ?_
              refine xl_l (y := nu (i - 1)) ((congrArg nb (by omega)).trans (hn (i - 1) (by omega))) ?_
              have hy8 := (hr9.pv (by omega) (show i - 1 < i by omega)).1
              refine lv_l2i (v := (nu (i - 1)).toInt32) hx hb dX9_read_109 rfl ?_
              refine xl_i (y := nI (pl9 nu (i - 1))) (by rw [(hr9.pv (by omega) (show (i - 1) < i by omega)).2, lN_i]) ?_
              refine lv_istore (lv' := [(8, .int (nI (pl9 nu (i - 1)))), (6, .long (nu i)), (5, .int (nI (i))), (4, .int u8), (3, .int (nI (zq))), (2, .int 0), (0, .ref h0), (1, .int 0)]) hx hb dX9_read_110 hl (by decide) rfl (fun ls hl => ?_)
              refine lv_lload hx hb dX9_read_112 (lv_at hl 1 rfl) ?_
              refine lv_iload hx hb dX9_read_114 (lv_at hl 0 rfl) ?_
              refine lv_i2l (v := (nI (pl9 nu (i - 1))).toInt64) hx hb dX9_read_116 rfl ?_
              refine W.lcmp hx hb dX9_read_117 ?_
              refine lv_if_eq (tgt := 133) hx hb dX9_read_118 (by decide) (fun c_24 => ?_) (fun c_24 => ?_)
              · skip
                refine lv_iload hx hb dX9_read_133 (lv_at hl 2 rfl) ?_
                refine lv_iconst (v := 1) hx hb dX9_read_135 (by decide) ?_
                refine lv_iadd hx hb dX9_read_136 ?_
                refine xl_i (y := nI (i + 1)) (nI_add i 1) ?_
                exact W.iret (v := nI (i + 1)) hx hb hr (fun t ht hW => ⟨⟨nI (i + 1), (mL2_9, fa2_10, fe2_11, mq), rfl, rd_y (fun h => h_3 (hbt9.trans h)) (fw_Gd.nl (fin_0 hsG (by omega) i_12 c_13) (by omega)) (hr9.bad3 (by omega) (by omega) (by omega) (by omega) ey9 (hEI.2 y9 (by omega)) c_24), by rw [ht]; exact hP.sub [4, 5, 6, 7, 0, 1, 2, 3] rfl, hD.sub [4, 5, 6, 7, 0, 1, 2, 3] (by decide +kernel) rfl⟩, hS.F ht⟩) hS.2.2 dX9_read_137 hlk
              · skip
                refine lv_aload_n hx hb dX9_read_121 rfl (lv_at hl 6 rfl) ?_
                refine lv_iload hx hb dX9_read_122 (lv_at hl 0 rfl) ?_
                refine lv_lload hx hb dX9_read_124 (lv_at hl 1 rfl) ?_
                refine lv_l2i (v := (nu i).toInt32) hx hb dX9_read_126 rfl ?_
                refine xl_i (y := nI (y9)) (by rw [ey9, lN_i]) ?_
                refine xc_Vr hF (c_X9_isOpenF l D cI cJ cZ cS ta sa sv H.size h0 ys yk yo yt mk0 yfa yfe mL2_9 mS mM yro yhe ygr mF mC mY yta mz mf mt mv mw ywa ybi ysi ynu ymo ms P Rn Wn fae fal fau fao farn farp fak fawn fawp fat fas (pl9 nu (i - 1)) y9 (by omega) (by omega) hs0 hs1 hs2 hsS hsM hsp hsr hsw hsR hsG) kv_X9_97 ⟨rfl, rfl, Nat.le_of_ble_eq_true rfl, Nat.le_of_ble_eq_true rfl⟩ ⟨Nat.le_of_ble_eq_true rfl, Nat.le_of_ble_eq_true rfl⟩ hK hN hZ hP hD hS hA [4, 5] rfl rfl 0 rfl rfl rfl rfl hl.1 rfl (Nat.le_of_ble_eq_true rfl) dX9_read_127 (fun r_25 hw_r_25 => ?_)
                rcases hw_r_25 with ⟨rfl, h_26, h_27⟩ | ⟨rfl, h_28, h_29⟩
                · skip
                  refine lv_if_ne (tgt := 138) hx hb dX9_read_130 (by decide) (fun c_30 => ?_) (fun c_30 => absurd c_30 (by decide))
                  refine lv_iload hx hb dX9_read_138 (lv_at hl 3 rfl) ?_
                  refine lv_aload_n hx hb dX9_read_140 rfl (lv_at hl 6 rfl) ?_
                  refine lv_iload hx hb dX9_read_141 (lv_at hl 0 rfl) ?_
                  refine lv_lload hx hb dX9_read_143 (lv_at hl 1 rfl) ?_
                  refine lv_l2i (v := (nu i).toInt32) hx hb dX9_read_145 rfl ?_
                  refine xl_i (y := nI (y9)) (by rw [ey9, lN_i]) ?_
                  refine xc_Vr hF (c_X9_milesF l D cI cJ cZ cS ta sa sv H.size h0 ys yk yo yt mk0 yfa yfe mL2_9 mS mM yro yhe ygr mF mC mY yta mz mf mt mv mw ywa ybi ysi ynu ymo ms P Rn Wn fae fal fau fao farn farp fak fawn fawp fat fas (pl9 nu (i - 1)) y9 (by omega) (by omega) hs0 hs1 hs2 hsS hsM hsp hsr hsw hsR hsG) kv_X9_100 ⟨rfl, rfl, Nat.le_of_ble_eq_true rfl, Nat.le_of_ble_eq_true rfl⟩ ⟨Nat.le_of_ble_eq_true rfl, Nat.le_of_ble_eq_true rfl⟩ hK hN hZ hP hD hS hA [4, 5] rfl rfl 0 rfl rfl rfl rfl hl.1 rfl (Nat.le_of_ble_eq_true rfl) dX9_read_146 (fun r_31 hw_r_31 => ?_)
                  subst hw_r_31
                  refine lv_iadd hx hb dX9_read_149 ?_
                  refine lv_istore (lv' := [(4, .int (u8 + (fal (10 * (pl9 nu (i - 1)) + y9)))), (8, .int (nI (pl9 nu (i - 1)))), (6, .long (nu i)), (5, .int (nI (i))), (3, .int (nI (zq))), (2, .int 0), (0, .ref h0), (1, .int 0)]) hx hb dX9_read_150 hl (by decide) rfl (fun ls hl => ?_)
                  refine lv_iinc (v := nI (i + 1)) (lv' := [(5, .int (nI (i + 1))), (4, .int (u8 + (fal (10 * (pl9 nu (i - 1)) + y9)))), (8, .int (nI (pl9 nu (i - 1)))), (6, .long (nu i)), (3, .int (nI (zq))), (2, .int 0), (0, .ref h0), (1, .int 0)]) hx hb dX9_read_152 hl (k := 3) rfl (nI_1 (i)) (by decide) rfl (fun ls hl => ?_)
                  refine lv_goto (tgt := 47) hx hb dX9_read_155 (by decide) ?_
                  exact ih_47 (i + 1) (u8 + (fal (10 * (pl9 nu (i - 1)) + y9))) _ _ _ (by omega) (by omega) (hr9.more (by omega) (by omega) (by omega) ey9 rfl h_27) (hP.sub [0, 1, 2, 3, 4, 5, 6, 7] rfl) (hD.sub [0, 1, 2, 3, 4, 5, 6, 7] (by decide +kernel) rfl) hS (lv_sub hl [0, 1, 4, 5, 6, 7] rfl)
                · skip
                  refine lv_if_ne (tgt := 138) hx hb dX9_read_130 (by decide) (fun c_32 => absurd (by decide) c_32) (fun c_32 => ?_)
                  refine lv_iload hx hb dX9_read_133 (lv_at hl 2 rfl) ?_
                  refine lv_iconst (v := 1) hx hb dX9_read_135 (by decide) ?_
                  refine lv_iadd hx hb dX9_read_136 ?_
                  refine xl_i (y := nI (i + 1)) (nI_add i 1) ?_
                  exact W.iret (v := nI (i + 1)) hx hb hr (fun t ht hW => ⟨⟨nI (i + 1), (mL2_9, fa2_10, fe2_11, mq), rfl, rd_y (fun h => h_3 (hbt9.trans h)) (fw_Gd.nl (fin_0 hsG (by omega) i_12 c_13) (by omega)) (hr9.bad2 (by omega) (by omega) (by omega) (by omega) ey9 rfl h_29), by rw [ht]; exact hP.sub [4, 5, 6, 7, 0, 1, 2, 3] rfl, hD.sub [4, 5, 6, 7, 0, 1, 2, 3] (by decide +kernel) rfl⟩, hS.F ht⟩) hS.2.2 dX9_read_137 hlk
          · skip
            refine lv_if_ne (tgt := 90) hx hb dX9_read_82 (by decide) (fun c_33 => absurd (by decide) c_33) (fun c_33 => ?_)
            refine lv_iload hx hb dX9_read_85 (lv_at hl 1 rfl) ?_
            refine lv_iconst (v := 1) hx hb dX9_read_87 (by decide) ?_
            refine lv_iadd hx hb dX9_read_88 ?_
            refine xl_i (y := nI (i + 1)) (nI_add i 1) ?_
            exact W.iret (v := nI (i + 1)) hx hb hr (fun t ht hW => ⟨⟨nI (i + 1), (mL2_9, fa2_10, fe2_11, mq), rfl, rd_y (fun h => h_3 (hbt9.trans h)) (fw_Gd.nl (fin_0 hsG (by omega) i_12 c_13) (by omega)) (hr9.bad1 (by omega) (xnL3 (by omega) ex_17 h_21)), by rw [ht]; exact hP.sub [4, 5, 6, 7, 0, 1, 2, 3] rfl, hD.sub [4, 5, 6, 7, 0, 1, 2, 3] (by decide +kernel) rfl⟩, hS.F ht⟩) hS.2.2 dX9_read_89 hlk
    · skip
      refine lv_aload_n hx hb dX9_read_27 rfl (lv_at hl 1 rfl) ?_
      refine lv_ldc (v := (-1000000005)) hx hb hown (hu _ uw716) dX9_read_28 ?_
      refine xc_Vi (wr := [(ybi, .inl (cI, 4, .inl bi)), (ysi, .inl (cI, 4, .inl sq)), (ynu, .inl (cJ, 160, .inr (.inl nb))), (ys, .inl (cI, 449, .inl ms)), (yfa, .inl (cI, 100, .inl fa2_10)), (yfe, .inl (cI, 100, .inl fe2_11))]) hF (c_X9_finds_T l D cI cJ cZ cS ta sa sv H.size h0 ys yk yo yt mk0 yfa yfe mL2_9 mS mM yro yhe ygr mF mC mY yta mz mf mt mv mw ywa ybi ysi ynu ymo mq ) kv_X9_70 ⟨rfl, rfl, Nat.le_of_ble_eq_true rfl, Nat.le_of_ble_eq_true rfl⟩ ⟨Nat.le_of_ble_eq_true rfl, Nat.le_of_ble_eq_true rfl⟩ hK hN hZ hP hD hS hA [4, 3] [0, 1, 2, 5, 6, 7] rfl rfl rfl (by decide +kernel) (by decide +kernel) 0 rfl rfl rfl rfl hl.1 rfl (Nat.le_of_ble_eq_true rfl) dX9_read_30 (fun r_34 u_r_34 H locs hw_r_34 hP hD hS => ?_)
      obtain ⟨mq2_35, rfl⟩ : ∃ z, z = u_r_34 := ⟨_, rfl⟩
      try dsimp only at hw_r_34
      have hP : va_P D vwCl [(ybi, .inl (cI, 4, .inl bi)), (ysi, .inl (cI, 4, .inl sq)), (ynu, .inl (cJ, 160, .inr (.inl nb))), (ys, .inl (cI, 449, .inl ms)), (yfa, .inl (cI, 100, .inl fa2_10)), (yfe, .inl (cI, 100, .inl fe2_11)), (h0, .inr (9, [.ref ys, .ref yk, .ref yo, .ref yt, .int mk0, .ref yfa, .ref yfe, .int mL2_9, .int mS, .int mM, .ref yro, .ref yhe, .ref ygr, .int mF, .int mC, .int mY, .ref yta, .int (nI (mz)), .int (nI (mf)), .int (nI (mt)), .int mv, .int mw, .ref ywa, .ref ybi, .ref ysi, .ref ynu, .ref ymo])), (yt, .inl (cI, 7, .inl mq2_35))] H := hP
      have hD : va_D A [(ybi, .inl (cI, 4, .inl bi)), (ysi, .inl (cI, 4, .inl sq)), (ynu, .inl (cJ, 160, .inr (.inl nb))), (ys, .inl (cI, 449, .inl ms)), (yfa, .inl (cI, 100, .inl fa2_10)), (yfe, .inl (cI, 100, .inl fe2_11)), (h0, .inr (9, [.ref ys, .ref yk, .ref yo, .ref yt, .int mk0, .ref yfa, .ref yfe, .int mL2_9, .int mS, .int mM, .ref yro, .ref yhe, .ref ygr, .int mF, .int mC, .int mY, .ref yta, .int (nI (mz)), .int (nI (mf)), .int (nI (mt)), .int mv, .int mw, .ref ywa, .ref ybi, .ref ysi, .ref ynu, .ref ymo])), (yt, .inl (cI, 7, .inl mq2_35))] := hD
      subst hw_r_34
      exact W.iret (v := (-1000000005)) hx hb hr (fun t ht hW => ⟨⟨(-1000000005), (mL2_9, fa2_10, fe2_11, mq2_35), rfl, rd_lp (fun h => h_3 (hbt9.trans h)) (fin_1 hsG (by omega) i_12 c_13), by rw [ht]; exact hP.sub [6, 3, 4, 5, 0, 1, 2, 7] rfl, hD.sub [6, 3, 4, 5, 0, 1, 2, 7] (by decide +kernel) rfl⟩, hS.F ht⟩) hS.2.2 dX9_read_33 hlk
set_option maxHeartbeats 4000000 in
set_option maxRecDepth 100000 in
theorem c_X9_read_1 (l : Launch) (D : va_G) (cI cJ cZ cS : ClassId) (ta : Nat) (sa sv : Nat → Nat) (sz : Nat) (h0 : Nat) (ys : Nat) (yk : Nat) (yo : Nat) (yt : Nat) (mk0 : Int32) (yfa : Nat) (yfe : Nat) (mL : Int32) (mS : Int32) (mM : Int32) (yro : Nat) (yhe : Nat) (ygr : Nat) (mF : Int32) (mC : Int32) (mY : Int32) (yta : Nat) (mz : Nat) (mf : Nat) (mt : Nat) (mv : Int32) (mw : Int32) (ywa : Nat) (ybi : Nat) (ysi : Nat) (ynu : Nat) (ymo : Nat) (ms : Nat → Int32) (fa : Nat → Int32) (fe : Nat → Int32) (bi : Nat → Int32) (sq : Nat → Int32) (nb : Nat → Int64) (mq : Nat → Int32) (P : Nat) (Rn : Nat) (Wn : Nat) (fae : Nat → Int32) (fal : Nat → Int32) (fau : Nat → Int32) (fao : Nat → Int32) (farn : Nat → Int32) (farp : Nat → Int32) (fak : Nat → Int32) (fawn : Nat → Int32) (fawp : Nat → Int32) (fat : Nat → Int32) (fas : Nat → Int32) (bt : Int32) (zq : Nat) (nu : Nat → Int64) (hbt9 : bi 1 = bt) (ez : sq 1 = nI zq) (hzq : zq ≤ 40) (hn : ∀ j, j < 40 → nb (40 + j) = nu j) (hEI : EI fal fau fao) (hsq : BA 4 41 sq) (hs0 : ms 0 = nI P) (hs1 : ms 1 = nI Rn) (hs2 : ms 2 = nI Wn) (hsS : SI ms) (hsM : MI ms) (hsp : P ≤ 10) (hsr : Rn ≤ 8) (hsw : Wn ≤ 8) (hsR : RI Rn ms) (hsG : FR P ms fae fal fau fao farn farp fak fawn fawp fat fas) : Met l yX9_read (Cond.code yX9_read cX9_read 9 (some .int) :: wsU) ({ frames := 3, cells := 0, slots := 0, locals := 66 }) (va_Pc [.ref h0, .int 1] (XW D (xT cI cJ cZ cS) ta sa sv [(h0, .inr (9, [.ref ys, .ref yk, .ref yo, .ref yt, .int mk0, .ref yfa, .ref yfe, .int mL, .int mS, .int mM, .ref yro, .ref yhe, .ref ygr, .int mF, .int mC, .int mY, .ref yta, .int (nI (mz)), .int (nI (mf)), .int (nI (mt)), .int mv, .int mw, .ref ywa, .ref ybi, .ref ysi, .ref ynu, .ref ymo])), (ys, .inl (cI, 449, .inl ms)), (yfa, .inl (cI, 100, .inl fa)), (yfe, .inl (cI, 100, .inl fe)), (ybi, .inl (cI, 4, .inl bi)), (ysi, .inl (cI, 4, .inl sq)), (ynu, .inl (cJ, 160, .inr (.inl nb))), (yt, .inl (cI, 7, .inl mq))] sz)) (XQi (fun (r : Int32) (u : Int32 × (Nat → Int32) × (Nat → Int32) × (Nat → Int32)) => match u with | (mL2, fa2, fe2, mq2) => ((r = rdR fal fao nu P zq bt))) D (fun (u : Int32 × (Nat → Int32) × (Nat → Int32) × (Nat → Int32)) => match u with | (mL2, fa2, fe2, mq2) => [(h0, .inr (9, [.ref ys, .ref yk, .ref yo, .ref yt, .int mk0, .ref yfa, .ref yfe, .int mL2, .int mS, .int mM, .ref yro, .ref yhe, .ref ygr, .int mF, .int mC, .int mY, .ref yta, .int (nI (mz)), .int (nI (mf)), .int (nI (mt)), .int mv, .int mw, .ref ywa, .ref ybi, .ref ysi, .ref ynu, .ref ymo])), (ys, .inl (cI, 449, .inl ms)), (yfa, .inl (cI, 100, .inl fa2)), (yfe, .inl (cI, 100, .inl fe2)), (ybi, .inl (cI, 4, .inl bi)), (ysi, .inl (cI, 4, .inl sq)), (ynu, .inl (cJ, 160, .inr (.inl nb))), (yt, .inl (cI, 7, .inl mq2))]) (va_A [(h0, .inr (9, [.ref ys, .ref yk, .ref yo, .ref yt, .int mk0, .ref yfa, .ref yfe, .int mL, .int mS, .int mM, .ref yro, .ref yhe, .ref ygr, .int mF, .int mC, .int mY, .ref yta, .int (nI (mz)), .int (nI (mf)), .int (nI (mt)), .int mv, .int mw, .ref ywa, .ref ybi, .ref ysi, .ref ynu, .ref ymo])), (ys, .inl (cI, 449, .inl ms)), (yfa, .inl (cI, 100, .inl fa)), (yfe, .inl (cI, 100, .inl fe)), (ybi, .inl (cI, 4, .inl bi)), (ysi, .inl (cI, 4, .inl sq)), (ynu, .inl (cJ, 160, .inr (.inl nb))), (yt, .inl (cI, 7, .inl mq))] sz)) 0 0 (va_A [(h0, .inr (9, [.ref ys, .ref yk, .ref yo, .ref yt, .int mk0, .ref yfa, .ref yfe, .int mL, .int mS, .int mM, .ref yro, .ref yhe, .ref ygr, .int mF, .int mC, .int mY, .ref yta, .int (nI (mz)), .int (nI (mf)), .int (nI (mt)), .int mv, .int mw, .ref ywa, .ref ybi, .ref ysi, .ref ynu, .ref ymo])), (ys, .inl (cI, 449, .inl ms)), (yfa, .inl (cI, 100, .inl fa)), (yfe, .inl (cI, 100, .inl fe)), (ybi, .inl (cI, 4, .inl bi)), (ysi, .inl (cI, 4, .inl sq)), (ynu, .inl (cJ, 160, .inr (.inl nb))), (yt, .inl (cI, 7, .inl mq))] sz) := by
  refine xh (QA := fun A => XQi (fun (r : Int32) (u : Int32 × (Nat → Int32) × (Nat → Int32) × (Nat → Int32)) => match u with | (mL2, fa2, fe2, mq2) => ((r = rdR fal fao nu P zq bt))) D (fun (u : Int32 × (Nat → Int32) × (Nat → Int32) × (Nat → Int32)) => match u with | (mL2, fa2, fe2, mq2) => [(h0, .inr (9, [.ref ys, .ref yk, .ref yo, .ref yt, .int mk0, .ref yfa, .ref yfe, .int mL2, .int mS, .int mM, .ref yro, .ref yhe, .ref ygr, .int mF, .int mC, .int mY, .ref yta, .int (nI (mz)), .int (nI (mf)), .int (nI (mt)), .int mv, .int mw, .ref ywa, .ref ybi, .ref ysi, .ref ynu, .ref ymo])), (ys, .inl (cI, 449, .inl ms)), (yfa, .inl (cI, 100, .inl fa2)), (yfe, .inl (cI, 100, .inl fe2)), (ybi, .inl (cI, 4, .inl bi)), (ysi, .inl (cI, 4, .inl sq)), (ynu, .inl (cJ, 160, .inr (.inl nb))), (yt, .inl (cI, 7, .inl mq2))]) A) (fr := fun A => A) (by decide) (Nat.le_of_ble_eq_true rfl) ?_
  intro p e s m below meth c ls A hF hr hlk hin hsz hP hK hD hN hZ hA hS hl
  have hF : CallFix p m c cX9_read 9 s _ _ RX9 := hF
  have hx := hF.1
  have hb := hF.2.1
  have hml := hF.2.2.1
  have hown := hF.2.2.2.1
  have hu : ∀ w ∈ wsU, w.before _ s = true := fun w h => hF.2.2.2.2 w (List.mem_cons_of_mem _ h)
  have hl : lv_has ls 9 [(0, .ref h0), (1, .int 1)] := hl
  refine lv_aload_n hx hb dX9_read_0 rfl (lv_at hl 0 rfl) ?_
  refine lv_iload_n hx hb dX9_read_1 rfl (lv_at hl 1 rfl) ?_
  refine xc_Vr hF (c_X9_wrong_1 l D cI cJ cZ cS ta sa sv s.heap.size h0 ys yk yo yt mk0 yfa yfe mL mS mM yro yhe ygr mF mC mY yta mz mf mt mv mw ywa ybi ysi ynu ymo bi ) kv_X9_310 ⟨rfl, rfl, Nat.le_of_ble_eq_true rfl, Nat.le_of_ble_eq_true rfl⟩ ⟨Nat.le_of_ble_eq_true rfl, Nat.le_of_ble_eq_true rfl⟩ hK hN hZ hP hD hS hA [0, 4] rfl rfl 0 rfl rfl rfl rfl hl.1 rfl (Nat.le_of_ble_eq_true rfl) dX9_read_2 (fun r_1 hw_r_1 => ?_)
  rcases hw_r_1 with ⟨rfl, h_2⟩ | ⟨rfl, h_3⟩
  · skip
    refine lv_istore_n (lv' := [(2, .int (-1000000006)), (0, .ref h0), (1, .int 1)]) hx hb dX9_read_5 rfl hl (by decide) rfl (fun ls hl => ?_)
    refine lv_iload_n hx hb dX9_read_6 rfl (lv_at hl 0 rfl) ?_
    refine lv_if_eq (tgt := 16) hx hb dX9_read_7 (by decide) (fun c_4 => absurd c_4 (by decide)) (fun c_4 => ?_)
    refine lv_aload_n hx hb dX9_read_10 rfl (lv_at hl 1 rfl) ?_
    refine lv_iload_n hx hb dX9_read_11 rfl (lv_at hl 0 rfl) ?_
    refine xc_Vi (wr := [(ys, .inl (cI, 449, .inl ms)), (yfa, .inl (cI, 100, .inl fa)), (yfe, .inl (cI, 100, .inl fe)), (ybi, .inl (cI, 4, .inl bi)), (ysi, .inl (cI, 4, .inl sq)), (ynu, .inl (cJ, 160, .inr (.inl nb)))]) hF (c_X9_finds_M l D cI cJ cZ cS ta sa sv s.heap.size h0 ys yk yo yt mk0 yfa yfe mL mS mM yro yhe ygr mF mC mY yta mz mf mt mv mw ywa ybi ysi ynu ymo mq ) kv_X9_70 ⟨rfl, rfl, Nat.le_of_ble_eq_true rfl, Nat.le_of_ble_eq_true rfl⟩ ⟨Nat.le_of_ble_eq_true rfl, Nat.le_of_ble_eq_true rfl⟩ hK hN hZ hP hD hS hA [0, 7] [1, 2, 3, 4, 5, 6] rfl rfl rfl (by decide +kernel) (by decide +kernel) 0 rfl rfl rfl rfl hl.1 rfl (Nat.le_of_ble_eq_true rfl) dX9_read_12 (fun r_5 u_r_5 H locs hw_r_5 hP hD hS => ?_)
    obtain ⟨mq2_6, rfl⟩ : ∃ z, z = u_r_5 := ⟨_, rfl⟩
    try dsimp only at hw_r_5
    have hP : va_P D vwCl [(ys, .inl (cI, 449, .inl ms)), (yfa, .inl (cI, 100, .inl fa)), (yfe, .inl (cI, 100, .inl fe)), (ybi, .inl (cI, 4, .inl bi)), (ysi, .inl (cI, 4, .inl sq)), (ynu, .inl (cJ, 160, .inr (.inl nb))), (h0, .inr (9, [.ref ys, .ref yk, .ref yo, .ref yt, .int mk0, .ref yfa, .ref yfe, .int mL, .int mS, .int mM, .ref yro, .ref yhe, .ref ygr, .int mF, .int mC, .int mY, .ref yta, .int (nI (mz)), .int (nI (mf)), .int (nI (mt)), .int mv, .int mw, .ref ywa, .ref ybi, .ref ysi, .ref ynu, .ref ymo])), (yt, .inl (cI, 7, .inl mq2_6))] H := hP
    have hD : va_D A [(ys, .inl (cI, 449, .inl ms)), (yfa, .inl (cI, 100, .inl fa)), (yfe, .inl (cI, 100, .inl fe)), (ybi, .inl (cI, 4, .inl bi)), (ysi, .inl (cI, 4, .inl sq)), (ynu, .inl (cJ, 160, .inr (.inl nb))), (h0, .inr (9, [.ref ys, .ref yk, .ref yo, .ref yt, .int mk0, .ref yfa, .ref yfe, .int mL, .int mS, .int mM, .ref yro, .ref yhe, .ref ygr, .int mF, .int mC, .int mY, .ref yta, .int (nI (mz)), .int (nI (mf)), .int (nI (mt)), .int mv, .int mw, .ref ywa, .ref ybi, .ref ysi, .ref ynu, .ref ymo])), (yt, .inl (cI, 7, .inl mq2_6))] := hD
    subst hw_r_5
    exact W.iret (v := (-1000000006)) hx hb hr (fun t ht hW => ⟨⟨(-1000000006), (mL, fa, fe, mq2_6), rfl, rd_m (hbt9.symm.trans h_2), by rw [ht]; exact hP.sub [6, 0, 1, 2, 3, 4, 5, 7] rfl, hD.sub [6, 0, 1, 2, 3, 4, 5, 7] (by decide +kernel) rfl⟩, hS.F ht⟩) hS.2.2 dX9_read_15 hlk
  · skip
    refine lv_istore_n (lv' := [(2, .int 0), (0, .ref h0), (1, .int 1)]) hx hb dX9_read_5 rfl hl (by decide) rfl (fun ls hl => ?_)
    refine lv_iload_n hx hb dX9_read_6 rfl (lv_at hl 0 rfl) ?_
    refine lv_if_eq (tgt := 16) hx hb dX9_read_7 (by decide) (fun c_7 => ?_) (fun c_7 => absurd (by decide) c_7)
    refine lv_aload_n hx hb dX9_read_16 rfl (lv_at hl 1 rfl) ?_
    refine xc_Vv (wr := [(ybi, .inl (cI, 4, .inl bi)), (ysi, .inl (cI, 4, .inl sq)), (ynu, .inl (cJ, 160, .inr (.inl nb))), (yt, .inl (cI, 7, .inl mq))]) hF (c_X9_findFar l D cI cJ cZ cS ta sa sv s.heap.size h0 ys yk yo yt mk0 yfa yfe mL mS mM yro yhe ygr mF mC mY yta mz mf mt mv mw ywa ybi ysi ynu ymo ms fa fe P Rn Wn fae fal fau fao farn farp fak fawn fawp fat fas hs0 hs1 hs2 hsS hsM hsp hsr hsw hsR hsG) kv_X9_113 ⟨rfl, rfl, Nat.le_of_ble_eq_true rfl, Nat.le_of_ble_eq_true rfl⟩ ⟨Nat.le_of_ble_eq_true rfl, Nat.le_of_ble_eq_true rfl⟩ hK hN hZ hP hD hS hA [0, 1, 2, 3] [4, 5, 6, 7] rfl rfl (by decide +kernel) (by decide +kernel) (by decide +kernel) 0 rfl rfl rfl rfl hl.1 rfl (Nat.le_of_ble_eq_true rfl) dX9_read_17 (fun u_r_8 H locs hw_r_8 hP hD hS => ?_)
    obtain ⟨mL2_9, fa2_10, fe2_11⟩ := u_r_8
    try dsimp only at hw_r_8
    have i_12 := hw_r_8
    have hP : va_P D vwCl [(ybi, .inl (cI, 4, .inl bi)), (ysi, .inl (cI, 4, .inl sq)), (ynu, .inl (cJ, 160, .inr (.inl nb))), (yt, .inl (cI, 7, .inl mq)), (h0, .inr (9, [.ref ys, .ref yk, .ref yo, .ref yt, .int mk0, .ref yfa, .ref yfe, .int mL2_9, .int mS, .int mM, .ref yro, .ref yhe, .ref ygr, .int mF, .int mC, .int mY, .ref yta, .int (nI (mz)), .int (nI (mf)), .int (nI (mt)), .int mv, .int mw, .ref ywa, .ref ybi, .ref ysi, .ref ynu, .ref ymo])), (ys, .inl (cI, 449, .inl ms)), (yfa, .inl (cI, 100, .inl fa2_10)), (yfe, .inl (cI, 100, .inl fe2_11))] H := hP
    have hD : va_D A [(ybi, .inl (cI, 4, .inl bi)), (ysi, .inl (cI, 4, .inl sq)), (ynu, .inl (cJ, 160, .inr (.inl nb))), (yt, .inl (cI, 7, .inl mq)), (h0, .inr (9, [.ref ys, .ref yk, .ref yo, .ref yt, .int mk0, .ref yfa, .ref yfe, .int mL2_9, .int mS, .int mM, .ref yro, .ref yhe, .ref ygr, .int mF, .int mC, .int mY, .ref yta, .int (nI (mz)), .int (nI (mf)), .int (nI (mt)), .int mv, .int mw, .ref ywa, .ref ybi, .ref ysi, .ref ynu, .ref ymo])), (ys, .inl (cI, 449, .inl ms)), (yfa, .inl (cI, 100, .inl fa2_10)), (yfe, .inl (cI, 100, .inl fe2_11))] := hD
    refine lv_aload_n hx hb dX9_read_20 rfl (lv_at hl 1 rfl) ?_
    refine xg hF kf_X9_109 hK hP 4 rfl rfl dX9_read_21 ?_
    refine lv_if_eq (tgt := 34) hx hb dX9_read_24 (by decide) (fun c_13 => ?_) (fun c_13 => ?_)
    · skip
      refine lv_aload_n hx hb dX9_read_34 rfl (lv_at hl 1 rfl) ?_
      refine xg hF kf_X9_46 hK hP 4 rfl rfl dX9_read_35 ?_
      refine lv_iload_n hx hb dX9_read_38 rfl (lv_at hl 2 rfl) ?_
      refine va_iald hx hb hK hP 1 0 rfl rfl (xin 1 4 (by decide) (by decide)) dX9_read_39 ?_
      refine xl_i (y := sq 1) (congrArg sq rfl) ?_
      refine xl_i (y := nI (zq)) ez ?_
      refine lv_istore_n (lv' := [(3, .int (nI (zq))), (2, .int 0), (0, .ref h0), (1, .int 1)]) hx hb dX9_read_40 rfl hl (by decide) rfl (fun ls hl => ?_)
      refine lv_iconst (v := 0) hx hb dX9_read_41 (by decide) ?_
      refine lv_istore (lv' := [(4, .int 0), (3, .int (nI (zq))), (2, .int 0), (0, .ref h0), (1, .int 1)]) hx hb dX9_read_42 hl (by decide) rfl (fun ls hl => ?_)
      refine lv_iconst (v := 0) hx hb dX9_read_44 (by decide) ?_
      refine lv_istore (lv' := [(5, .int 0), (4, .int 0), (3, .int (nI (zq))), (2, .int 0), (0, .ref h0), (1, .int 1)]) hx hb dX9_read_45 hl (by decide) rfl (fun ls hl => ?_)
      suffices loop_47 : ∀ (n_47 : Nat) (i : Nat) (u8 : Int32) (H : Heap) (locs : List Loc) (ls : Array Slot), zq - i < n_47 → (i ≤ zq) → (RDI fal fao nu P i u8) → va_P D vwCl [(ybi, .inl (cI, 4, .inl bi)), (ysi, .inl (cI, 4, .inl sq)), (ynu, .inl (cJ, 160, .inr (.inl nb))), (yt, .inl (cI, 7, .inl mq)), (h0, .inr (9, [.ref ys, .ref yk, .ref yo, .ref yt, .int mk0, .ref yfa, .ref yfe, .int mL2_9, .int mS, .int mM, .ref yro, .ref yhe, .ref ygr, .int mF, .int mC, .int mY, .ref yta, .int (nI (mz)), .int (nI (mf)), .int (nI (mt)), .int mv, .int mw, .ref ywa, .ref ybi, .ref ysi, .ref ynu, .ref ymo])), (ys, .inl (cI, 449, .inl ms)), (yfa, .inl (cI, 100, .inl fa2_10)), (yfe, .inl (cI, 100, .inl fe2_11))] H → va_D A [(ybi, .inl (cI, 4, .inl bi)), (ysi, .inl (cI, 4, .inl sq)), (ynu, .inl (cJ, 160, .inr (.inl nb))), (yt, .inl (cI, 7, .inl mq)), (h0, .inr (9, [.ref ys, .ref yk, .ref yo, .ref yt, .int mk0, .ref yfa, .ref yfe, .int mL2_9, .int mS, .int mM, .ref yro, .ref yhe, .ref ygr, .int mF, .int mC, .int mY, .ref yta, .int (nI (mz)), .int (nI (mf)), .int (nI (mt)), .int mv, .int mw, .ref ywa, .ref ybi, .ref ysi, .ref ynu, .ref ymo])), (ys, .inl (cI, 449, .inl ms)), (yfa, .inl (cI, 100, .inl fa2_10)), (yfe, .inl (cI, 100, .inl fe2_11))] → va_S A s.heap H locs → lv_has ls 9 [(5, .int (nI (i))), (4, .int u8), (3, .int (nI (zq))), (2, .int 0), (0, .ref h0), (1, .int 1)] → W p l e ({ frames := 3, cells := 0, slots := 0, locals := 66 }) s m ([.ref h0, .int 1] : List Value).toArray below meth c H locs 0 0 (MQ below (XQi (fun (r : Int32) (u : Int32 × (Nat → Int32) × (Nat → Int32) × (Nat → Int32)) => match u with | (mL2, fa2, fe2, mq2) => ((r = rdR fal fao nu P zq bt))) D (fun (u : Int32 × (Nat → Int32) × (Nat → Int32) × (Nat → Int32)) => match u with | (mL2, fa2, fe2, mq2) => [(h0, .inr (9, [.ref ys, .ref yk, .ref yo, .ref yt, .int mk0, .ref yfa, .ref yfe, .int mL2, .int mS, .int mM, .ref yro, .ref yhe, .ref ygr, .int mF, .int mC, .int mY, .ref yta, .int (nI (mz)), .int (nI (mf)), .int (nI (mt)), .int mv, .int mw, .ref ywa, .ref ybi, .ref ysi, .ref ynu, .ref ymo])), (ys, .inl (cI, 449, .inl ms)), (yfa, .inl (cI, 100, .inl fa2)), (yfe, .inl (cI, 100, .inl fe2)), (ybi, .inl (cI, 4, .inl bi)), (ysi, .inl (cI, 4, .inl sq)), (ynu, .inl (cJ, 160, .inr (.inl nb))), (yt, .inl (cI, 7, .inl mq2))]) A) ([.ref h0, .int 1] : List Value).toArray s 0 0 A) (F0 m 47 ls []) by
        exact loop_47 _ 0 0 _ _ _ (Nat.lt_succ_self _) (by omega) RDI.zero hP hD hS (lv_sub hl [0, 1, 2, 3, 4, 5] rfl)
      intro n_47
      induction n_47 with
      | zero =>
        intro i u8 H locs ls hm_47
        exact absurd hm_47 (Nat.not_lt_zero _)
      | succ n_47 ih_47 =>
        intro i u8 H locs ls hm_47 hi hr9 hP hD hS hl
        refine lv_iload hx hb dX9_read_47 (lv_at hl 0 rfl) ?_
        refine lv_iload_n hx hb dX9_read_49 rfl (lv_at hl 2 rfl) ?_
        refine lv_icmp_ge (tgt := 158) hx hb dX9_read_50 (by decide) (fun c_14 => ?_) (fun c_14 => ?_)
        · skip
          have nc_14 : zq ≤ i := xn_le (a := zq) (b := i) (by omega) (by omega) c_14
          refine lv_iload_n hx hb dX9_read_158 rfl (lv_at hl 2 rfl) ?_
          refine lv_iconst (v := 2) hx hb dX9_read_159 (by decide) ?_
          refine lv_icmp_ge (tgt := 165) hx hb dX9_read_160 (by decide) (fun c_15 => ?_) (fun c_15 => ?_)
          · skip
            have nc_15 : 2 ≤ zq := xn_le (a := 2) (b := zq) (by omega) (by omega) c_15
            refine lv_iload hx hb dX9_read_165 (lv_at hl 1 rfl) ?_
            refine lv_aload_n hx hb dX9_read_167 rfl (lv_at hl 4 rfl) ?_
            refine xg hF kf_X9_22 hK hP 4 rfl rfl dX9_read_168 ?_
            refine lv_bipush (v := 10) hx hb dX9_read_171 (by decide) ?_
            refine lv_aload_n hx hb dX9_read_173 rfl (lv_at hl 4 rfl) ?_
            refine xg hF kf_X9_49 hK hP 4 rfl rfl dX9_read_174 ?_
            refine lv_bipush (v := 40) hx hb dX9_read_177 (by decide) ?_
            refine lv_iload_n hx hb dX9_read_179 rfl (lv_at hl 5 rfl) ?_
            refine lv_imul hx hb dX9_read_180 ?_
            refine xl_i (y := 40) (by decide) ?_
            refine va_lald hx hb hK hP 2 1 rfl rfl (xin 40 160 (by decide) (by decide)) dX9_read_181 ?_
            refine xl_l (y := nb 40) (congrArg nb rfl) ?_
            refine xl_l (y := nu 0) (hn 0 (by omega)) ?_
            have hy7 := (hr9.pv (by omega) (show 0 < i by omega)).1
            refine lv_l2i (v := (nu 0).toInt32) hx hb dX9_read_182 rfl ?_
            refine xl_i (y := nI (pl9 nu 0)) (by rw [(hr9.pv (by omega) (show 0 < i by omega)).2, lN_i]) ?_
            refine lv_imul hx hb dX9_read_183 ?_
            refine xl_i (y := nI (10 * (pl9 nu 0))) (pk_mul 10 (pl9 nu 0)) ?_
            refine lv_aload_n hx hb dX9_read_184 rfl (lv_at hl 4 rfl) ?_
            refine xg hF kf_X9_49 hK hP 4 rfl rfl dX9_read_185 ?_
            refine lv_bipush (v := 40) hx hb dX9_read_188 (by decide) ?_
            refine lv_iload_n hx hb dX9_read_190 rfl (lv_at hl 5 rfl) ?_
            refine lv_imul hx hb dX9_read_191 ?_
            refine xl_i (y := 40) (by decide) ?_
            refine lv_iload_n hx hb dX9_read_192 rfl (lv_at hl 2 rfl) ?_
            refine lv_iadd hx hb dX9_read_193 ?_
            refine xl_i (y := nI (40 + zq)) (nI_add 40 zq) ?_
            refine lv_iconst (v := 1) hx hb dX9_read_194 (by decide) ?_
            refine lv_isub hx hb dX9_read_195 ?_
            refine xl_i (y := nI (40 + zq - 1)) (pk_sub (show 1 ≤ 40 + zq by omega)) ?_
            refine va_lald hx hb hK hP 2 1 rfl rfl (vp_in_nI (show 40 + zq - 1 < 160 by omega) (by decide)) dX9_read_196 ?_
            refine xl_l (y := nb (40 + zq - 1)) (congrArg nb (nI_clamp (show 40 + zq - 1 < 2 ^ 31 by omega))) ?_
            refine xl_l (y := nu (zq - 1)) ((congrArg nb (by omega)).trans (hn (zq - 1) (by omega))) ?_
            have hy6 := (hr9.pv (by omega) (show zq - 1 < i by omega)).1
            refine lv_l2i (v := (nu (zq - 1)).toInt32) hx hb dX9_read_197 rfl ?_
            refine xl_i (y := nI (pl9 nu (zq - 1))) (by rw [(hr9.pv (by omega) (show (zq - 1) < i by omega)).2, lN_i]) ?_
            refine lv_iadd hx hb dX9_read_198 ?_
            refine xl_i (y := nI (10 * (pl9 nu 0) + (pl9 nu (zq - 1)))) (nI_add (10 * (pl9 nu 0)) (pl9 nu (zq - 1))) ?_
            refine va_iald hx hb hK hP 6 0 rfl rfl (vp_in_nI (show 10 * (pl9 nu 0) + (pl9 nu (zq - 1)) < 100 by omega) (by decide)) dX9_read_199 ?_
            refine xl_i (y := fa2_10 (10 * (pl9 nu 0) + (pl9 nu (zq - 1)))) (congrArg fa2_10 (nI_clamp (show 10 * (pl9 nu 0) + (pl9 nu (zq - 1)) < 2 ^ 31 by omega))) ?_
            refine lv_icmp_ne (tgt := 207) hx hb dX9_read_200 (by decide) (fun c_16 => ?_) (fun c_16 => ?_)
            · skip
              refine lv_iconst (v := 1) hx hb dX9_read_207 (by decide) ?_
              refine lv_iload_n hx hb dX9_read_208 rfl (lv_at hl 2 rfl) ?_
              refine lv_iadd hx hb dX9_read_209 ?_
              refine xl_i (y := nI (1 + zq)) (nI_add 1 zq) ?_
              exact W.iret (v := nI (1 + zq)) hx hb hr (fun t ht hW => ⟨⟨nI (1 + zq), (mL2_9, fa2_10, fe2_11, mq), rfl, rd_y (fun h => h_3 (hbt9.trans h)) (fw_Gd.nl (fin_0 hsG (by omega) i_12 c_13) (by omega)) ((congrArg nI (show 1 + zq = zq + 1 by omega)).trans (RDI.rn (show RDI fal fao nu P zq u8 from by rw [show zq = i by omega]; exact hr9) (by omega) (fin_0 hsG (by omega) i_12 c_13) (by omega) rfl rfl c_16)), by rw [ht]; exact hP.sub [4, 5, 6, 7, 0, 1, 2, 3] rfl, hD.sub [4, 5, 6, 7, 0, 1, 2, 3] (by decide +kernel) rfl⟩, hS.F ht⟩) hS.2.2 dX9_read_210 hlk
            · skip
              refine lv_iconst (v := 0) hx hb dX9_read_203 (by decide) ?_
              refine lv_goto (tgt := 210) hx hb dX9_read_204 (by decide) ?_
              exact W.iret (v := 0) hx hb hr (fun t ht hW => ⟨⟨0, (mL2_9, fa2_10, fe2_11, mq), rfl, rd_y (fun h => h_3 (hbt9.trans h)) (fw_Gd.nl (fin_0 hsG (by omega) i_12 c_13) (by omega)) (RDI.ry (show RDI fal fao nu P zq u8 from by rw [show zq = i by omega]; exact hr9) (by omega) (fin_0 hsG (by omega) i_12 c_13) (by omega) rfl rfl c_16), by rw [ht]; exact hP.sub [4, 5, 6, 7, 0, 1, 2, 3] rfl, hD.sub [4, 5, 6, 7, 0, 1, 2, 3] (by decide +kernel) rfl⟩, hS.F ht⟩) hS.2.2 dX9_read_210 hlk
          · skip
            have nc_15 : zq < 2 := xn_nle (a := 2) (b := zq) (by omega) (by omega) c_15
            refine lv_iconst (v := 1) hx hb dX9_read_163 (by decide) ?_
            exact W.iret (v := 1) hx hb hr (fun t ht hW => ⟨⟨1, (mL2_9, fa2_10, fe2_11, mq), rfl, rd_y (fun h => h_3 (hbt9.trans h)) (fw_Gd.nl (fin_0 hsG (by omega) i_12 c_13) (by omega)) (rd_small (by omega)), by rw [ht]; exact hP.sub [4, 5, 6, 7, 0, 1, 2, 3] rfl, hD.sub [4, 5, 6, 7, 0, 1, 2, 3] (by decide +kernel) rfl⟩, hS.F ht⟩) hS.2.2 dX9_read_164 hlk
        · skip
          have nc_14 : i < zq := xn_nle (a := zq) (b := i) (by omega) (by omega) c_14
          refine lv_aload_n hx hb dX9_read_53 rfl (lv_at hl 4 rfl) ?_
          refine xg hF kf_X9_49 hK hP 4 rfl rfl dX9_read_54 ?_
          refine lv_bipush (v := 40) hx hb dX9_read_57 (by decide) ?_
          refine lv_iload_n hx hb dX9_read_59 rfl (lv_at hl 5 rfl) ?_
          refine lv_imul hx hb dX9_read_60 ?_
          refine xl_i (y := 40) (by decide) ?_
          refine lv_iload hx hb dX9_read_61 (lv_at hl 0 rfl) ?_
          refine lv_iadd hx hb dX9_read_63 ?_
          refine xl_i (y := nI (40 + i)) (nI_add 40 i) ?_
          refine va_lald hx hb hK hP 2 1 rfl rfl (vp_in_nI (show 40 + i < 160 by omega) (by decide)) dX9_read_64 ?_
          refine xl_l (y := nb (40 + i)) (congrArg nb (nI_clamp (show 40 + i < 2 ^ 31 by omega))) ?_
          refine xl_l (y := nu i) (hn i (by omega)) ?_
          refine lv_lstore (lv' := [(6, .long (nu i)), (5, .int (nI (i))), (4, .int u8), (3, .int (nI (zq))), (2, .int 0), (0, .ref h0), (1, .int 1)]) hx hb dX9_read_65 hl (by decide) rfl (fun ls hl => ?_)
          refine lv_lload hx hb dX9_read_67 (lv_at hl 0 rfl) ?_
          refine lv_lconst (v := 0) hx hb dX9_read_69 (by decide) ?_
          refine xl_l (y := (0 : Int32).toInt64) (by decide) ?_
          refine lv_aload_n hx hb dX9_read_70 rfl (lv_at hl 5 rfl) ?_
          refine xg hF kf_X9_7 hK hP 4 rfl rfl dX9_read_71 ?_
          refine lv_iconst (v := 0) hx hb dX9_read_74 (by decide) ?_
          refine va_iald hx hb hK hP 5 0 rfl rfl (xin 0 449 (by decide) (by decide)) dX9_read_75 ?_
          refine xl_i (y := nI (P)) hs0 ?_
          refine lv_iconst (v := 1) hx hb dX9_read_76 (by decide) ?_
          refine lv_isub hx hb dX9_read_77 ?_
          refine lv_topi (fun x_17 ex_17 => ?_)
          refine lv_i2l (v := x_17.toInt64) hx hb dX9_read_78 rfl ?_
          refine xc_Sr hF (c_X9_inL l D cI cJ cZ cS ta sa sv H.size (nu i) 0 x_17 ) ks_X9_57 ⟨rfl, rfl, Nat.le_of_ble_eq_true rfl, Nat.le_of_ble_eq_true rfl⟩ ⟨Nat.le_of_ble_eq_true rfl, Nat.le_of_ble_eq_true rfl⟩ hK hN hZ hP hD hS hA [] rfl rfl rfl hl.1 rfl (Nat.le_of_ble_eq_true rfl) dX9_read_79 (fun r_18 hw_r_18 => ?_)
          rcases hw_r_18 with ⟨rfl, h_19, h_20⟩ | ⟨rfl, h_21⟩
          · skip
            refine lv_if_ne (tgt := 90) hx hb dX9_read_82 (by decide) (fun c_22 => ?_) (fun c_22 => absurd c_22 (by decide))
            obtain ⟨y9, hy9, ey9⟩ := x_inPL (by omega) ex_17 h_19 h_20
            refine lv_iload hx hb dX9_read_90 (lv_at hl 1 rfl) ?_
            refine lv_if_le (tgt := 152) hx hb dX9_read_92 (by decide) (fun c_23 => ?_) (fun c_23 => ?_)
            · skip
              have nc_23 : i ≤ 0 := xn_le (a := i) (b := 0) (by omega) (by omega) c_23
              refine lv_iinc (v := nI (i + 1)) (lv' := [(5, .int (nI (i + 1))), (6, .long (nu i)), (4, .int u8), (3, .int (nI (zq))), (2, .int 0), (0, .ref h0), (1, .int 1)]) hx hb dX9_read_152 hl (k := 1) rfl (nI_1 (i)) (by decide) rfl (fun ls hl => ?_)
              refine lv_goto (tgt := 47) hx hb dX9_read_155 (by decide) ?_
              exact ih_47 (i + 1) u8 _ _ _ (by omega) (by omega) (hr9.first (by omega) (by omega) ey9) (hP.sub [0, 1, 2, 3, 4, 5, 6, 7] rfl) (hD.sub [0, 1, 2, 3, 4, 5, 6, 7] (by decide +kernel) rfl) hS (lv_sub hl [0, 2, 3, 4, 5, 6] rfl)
            · skip
              have nc_23 : 0 < i := xn_nle (a := i) (b := 0) (by omega) (by omega) c_23
              refine lv_aload_n hx hb dX9_read_95 rfl (lv_at hl 5 rfl) ?_
              refine xg hF kf_X9_49 hK hP 4 rfl rfl dX9_read_96 ?_
              refine lv_bipush (v := 40) hx hb dX9_read_99 (by decide) ?_
              refine lv_iload_n hx hb dX9_read_101 rfl (lv_at hl 6 rfl) ?_
              refine lv_imul hx hb dX9_read_102 ?_
              refine xl_i (y := 40) (by decide) ?_
              refine lv_iload hx hb dX9_read_103 (lv_at hl 1 rfl) ?_
              refine lv_iadd hx hb dX9_read_105 ?_
              refine xl_i (y := nI (40 + i)) (nI_add 40 i) ?_
              refine lv_iconst (v := 1) hx hb dX9_read_106 (by decide) ?_
              refine lv_isub hx hb dX9_read_107 ?_
              refine xl_i (y := nI (40 + i - 1)) (pk_sub (show 1 ≤ 40 + i by omega)) ?_
              refine va_lald hx hb hK hP 2 1 rfl rfl (vp_in_nI (show 40 + i - 1 < 160 by omega) (by decide)) dX9_read_108 ?_
              refine xl_l (y := nb (40 + i - 1)) (congrArg nb (nI_clamp (show 40 + i - 1 < 2 ^ 31 by omega))) ?_
              refine xl_l (y := nu (i - 1)) ((congrArg nb (by omega)).trans (hn (i - 1) (by omega))) ?_
              have hy8 := (hr9.pv (by omega) (show i - 1 < i by omega)).1
              refine lv_l2i (v := (nu (i - 1)).toInt32) hx hb dX9_read_109 rfl ?_
              refine xl_i (y := nI (pl9 nu (i - 1))) (by rw [(hr9.pv (by omega) (show (i - 1) < i by omega)).2, lN_i]) ?_
              refine lv_istore (lv' := [(8, .int (nI (pl9 nu (i - 1)))), (6, .long (nu i)), (5, .int (nI (i))), (4, .int u8), (3, .int (nI (zq))), (2, .int 0), (0, .ref h0), (1, .int 1)]) hx hb dX9_read_110 hl (by decide) rfl (fun ls hl => ?_)
              refine lv_lload hx hb dX9_read_112 (lv_at hl 1 rfl) ?_
              refine lv_iload hx hb dX9_read_114 (lv_at hl 0 rfl) ?_
              refine lv_i2l (v := (nI (pl9 nu (i - 1))).toInt64) hx hb dX9_read_116 rfl ?_
              refine W.lcmp hx hb dX9_read_117 ?_
              refine lv_if_eq (tgt := 133) hx hb dX9_read_118 (by decide) (fun c_24 => ?_) (fun c_24 => ?_)
              · skip
                refine lv_iload hx hb dX9_read_133 (lv_at hl 2 rfl) ?_
                refine lv_iconst (v := 1) hx hb dX9_read_135 (by decide) ?_
                refine lv_iadd hx hb dX9_read_136 ?_
                refine xl_i (y := nI (i + 1)) (nI_add i 1) ?_
                exact W.iret (v := nI (i + 1)) hx hb hr (fun t ht hW => ⟨⟨nI (i + 1), (mL2_9, fa2_10, fe2_11, mq), rfl, rd_y (fun h => h_3 (hbt9.trans h)) (fw_Gd.nl (fin_0 hsG (by omega) i_12 c_13) (by omega)) (hr9.bad3 (by omega) (by omega) (by omega) (by omega) ey9 (hEI.2 y9 (by omega)) c_24), by rw [ht]; exact hP.sub [4, 5, 6, 7, 0, 1, 2, 3] rfl, hD.sub [4, 5, 6, 7, 0, 1, 2, 3] (by decide +kernel) rfl⟩, hS.F ht⟩) hS.2.2 dX9_read_137 hlk
              · skip
                refine lv_aload_n hx hb dX9_read_121 rfl (lv_at hl 6 rfl) ?_
                refine lv_iload hx hb dX9_read_122 (lv_at hl 0 rfl) ?_
                refine lv_lload hx hb dX9_read_124 (lv_at hl 1 rfl) ?_
                refine lv_l2i (v := (nu i).toInt32) hx hb dX9_read_126 rfl ?_
                refine xl_i (y := nI (y9)) (by rw [ey9, lN_i]) ?_
                refine xc_Vr hF (c_X9_isOpenF l D cI cJ cZ cS ta sa sv H.size h0 ys yk yo yt mk0 yfa yfe mL2_9 mS mM yro yhe ygr mF mC mY yta mz mf mt mv mw ywa ybi ysi ynu ymo ms P Rn Wn fae fal fau fao farn farp fak fawn fawp fat fas (pl9 nu (i - 1)) y9 (by omega) (by omega) hs0 hs1 hs2 hsS hsM hsp hsr hsw hsR hsG) kv_X9_97 ⟨rfl, rfl, Nat.le_of_ble_eq_true rfl, Nat.le_of_ble_eq_true rfl⟩ ⟨Nat.le_of_ble_eq_true rfl, Nat.le_of_ble_eq_true rfl⟩ hK hN hZ hP hD hS hA [4, 5] rfl rfl 0 rfl rfl rfl rfl hl.1 rfl (Nat.le_of_ble_eq_true rfl) dX9_read_127 (fun r_25 hw_r_25 => ?_)
                rcases hw_r_25 with ⟨rfl, h_26, h_27⟩ | ⟨rfl, h_28, h_29⟩
                · skip
                  refine lv_if_ne (tgt := 138) hx hb dX9_read_130 (by decide) (fun c_30 => ?_) (fun c_30 => absurd c_30 (by decide))
                  refine lv_iload hx hb dX9_read_138 (lv_at hl 3 rfl) ?_
                  refine lv_aload_n hx hb dX9_read_140 rfl (lv_at hl 6 rfl) ?_
                  refine lv_iload hx hb dX9_read_141 (lv_at hl 0 rfl) ?_
                  refine lv_lload hx hb dX9_read_143 (lv_at hl 1 rfl) ?_
                  refine lv_l2i (v := (nu i).toInt32) hx hb dX9_read_145 rfl ?_
                  refine xl_i (y := nI (y9)) (by rw [ey9, lN_i]) ?_
                  refine xc_Vr hF (c_X9_milesF l D cI cJ cZ cS ta sa sv H.size h0 ys yk yo yt mk0 yfa yfe mL2_9 mS mM yro yhe ygr mF mC mY yta mz mf mt mv mw ywa ybi ysi ynu ymo ms P Rn Wn fae fal fau fao farn farp fak fawn fawp fat fas (pl9 nu (i - 1)) y9 (by omega) (by omega) hs0 hs1 hs2 hsS hsM hsp hsr hsw hsR hsG) kv_X9_100 ⟨rfl, rfl, Nat.le_of_ble_eq_true rfl, Nat.le_of_ble_eq_true rfl⟩ ⟨Nat.le_of_ble_eq_true rfl, Nat.le_of_ble_eq_true rfl⟩ hK hN hZ hP hD hS hA [4, 5] rfl rfl 0 rfl rfl rfl rfl hl.1 rfl (Nat.le_of_ble_eq_true rfl) dX9_read_146 (fun r_31 hw_r_31 => ?_)
                  subst hw_r_31
                  refine lv_iadd hx hb dX9_read_149 ?_
                  refine lv_istore (lv' := [(4, .int (u8 + (fal (10 * (pl9 nu (i - 1)) + y9)))), (8, .int (nI (pl9 nu (i - 1)))), (6, .long (nu i)), (5, .int (nI (i))), (3, .int (nI (zq))), (2, .int 0), (0, .ref h0), (1, .int 1)]) hx hb dX9_read_150 hl (by decide) rfl (fun ls hl => ?_)
                  refine lv_iinc (v := nI (i + 1)) (lv' := [(5, .int (nI (i + 1))), (4, .int (u8 + (fal (10 * (pl9 nu (i - 1)) + y9)))), (8, .int (nI (pl9 nu (i - 1)))), (6, .long (nu i)), (3, .int (nI (zq))), (2, .int 0), (0, .ref h0), (1, .int 1)]) hx hb dX9_read_152 hl (k := 3) rfl (nI_1 (i)) (by decide) rfl (fun ls hl => ?_)
                  refine lv_goto (tgt := 47) hx hb dX9_read_155 (by decide) ?_
                  exact ih_47 (i + 1) (u8 + (fal (10 * (pl9 nu (i - 1)) + y9))) _ _ _ (by omega) (by omega) (hr9.more (by omega) (by omega) (by omega) ey9 rfl h_27) (hP.sub [0, 1, 2, 3, 4, 5, 6, 7] rfl) (hD.sub [0, 1, 2, 3, 4, 5, 6, 7] (by decide +kernel) rfl) hS (lv_sub hl [0, 1, 4, 5, 6, 7] rfl)
                · skip
                  refine lv_if_ne (tgt := 138) hx hb dX9_read_130 (by decide) (fun c_32 => absurd (by decide) c_32) (fun c_32 => ?_)
                  refine lv_iload hx hb dX9_read_133 (lv_at hl 2 rfl) ?_
                  refine lv_iconst (v := 1) hx hb dX9_read_135 (by decide) ?_
                  refine lv_iadd hx hb dX9_read_136 ?_
                  refine xl_i (y := nI (i + 1)) (nI_add i 1) ?_
                  exact W.iret (v := nI (i + 1)) hx hb hr (fun t ht hW => ⟨⟨nI (i + 1), (mL2_9, fa2_10, fe2_11, mq), rfl, rd_y (fun h => h_3 (hbt9.trans h)) (fw_Gd.nl (fin_0 hsG (by omega) i_12 c_13) (by omega)) (hr9.bad2 (by omega) (by omega) (by omega) (by omega) ey9 rfl h_29), by rw [ht]; exact hP.sub [4, 5, 6, 7, 0, 1, 2, 3] rfl, hD.sub [4, 5, 6, 7, 0, 1, 2, 3] (by decide +kernel) rfl⟩, hS.F ht⟩) hS.2.2 dX9_read_137 hlk
          · skip
            refine lv_if_ne (tgt := 90) hx hb dX9_read_82 (by decide) (fun c_33 => absurd (by decide) c_33) (fun c_33 => ?_)
            refine lv_iload hx hb dX9_read_85 (lv_at hl 1 rfl) ?_
            refine lv_iconst (v := 1) hx hb dX9_read_87 (by decide) ?_
            refine lv_iadd hx hb dX9_read_88 ?_
            refine xl_i (y := nI (i + 1)) (nI_add i 1) ?_
            exact W.iret (v := nI (i + 1)) hx hb hr (fun t ht hW => ⟨⟨nI (i + 1), (mL2_9, fa2_10, fe2_11, mq), rfl, rd_y (fun h => h_3 (hbt9.trans h)) (fw_Gd.nl (fin_0 hsG (by omega) i_12 c_13) (by omega)) (hr9.bad1 (by omega) (xnL3 (by omega) ex_17 h_21)), by rw [ht]; exact hP.sub [4, 5, 6, 7, 0, 1, 2, 3] rfl, hD.sub [4, 5, 6, 7, 0, 1, 2, 3] (by decide +kernel) rfl⟩, hS.F ht⟩) hS.2.2 dX9_read_89 hlk
    · skip
      refine lv_aload_n hx hb dX9_read_27 rfl (lv_at hl 1 rfl) ?_
      refine lv_ldc (v := (-1000000005)) hx hb hown (hu _ uw716) dX9_read_28 ?_
      refine xc_Vi (wr := [(ybi, .inl (cI, 4, .inl bi)), (ysi, .inl (cI, 4, .inl sq)), (ynu, .inl (cJ, 160, .inr (.inl nb))), (ys, .inl (cI, 449, .inl ms)), (yfa, .inl (cI, 100, .inl fa2_10)), (yfe, .inl (cI, 100, .inl fe2_11))]) hF (c_X9_finds_T l D cI cJ cZ cS ta sa sv H.size h0 ys yk yo yt mk0 yfa yfe mL2_9 mS mM yro yhe ygr mF mC mY yta mz mf mt mv mw ywa ybi ysi ynu ymo mq ) kv_X9_70 ⟨rfl, rfl, Nat.le_of_ble_eq_true rfl, Nat.le_of_ble_eq_true rfl⟩ ⟨Nat.le_of_ble_eq_true rfl, Nat.le_of_ble_eq_true rfl⟩ hK hN hZ hP hD hS hA [4, 3] [0, 1, 2, 5, 6, 7] rfl rfl rfl (by decide +kernel) (by decide +kernel) 0 rfl rfl rfl rfl hl.1 rfl (Nat.le_of_ble_eq_true rfl) dX9_read_30 (fun r_34 u_r_34 H locs hw_r_34 hP hD hS => ?_)
      obtain ⟨mq2_35, rfl⟩ : ∃ z, z = u_r_34 := ⟨_, rfl⟩
      try dsimp only at hw_r_34
      have hP : va_P D vwCl [(ybi, .inl (cI, 4, .inl bi)), (ysi, .inl (cI, 4, .inl sq)), (ynu, .inl (cJ, 160, .inr (.inl nb))), (ys, .inl (cI, 449, .inl ms)), (yfa, .inl (cI, 100, .inl fa2_10)), (yfe, .inl (cI, 100, .inl fe2_11)), (h0, .inr (9, [.ref ys, .ref yk, .ref yo, .ref yt, .int mk0, .ref yfa, .ref yfe, .int mL2_9, .int mS, .int mM, .ref yro, .ref yhe, .ref ygr, .int mF, .int mC, .int mY, .ref yta, .int (nI (mz)), .int (nI (mf)), .int (nI (mt)), .int mv, .int mw, .ref ywa, .ref ybi, .ref ysi, .ref ynu, .ref ymo])), (yt, .inl (cI, 7, .inl mq2_35))] H := hP
      have hD : va_D A [(ybi, .inl (cI, 4, .inl bi)), (ysi, .inl (cI, 4, .inl sq)), (ynu, .inl (cJ, 160, .inr (.inl nb))), (ys, .inl (cI, 449, .inl ms)), (yfa, .inl (cI, 100, .inl fa2_10)), (yfe, .inl (cI, 100, .inl fe2_11)), (h0, .inr (9, [.ref ys, .ref yk, .ref yo, .ref yt, .int mk0, .ref yfa, .ref yfe, .int mL2_9, .int mS, .int mM, .ref yro, .ref yhe, .ref ygr, .int mF, .int mC, .int mY, .ref yta, .int (nI (mz)), .int (nI (mf)), .int (nI (mt)), .int mv, .int mw, .ref ywa, .ref ybi, .ref ysi, .ref ynu, .ref ymo])), (yt, .inl (cI, 7, .inl mq2_35))] := hD
      subst hw_r_34
      exact W.iret (v := (-1000000005)) hx hb hr (fun t ht hW => ⟨⟨(-1000000005), (mL2_9, fa2_10, fe2_11, mq2_35), rfl, rd_lp (fun h => h_3 (hbt9.trans h)) (fin_1 hsG (by omega) i_12 c_13), by rw [ht]; exact hP.sub [6, 3, 4, 5, 0, 1, 2, 7] rfl, hD.sub [6, 3, 4, 5, 0, 1, 2, 7] (by decide +kernel) rfl⟩, hS.F ht⟩) hS.2.2 dX9_read_33 hlk
set_option maxHeartbeats 4000000 in
set_option maxRecDepth 100000 in
theorem c_X9_read_2 (l : Launch) (D : va_G) (cI cJ cZ cS : ClassId) (ta : Nat) (sa sv : Nat → Nat) (sz : Nat) (h0 : Nat) (ys : Nat) (yk : Nat) (yo : Nat) (yt : Nat) (mk0 : Int32) (yfa : Nat) (yfe : Nat) (mL : Int32) (mS : Int32) (mM : Int32) (yro : Nat) (yhe : Nat) (ygr : Nat) (mF : Int32) (mC : Int32) (mY : Int32) (yta : Nat) (mz : Nat) (mf : Nat) (mt : Nat) (mv : Int32) (mw : Int32) (ywa : Nat) (ybi : Nat) (ysi : Nat) (ynu : Nat) (ymo : Nat) (ms : Nat → Int32) (fa : Nat → Int32) (fe : Nat → Int32) (bi : Nat → Int32) (sq : Nat → Int32) (nb : Nat → Int64) (mq : Nat → Int32) (P : Nat) (Rn : Nat) (Wn : Nat) (fae : Nat → Int32) (fal : Nat → Int32) (fau : Nat → Int32) (fao : Nat → Int32) (farn : Nat → Int32) (farp : Nat → Int32) (fak : Nat → Int32) (fawn : Nat → Int32) (fawp : Nat → Int32) (fat : Nat → Int32) (fas : Nat → Int32) (bt : Int32) (zq : Nat) (nu : Nat → Int64) (hbt9 : bi 2 = bt) (ez : sq 2 = nI zq) (hzq : zq ≤ 40) (hn : ∀ j, j < 40 → nb (80 + j) = nu j) (hEI : EI fal fau fao) (hsq : BA 4 41 sq) (hs0 : ms 0 = nI P) (hs1 : ms 1 = nI Rn) (hs2 : ms 2 = nI Wn) (hsS : SI ms) (hsM : MI ms) (hsp : P ≤ 10) (hsr : Rn ≤ 8) (hsw : Wn ≤ 8) (hsR : RI Rn ms) (hsG : FR P ms fae fal fau fao farn farp fak fawn fawp fat fas) : Met l yX9_read (Cond.code yX9_read cX9_read 9 (some .int) :: wsU) ({ frames := 3, cells := 0, slots := 0, locals := 66 }) (va_Pc [.ref h0, .int 2] (XW D (xT cI cJ cZ cS) ta sa sv [(h0, .inr (9, [.ref ys, .ref yk, .ref yo, .ref yt, .int mk0, .ref yfa, .ref yfe, .int mL, .int mS, .int mM, .ref yro, .ref yhe, .ref ygr, .int mF, .int mC, .int mY, .ref yta, .int (nI (mz)), .int (nI (mf)), .int (nI (mt)), .int mv, .int mw, .ref ywa, .ref ybi, .ref ysi, .ref ynu, .ref ymo])), (ys, .inl (cI, 449, .inl ms)), (yfa, .inl (cI, 100, .inl fa)), (yfe, .inl (cI, 100, .inl fe)), (ybi, .inl (cI, 4, .inl bi)), (ysi, .inl (cI, 4, .inl sq)), (ynu, .inl (cJ, 160, .inr (.inl nb))), (yt, .inl (cI, 7, .inl mq))] sz)) (XQi (fun (r : Int32) (u : Int32 × (Nat → Int32) × (Nat → Int32) × (Nat → Int32)) => match u with | (mL2, fa2, fe2, mq2) => ((r = rdR fal fao nu P zq bt))) D (fun (u : Int32 × (Nat → Int32) × (Nat → Int32) × (Nat → Int32)) => match u with | (mL2, fa2, fe2, mq2) => [(h0, .inr (9, [.ref ys, .ref yk, .ref yo, .ref yt, .int mk0, .ref yfa, .ref yfe, .int mL2, .int mS, .int mM, .ref yro, .ref yhe, .ref ygr, .int mF, .int mC, .int mY, .ref yta, .int (nI (mz)), .int (nI (mf)), .int (nI (mt)), .int mv, .int mw, .ref ywa, .ref ybi, .ref ysi, .ref ynu, .ref ymo])), (ys, .inl (cI, 449, .inl ms)), (yfa, .inl (cI, 100, .inl fa2)), (yfe, .inl (cI, 100, .inl fe2)), (ybi, .inl (cI, 4, .inl bi)), (ysi, .inl (cI, 4, .inl sq)), (ynu, .inl (cJ, 160, .inr (.inl nb))), (yt, .inl (cI, 7, .inl mq2))]) (va_A [(h0, .inr (9, [.ref ys, .ref yk, .ref yo, .ref yt, .int mk0, .ref yfa, .ref yfe, .int mL, .int mS, .int mM, .ref yro, .ref yhe, .ref ygr, .int mF, .int mC, .int mY, .ref yta, .int (nI (mz)), .int (nI (mf)), .int (nI (mt)), .int mv, .int mw, .ref ywa, .ref ybi, .ref ysi, .ref ynu, .ref ymo])), (ys, .inl (cI, 449, .inl ms)), (yfa, .inl (cI, 100, .inl fa)), (yfe, .inl (cI, 100, .inl fe)), (ybi, .inl (cI, 4, .inl bi)), (ysi, .inl (cI, 4, .inl sq)), (ynu, .inl (cJ, 160, .inr (.inl nb))), (yt, .inl (cI, 7, .inl mq))] sz)) 0 0 (va_A [(h0, .inr (9, [.ref ys, .ref yk, .ref yo, .ref yt, .int mk0, .ref yfa, .ref yfe, .int mL, .int mS, .int mM, .ref yro, .ref yhe, .ref ygr, .int mF, .int mC, .int mY, .ref yta, .int (nI (mz)), .int (nI (mf)), .int (nI (mt)), .int mv, .int mw, .ref ywa, .ref ybi, .ref ysi, .ref ynu, .ref ymo])), (ys, .inl (cI, 449, .inl ms)), (yfa, .inl (cI, 100, .inl fa)), (yfe, .inl (cI, 100, .inl fe)), (ybi, .inl (cI, 4, .inl bi)), (ysi, .inl (cI, 4, .inl sq)), (ynu, .inl (cJ, 160, .inr (.inl nb))), (yt, .inl (cI, 7, .inl mq))] sz) := by
  refine xh (QA := fun A => XQi (fun (r : Int32) (u : Int32 × (Nat → Int32) × (Nat → Int32) × (Nat → Int32)) => match u with | (mL2, fa2, fe2, mq2) => ((r = rdR fal fao nu P zq bt))) D (fun (u : Int32 × (Nat → Int32) × (Nat → Int32) × (Nat → Int32)) => match u with | (mL2, fa2, fe2, mq2) => [(h0, .inr (9, [.ref ys, .ref yk, .ref yo, .ref yt, .int mk0, .ref yfa, .ref yfe, .int mL2, .int mS, .int mM, .ref yro, .ref yhe, .ref ygr, .int mF, .int mC, .int mY, .ref yta, .int (nI (mz)), .int (nI (mf)), .int (nI (mt)), .int mv, .int mw, .ref ywa, .ref ybi, .ref ysi, .ref ynu, .ref ymo])), (ys, .inl (cI, 449, .inl ms)), (yfa, .inl (cI, 100, .inl fa2)), (yfe, .inl (cI, 100, .inl fe2)), (ybi, .inl (cI, 4, .inl bi)), (ysi, .inl (cI, 4, .inl sq)), (ynu, .inl (cJ, 160, .inr (.inl nb))), (yt, .inl (cI, 7, .inl mq2))]) A) (fr := fun A => A) (by decide) (Nat.le_of_ble_eq_true rfl) ?_
  intro p e s m below meth c ls A hF hr hlk hin hsz hP hK hD hN hZ hA hS hl
  have hF : CallFix p m c cX9_read 9 s _ _ RX9 := hF
  have hx := hF.1
  have hb := hF.2.1
  have hml := hF.2.2.1
  have hown := hF.2.2.2.1
  have hu : ∀ w ∈ wsU, w.before _ s = true := fun w h => hF.2.2.2.2 w (List.mem_cons_of_mem _ h)
  have hl : lv_has ls 9 [(0, .ref h0), (1, .int 2)] := hl
  refine lv_aload_n hx hb dX9_read_0 rfl (lv_at hl 0 rfl) ?_
  refine lv_iload_n hx hb dX9_read_1 rfl (lv_at hl 1 rfl) ?_
  refine xc_Vr hF (c_X9_wrong_2 l D cI cJ cZ cS ta sa sv s.heap.size h0 ys yk yo yt mk0 yfa yfe mL mS mM yro yhe ygr mF mC mY yta mz mf mt mv mw ywa ybi ysi ynu ymo bi ) kv_X9_310 ⟨rfl, rfl, Nat.le_of_ble_eq_true rfl, Nat.le_of_ble_eq_true rfl⟩ ⟨Nat.le_of_ble_eq_true rfl, Nat.le_of_ble_eq_true rfl⟩ hK hN hZ hP hD hS hA [0, 4] rfl rfl 0 rfl rfl rfl rfl hl.1 rfl (Nat.le_of_ble_eq_true rfl) dX9_read_2 (fun r_1 hw_r_1 => ?_)
  rcases hw_r_1 with ⟨rfl, h_2⟩ | ⟨rfl, h_3⟩
  · skip
    refine lv_istore_n (lv' := [(2, .int (-1000000006)), (0, .ref h0), (1, .int 2)]) hx hb dX9_read_5 rfl hl (by decide) rfl (fun ls hl => ?_)
    refine lv_iload_n hx hb dX9_read_6 rfl (lv_at hl 0 rfl) ?_
    refine lv_if_eq (tgt := 16) hx hb dX9_read_7 (by decide) (fun c_4 => absurd c_4 (by decide)) (fun c_4 => ?_)
    refine lv_aload_n hx hb dX9_read_10 rfl (lv_at hl 1 rfl) ?_
    refine lv_iload_n hx hb dX9_read_11 rfl (lv_at hl 0 rfl) ?_
    refine xc_Vi (wr := [(ys, .inl (cI, 449, .inl ms)), (yfa, .inl (cI, 100, .inl fa)), (yfe, .inl (cI, 100, .inl fe)), (ybi, .inl (cI, 4, .inl bi)), (ysi, .inl (cI, 4, .inl sq)), (ynu, .inl (cJ, 160, .inr (.inl nb)))]) hF (c_X9_finds_M l D cI cJ cZ cS ta sa sv s.heap.size h0 ys yk yo yt mk0 yfa yfe mL mS mM yro yhe ygr mF mC mY yta mz mf mt mv mw ywa ybi ysi ynu ymo mq ) kv_X9_70 ⟨rfl, rfl, Nat.le_of_ble_eq_true rfl, Nat.le_of_ble_eq_true rfl⟩ ⟨Nat.le_of_ble_eq_true rfl, Nat.le_of_ble_eq_true rfl⟩ hK hN hZ hP hD hS hA [0, 7] [1, 2, 3, 4, 5, 6] rfl rfl rfl (by decide +kernel) (by decide +kernel) 0 rfl rfl rfl rfl hl.1 rfl (Nat.le_of_ble_eq_true rfl) dX9_read_12 (fun r_5 u_r_5 H locs hw_r_5 hP hD hS => ?_)
    obtain ⟨mq2_6, rfl⟩ : ∃ z, z = u_r_5 := ⟨_, rfl⟩
    try dsimp only at hw_r_5
    have hP : va_P D vwCl [(ys, .inl (cI, 449, .inl ms)), (yfa, .inl (cI, 100, .inl fa)), (yfe, .inl (cI, 100, .inl fe)), (ybi, .inl (cI, 4, .inl bi)), (ysi, .inl (cI, 4, .inl sq)), (ynu, .inl (cJ, 160, .inr (.inl nb))), (h0, .inr (9, [.ref ys, .ref yk, .ref yo, .ref yt, .int mk0, .ref yfa, .ref yfe, .int mL, .int mS, .int mM, .ref yro, .ref yhe, .ref ygr, .int mF, .int mC, .int mY, .ref yta, .int (nI (mz)), .int (nI (mf)), .int (nI (mt)), .int mv, .int mw, .ref ywa, .ref ybi, .ref ysi, .ref ynu, .ref ymo])), (yt, .inl (cI, 7, .inl mq2_6))] H := hP
    have hD : va_D A [(ys, .inl (cI, 449, .inl ms)), (yfa, .inl (cI, 100, .inl fa)), (yfe, .inl (cI, 100, .inl fe)), (ybi, .inl (cI, 4, .inl bi)), (ysi, .inl (cI, 4, .inl sq)), (ynu, .inl (cJ, 160, .inr (.inl nb))), (h0, .inr (9, [.ref ys, .ref yk, .ref yo, .ref yt, .int mk0, .ref yfa, .ref yfe, .int mL, .int mS, .int mM, .ref yro, .ref yhe, .ref ygr, .int mF, .int mC, .int mY, .ref yta, .int (nI (mz)), .int (nI (mf)), .int (nI (mt)), .int mv, .int mw, .ref ywa, .ref ybi, .ref ysi, .ref ynu, .ref ymo])), (yt, .inl (cI, 7, .inl mq2_6))] := hD
    subst hw_r_5
    exact W.iret (v := (-1000000006)) hx hb hr (fun t ht hW => ⟨⟨(-1000000006), (mL, fa, fe, mq2_6), rfl, rd_m (hbt9.symm.trans h_2), by rw [ht]; exact hP.sub [6, 0, 1, 2, 3, 4, 5, 7] rfl, hD.sub [6, 0, 1, 2, 3, 4, 5, 7] (by decide +kernel) rfl⟩, hS.F ht⟩) hS.2.2 dX9_read_15 hlk
  · skip
    refine lv_istore_n (lv' := [(2, .int 0), (0, .ref h0), (1, .int 2)]) hx hb dX9_read_5 rfl hl (by decide) rfl (fun ls hl => ?_)
    refine lv_iload_n hx hb dX9_read_6 rfl (lv_at hl 0 rfl) ?_
    refine lv_if_eq (tgt := 16) hx hb dX9_read_7 (by decide) (fun c_7 => ?_) (fun c_7 => absurd (by decide) c_7)
    refine lv_aload_n hx hb dX9_read_16 rfl (lv_at hl 1 rfl) ?_
    refine xc_Vv (wr := [(ybi, .inl (cI, 4, .inl bi)), (ysi, .inl (cI, 4, .inl sq)), (ynu, .inl (cJ, 160, .inr (.inl nb))), (yt, .inl (cI, 7, .inl mq))]) hF (c_X9_findFar l D cI cJ cZ cS ta sa sv s.heap.size h0 ys yk yo yt mk0 yfa yfe mL mS mM yro yhe ygr mF mC mY yta mz mf mt mv mw ywa ybi ysi ynu ymo ms fa fe P Rn Wn fae fal fau fao farn farp fak fawn fawp fat fas hs0 hs1 hs2 hsS hsM hsp hsr hsw hsR hsG) kv_X9_113 ⟨rfl, rfl, Nat.le_of_ble_eq_true rfl, Nat.le_of_ble_eq_true rfl⟩ ⟨Nat.le_of_ble_eq_true rfl, Nat.le_of_ble_eq_true rfl⟩ hK hN hZ hP hD hS hA [0, 1, 2, 3] [4, 5, 6, 7] rfl rfl (by decide +kernel) (by decide +kernel) (by decide +kernel) 0 rfl rfl rfl rfl hl.1 rfl (Nat.le_of_ble_eq_true rfl) dX9_read_17 (fun u_r_8 H locs hw_r_8 hP hD hS => ?_)
    obtain ⟨mL2_9, fa2_10, fe2_11⟩ := u_r_8
    try dsimp only at hw_r_8
    have i_12 := hw_r_8
    have hP : va_P D vwCl [(ybi, .inl (cI, 4, .inl bi)), (ysi, .inl (cI, 4, .inl sq)), (ynu, .inl (cJ, 160, .inr (.inl nb))), (yt, .inl (cI, 7, .inl mq)), (h0, .inr (9, [.ref ys, .ref yk, .ref yo, .ref yt, .int mk0, .ref yfa, .ref yfe, .int mL2_9, .int mS, .int mM, .ref yro, .ref yhe, .ref ygr, .int mF, .int mC, .int mY, .ref yta, .int (nI (mz)), .int (nI (mf)), .int (nI (mt)), .int mv, .int mw, .ref ywa, .ref ybi, .ref ysi, .ref ynu, .ref ymo])), (ys, .inl (cI, 449, .inl ms)), (yfa, .inl (cI, 100, .inl fa2_10)), (yfe, .inl (cI, 100, .inl fe2_11))] H := hP
    have hD : va_D A [(ybi, .inl (cI, 4, .inl bi)), (ysi, .inl (cI, 4, .inl sq)), (ynu, .inl (cJ, 160, .inr (.inl nb))), (yt, .inl (cI, 7, .inl mq)), (h0, .inr (9, [.ref ys, .ref yk, .ref yo, .ref yt, .int mk0, .ref yfa, .ref yfe, .int mL2_9, .int mS, .int mM, .ref yro, .ref yhe, .ref ygr, .int mF, .int mC, .int mY, .ref yta, .int (nI (mz)), .int (nI (mf)), .int (nI (mt)), .int mv, .int mw, .ref ywa, .ref ybi, .ref ysi, .ref ynu, .ref ymo])), (ys, .inl (cI, 449, .inl ms)), (yfa, .inl (cI, 100, .inl fa2_10)), (yfe, .inl (cI, 100, .inl fe2_11))] := hD
    refine lv_aload_n hx hb dX9_read_20 rfl (lv_at hl 1 rfl) ?_
    refine xg hF kf_X9_109 hK hP 4 rfl rfl dX9_read_21 ?_
    refine lv_if_eq (tgt := 34) hx hb dX9_read_24 (by decide) (fun c_13 => ?_) (fun c_13 => ?_)
    · skip
      refine lv_aload_n hx hb dX9_read_34 rfl (lv_at hl 1 rfl) ?_
      refine xg hF kf_X9_46 hK hP 4 rfl rfl dX9_read_35 ?_
      refine lv_iload_n hx hb dX9_read_38 rfl (lv_at hl 2 rfl) ?_
      refine va_iald hx hb hK hP 1 0 rfl rfl (xin 2 4 (by decide) (by decide)) dX9_read_39 ?_
      refine xl_i (y := sq 2) (congrArg sq rfl) ?_
      refine xl_i (y := nI (zq)) ez ?_
      refine lv_istore_n (lv' := [(3, .int (nI (zq))), (2, .int 0), (0, .ref h0), (1, .int 2)]) hx hb dX9_read_40 rfl hl (by decide) rfl (fun ls hl => ?_)
      refine lv_iconst (v := 0) hx hb dX9_read_41 (by decide) ?_
      refine lv_istore (lv' := [(4, .int 0), (3, .int (nI (zq))), (2, .int 0), (0, .ref h0), (1, .int 2)]) hx hb dX9_read_42 hl (by decide) rfl (fun ls hl => ?_)
      refine lv_iconst (v := 0) hx hb dX9_read_44 (by decide) ?_
      refine lv_istore (lv' := [(5, .int 0), (4, .int 0), (3, .int (nI (zq))), (2, .int 0), (0, .ref h0), (1, .int 2)]) hx hb dX9_read_45 hl (by decide) rfl (fun ls hl => ?_)
      suffices loop_47 : ∀ (n_47 : Nat) (i : Nat) (u8 : Int32) (H : Heap) (locs : List Loc) (ls : Array Slot), zq - i < n_47 → (i ≤ zq) → (RDI fal fao nu P i u8) → va_P D vwCl [(ybi, .inl (cI, 4, .inl bi)), (ysi, .inl (cI, 4, .inl sq)), (ynu, .inl (cJ, 160, .inr (.inl nb))), (yt, .inl (cI, 7, .inl mq)), (h0, .inr (9, [.ref ys, .ref yk, .ref yo, .ref yt, .int mk0, .ref yfa, .ref yfe, .int mL2_9, .int mS, .int mM, .ref yro, .ref yhe, .ref ygr, .int mF, .int mC, .int mY, .ref yta, .int (nI (mz)), .int (nI (mf)), .int (nI (mt)), .int mv, .int mw, .ref ywa, .ref ybi, .ref ysi, .ref ynu, .ref ymo])), (ys, .inl (cI, 449, .inl ms)), (yfa, .inl (cI, 100, .inl fa2_10)), (yfe, .inl (cI, 100, .inl fe2_11))] H → va_D A [(ybi, .inl (cI, 4, .inl bi)), (ysi, .inl (cI, 4, .inl sq)), (ynu, .inl (cJ, 160, .inr (.inl nb))), (yt, .inl (cI, 7, .inl mq)), (h0, .inr (9, [.ref ys, .ref yk, .ref yo, .ref yt, .int mk0, .ref yfa, .ref yfe, .int mL2_9, .int mS, .int mM, .ref yro, .ref yhe, .ref ygr, .int mF, .int mC, .int mY, .ref yta, .int (nI (mz)), .int (nI (mf)), .int (nI (mt)), .int mv, .int mw, .ref ywa, .ref ybi, .ref ysi, .ref ynu, .ref ymo])), (ys, .inl (cI, 449, .inl ms)), (yfa, .inl (cI, 100, .inl fa2_10)), (yfe, .inl (cI, 100, .inl fe2_11))] → va_S A s.heap H locs → lv_has ls 9 [(5, .int (nI (i))), (4, .int u8), (3, .int (nI (zq))), (2, .int 0), (0, .ref h0), (1, .int 2)] → W p l e ({ frames := 3, cells := 0, slots := 0, locals := 66 }) s m ([.ref h0, .int 2] : List Value).toArray below meth c H locs 0 0 (MQ below (XQi (fun (r : Int32) (u : Int32 × (Nat → Int32) × (Nat → Int32) × (Nat → Int32)) => match u with | (mL2, fa2, fe2, mq2) => ((r = rdR fal fao nu P zq bt))) D (fun (u : Int32 × (Nat → Int32) × (Nat → Int32) × (Nat → Int32)) => match u with | (mL2, fa2, fe2, mq2) => [(h0, .inr (9, [.ref ys, .ref yk, .ref yo, .ref yt, .int mk0, .ref yfa, .ref yfe, .int mL2, .int mS, .int mM, .ref yro, .ref yhe, .ref ygr, .int mF, .int mC, .int mY, .ref yta, .int (nI (mz)), .int (nI (mf)), .int (nI (mt)), .int mv, .int mw, .ref ywa, .ref ybi, .ref ysi, .ref ynu, .ref ymo])), (ys, .inl (cI, 449, .inl ms)), (yfa, .inl (cI, 100, .inl fa2)), (yfe, .inl (cI, 100, .inl fe2)), (ybi, .inl (cI, 4, .inl bi)), (ysi, .inl (cI, 4, .inl sq)), (ynu, .inl (cJ, 160, .inr (.inl nb))), (yt, .inl (cI, 7, .inl mq2))]) A) ([.ref h0, .int 2] : List Value).toArray s 0 0 A) (F0 m 47 ls []) by
        exact loop_47 _ 0 0 _ _ _ (Nat.lt_succ_self _) (by omega) RDI.zero hP hD hS (lv_sub hl [0, 1, 2, 3, 4, 5] rfl)
      intro n_47
      induction n_47 with
      | zero =>
        intro i u8 H locs ls hm_47
        exact absurd hm_47 (Nat.not_lt_zero _)
      | succ n_47 ih_47 =>
        intro i u8 H locs ls hm_47 hi hr9 hP hD hS hl
        refine lv_iload hx hb dX9_read_47 (lv_at hl 0 rfl) ?_
        refine lv_iload_n hx hb dX9_read_49 rfl (lv_at hl 2 rfl) ?_
        refine lv_icmp_ge (tgt := 158) hx hb dX9_read_50 (by decide) (fun c_14 => ?_) (fun c_14 => ?_)
        · skip
          have nc_14 : zq ≤ i := xn_le (a := zq) (b := i) (by omega) (by omega) c_14
          refine lv_iload_n hx hb dX9_read_158 rfl (lv_at hl 2 rfl) ?_
          refine lv_iconst (v := 2) hx hb dX9_read_159 (by decide) ?_
          refine lv_icmp_ge (tgt := 165) hx hb dX9_read_160 (by decide) (fun c_15 => ?_) (fun c_15 => ?_)
          · skip
            have nc_15 : 2 ≤ zq := xn_le (a := 2) (b := zq) (by omega) (by omega) c_15
            refine lv_iload hx hb dX9_read_165 (lv_at hl 1 rfl) ?_
            refine lv_aload_n hx hb dX9_read_167 rfl (lv_at hl 4 rfl) ?_
            refine xg hF kf_X9_22 hK hP 4 rfl rfl dX9_read_168 ?_
            refine lv_bipush (v := 10) hx hb dX9_read_171 (by decide) ?_
            refine lv_aload_n hx hb dX9_read_173 rfl (lv_at hl 4 rfl) ?_
            refine xg hF kf_X9_49 hK hP 4 rfl rfl dX9_read_174 ?_
            refine lv_bipush (v := 40) hx hb dX9_read_177 (by decide) ?_
            refine lv_iload_n hx hb dX9_read_179 rfl (lv_at hl 5 rfl) ?_
            refine lv_imul hx hb dX9_read_180 ?_
            refine xl_i (y := 80) (by decide) ?_
            refine va_lald hx hb hK hP 2 1 rfl rfl (xin 80 160 (by decide) (by decide)) dX9_read_181 ?_
            refine xl_l (y := nb 80) (congrArg nb rfl) ?_
            refine xl_l (y := nu 0) (hn 0 (by omega)) ?_
            have hy7 := (hr9.pv (by omega) (show 0 < i by omega)).1
            refine lv_l2i (v := (nu 0).toInt32) hx hb dX9_read_182 rfl ?_
            refine xl_i (y := nI (pl9 nu 0)) (by rw [(hr9.pv (by omega) (show 0 < i by omega)).2, lN_i]) ?_
            refine lv_imul hx hb dX9_read_183 ?_
            refine xl_i (y := nI (10 * (pl9 nu 0))) (pk_mul 10 (pl9 nu 0)) ?_
            refine lv_aload_n hx hb dX9_read_184 rfl (lv_at hl 4 rfl) ?_
            refine xg hF kf_X9_49 hK hP 4 rfl rfl dX9_read_185 ?_
            refine lv_bipush (v := 40) hx hb dX9_read_188 (by decide) ?_
            refine lv_iload_n hx hb dX9_read_190 rfl (lv_at hl 5 rfl) ?_
            refine lv_imul hx hb dX9_read_191 ?_
            refine xl_i (y := 80) (by decide) ?_
            refine lv_iload_n hx hb dX9_read_192 rfl (lv_at hl 2 rfl) ?_
            refine lv_iadd hx hb dX9_read_193 ?_
            refine xl_i (y := nI (80 + zq)) (nI_add 80 zq) ?_
            refine lv_iconst (v := 1) hx hb dX9_read_194 (by decide) ?_
            refine lv_isub hx hb dX9_read_195 ?_
            refine xl_i (y := nI (80 + zq - 1)) (pk_sub (show 1 ≤ 80 + zq by omega)) ?_
            refine va_lald hx hb hK hP 2 1 rfl rfl (vp_in_nI (show 80 + zq - 1 < 160 by omega) (by decide)) dX9_read_196 ?_
            refine xl_l (y := nb (80 + zq - 1)) (congrArg nb (nI_clamp (show 80 + zq - 1 < 2 ^ 31 by omega))) ?_
            refine xl_l (y := nu (zq - 1)) ((congrArg nb (by omega)).trans (hn (zq - 1) (by omega))) ?_
            have hy6 := (hr9.pv (by omega) (show zq - 1 < i by omega)).1
            refine lv_l2i (v := (nu (zq - 1)).toInt32) hx hb dX9_read_197 rfl ?_
            refine xl_i (y := nI (pl9 nu (zq - 1))) (by rw [(hr9.pv (by omega) (show (zq - 1) < i by omega)).2, lN_i]) ?_
            refine lv_iadd hx hb dX9_read_198 ?_
            refine xl_i (y := nI (10 * (pl9 nu 0) + (pl9 nu (zq - 1)))) (nI_add (10 * (pl9 nu 0)) (pl9 nu (zq - 1))) ?_
            refine va_iald hx hb hK hP 6 0 rfl rfl (vp_in_nI (show 10 * (pl9 nu 0) + (pl9 nu (zq - 1)) < 100 by omega) (by decide)) dX9_read_199 ?_
            refine xl_i (y := fa2_10 (10 * (pl9 nu 0) + (pl9 nu (zq - 1)))) (congrArg fa2_10 (nI_clamp (show 10 * (pl9 nu 0) + (pl9 nu (zq - 1)) < 2 ^ 31 by omega))) ?_
            refine lv_icmp_ne (tgt := 207) hx hb dX9_read_200 (by decide) (fun c_16 => ?_) (fun c_16 => ?_)
            · skip
              refine lv_iconst (v := 1) hx hb dX9_read_207 (by decide) ?_
              refine lv_iload_n hx hb dX9_read_208 rfl (lv_at hl 2 rfl) ?_
              refine lv_iadd hx hb dX9_read_209 ?_
              refine xl_i (y := nI (1 + zq)) (nI_add 1 zq) ?_
              exact W.iret (v := nI (1 + zq)) hx hb hr (fun t ht hW => ⟨⟨nI (1 + zq), (mL2_9, fa2_10, fe2_11, mq), rfl, rd_y (fun h => h_3 (hbt9.trans h)) (fw_Gd.nl (fin_0 hsG (by omega) i_12 c_13) (by omega)) ((congrArg nI (show 1 + zq = zq + 1 by omega)).trans (RDI.rn (show RDI fal fao nu P zq u8 from by rw [show zq = i by omega]; exact hr9) (by omega) (fin_0 hsG (by omega) i_12 c_13) (by omega) rfl rfl c_16)), by rw [ht]; exact hP.sub [4, 5, 6, 7, 0, 1, 2, 3] rfl, hD.sub [4, 5, 6, 7, 0, 1, 2, 3] (by decide +kernel) rfl⟩, hS.F ht⟩) hS.2.2 dX9_read_210 hlk
            · skip
              refine lv_iconst (v := 0) hx hb dX9_read_203 (by decide) ?_
              refine lv_goto (tgt := 210) hx hb dX9_read_204 (by decide) ?_
              exact W.iret (v := 0) hx hb hr (fun t ht hW => ⟨⟨0, (mL2_9, fa2_10, fe2_11, mq), rfl, rd_y (fun h => h_3 (hbt9.trans h)) (fw_Gd.nl (fin_0 hsG (by omega) i_12 c_13) (by omega)) (RDI.ry (show RDI fal fao nu P zq u8 from by rw [show zq = i by omega]; exact hr9) (by omega) (fin_0 hsG (by omega) i_12 c_13) (by omega) rfl rfl c_16), by rw [ht]; exact hP.sub [4, 5, 6, 7, 0, 1, 2, 3] rfl, hD.sub [4, 5, 6, 7, 0, 1, 2, 3] (by decide +kernel) rfl⟩, hS.F ht⟩) hS.2.2 dX9_read_210 hlk
          · skip
            have nc_15 : zq < 2 := xn_nle (a := 2) (b := zq) (by omega) (by omega) c_15
            refine lv_iconst (v := 1) hx hb dX9_read_163 (by decide) ?_
            exact W.iret (v := 1) hx hb hr (fun t ht hW => ⟨⟨1, (mL2_9, fa2_10, fe2_11, mq), rfl, rd_y (fun h => h_3 (hbt9.trans h)) (fw_Gd.nl (fin_0 hsG (by omega) i_12 c_13) (by omega)) (rd_small (by omega)), by rw [ht]; exact hP.sub [4, 5, 6, 7, 0, 1, 2, 3] rfl, hD.sub [4, 5, 6, 7, 0, 1, 2, 3] (by decide +kernel) rfl⟩, hS.F ht⟩) hS.2.2 dX9_read_164 hlk
        · skip
          have nc_14 : i < zq := xn_nle (a := zq) (b := i) (by omega) (by omega) c_14
          refine lv_aload_n hx hb dX9_read_53 rfl (lv_at hl 4 rfl) ?_
          refine xg hF kf_X9_49 hK hP 4 rfl rfl dX9_read_54 ?_
          refine lv_bipush (v := 40) hx hb dX9_read_57 (by decide) ?_
          refine lv_iload_n hx hb dX9_read_59 rfl (lv_at hl 5 rfl) ?_
          refine lv_imul hx hb dX9_read_60 ?_
          refine xl_i (y := 80) (by decide) ?_
          refine lv_iload hx hb dX9_read_61 (lv_at hl 0 rfl) ?_
          refine lv_iadd hx hb dX9_read_63 ?_
          refine xl_i (y := nI (80 + i)) (nI_add 80 i) ?_
          refine va_lald hx hb hK hP 2 1 rfl rfl (vp_in_nI (show 80 + i < 160 by omega) (by decide)) dX9_read_64 ?_
          refine xl_l (y := nb (80 + i)) (congrArg nb (nI_clamp (show 80 + i < 2 ^ 31 by omega))) ?_
          refine xl_l (y := nu i) (hn i (by omega)) ?_
          refine lv_lstore (lv' := [(6, .long (nu i)), (5, .int (nI (i))), (4, .int u8), (3, .int (nI (zq))), (2, .int 0), (0, .ref h0), (1, .int 2)]) hx hb dX9_read_65 hl (by decide) rfl (fun ls hl => ?_)
          refine lv_lload hx hb dX9_read_67 (lv_at hl 0 rfl) ?_
          refine lv_lconst (v := 0) hx hb dX9_read_69 (by decide) ?_
          refine xl_l (y := (0 : Int32).toInt64) (by decide) ?_
          refine lv_aload_n hx hb dX9_read_70 rfl (lv_at hl 5 rfl) ?_
          refine xg hF kf_X9_7 hK hP 4 rfl rfl dX9_read_71 ?_
          refine lv_iconst (v := 0) hx hb dX9_read_74 (by decide) ?_
          refine va_iald hx hb hK hP 5 0 rfl rfl (xin 0 449 (by decide) (by decide)) dX9_read_75 ?_
          refine xl_i (y := nI (P)) hs0 ?_
          refine lv_iconst (v := 1) hx hb dX9_read_76 (by decide) ?_
          refine lv_isub hx hb dX9_read_77 ?_
          refine lv_topi (fun x_17 ex_17 => ?_)
          refine lv_i2l (v := x_17.toInt64) hx hb dX9_read_78 rfl ?_
          refine xc_Sr hF (c_X9_inL l D cI cJ cZ cS ta sa sv H.size (nu i) 0 x_17 ) ks_X9_57 ⟨rfl, rfl, Nat.le_of_ble_eq_true rfl, Nat.le_of_ble_eq_true rfl⟩ ⟨Nat.le_of_ble_eq_true rfl, Nat.le_of_ble_eq_true rfl⟩ hK hN hZ hP hD hS hA [] rfl rfl rfl hl.1 rfl (Nat.le_of_ble_eq_true rfl) dX9_read_79 (fun r_18 hw_r_18 => ?_)
          rcases hw_r_18 with ⟨rfl, h_19, h_20⟩ | ⟨rfl, h_21⟩
          · skip
            refine lv_if_ne (tgt := 90) hx hb dX9_read_82 (by decide) (fun c_22 => ?_) (fun c_22 => absurd c_22 (by decide))
            obtain ⟨y9, hy9, ey9⟩ := x_inPL (by omega) ex_17 h_19 h_20
            refine lv_iload hx hb dX9_read_90 (lv_at hl 1 rfl) ?_
            refine lv_if_le (tgt := 152) hx hb dX9_read_92 (by decide) (fun c_23 => ?_) (fun c_23 => ?_)
            · skip
              have nc_23 : i ≤ 0 := xn_le (a := i) (b := 0) (by omega) (by omega) c_23
              refine lv_iinc (v := nI (i + 1)) (lv' := [(5, .int (nI (i + 1))), (6, .long (nu i)), (4, .int u8), (3, .int (nI (zq))), (2, .int 0), (0, .ref h0), (1, .int 2)]) hx hb dX9_read_152 hl (k := 1) rfl (nI_1 (i)) (by decide) rfl (fun ls hl => ?_)
              refine lv_goto (tgt := 47) hx hb dX9_read_155 (by decide) ?_
              exact ih_47 (i + 1) u8 _ _ _ (by omega) (by omega) (hr9.first (by omega) (by omega) ey9) (hP.sub [0, 1, 2, 3, 4, 5, 6, 7] rfl) (hD.sub [0, 1, 2, 3, 4, 5, 6, 7] (by decide +kernel) rfl) hS (lv_sub hl [0, 2, 3, 4, 5, 6] rfl)
            · skip
              have nc_23 : 0 < i := xn_nle (a := i) (b := 0) (by omega) (by omega) c_23
              refine lv_aload_n hx hb dX9_read_95 rfl (lv_at hl 5 rfl) ?_
              refine xg hF kf_X9_49 hK hP 4 rfl rfl dX9_read_96 ?_
              refine lv_bipush (v := 40) hx hb dX9_read_99 (by decide) ?_
              refine lv_iload_n hx hb dX9_read_101 rfl (lv_at hl 6 rfl) ?_
              refine lv_imul hx hb dX9_read_102 ?_
              refine xl_i (y := 80) (by decide) ?_
              refine lv_iload hx hb dX9_read_103 (lv_at hl 1 rfl) ?_
              refine lv_iadd hx hb dX9_read_105 ?_
              refine xl_i (y := nI (80 + i)) (nI_add 80 i) ?_
              refine lv_iconst (v := 1) hx hb dX9_read_106 (by decide) ?_
              refine lv_isub hx hb dX9_read_107 ?_
              refine xl_i (y := nI (80 + i - 1)) (pk_sub (show 1 ≤ 80 + i by omega)) ?_
              refine va_lald hx hb hK hP 2 1 rfl rfl (vp_in_nI (show 80 + i - 1 < 160 by omega) (by decide)) dX9_read_108 ?_
              refine xl_l (y := nb (80 + i - 1)) (congrArg nb (nI_clamp (show 80 + i - 1 < 2 ^ 31 by omega))) ?_
              refine xl_l (y := nu (i - 1)) ((congrArg nb (by omega)).trans (hn (i - 1) (by omega))) ?_
              have hy8 := (hr9.pv (by omega) (show i - 1 < i by omega)).1
              refine lv_l2i (v := (nu (i - 1)).toInt32) hx hb dX9_read_109 rfl ?_
              refine xl_i (y := nI (pl9 nu (i - 1))) (by rw [(hr9.pv (by omega) (show (i - 1) < i by omega)).2, lN_i]) ?_
              refine lv_istore (lv' := [(8, .int (nI (pl9 nu (i - 1)))), (6, .long (nu i)), (5, .int (nI (i))), (4, .int u8), (3, .int (nI (zq))), (2, .int 0), (0, .ref h0), (1, .int 2)]) hx hb dX9_read_110 hl (by decide) rfl (fun ls hl => ?_)
              refine lv_lload hx hb dX9_read_112 (lv_at hl 1 rfl) ?_
              refine lv_iload hx hb dX9_read_114 (lv_at hl 0 rfl) ?_
              refine lv_i2l (v := (nI (pl9 nu (i - 1))).toInt64) hx hb dX9_read_116 rfl ?_
              refine W.lcmp hx hb dX9_read_117 ?_
              refine lv_if_eq (tgt := 133) hx hb dX9_read_118 (by decide) (fun c_24 => ?_) (fun c_24 => ?_)
              · skip
                refine lv_iload hx hb dX9_read_133 (lv_at hl 2 rfl) ?_
                refine lv_iconst (v := 1) hx hb dX9_read_135 (by decide) ?_
                refine lv_iadd hx hb dX9_read_136 ?_
                refine xl_i (y := nI (i + 1)) (nI_add i 1) ?_
                exact W.iret (v := nI (i + 1)) hx hb hr (fun t ht hW => ⟨⟨nI (i + 1), (mL2_9, fa2_10, fe2_11, mq), rfl, rd_y (fun h => h_3 (hbt9.trans h)) (fw_Gd.nl (fin_0 hsG (by omega) i_12 c_13) (by omega)) (hr9.bad3 (by omega) (by omega) (by omega) (by omega) ey9 (hEI.2 y9 (by omega)) c_24), by rw [ht]; exact hP.sub [4, 5, 6, 7, 0, 1, 2, 3] rfl, hD.sub [4, 5, 6, 7, 0, 1, 2, 3] (by decide +kernel) rfl⟩, hS.F ht⟩) hS.2.2 dX9_read_137 hlk
              · skip
                refine lv_aload_n hx hb dX9_read_121 rfl (lv_at hl 6 rfl) ?_
                refine lv_iload hx hb dX9_read_122 (lv_at hl 0 rfl) ?_
                refine lv_lload hx hb dX9_read_124 (lv_at hl 1 rfl) ?_
                refine lv_l2i (v := (nu i).toInt32) hx hb dX9_read_126 rfl ?_
                refine xl_i (y := nI (y9)) (by rw [ey9, lN_i]) ?_
                refine xc_Vr hF (c_X9_isOpenF l D cI cJ cZ cS ta sa sv H.size h0 ys yk yo yt mk0 yfa yfe mL2_9 mS mM yro yhe ygr mF mC mY yta mz mf mt mv mw ywa ybi ysi ynu ymo ms P Rn Wn fae fal fau fao farn farp fak fawn fawp fat fas (pl9 nu (i - 1)) y9 (by omega) (by omega) hs0 hs1 hs2 hsS hsM hsp hsr hsw hsR hsG) kv_X9_97 ⟨rfl, rfl, Nat.le_of_ble_eq_true rfl, Nat.le_of_ble_eq_true rfl⟩ ⟨Nat.le_of_ble_eq_true rfl, Nat.le_of_ble_eq_true rfl⟩ hK hN hZ hP hD hS hA [4, 5] rfl rfl 0 rfl rfl rfl rfl hl.1 rfl (Nat.le_of_ble_eq_true rfl) dX9_read_127 (fun r_25 hw_r_25 => ?_)
                rcases hw_r_25 with ⟨rfl, h_26, h_27⟩ | ⟨rfl, h_28, h_29⟩
                · skip
                  refine lv_if_ne (tgt := 138) hx hb dX9_read_130 (by decide) (fun c_30 => ?_) (fun c_30 => absurd c_30 (by decide))
                  refine lv_iload hx hb dX9_read_138 (lv_at hl 3 rfl) ?_
                  refine lv_aload_n hx hb dX9_read_140 rfl (lv_at hl 6 rfl) ?_
                  refine lv_iload hx hb dX9_read_141 (lv_at hl 0 rfl) ?_
                  refine lv_lload hx hb dX9_read_143 (lv_at hl 1 rfl) ?_
                  refine lv_l2i (v := (nu i).toInt32) hx hb dX9_read_145 rfl ?_
                  refine xl_i (y := nI (y9)) (by rw [ey9, lN_i]) ?_
                  refine xc_Vr hF (c_X9_milesF l D cI cJ cZ cS ta sa sv H.size h0 ys yk yo yt mk0 yfa yfe mL2_9 mS mM yro yhe ygr mF mC mY yta mz mf mt mv mw ywa ybi ysi ynu ymo ms P Rn Wn fae fal fau fao farn farp fak fawn fawp fat fas (pl9 nu (i - 1)) y9 (by omega) (by omega) hs0 hs1 hs2 hsS hsM hsp hsr hsw hsR hsG) kv_X9_100 ⟨rfl, rfl, Nat.le_of_ble_eq_true rfl, Nat.le_of_ble_eq_true rfl⟩ ⟨Nat.le_of_ble_eq_true rfl, Nat.le_of_ble_eq_true rfl⟩ hK hN hZ hP hD hS hA [4, 5] rfl rfl 0 rfl rfl rfl rfl hl.1 rfl (Nat.le_of_ble_eq_true rfl) dX9_read_146 (fun r_31 hw_r_31 => ?_)
                  subst hw_r_31
                  refine lv_iadd hx hb dX9_read_149 ?_
                  refine lv_istore (lv' := [(4, .int (u8 + (fal (10 * (pl9 nu (i - 1)) + y9)))), (8, .int (nI (pl9 nu (i - 1)))), (6, .long (nu i)), (5, .int (nI (i))), (3, .int (nI (zq))), (2, .int 0), (0, .ref h0), (1, .int 2)]) hx hb dX9_read_150 hl (by decide) rfl (fun ls hl => ?_)
                  refine lv_iinc (v := nI (i + 1)) (lv' := [(5, .int (nI (i + 1))), (4, .int (u8 + (fal (10 * (pl9 nu (i - 1)) + y9)))), (8, .int (nI (pl9 nu (i - 1)))), (6, .long (nu i)), (3, .int (nI (zq))), (2, .int 0), (0, .ref h0), (1, .int 2)]) hx hb dX9_read_152 hl (k := 3) rfl (nI_1 (i)) (by decide) rfl (fun ls hl => ?_)
                  refine lv_goto (tgt := 47) hx hb dX9_read_155 (by decide) ?_
                  exact ih_47 (i + 1) (u8 + (fal (10 * (pl9 nu (i - 1)) + y9))) _ _ _ (by omega) (by omega) (hr9.more (by omega) (by omega) (by omega) ey9 rfl h_27) (hP.sub [0, 1, 2, 3, 4, 5, 6, 7] rfl) (hD.sub [0, 1, 2, 3, 4, 5, 6, 7] (by decide +kernel) rfl) hS (lv_sub hl [0, 1, 4, 5, 6, 7] rfl)
                · skip
                  refine lv_if_ne (tgt := 138) hx hb dX9_read_130 (by decide) (fun c_32 => absurd (by decide) c_32) (fun c_32 => ?_)
                  refine lv_iload hx hb dX9_read_133 (lv_at hl 2 rfl) ?_
                  refine lv_iconst (v := 1) hx hb dX9_read_135 (by decide) ?_
                  refine lv_iadd hx hb dX9_read_136 ?_
                  refine xl_i (y := nI (i + 1)) (nI_add i 1) ?_
                  exact W.iret (v := nI (i + 1)) hx hb hr (fun t ht hW => ⟨⟨nI (i + 1), (mL2_9, fa2_10, fe2_11, mq), rfl, rd_y (fun h => h_3 (hbt9.trans h)) (fw_Gd.nl (fin_0 hsG (by omega) i_12 c_13) (by omega)) (hr9.bad2 (by omega) (by omega) (by omega) (by omega) ey9 rfl h_29), by rw [ht]; exact hP.sub [4, 5, 6, 7, 0, 1, 2, 3] rfl, hD.sub [4, 5, 6, 7, 0, 1, 2, 3] (by decide +kernel) rfl⟩, hS.F ht⟩) hS.2.2 dX9_read_137 hlk
          · skip
            refine lv_if_ne (tgt := 90) hx hb dX9_read_82 (by decide) (fun c_33 => absurd (by decide) c_33) (fun c_33 => ?_)
            refine lv_iload hx hb dX9_read_85 (lv_at hl 1 rfl) ?_
            refine lv_iconst (v := 1) hx hb dX9_read_87 (by decide) ?_
            refine lv_iadd hx hb dX9_read_88 ?_
            refine xl_i (y := nI (i + 1)) (nI_add i 1) ?_
            exact W.iret (v := nI (i + 1)) hx hb hr (fun t ht hW => ⟨⟨nI (i + 1), (mL2_9, fa2_10, fe2_11, mq), rfl, rd_y (fun h => h_3 (hbt9.trans h)) (fw_Gd.nl (fin_0 hsG (by omega) i_12 c_13) (by omega)) (hr9.bad1 (by omega) (xnL3 (by omega) ex_17 h_21)), by rw [ht]; exact hP.sub [4, 5, 6, 7, 0, 1, 2, 3] rfl, hD.sub [4, 5, 6, 7, 0, 1, 2, 3] (by decide +kernel) rfl⟩, hS.F ht⟩) hS.2.2 dX9_read_89 hlk
    · skip
      refine lv_aload_n hx hb dX9_read_27 rfl (lv_at hl 1 rfl) ?_
      refine lv_ldc (v := (-1000000005)) hx hb hown (hu _ uw716) dX9_read_28 ?_
      refine xc_Vi (wr := [(ybi, .inl (cI, 4, .inl bi)), (ysi, .inl (cI, 4, .inl sq)), (ynu, .inl (cJ, 160, .inr (.inl nb))), (ys, .inl (cI, 449, .inl ms)), (yfa, .inl (cI, 100, .inl fa2_10)), (yfe, .inl (cI, 100, .inl fe2_11))]) hF (c_X9_finds_T l D cI cJ cZ cS ta sa sv H.size h0 ys yk yo yt mk0 yfa yfe mL2_9 mS mM yro yhe ygr mF mC mY yta mz mf mt mv mw ywa ybi ysi ynu ymo mq ) kv_X9_70 ⟨rfl, rfl, Nat.le_of_ble_eq_true rfl, Nat.le_of_ble_eq_true rfl⟩ ⟨Nat.le_of_ble_eq_true rfl, Nat.le_of_ble_eq_true rfl⟩ hK hN hZ hP hD hS hA [4, 3] [0, 1, 2, 5, 6, 7] rfl rfl rfl (by decide +kernel) (by decide +kernel) 0 rfl rfl rfl rfl hl.1 rfl (Nat.le_of_ble_eq_true rfl) dX9_read_30 (fun r_34 u_r_34 H locs hw_r_34 hP hD hS => ?_)
      obtain ⟨mq2_35, rfl⟩ : ∃ z, z = u_r_34 := ⟨_, rfl⟩
      try dsimp only at hw_r_34
      have hP : va_P D vwCl [(ybi, .inl (cI, 4, .inl bi)), (ysi, .inl (cI, 4, .inl sq)), (ynu, .inl (cJ, 160, .inr (.inl nb))), (ys, .inl (cI, 449, .inl ms)), (yfa, .inl (cI, 100, .inl fa2_10)), (yfe, .inl (cI, 100, .inl fe2_11)), (h0, .inr (9, [.ref ys, .ref yk, .ref yo, .ref yt, .int mk0, .ref yfa, .ref yfe, .int mL2_9, .int mS, .int mM, .ref yro, .ref yhe, .ref ygr, .int mF, .int mC, .int mY, .ref yta, .int (nI (mz)), .int (nI (mf)), .int (nI (mt)), .int mv, .int mw, .ref ywa, .ref ybi, .ref ysi, .ref ynu, .ref ymo])), (yt, .inl (cI, 7, .inl mq2_35))] H := hP
      have hD : va_D A [(ybi, .inl (cI, 4, .inl bi)), (ysi, .inl (cI, 4, .inl sq)), (ynu, .inl (cJ, 160, .inr (.inl nb))), (ys, .inl (cI, 449, .inl ms)), (yfa, .inl (cI, 100, .inl fa2_10)), (yfe, .inl (cI, 100, .inl fe2_11)), (h0, .inr (9, [.ref ys, .ref yk, .ref yo, .ref yt, .int mk0, .ref yfa, .ref yfe, .int mL2_9, .int mS, .int mM, .ref yro, .ref yhe, .ref ygr, .int mF, .int mC, .int mY, .ref yta, .int (nI (mz)), .int (nI (mf)), .int (nI (mt)), .int mv, .int mw, .ref ywa, .ref ybi, .ref ysi, .ref ynu, .ref ymo])), (yt, .inl (cI, 7, .inl mq2_35))] := hD
      subst hw_r_34
      exact W.iret (v := (-1000000005)) hx hb hr (fun t ht hW => ⟨⟨(-1000000005), (mL2_9, fa2_10, fe2_11, mq2_35), rfl, rd_lp (fun h => h_3 (hbt9.trans h)) (fin_1 hsG (by omega) i_12 c_13), by rw [ht]; exact hP.sub [6, 3, 4, 5, 0, 1, 2, 7] rfl, hD.sub [6, 3, 4, 5, 0, 1, 2, 7] (by decide +kernel) rfl⟩, hS.F ht⟩) hS.2.2 dX9_read_33 hlk
set_option maxHeartbeats 4000000 in
set_option maxRecDepth 100000 in
theorem c_X9_read_3 (l : Launch) (D : va_G) (cI cJ cZ cS : ClassId) (ta : Nat) (sa sv : Nat → Nat) (sz : Nat) (h0 : Nat) (ys : Nat) (yk : Nat) (yo : Nat) (yt : Nat) (mk0 : Int32) (yfa : Nat) (yfe : Nat) (mL : Int32) (mS : Int32) (mM : Int32) (yro : Nat) (yhe : Nat) (ygr : Nat) (mF : Int32) (mC : Int32) (mY : Int32) (yta : Nat) (mz : Nat) (mf : Nat) (mt : Nat) (mv : Int32) (mw : Int32) (ywa : Nat) (ybi : Nat) (ysi : Nat) (ynu : Nat) (ymo : Nat) (ms : Nat → Int32) (fa : Nat → Int32) (fe : Nat → Int32) (bi : Nat → Int32) (sq : Nat → Int32) (nb : Nat → Int64) (mq : Nat → Int32) (P : Nat) (Rn : Nat) (Wn : Nat) (fae : Nat → Int32) (fal : Nat → Int32) (fau : Nat → Int32) (fao : Nat → Int32) (farn : Nat → Int32) (farp : Nat → Int32) (fak : Nat → Int32) (fawn : Nat → Int32) (fawp : Nat → Int32) (fat : Nat → Int32) (fas : Nat → Int32) (bt : Int32) (zq : Nat) (nu : Nat → Int64) (hbt9 : bi 3 = bt) (ez : sq 3 = nI zq) (hzq : zq ≤ 40) (hn : ∀ j, j < 40 → nb (120 + j) = nu j) (hEI : EI fal fau fao) (hsq : BA 4 41 sq) (hs0 : ms 0 = nI P) (hs1 : ms 1 = nI Rn) (hs2 : ms 2 = nI Wn) (hsS : SI ms) (hsM : MI ms) (hsp : P ≤ 10) (hsr : Rn ≤ 8) (hsw : Wn ≤ 8) (hsR : RI Rn ms) (hsG : FR P ms fae fal fau fao farn farp fak fawn fawp fat fas) : Met l yX9_read (Cond.code yX9_read cX9_read 9 (some .int) :: wsU) ({ frames := 3, cells := 0, slots := 0, locals := 66 }) (va_Pc [.ref h0, .int 3] (XW D (xT cI cJ cZ cS) ta sa sv [(h0, .inr (9, [.ref ys, .ref yk, .ref yo, .ref yt, .int mk0, .ref yfa, .ref yfe, .int mL, .int mS, .int mM, .ref yro, .ref yhe, .ref ygr, .int mF, .int mC, .int mY, .ref yta, .int (nI (mz)), .int (nI (mf)), .int (nI (mt)), .int mv, .int mw, .ref ywa, .ref ybi, .ref ysi, .ref ynu, .ref ymo])), (ys, .inl (cI, 449, .inl ms)), (yfa, .inl (cI, 100, .inl fa)), (yfe, .inl (cI, 100, .inl fe)), (ybi, .inl (cI, 4, .inl bi)), (ysi, .inl (cI, 4, .inl sq)), (ynu, .inl (cJ, 160, .inr (.inl nb))), (yt, .inl (cI, 7, .inl mq))] sz)) (XQi (fun (r : Int32) (u : Int32 × (Nat → Int32) × (Nat → Int32) × (Nat → Int32)) => match u with | (mL2, fa2, fe2, mq2) => ((r = rdR fal fao nu P zq bt))) D (fun (u : Int32 × (Nat → Int32) × (Nat → Int32) × (Nat → Int32)) => match u with | (mL2, fa2, fe2, mq2) => [(h0, .inr (9, [.ref ys, .ref yk, .ref yo, .ref yt, .int mk0, .ref yfa, .ref yfe, .int mL2, .int mS, .int mM, .ref yro, .ref yhe, .ref ygr, .int mF, .int mC, .int mY, .ref yta, .int (nI (mz)), .int (nI (mf)), .int (nI (mt)), .int mv, .int mw, .ref ywa, .ref ybi, .ref ysi, .ref ynu, .ref ymo])), (ys, .inl (cI, 449, .inl ms)), (yfa, .inl (cI, 100, .inl fa2)), (yfe, .inl (cI, 100, .inl fe2)), (ybi, .inl (cI, 4, .inl bi)), (ysi, .inl (cI, 4, .inl sq)), (ynu, .inl (cJ, 160, .inr (.inl nb))), (yt, .inl (cI, 7, .inl mq2))]) (va_A [(h0, .inr (9, [.ref ys, .ref yk, .ref yo, .ref yt, .int mk0, .ref yfa, .ref yfe, .int mL, .int mS, .int mM, .ref yro, .ref yhe, .ref ygr, .int mF, .int mC, .int mY, .ref yta, .int (nI (mz)), .int (nI (mf)), .int (nI (mt)), .int mv, .int mw, .ref ywa, .ref ybi, .ref ysi, .ref ynu, .ref ymo])), (ys, .inl (cI, 449, .inl ms)), (yfa, .inl (cI, 100, .inl fa)), (yfe, .inl (cI, 100, .inl fe)), (ybi, .inl (cI, 4, .inl bi)), (ysi, .inl (cI, 4, .inl sq)), (ynu, .inl (cJ, 160, .inr (.inl nb))), (yt, .inl (cI, 7, .inl mq))] sz)) 0 0 (va_A [(h0, .inr (9, [.ref ys, .ref yk, .ref yo, .ref yt, .int mk0, .ref yfa, .ref yfe, .int mL, .int mS, .int mM, .ref yro, .ref yhe, .ref ygr, .int mF, .int mC, .int mY, .ref yta, .int (nI (mz)), .int (nI (mf)), .int (nI (mt)), .int mv, .int mw, .ref ywa, .ref ybi, .ref ysi, .ref ynu, .ref ymo])), (ys, .inl (cI, 449, .inl ms)), (yfa, .inl (cI, 100, .inl fa)), (yfe, .inl (cI, 100, .inl fe)), (ybi, .inl (cI, 4, .inl bi)), (ysi, .inl (cI, 4, .inl sq)), (ynu, .inl (cJ, 160, .inr (.inl nb))), (yt, .inl (cI, 7, .inl mq))] sz) := by
  refine xh (QA := fun A => XQi (fun (r : Int32) (u : Int32 × (Nat → Int32) × (Nat → Int32) × (Nat → Int32)) => match u with | (mL2, fa2, fe2, mq2) => ((r = rdR fal fao nu P zq bt))) D (fun (u : Int32 × (Nat → Int32) × (Nat → Int32) × (Nat → Int32)) => match u with | (mL2, fa2, fe2, mq2) => [(h0, .inr (9, [.ref ys, .ref yk, .ref yo, .ref yt, .int mk0, .ref yfa, .ref yfe, .int mL2, .int mS, .int mM, .ref yro, .ref yhe, .ref ygr, .int mF, .int mC, .int mY, .ref yta, .int (nI (mz)), .int (nI (mf)), .int (nI (mt)), .int mv, .int mw, .ref ywa, .ref ybi, .ref ysi, .ref ynu, .ref ymo])), (ys, .inl (cI, 449, .inl ms)), (yfa, .inl (cI, 100, .inl fa2)), (yfe, .inl (cI, 100, .inl fe2)), (ybi, .inl (cI, 4, .inl bi)), (ysi, .inl (cI, 4, .inl sq)), (ynu, .inl (cJ, 160, .inr (.inl nb))), (yt, .inl (cI, 7, .inl mq2))]) A) (fr := fun A => A) (by decide) (Nat.le_of_ble_eq_true rfl) ?_
  intro p e s m below meth c ls A hF hr hlk hin hsz hP hK hD hN hZ hA hS hl
  have hF : CallFix p m c cX9_read 9 s _ _ RX9 := hF
  have hx := hF.1
  have hb := hF.2.1
  have hml := hF.2.2.1
  have hown := hF.2.2.2.1
  have hu : ∀ w ∈ wsU, w.before _ s = true := fun w h => hF.2.2.2.2 w (List.mem_cons_of_mem _ h)
  have hl : lv_has ls 9 [(0, .ref h0), (1, .int 3)] := hl
  refine lv_aload_n hx hb dX9_read_0 rfl (lv_at hl 0 rfl) ?_
  refine lv_iload_n hx hb dX9_read_1 rfl (lv_at hl 1 rfl) ?_
  refine xc_Vr hF (c_X9_wrong_3 l D cI cJ cZ cS ta sa sv s.heap.size h0 ys yk yo yt mk0 yfa yfe mL mS mM yro yhe ygr mF mC mY yta mz mf mt mv mw ywa ybi ysi ynu ymo bi ) kv_X9_310 ⟨rfl, rfl, Nat.le_of_ble_eq_true rfl, Nat.le_of_ble_eq_true rfl⟩ ⟨Nat.le_of_ble_eq_true rfl, Nat.le_of_ble_eq_true rfl⟩ hK hN hZ hP hD hS hA [0, 4] rfl rfl 0 rfl rfl rfl rfl hl.1 rfl (Nat.le_of_ble_eq_true rfl) dX9_read_2 (fun r_1 hw_r_1 => ?_)
  rcases hw_r_1 with ⟨rfl, h_2⟩ | ⟨rfl, h_3⟩
  · skip
    refine lv_istore_n (lv' := [(2, .int (-1000000006)), (0, .ref h0), (1, .int 3)]) hx hb dX9_read_5 rfl hl (by decide) rfl (fun ls hl => ?_)
    refine lv_iload_n hx hb dX9_read_6 rfl (lv_at hl 0 rfl) ?_
    refine lv_if_eq (tgt := 16) hx hb dX9_read_7 (by decide) (fun c_4 => absurd c_4 (by decide)) (fun c_4 => ?_)
    refine lv_aload_n hx hb dX9_read_10 rfl (lv_at hl 1 rfl) ?_
    refine lv_iload_n hx hb dX9_read_11 rfl (lv_at hl 0 rfl) ?_
    refine xc_Vi (wr := [(ys, .inl (cI, 449, .inl ms)), (yfa, .inl (cI, 100, .inl fa)), (yfe, .inl (cI, 100, .inl fe)), (ybi, .inl (cI, 4, .inl bi)), (ysi, .inl (cI, 4, .inl sq)), (ynu, .inl (cJ, 160, .inr (.inl nb)))]) hF (c_X9_finds_M l D cI cJ cZ cS ta sa sv s.heap.size h0 ys yk yo yt mk0 yfa yfe mL mS mM yro yhe ygr mF mC mY yta mz mf mt mv mw ywa ybi ysi ynu ymo mq ) kv_X9_70 ⟨rfl, rfl, Nat.le_of_ble_eq_true rfl, Nat.le_of_ble_eq_true rfl⟩ ⟨Nat.le_of_ble_eq_true rfl, Nat.le_of_ble_eq_true rfl⟩ hK hN hZ hP hD hS hA [0, 7] [1, 2, 3, 4, 5, 6] rfl rfl rfl (by decide +kernel) (by decide +kernel) 0 rfl rfl rfl rfl hl.1 rfl (Nat.le_of_ble_eq_true rfl) dX9_read_12 (fun r_5 u_r_5 H locs hw_r_5 hP hD hS => ?_)
    obtain ⟨mq2_6, rfl⟩ : ∃ z, z = u_r_5 := ⟨_, rfl⟩
    try dsimp only at hw_r_5
    have hP : va_P D vwCl [(ys, .inl (cI, 449, .inl ms)), (yfa, .inl (cI, 100, .inl fa)), (yfe, .inl (cI, 100, .inl fe)), (ybi, .inl (cI, 4, .inl bi)), (ysi, .inl (cI, 4, .inl sq)), (ynu, .inl (cJ, 160, .inr (.inl nb))), (h0, .inr (9, [.ref ys, .ref yk, .ref yo, .ref yt, .int mk0, .ref yfa, .ref yfe, .int mL, .int mS, .int mM, .ref yro, .ref yhe, .ref ygr, .int mF, .int mC, .int mY, .ref yta, .int (nI (mz)), .int (nI (mf)), .int (nI (mt)), .int mv, .int mw, .ref ywa, .ref ybi, .ref ysi, .ref ynu, .ref ymo])), (yt, .inl (cI, 7, .inl mq2_6))] H := hP
    have hD : va_D A [(ys, .inl (cI, 449, .inl ms)), (yfa, .inl (cI, 100, .inl fa)), (yfe, .inl (cI, 100, .inl fe)), (ybi, .inl (cI, 4, .inl bi)), (ysi, .inl (cI, 4, .inl sq)), (ynu, .inl (cJ, 160, .inr (.inl nb))), (h0, .inr (9, [.ref ys, .ref yk, .ref yo, .ref yt, .int mk0, .ref yfa, .ref yfe, .int mL, .int mS, .int mM, .ref yro, .ref yhe, .ref ygr, .int mF, .int mC, .int mY, .ref yta, .int (nI (mz)), .int (nI (mf)), .int (nI (mt)), .int mv, .int mw, .ref ywa, .ref ybi, .ref ysi, .ref ynu, .ref ymo])), (yt, .inl (cI, 7, .inl mq2_6))] := hD
    subst hw_r_5
    exact W.iret (v := (-1000000006)) hx hb hr (fun t ht hW => ⟨⟨(-1000000006), (mL, fa, fe, mq2_6), rfl, rd_m (hbt9.symm.trans h_2), by rw [ht]; exact hP.sub [6, 0, 1, 2, 3, 4, 5, 7] rfl, hD.sub [6, 0, 1, 2, 3, 4, 5, 7] (by decide +kernel) rfl⟩, hS.F ht⟩) hS.2.2 dX9_read_15 hlk
  · skip
    refine lv_istore_n (lv' := [(2, .int 0), (0, .ref h0), (1, .int 3)]) hx hb dX9_read_5 rfl hl (by decide) rfl (fun ls hl => ?_)
    refine lv_iload_n hx hb dX9_read_6 rfl (lv_at hl 0 rfl) ?_
    refine lv_if_eq (tgt := 16) hx hb dX9_read_7 (by decide) (fun c_7 => ?_) (fun c_7 => absurd (by decide) c_7)
    refine lv_aload_n hx hb dX9_read_16 rfl (lv_at hl 1 rfl) ?_
    refine xc_Vv (wr := [(ybi, .inl (cI, 4, .inl bi)), (ysi, .inl (cI, 4, .inl sq)), (ynu, .inl (cJ, 160, .inr (.inl nb))), (yt, .inl (cI, 7, .inl mq))]) hF (c_X9_findFar l D cI cJ cZ cS ta sa sv s.heap.size h0 ys yk yo yt mk0 yfa yfe mL mS mM yro yhe ygr mF mC mY yta mz mf mt mv mw ywa ybi ysi ynu ymo ms fa fe P Rn Wn fae fal fau fao farn farp fak fawn fawp fat fas hs0 hs1 hs2 hsS hsM hsp hsr hsw hsR hsG) kv_X9_113 ⟨rfl, rfl, Nat.le_of_ble_eq_true rfl, Nat.le_of_ble_eq_true rfl⟩ ⟨Nat.le_of_ble_eq_true rfl, Nat.le_of_ble_eq_true rfl⟩ hK hN hZ hP hD hS hA [0, 1, 2, 3] [4, 5, 6, 7] rfl rfl (by decide +kernel) (by decide +kernel) (by decide +kernel) 0 rfl rfl rfl rfl hl.1 rfl (Nat.le_of_ble_eq_true rfl) dX9_read_17 (fun u_r_8 H locs hw_r_8 hP hD hS => ?_)
    obtain ⟨mL2_9, fa2_10, fe2_11⟩ := u_r_8
    try dsimp only at hw_r_8
    have i_12 := hw_r_8
    have hP : va_P D vwCl [(ybi, .inl (cI, 4, .inl bi)), (ysi, .inl (cI, 4, .inl sq)), (ynu, .inl (cJ, 160, .inr (.inl nb))), (yt, .inl (cI, 7, .inl mq)), (h0, .inr (9, [.ref ys, .ref yk, .ref yo, .ref yt, .int mk0, .ref yfa, .ref yfe, .int mL2_9, .int mS, .int mM, .ref yro, .ref yhe, .ref ygr, .int mF, .int mC, .int mY, .ref yta, .int (nI (mz)), .int (nI (mf)), .int (nI (mt)), .int mv, .int mw, .ref ywa, .ref ybi, .ref ysi, .ref ynu, .ref ymo])), (ys, .inl (cI, 449, .inl ms)), (yfa, .inl (cI, 100, .inl fa2_10)), (yfe, .inl (cI, 100, .inl fe2_11))] H := hP
    have hD : va_D A [(ybi, .inl (cI, 4, .inl bi)), (ysi, .inl (cI, 4, .inl sq)), (ynu, .inl (cJ, 160, .inr (.inl nb))), (yt, .inl (cI, 7, .inl mq)), (h0, .inr (9, [.ref ys, .ref yk, .ref yo, .ref yt, .int mk0, .ref yfa, .ref yfe, .int mL2_9, .int mS, .int mM, .ref yro, .ref yhe, .ref ygr, .int mF, .int mC, .int mY, .ref yta, .int (nI (mz)), .int (nI (mf)), .int (nI (mt)), .int mv, .int mw, .ref ywa, .ref ybi, .ref ysi, .ref ynu, .ref ymo])), (ys, .inl (cI, 449, .inl ms)), (yfa, .inl (cI, 100, .inl fa2_10)), (yfe, .inl (cI, 100, .inl fe2_11))] := hD
    refine lv_aload_n hx hb dX9_read_20 rfl (lv_at hl 1 rfl) ?_
    refine xg hF kf_X9_109 hK hP 4 rfl rfl dX9_read_21 ?_
    refine lv_if_eq (tgt := 34) hx hb dX9_read_24 (by decide) (fun c_13 => ?_) (fun c_13 => ?_)
    · skip
      refine lv_aload_n hx hb dX9_read_34 rfl (lv_at hl 1 rfl) ?_
      refine xg hF kf_X9_46 hK hP 4 rfl rfl dX9_read_35 ?_
      refine lv_iload_n hx hb dX9_read_38 rfl (lv_at hl 2 rfl) ?_
      refine va_iald hx hb hK hP 1 0 rfl rfl (xin 3 4 (by decide) (by decide)) dX9_read_39 ?_
      refine xl_i (y := sq 3) (congrArg sq rfl) ?_
      refine xl_i (y := nI (zq)) ez ?_
      refine lv_istore_n (lv' := [(3, .int (nI (zq))), (2, .int 0), (0, .ref h0), (1, .int 3)]) hx hb dX9_read_40 rfl hl (by decide) rfl (fun ls hl => ?_)
      refine lv_iconst (v := 0) hx hb dX9_read_41 (by decide) ?_
      refine lv_istore (lv' := [(4, .int 0), (3, .int (nI (zq))), (2, .int 0), (0, .ref h0), (1, .int 3)]) hx hb dX9_read_42 hl (by decide) rfl (fun ls hl => ?_)
      refine lv_iconst (v := 0) hx hb dX9_read_44 (by decide) ?_
      refine lv_istore (lv' := [(5, .int 0), (4, .int 0), (3, .int (nI (zq))), (2, .int 0), (0, .ref h0), (1, .int 3)]) hx hb dX9_read_45 hl (by decide) rfl (fun ls hl => ?_)
      suffices loop_47 : ∀ (n_47 : Nat) (i : Nat) (u8 : Int32) (H : Heap) (locs : List Loc) (ls : Array Slot), zq - i < n_47 → (i ≤ zq) → (RDI fal fao nu P i u8) → va_P D vwCl [(ybi, .inl (cI, 4, .inl bi)), (ysi, .inl (cI, 4, .inl sq)), (ynu, .inl (cJ, 160, .inr (.inl nb))), (yt, .inl (cI, 7, .inl mq)), (h0, .inr (9, [.ref ys, .ref yk, .ref yo, .ref yt, .int mk0, .ref yfa, .ref yfe, .int mL2_9, .int mS, .int mM, .ref yro, .ref yhe, .ref ygr, .int mF, .int mC, .int mY, .ref yta, .int (nI (mz)), .int (nI (mf)), .int (nI (mt)), .int mv, .int mw, .ref ywa, .ref ybi, .ref ysi, .ref ynu, .ref ymo])), (ys, .inl (cI, 449, .inl ms)), (yfa, .inl (cI, 100, .inl fa2_10)), (yfe, .inl (cI, 100, .inl fe2_11))] H → va_D A [(ybi, .inl (cI, 4, .inl bi)), (ysi, .inl (cI, 4, .inl sq)), (ynu, .inl (cJ, 160, .inr (.inl nb))), (yt, .inl (cI, 7, .inl mq)), (h0, .inr (9, [.ref ys, .ref yk, .ref yo, .ref yt, .int mk0, .ref yfa, .ref yfe, .int mL2_9, .int mS, .int mM, .ref yro, .ref yhe, .ref ygr, .int mF, .int mC, .int mY, .ref yta, .int (nI (mz)), .int (nI (mf)), .int (nI (mt)), .int mv, .int mw, .ref ywa, .ref ybi, .ref ysi, .ref ynu, .ref ymo])), (ys, .inl (cI, 449, .inl ms)), (yfa, .inl (cI, 100, .inl fa2_10)), (yfe, .inl (cI, 100, .inl fe2_11))] → va_S A s.heap H locs → lv_has ls 9 [(5, .int (nI (i))), (4, .int u8), (3, .int (nI (zq))), (2, .int 0), (0, .ref h0), (1, .int 3)] → W p l e ({ frames := 3, cells := 0, slots := 0, locals := 66 }) s m ([.ref h0, .int 3] : List Value).toArray below meth c H locs 0 0 (MQ below (XQi (fun (r : Int32) (u : Int32 × (Nat → Int32) × (Nat → Int32) × (Nat → Int32)) => match u with | (mL2, fa2, fe2, mq2) => ((r = rdR fal fao nu P zq bt))) D (fun (u : Int32 × (Nat → Int32) × (Nat → Int32) × (Nat → Int32)) => match u with | (mL2, fa2, fe2, mq2) => [(h0, .inr (9, [.ref ys, .ref yk, .ref yo, .ref yt, .int mk0, .ref yfa, .ref yfe, .int mL2, .int mS, .int mM, .ref yro, .ref yhe, .ref ygr, .int mF, .int mC, .int mY, .ref yta, .int (nI (mz)), .int (nI (mf)), .int (nI (mt)), .int mv, .int mw, .ref ywa, .ref ybi, .ref ysi, .ref ynu, .ref ymo])), (ys, .inl (cI, 449, .inl ms)), (yfa, .inl (cI, 100, .inl fa2)), (yfe, .inl (cI, 100, .inl fe2)), (ybi, .inl (cI, 4, .inl bi)), (ysi, .inl (cI, 4, .inl sq)), (ynu, .inl (cJ, 160, .inr (.inl nb))), (yt, .inl (cI, 7, .inl mq2))]) A) ([.ref h0, .int 3] : List Value).toArray s 0 0 A) (F0 m 47 ls []) by
        exact loop_47 _ 0 0 _ _ _ (Nat.lt_succ_self _) (by omega) RDI.zero hP hD hS (lv_sub hl [0, 1, 2, 3, 4, 5] rfl)
      intro n_47
      induction n_47 with
      | zero =>
        intro i u8 H locs ls hm_47
        exact absurd hm_47 (Nat.not_lt_zero _)
      | succ n_47 ih_47 =>
        intro i u8 H locs ls hm_47 hi hr9 hP hD hS hl
        refine lv_iload hx hb dX9_read_47 (lv_at hl 0 rfl) ?_
        refine lv_iload_n hx hb dX9_read_49 rfl (lv_at hl 2 rfl) ?_
        refine lv_icmp_ge (tgt := 158) hx hb dX9_read_50 (by decide) (fun c_14 => ?_) (fun c_14 => ?_)
        · skip
          have nc_14 : zq ≤ i := xn_le (a := zq) (b := i) (by omega) (by omega) c_14
          refine lv_iload_n hx hb dX9_read_158 rfl (lv_at hl 2 rfl) ?_
          refine lv_iconst (v := 2) hx hb dX9_read_159 (by decide) ?_
          refine lv_icmp_ge (tgt := 165) hx hb dX9_read_160 (by decide) (fun c_15 => ?_) (fun c_15 => ?_)
          · skip
            have nc_15 : 2 ≤ zq := xn_le (a := 2) (b := zq) (by omega) (by omega) c_15
            refine lv_iload hx hb dX9_read_165 (lv_at hl 1 rfl) ?_
            refine lv_aload_n hx hb dX9_read_167 rfl (lv_at hl 4 rfl) ?_
            refine xg hF kf_X9_22 hK hP 4 rfl rfl dX9_read_168 ?_
            refine lv_bipush (v := 10) hx hb dX9_read_171 (by decide) ?_
            refine lv_aload_n hx hb dX9_read_173 rfl (lv_at hl 4 rfl) ?_
            refine xg hF kf_X9_49 hK hP 4 rfl rfl dX9_read_174 ?_
            refine lv_bipush (v := 40) hx hb dX9_read_177 (by decide) ?_
            refine lv_iload_n hx hb dX9_read_179 rfl (lv_at hl 5 rfl) ?_
            refine lv_imul hx hb dX9_read_180 ?_
            refine xl_i (y := 120) (by decide) ?_
            refine va_lald hx hb hK hP 2 1 rfl rfl (xin 120 160 (by decide) (by decide)) dX9_read_181 ?_
            refine xl_l (y := nb 120) (congrArg nb rfl) ?_
            refine xl_l (y := nu 0) (hn 0 (by omega)) ?_
            have hy7 := (hr9.pv (by omega) (show 0 < i by omega)).1
            refine lv_l2i (v := (nu 0).toInt32) hx hb dX9_read_182 rfl ?_
            refine xl_i (y := nI (pl9 nu 0)) (by rw [(hr9.pv (by omega) (show 0 < i by omega)).2, lN_i]) ?_
            refine lv_imul hx hb dX9_read_183 ?_
            refine xl_i (y := nI (10 * (pl9 nu 0))) (pk_mul 10 (pl9 nu 0)) ?_
            refine lv_aload_n hx hb dX9_read_184 rfl (lv_at hl 4 rfl) ?_
            refine xg hF kf_X9_49 hK hP 4 rfl rfl dX9_read_185 ?_
            refine lv_bipush (v := 40) hx hb dX9_read_188 (by decide) ?_
            refine lv_iload_n hx hb dX9_read_190 rfl (lv_at hl 5 rfl) ?_
            refine lv_imul hx hb dX9_read_191 ?_
            refine xl_i (y := 120) (by decide) ?_
            refine lv_iload_n hx hb dX9_read_192 rfl (lv_at hl 2 rfl) ?_
            refine lv_iadd hx hb dX9_read_193 ?_
            refine xl_i (y := nI (120 + zq)) (nI_add 120 zq) ?_
            refine lv_iconst (v := 1) hx hb dX9_read_194 (by decide) ?_
            refine lv_isub hx hb dX9_read_195 ?_
            refine xl_i (y := nI (120 + zq - 1)) (pk_sub (show 1 ≤ 120 + zq by omega)) ?_
            refine va_lald hx hb hK hP 2 1 rfl rfl (vp_in_nI (show 120 + zq - 1 < 160 by omega) (by decide)) dX9_read_196 ?_
            refine xl_l (y := nb (120 + zq - 1)) (congrArg nb (nI_clamp (show 120 + zq - 1 < 2 ^ 31 by omega))) ?_
            refine xl_l (y := nu (zq - 1)) ((congrArg nb (by omega)).trans (hn (zq - 1) (by omega))) ?_
            have hy6 := (hr9.pv (by omega) (show zq - 1 < i by omega)).1
            refine lv_l2i (v := (nu (zq - 1)).toInt32) hx hb dX9_read_197 rfl ?_
            refine xl_i (y := nI (pl9 nu (zq - 1))) (by rw [(hr9.pv (by omega) (show (zq - 1) < i by omega)).2, lN_i]) ?_
            refine lv_iadd hx hb dX9_read_198 ?_
            refine xl_i (y := nI (10 * (pl9 nu 0) + (pl9 nu (zq - 1)))) (nI_add (10 * (pl9 nu 0)) (pl9 nu (zq - 1))) ?_
            refine va_iald hx hb hK hP 6 0 rfl rfl (vp_in_nI (show 10 * (pl9 nu 0) + (pl9 nu (zq - 1)) < 100 by omega) (by decide)) dX9_read_199 ?_
            refine xl_i (y := fa2_10 (10 * (pl9 nu 0) + (pl9 nu (zq - 1)))) (congrArg fa2_10 (nI_clamp (show 10 * (pl9 nu 0) + (pl9 nu (zq - 1)) < 2 ^ 31 by omega))) ?_
            refine lv_icmp_ne (tgt := 207) hx hb dX9_read_200 (by decide) (fun c_16 => ?_) (fun c_16 => ?_)
            · skip
              refine lv_iconst (v := 1) hx hb dX9_read_207 (by decide) ?_
              refine lv_iload_n hx hb dX9_read_208 rfl (lv_at hl 2 rfl) ?_
              refine lv_iadd hx hb dX9_read_209 ?_
              refine xl_i (y := nI (1 + zq)) (nI_add 1 zq) ?_
              exact W.iret (v := nI (1 + zq)) hx hb hr (fun t ht hW => ⟨⟨nI (1 + zq), (mL2_9, fa2_10, fe2_11, mq), rfl, rd_y (fun h => h_3 (hbt9.trans h)) (fw_Gd.nl (fin_0 hsG (by omega) i_12 c_13) (by omega)) ((congrArg nI (show 1 + zq = zq + 1 by omega)).trans (RDI.rn (show RDI fal fao nu P zq u8 from by rw [show zq = i by omega]; exact hr9) (by omega) (fin_0 hsG (by omega) i_12 c_13) (by omega) rfl rfl c_16)), by rw [ht]; exact hP.sub [4, 5, 6, 7, 0, 1, 2, 3] rfl, hD.sub [4, 5, 6, 7, 0, 1, 2, 3] (by decide +kernel) rfl⟩, hS.F ht⟩) hS.2.2 dX9_read_210 hlk
            · skip
              refine lv_iconst (v := 0) hx hb dX9_read_203 (by decide) ?_
              refine lv_goto (tgt := 210) hx hb dX9_read_204 (by decide) ?_
              exact W.iret (v := 0) hx hb hr (fun t ht hW => ⟨⟨0, (mL2_9, fa2_10, fe2_11, mq), rfl, rd_y (fun h => h_3 (hbt9.trans h)) (fw_Gd.nl (fin_0 hsG (by omega) i_12 c_13) (by omega)) (RDI.ry (show RDI fal fao nu P zq u8 from by rw [show zq = i by omega]; exact hr9) (by omega) (fin_0 hsG (by omega) i_12 c_13) (by omega) rfl rfl c_16), by rw [ht]; exact hP.sub [4, 5, 6, 7, 0, 1, 2, 3] rfl, hD.sub [4, 5, 6, 7, 0, 1, 2, 3] (by decide +kernel) rfl⟩, hS.F ht⟩) hS.2.2 dX9_read_210 hlk
          · skip
            have nc_15 : zq < 2 := xn_nle (a := 2) (b := zq) (by omega) (by omega) c_15
            refine lv_iconst (v := 1) hx hb dX9_read_163 (by decide) ?_
            exact W.iret (v := 1) hx hb hr (fun t ht hW => ⟨⟨1, (mL2_9, fa2_10, fe2_11, mq), rfl, rd_y (fun h => h_3 (hbt9.trans h)) (fw_Gd.nl (fin_0 hsG (by omega) i_12 c_13) (by omega)) (rd_small (by omega)), by rw [ht]; exact hP.sub [4, 5, 6, 7, 0, 1, 2, 3] rfl, hD.sub [4, 5, 6, 7, 0, 1, 2, 3] (by decide +kernel) rfl⟩, hS.F ht⟩) hS.2.2 dX9_read_164 hlk
        · skip
          have nc_14 : i < zq := xn_nle (a := zq) (b := i) (by omega) (by omega) c_14
          refine lv_aload_n hx hb dX9_read_53 rfl (lv_at hl 4 rfl) ?_
          refine xg hF kf_X9_49 hK hP 4 rfl rfl dX9_read_54 ?_
          refine lv_bipush (v := 40) hx hb dX9_read_57 (by decide) ?_
          refine lv_iload_n hx hb dX9_read_59 rfl (lv_at hl 5 rfl) ?_
          refine lv_imul hx hb dX9_read_60 ?_
          refine xl_i (y := 120) (by decide) ?_
          refine lv_iload hx hb dX9_read_61 (lv_at hl 0 rfl) ?_
          refine lv_iadd hx hb dX9_read_63 ?_
          refine xl_i (y := nI (120 + i)) (nI_add 120 i) ?_
          refine va_lald hx hb hK hP 2 1 rfl rfl (vp_in_nI (show 120 + i < 160 by omega) (by decide)) dX9_read_64 ?_
          refine xl_l (y := nb (120 + i)) (congrArg nb (nI_clamp (show 120 + i < 2 ^ 31 by omega))) ?_
          refine xl_l (y := nu i) (hn i (by omega)) ?_
          refine lv_lstore (lv' := [(6, .long (nu i)), (5, .int (nI (i))), (4, .int u8), (3, .int (nI (zq))), (2, .int 0), (0, .ref h0), (1, .int 3)]) hx hb dX9_read_65 hl (by decide) rfl (fun ls hl => ?_)
          refine lv_lload hx hb dX9_read_67 (lv_at hl 0 rfl) ?_
          refine lv_lconst (v := 0) hx hb dX9_read_69 (by decide) ?_
          refine xl_l (y := (0 : Int32).toInt64) (by decide) ?_
          refine lv_aload_n hx hb dX9_read_70 rfl (lv_at hl 5 rfl) ?_
          refine xg hF kf_X9_7 hK hP 4 rfl rfl dX9_read_71 ?_
          refine lv_iconst (v := 0) hx hb dX9_read_74 (by decide) ?_
          refine va_iald hx hb hK hP 5 0 rfl rfl (xin 0 449 (by decide) (by decide)) dX9_read_75 ?_
          refine xl_i (y := nI (P)) hs0 ?_
          refine lv_iconst (v := 1) hx hb dX9_read_76 (by decide) ?_
          refine lv_isub hx hb dX9_read_77 ?_
          refine lv_topi (fun x_17 ex_17 => ?_)
          refine lv_i2l (v := x_17.toInt64) hx hb dX9_read_78 rfl ?_
          refine xc_Sr hF (c_X9_inL l D cI cJ cZ cS ta sa sv H.size (nu i) 0 x_17 ) ks_X9_57 ⟨rfl, rfl, Nat.le_of_ble_eq_true rfl, Nat.le_of_ble_eq_true rfl⟩ ⟨Nat.le_of_ble_eq_true rfl, Nat.le_of_ble_eq_true rfl⟩ hK hN hZ hP hD hS hA [] rfl rfl rfl hl.1 rfl (Nat.le_of_ble_eq_true rfl) dX9_read_79 (fun r_18 hw_r_18 => ?_)
          rcases hw_r_18 with ⟨rfl, h_19, h_20⟩ | ⟨rfl, h_21⟩
          · skip
            refine lv_if_ne (tgt := 90) hx hb dX9_read_82 (by decide) (fun c_22 => ?_) (fun c_22 => absurd c_22 (by decide))
            obtain ⟨y9, hy9, ey9⟩ := x_inPL (by omega) ex_17 h_19 h_20
            refine lv_iload hx hb dX9_read_90 (lv_at hl 1 rfl) ?_
            refine lv_if_le (tgt := 152) hx hb dX9_read_92 (by decide) (fun c_23 => ?_) (fun c_23 => ?_)
            · skip
              have nc_23 : i ≤ 0 := xn_le (a := i) (b := 0) (by omega) (by omega) c_23
              refine lv_iinc (v := nI (i + 1)) (lv' := [(5, .int (nI (i + 1))), (6, .long (nu i)), (4, .int u8), (3, .int (nI (zq))), (2, .int 0), (0, .ref h0), (1, .int 3)]) hx hb dX9_read_152 hl (k := 1) rfl (nI_1 (i)) (by decide) rfl (fun ls hl => ?_)
              refine lv_goto (tgt := 47) hx hb dX9_read_155 (by decide) ?_
              exact ih_47 (i + 1) u8 _ _ _ (by omega) (by omega) (hr9.first (by omega) (by omega) ey9) (hP.sub [0, 1, 2, 3, 4, 5, 6, 7] rfl) (hD.sub [0, 1, 2, 3, 4, 5, 6, 7] (by decide +kernel) rfl) hS (lv_sub hl [0, 2, 3, 4, 5, 6] rfl)
            · skip
              have nc_23 : 0 < i := xn_nle (a := i) (b := 0) (by omega) (by omega) c_23
              refine lv_aload_n hx hb dX9_read_95 rfl (lv_at hl 5 rfl) ?_
              refine xg hF kf_X9_49 hK hP 4 rfl rfl dX9_read_96 ?_
              refine lv_bipush (v := 40) hx hb dX9_read_99 (by decide) ?_
              refine lv_iload_n hx hb dX9_read_101 rfl (lv_at hl 6 rfl) ?_
              refine lv_imul hx hb dX9_read_102 ?_
              refine xl_i (y := 120) (by decide) ?_
              refine lv_iload hx hb dX9_read_103 (lv_at hl 1 rfl) ?_
              refine lv_iadd hx hb dX9_read_105 ?_
              refine xl_i (y := nI (120 + i)) (nI_add 120 i) ?_
              refine lv_iconst (v := 1) hx hb dX9_read_106 (by decide) ?_
              refine lv_isub hx hb dX9_read_107 ?_
              refine xl_i (y := nI (120 + i - 1)) (pk_sub (show 1 ≤ 120 + i by omega)) ?_
              refine va_lald hx hb hK hP 2 1 rfl rfl (vp_in_nI (show 120 + i - 1 < 160 by omega) (by decide)) dX9_read_108 ?_
              refine xl_l (y := nb (120 + i - 1)) (congrArg nb (nI_clamp (show 120 + i - 1 < 2 ^ 31 by omega))) ?_
              refine xl_l (y := nu (i - 1)) ((congrArg nb (by omega)).trans (hn (i - 1) (by omega))) ?_
              have hy8 := (hr9.pv (by omega) (show i - 1 < i by omega)).1
              refine lv_l2i (v := (nu (i - 1)).toInt32) hx hb dX9_read_109 rfl ?_
              refine xl_i (y := nI (pl9 nu (i - 1))) (by rw [(hr9.pv (by omega) (show (i - 1) < i by omega)).2, lN_i]) ?_
              refine lv_istore (lv' := [(8, .int (nI (pl9 nu (i - 1)))), (6, .long (nu i)), (5, .int (nI (i))), (4, .int u8), (3, .int (nI (zq))), (2, .int 0), (0, .ref h0), (1, .int 3)]) hx hb dX9_read_110 hl (by decide) rfl (fun ls hl => ?_)
              refine lv_lload hx hb dX9_read_112 (lv_at hl 1 rfl) ?_
              refine lv_iload hx hb dX9_read_114 (lv_at hl 0 rfl) ?_
              refine lv_i2l (v := (nI (pl9 nu (i - 1))).toInt64) hx hb dX9_read_116 rfl ?_
              refine W.lcmp hx hb dX9_read_117 ?_
              refine lv_if_eq (tgt := 133) hx hb dX9_read_118 (by decide) (fun c_24 => ?_) (fun c_24 => ?_)
              · skip
                refine lv_iload hx hb dX9_read_133 (lv_at hl 2 rfl) ?_
                refine lv_iconst (v := 1) hx hb dX9_read_135 (by decide) ?_
                refine lv_iadd hx hb dX9_read_136 ?_
                refine xl_i (y := nI (i + 1)) (nI_add i 1) ?_
                exact W.iret (v := nI (i + 1)) hx hb hr (fun t ht hW => ⟨⟨nI (i + 1), (mL2_9, fa2_10, fe2_11, mq), rfl, rd_y (fun h => h_3 (hbt9.trans h)) (fw_Gd.nl (fin_0 hsG (by omega) i_12 c_13) (by omega)) (hr9.bad3 (by omega) (by omega) (by omega) (by omega) ey9 (hEI.2 y9 (by omega)) c_24), by rw [ht]; exact hP.sub [4, 5, 6, 7, 0, 1, 2, 3] rfl, hD.sub [4, 5, 6, 7, 0, 1, 2, 3] (by decide +kernel) rfl⟩, hS.F ht⟩) hS.2.2 dX9_read_137 hlk
              · skip
                refine lv_aload_n hx hb dX9_read_121 rfl (lv_at hl 6 rfl) ?_
                refine lv_iload hx hb dX9_read_122 (lv_at hl 0 rfl) ?_
                refine lv_lload hx hb dX9_read_124 (lv_at hl 1 rfl) ?_
                refine lv_l2i (v := (nu i).toInt32) hx hb dX9_read_126 rfl ?_
                refine xl_i (y := nI (y9)) (by rw [ey9, lN_i]) ?_
                refine xc_Vr hF (c_X9_isOpenF l D cI cJ cZ cS ta sa sv H.size h0 ys yk yo yt mk0 yfa yfe mL2_9 mS mM yro yhe ygr mF mC mY yta mz mf mt mv mw ywa ybi ysi ynu ymo ms P Rn Wn fae fal fau fao farn farp fak fawn fawp fat fas (pl9 nu (i - 1)) y9 (by omega) (by omega) hs0 hs1 hs2 hsS hsM hsp hsr hsw hsR hsG) kv_X9_97 ⟨rfl, rfl, Nat.le_of_ble_eq_true rfl, Nat.le_of_ble_eq_true rfl⟩ ⟨Nat.le_of_ble_eq_true rfl, Nat.le_of_ble_eq_true rfl⟩ hK hN hZ hP hD hS hA [4, 5] rfl rfl 0 rfl rfl rfl rfl hl.1 rfl (Nat.le_of_ble_eq_true rfl) dX9_read_127 (fun r_25 hw_r_25 => ?_)
                rcases hw_r_25 with ⟨rfl, h_26, h_27⟩ | ⟨rfl, h_28, h_29⟩
                · skip
                  refine lv_if_ne (tgt := 138) hx hb dX9_read_130 (by decide) (fun c_30 => ?_) (fun c_30 => absurd c_30 (by decide))
                  refine lv_iload hx hb dX9_read_138 (lv_at hl 3 rfl) ?_
                  refine lv_aload_n hx hb dX9_read_140 rfl (lv_at hl 6 rfl) ?_
                  refine lv_iload hx hb dX9_read_141 (lv_at hl 0 rfl) ?_
                  refine lv_lload hx hb dX9_read_143 (lv_at hl 1 rfl) ?_
                  refine lv_l2i (v := (nu i).toInt32) hx hb dX9_read_145 rfl ?_
                  refine xl_i (y := nI (y9)) (by rw [ey9, lN_i]) ?_
                  refine xc_Vr hF (c_X9_milesF l D cI cJ cZ cS ta sa sv H.size h0 ys yk yo yt mk0 yfa yfe mL2_9 mS mM yro yhe ygr mF mC mY yta mz mf mt mv mw ywa ybi ysi ynu ymo ms P Rn Wn fae fal fau fao farn farp fak fawn fawp fat fas (pl9 nu (i - 1)) y9 (by omega) (by omega) hs0 hs1 hs2 hsS hsM hsp hsr hsw hsR hsG) kv_X9_100 ⟨rfl, rfl, Nat.le_of_ble_eq_true rfl, Nat.le_of_ble_eq_true rfl⟩ ⟨Nat.le_of_ble_eq_true rfl, Nat.le_of_ble_eq_true rfl⟩ hK hN hZ hP hD hS hA [4, 5] rfl rfl 0 rfl rfl rfl rfl hl.1 rfl (Nat.le_of_ble_eq_true rfl) dX9_read_146 (fun r_31 hw_r_31 => ?_)
                  subst hw_r_31
                  refine lv_iadd hx hb dX9_read_149 ?_
                  refine lv_istore (lv' := [(4, .int (u8 + (fal (10 * (pl9 nu (i - 1)) + y9)))), (8, .int (nI (pl9 nu (i - 1)))), (6, .long (nu i)), (5, .int (nI (i))), (3, .int (nI (zq))), (2, .int 0), (0, .ref h0), (1, .int 3)]) hx hb dX9_read_150 hl (by decide) rfl (fun ls hl => ?_)
                  refine lv_iinc (v := nI (i + 1)) (lv' := [(5, .int (nI (i + 1))), (4, .int (u8 + (fal (10 * (pl9 nu (i - 1)) + y9)))), (8, .int (nI (pl9 nu (i - 1)))), (6, .long (nu i)), (3, .int (nI (zq))), (2, .int 0), (0, .ref h0), (1, .int 3)]) hx hb dX9_read_152 hl (k := 3) rfl (nI_1 (i)) (by decide) rfl (fun ls hl => ?_)
                  refine lv_goto (tgt := 47) hx hb dX9_read_155 (by decide) ?_
                  exact ih_47 (i + 1) (u8 + (fal (10 * (pl9 nu (i - 1)) + y9))) _ _ _ (by omega) (by omega) (hr9.more (by omega) (by omega) (by omega) ey9 rfl h_27) (hP.sub [0, 1, 2, 3, 4, 5, 6, 7] rfl) (hD.sub [0, 1, 2, 3, 4, 5, 6, 7] (by decide +kernel) rfl) hS (lv_sub hl [0, 1, 4, 5, 6, 7] rfl)
                · skip
                  refine lv_if_ne (tgt := 138) hx hb dX9_read_130 (by decide) (fun c_32 => absurd (by decide) c_32) (fun c_32 => ?_)
                  refine lv_iload hx hb dX9_read_133 (lv_at hl 2 rfl) ?_
                  refine lv_iconst (v := 1) hx hb dX9_read_135 (by decide) ?_
                  refine lv_iadd hx hb dX9_read_136 ?_
                  refine xl_i (y := nI (i + 1)) (nI_add i 1) ?_
                  exact W.iret (v := nI (i + 1)) hx hb hr (fun t ht hW => ⟨⟨nI (i + 1), (mL2_9, fa2_10, fe2_11, mq), rfl, rd_y (fun h => h_3 (hbt9.trans h)) (fw_Gd.nl (fin_0 hsG (by omega) i_12 c_13) (by omega)) (hr9.bad2 (by omega) (by omega) (by omega) (by omega) ey9 rfl h_29), by rw [ht]; exact hP.sub [4, 5, 6, 7, 0, 1, 2, 3] rfl, hD.sub [4, 5, 6, 7, 0, 1, 2, 3] (by decide +kernel) rfl⟩, hS.F ht⟩) hS.2.2 dX9_read_137 hlk
          · skip
            refine lv_if_ne (tgt := 90) hx hb dX9_read_82 (by decide) (fun c_33 => absurd (by decide) c_33) (fun c_33 => ?_)
            refine lv_iload hx hb dX9_read_85 (lv_at hl 1 rfl) ?_
            refine lv_iconst (v := 1) hx hb dX9_read_87 (by decide) ?_
            refine lv_iadd hx hb dX9_read_88 ?_
            refine xl_i (y := nI (i + 1)) (nI_add i 1) ?_
            exact W.iret (v := nI (i + 1)) hx hb hr (fun t ht hW => ⟨⟨nI (i + 1), (mL2_9, fa2_10, fe2_11, mq), rfl, rd_y (fun h => h_3 (hbt9.trans h)) (fw_Gd.nl (fin_0 hsG (by omega) i_12 c_13) (by omega)) (hr9.bad1 (by omega) (xnL3 (by omega) ex_17 h_21)), by rw [ht]; exact hP.sub [4, 5, 6, 7, 0, 1, 2, 3] rfl, hD.sub [4, 5, 6, 7, 0, 1, 2, 3] (by decide +kernel) rfl⟩, hS.F ht⟩) hS.2.2 dX9_read_89 hlk
    · skip
      refine lv_aload_n hx hb dX9_read_27 rfl (lv_at hl 1 rfl) ?_
      refine lv_ldc (v := (-1000000005)) hx hb hown (hu _ uw716) dX9_read_28 ?_
      refine xc_Vi (wr := [(ybi, .inl (cI, 4, .inl bi)), (ysi, .inl (cI, 4, .inl sq)), (ynu, .inl (cJ, 160, .inr (.inl nb))), (ys, .inl (cI, 449, .inl ms)), (yfa, .inl (cI, 100, .inl fa2_10)), (yfe, .inl (cI, 100, .inl fe2_11))]) hF (c_X9_finds_T l D cI cJ cZ cS ta sa sv H.size h0 ys yk yo yt mk0 yfa yfe mL2_9 mS mM yro yhe ygr mF mC mY yta mz mf mt mv mw ywa ybi ysi ynu ymo mq ) kv_X9_70 ⟨rfl, rfl, Nat.le_of_ble_eq_true rfl, Nat.le_of_ble_eq_true rfl⟩ ⟨Nat.le_of_ble_eq_true rfl, Nat.le_of_ble_eq_true rfl⟩ hK hN hZ hP hD hS hA [4, 3] [0, 1, 2, 5, 6, 7] rfl rfl rfl (by decide +kernel) (by decide +kernel) 0 rfl rfl rfl rfl hl.1 rfl (Nat.le_of_ble_eq_true rfl) dX9_read_30 (fun r_34 u_r_34 H locs hw_r_34 hP hD hS => ?_)
      obtain ⟨mq2_35, rfl⟩ : ∃ z, z = u_r_34 := ⟨_, rfl⟩
      try dsimp only at hw_r_34
      have hP : va_P D vwCl [(ybi, .inl (cI, 4, .inl bi)), (ysi, .inl (cI, 4, .inl sq)), (ynu, .inl (cJ, 160, .inr (.inl nb))), (ys, .inl (cI, 449, .inl ms)), (yfa, .inl (cI, 100, .inl fa2_10)), (yfe, .inl (cI, 100, .inl fe2_11)), (h0, .inr (9, [.ref ys, .ref yk, .ref yo, .ref yt, .int mk0, .ref yfa, .ref yfe, .int mL2_9, .int mS, .int mM, .ref yro, .ref yhe, .ref ygr, .int mF, .int mC, .int mY, .ref yta, .int (nI (mz)), .int (nI (mf)), .int (nI (mt)), .int mv, .int mw, .ref ywa, .ref ybi, .ref ysi, .ref ynu, .ref ymo])), (yt, .inl (cI, 7, .inl mq2_35))] H := hP
      have hD : va_D A [(ybi, .inl (cI, 4, .inl bi)), (ysi, .inl (cI, 4, .inl sq)), (ynu, .inl (cJ, 160, .inr (.inl nb))), (ys, .inl (cI, 449, .inl ms)), (yfa, .inl (cI, 100, .inl fa2_10)), (yfe, .inl (cI, 100, .inl fe2_11)), (h0, .inr (9, [.ref ys, .ref yk, .ref yo, .ref yt, .int mk0, .ref yfa, .ref yfe, .int mL2_9, .int mS, .int mM, .ref yro, .ref yhe, .ref ygr, .int mF, .int mC, .int mY, .ref yta, .int (nI (mz)), .int (nI (mf)), .int (nI (mt)), .int mv, .int mw, .ref ywa, .ref ybi, .ref ysi, .ref ynu, .ref ymo])), (yt, .inl (cI, 7, .inl mq2_35))] := hD
      subst hw_r_34
      exact W.iret (v := (-1000000005)) hx hb hr (fun t ht hW => ⟨⟨(-1000000005), (mL2_9, fa2_10, fe2_11, mq2_35), rfl, rd_lp (fun h => h_3 (hbt9.trans h)) (fin_1 hsG (by omega) i_12 c_13), by rw [ht]; exact hP.sub [6, 3, 4, 5, 0, 1, 2, 7] rfl, hD.sub [6, 3, 4, 5, 0, 1, 2, 7] (by decide +kernel) rfl⟩, hS.F ht⟩) hS.2.2 dX9_read_33 hlk
