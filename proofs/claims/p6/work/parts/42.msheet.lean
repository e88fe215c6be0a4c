def LRX9_narrowed_2 : List UInt8 := []
def LBX9_narrowed_1 : List UInt8 := [0xa0, 0x00, 0x0a, 0x1f, 0x88, 0x93, 0x85, 0xa7, 0x00, 0x04, 0x1f, 0xad]
def LRX9_narrowed_1 : List UInt8 := LBX9_narrowed_1 ++ LRX9_narrowed_2
def LBX9_narrowed_0 : List UInt8 := [0x1a, 0x10, 0x08, 0xa0, 0x00, 0x0a, 0x1f, 0x88, 0x91, 0x85, 0xa7, 0x00, 0x11, 0x1a, 0x10, 0x10]
def LRX9_narrowed_0 : List UInt8 := LBX9_narrowed_0 ++ LRX9_narrowed_1
set_option maxRecDepth 100000 in
theorem LBX9_narrowed_eq : cX9_narrowed.data.toList = LRX9_narrowed_0 := by decide +kernel
theorem LBX9_narrowedr_0 (k : Nat) : cX9_narrowed.data.toList[0 + k]? = LRX9_narrowed_0[k]? := by rw [LBX9_narrowed_eq, Nat.zero_add]
theorem LBX9_narrowedr_1 (k : Nat) : cX9_narrowed.data.toList[16 + k]? = LRX9_narrowed_1[k]? := by
  have h := LBX9_narrowedr_0 (16 + k)
  rw [show 0 + (16 + k) = 16 + k by omega] at h
  rw [h]
  exact (List.getElem?_append_right (l₁ := LBX9_narrowed_0) (l₂ := LRX9_narrowed_1) (show 16 ≤ 16 + k by omega)).trans (congrArg (fun i => LRX9_narrowed_1[i]?) (show 16 + k - 16 = k by omega))
theorem dX9_narrowed_0 : decode cX9_narrowed 0 = .ok (.iload_n 0, 1) := dk_26_ (show cX9_narrowed.data.toList[0]? = some 0x1a from (LBX9_narrowedr_0 0).trans (by decide +kernel))
theorem dX9_narrowed_1 : decode cX9_narrowed 1 = .ok (.bipush 8, 2) := dk_16_ (show cX9_narrowed.data.toList[1]? = some 0x10 from (LBX9_narrowedr_0 1).trans (by decide +kernel)) (show cX9_narrowed.data.toList[2]? = some 0x08 from (LBX9_narrowedr_0 2).trans (by decide +kernel)) (by decide)
theorem dX9_narrowed_3 : decode cX9_narrowed 3 = .ok (.if_icmp .ne 10, 3) := dk_160_ (show cX9_narrowed.data.toList[3]? = some 0xa0 from (LBX9_narrowedr_0 3).trans (by decide +kernel)) (show cX9_narrowed.data.toList[4]? = some 0x00 from (LBX9_narrowedr_0 4).trans (by decide +kernel)) (show cX9_narrowed.data.toList[5]? = some 0x0a from (LBX9_narrowedr_0 5).trans (by decide +kernel)) (by decide)
theorem dX9_narrowed_6 : decode cX9_narrowed 6 = .ok (.lload_n 1, 1) := dk_31_ (show cX9_narrowed.data.toList[6]? = some 0x1f from (LBX9_narrowedr_0 6).trans (by decide +kernel))
theorem dX9_narrowed_7 : decode cX9_narrowed 7 = .ok (.l2i, 1) := dk_136_ (show cX9_narrowed.data.toList[7]? = some 0x88 from (LBX9_narrowedr_0 7).trans (by decide +kernel))
theorem dX9_narrowed_8 : decode cX9_narrowed 8 = .ok (.i2b, 1) := dk_145_ (show cX9_narrowed.data.toList[8]? = some 0x91 from (LBX9_narrowedr_0 8).trans (by decide +kernel))
theorem dX9_narrowed_9 : decode cX9_narrowed 9 = .ok (.i2l, 1) := dk_133_ (show cX9_narrowed.data.toList[9]? = some 0x85 from (LBX9_narrowedr_0 9).trans (by decide +kernel))
theorem dX9_narrowed_10 : decode cX9_narrowed 10 = .ok (.goto 17, 3) := dk_167_ (show cX9_narrowed.data.toList[10]? = some 0xa7 from (LBX9_narrowedr_0 10).trans (by decide +kernel)) (show cX9_narrowed.data.toList[11]? = some 0x00 from (LBX9_narrowedr_0 11).trans (by decide +kernel)) (show cX9_narrowed.data.toList[12]? = some 0x11 from (LBX9_narrowedr_0 12).trans (by decide +kernel)) (by decide)
theorem dX9_narrowed_13 : decode cX9_narrowed 13 = .ok (.iload_n 0, 1) := dk_26_ (show cX9_narrowed.data.toList[13]? = some 0x1a from (LBX9_narrowedr_0 13).trans (by decide +kernel))
theorem dX9_narrowed_14 : decode cX9_narrowed 14 = .ok (.bipush 16, 2) := dk_16_ (show cX9_narrowed.data.toList[14]? = some 0x10 from (LBX9_narrowedr_0 14).trans (by decide +kernel)) (show cX9_narrowed.data.toList[15]? = some 0x10 from (LBX9_narrowedr_0 15).trans (by decide +kernel)) (by decide)
theorem dX9_narrowed_16 : decode cX9_narrowed 16 = .ok (.if_icmp .ne 10, 3) := dk_160_ (show cX9_narrowed.data.toList[16]? = some 0xa0 from (LBX9_narrowedr_1 0).trans (by decide +kernel)) (show cX9_narrowed.data.toList[17]? = some 0x00 from (LBX9_narrowedr_1 1).trans (by decide +kernel)) (show cX9_narrowed.data.toList[18]? = some 0x0a from (LBX9_narrowedr_1 2).trans (by decide +kernel)) (by decide)
theorem dX9_narrowed_19 : decode cX9_narrowed 19 = .ok (.lload_n 1, 1) := dk_31_ (show cX9_narrowed.data.toList[19]? = some 0x1f from (LBX9_narrowedr_1 3).trans (by decide +kernel))
theorem dX9_narrowed_20 : decode cX9_narrowed 20 = .ok (.l2i, 1) := dk_136_ (show cX9_narrowed.data.toList[20]? = some 0x88 from (LBX9_narrowedr_1 4).trans (by decide +kernel))
theorem dX9_narrowed_21 : decode cX9_narrowed 21 = .ok (.i2s, 1) := dk_147_ (show cX9_narrowed.data.toList[21]? = some 0x93 from (LBX9_narrowedr_1 5).trans (by decide +kernel))
theorem dX9_narrowed_22 : decode cX9_narrowed 22 = .ok (.i2l, 1) := dk_133_ (show cX9_narrowed.data.toList[22]? = some 0x85 from (LBX9_narrowedr_1 6).trans (by decide +kernel))
theorem dX9_narrowed_23 : decode cX9_narrowed 23 = .ok (.goto 4, 3) := dk_167_ (show cX9_narrowed.data.toList[23]? = some 0xa7 from (LBX9_narrowedr_1 7).trans (by decide +kernel)) (show cX9_narrowed.data.toList[24]? = some 0x00 from (LBX9_narrowedr_1 8).trans (by decide +kernel)) (show cX9_narrowed.data.toList[25]? = some 0x04 from (LBX9_narrowedr_1 9).trans (by decide +kernel)) (by decide)
theorem dX9_narrowed_26 : decode cX9_narrowed 26 = .ok (.lload_n 1, 1) := dk_31_ (show cX9_narrowed.data.toList[26]? = some 0x1f from (LBX9_narrowedr_1 10).trans (by decide +kernel))
theorem dX9_narrowed_27 : decode cX9_narrowed 27 = .ok (.lreturn, 1) := dk_173_ (show cX9_narrowed.data.toList[27]? = some 0xad from (LBX9_narrowedr_1 11).trans (by decide +kernel))
def LRX9_wrong_2 : List UInt8 := []
def LBX9_wrong_1 : List UInt8 := [0x1b, 0x2e, 0x9a, 0x00, 0x09, 0x13, 0x01, 0x35, 0xa7, 0x00, 0x04, 0x03, 0xac]
def LRX9_wrong_1 : List UInt8 := LBX9_wrong_1 ++ LRX9_wrong_2
def LBX9_wrong_0 : List UInt8 := [0x1b, 0xb8, 0x01, 0x31, 0x9a, 0x00, 0x08, 0x12, 0x38, 0xa7, 0x00, 0x13, 0x2a, 0xb4, 0x00, 0x2b]
def LRX9_wrong_0 : List UInt8 := LBX9_wrong_0 ++ LRX9_wrong_1
set_option maxRecDepth 100000 in
theorem LBX9_wrong_eq : cX9_wrong.data.toList = LRX9_wrong_0 := by decide +kernel
theorem LBX9_wrongr_0 (k : Nat) : cX9_wrong.data.toList[0 + k]? = LRX9_wrong_0[k]? := by rw [LBX9_wrong_eq, Nat.zero_add]
theorem LBX9_wrongr_1 (k : Nat) : cX9_wrong.data.toList[16 + k]? = LRX9_wrong_1[k]? := by
  have h := LBX9_wrongr_0 (16 + k)
  rw [show 0 + (16 + k) = 16 + k by omega] at h
  rw [h]
  exact (List.getElem?_append_right (l₁ := LBX9_wrong_0) (l₂ := LRX9_wrong_1) (show 16 ≤ 16 + k by omega)).trans (congrArg (fun i => LRX9_wrong_1[i]?) (show 16 + k - 16 = k by omega))
theorem dX9_wrong_0 : decode cX9_wrong 0 = .ok (.iload_n 1, 1) := dk_27_ (show cX9_wrong.data.toList[0]? = some 0x1b from (LBX9_wrongr_0 0).trans (by decide +kernel))
theorem dX9_wrong_1 : decode cX9_wrong 1 = .ok (.invokestatic 305, 3) := dk_184_ (show cX9_wrong.data.toList[1]? = some 0xb8 from (LBX9_wrongr_0 1).trans (by decide +kernel)) (show cX9_wrong.data.toList[2]? = some 0x01 from (LBX9_wrongr_0 2).trans (by decide +kernel)) (show cX9_wrong.data.toList[3]? = some 0x31 from (LBX9_wrongr_0 3).trans (by decide +kernel)) (by decide)
theorem dX9_wrong_4 : decode cX9_wrong 4 = .ok (.ifCond .ne 8, 3) := dk_154_ (show cX9_wrong.data.toList[4]? = some 0x9a from (LBX9_wrongr_0 4).trans (by decide +kernel)) (show cX9_wrong.data.toList[5]? = some 0x00 from (LBX9_wrongr_0 5).trans (by decide +kernel)) (show cX9_wrong.data.toList[6]? = some 0x08 from (LBX9_wrongr_0 6).trans (by decide +kernel)) (by decide)
theorem dX9_wrong_7 : decode cX9_wrong 7 = .ok (.ldc 56, 2) := dk_18_ (show cX9_wrong.data.toList[7]? = some 0x12 from (LBX9_wrongr_0 7).trans (by decide +kernel)) (show cX9_wrong.data.toList[8]? = some 0x38 from (LBX9_wrongr_0 8).trans (by decide +kernel)) (by decide)
theorem dX9_wrong_9 : decode cX9_wrong 9 = .ok (.goto 19, 3) := dk_167_ (show cX9_wrong.data.toList[9]? = some 0xa7 from (LBX9_wrongr_0 9).trans (by decide +kernel)) (show cX9_wrong.data.toList[10]? = some 0x00 from (LBX9_wrongr_0 10).trans (by decide +kernel)) (show cX9_wrong.data.toList[11]? = some 0x13 from (LBX9_wrongr_0 11).trans (by decide +kernel)) (by decide)
theorem dX9_wrong_12 : decode cX9_wrong 12 = .ok (.aload_n 0, 1) := dk_42_ (show cX9_wrong.data.toList[12]? = some 0x2a from (LBX9_wrongr_0 12).trans (by decide +kernel))
theorem dX9_wrong_13 : decode cX9_wrong 13 = .ok (.getfield 43, 3) := dk_180_ (show cX9_wrong.data.toList[13]? = some 0xb4 from (LBX9_wrongr_0 13).trans (by decide +kernel)) (show cX9_wrong.data.toList[14]? = some 0x00 from (LBX9_wrongr_0 14).trans (by decide +kernel)) (show cX9_wrong.data.toList[15]? = some 0x2b from (LBX9_wrongr_0 15).trans (by decide +kernel)) (by decide)
theorem dX9_wrong_16 : decode cX9_wrong 16 = .ok (.iload_n 1, 1) := dk_27_ (show cX9_wrong.data.toList[16]? = some 0x1b from (LBX9_wrongr_1 0).trans (by decide +kernel))
theorem dX9_wrong_17 : decode cX9_wrong 17 = .ok (.iaload, 1) := dk_46_ (show cX9_wrong.data.toList[17]? = some 0x2e from (LBX9_wrongr_1 1).trans (by decide +kernel))
theorem dX9_wrong_18 : decode cX9_wrong 18 = .ok (.ifCond .ne 9, 3) := dk_154_ (show cX9_wrong.data.toList[18]? = some 0x9a from (LBX9_wrongr_1 2).trans (by decide +kernel)) (show cX9_wrong.data.toList[19]? = some 0x00 from (LBX9_wrongr_1 3).trans (by decide +kernel)) (show cX9_wrong.data.toList[20]? = some 0x09 from (LBX9_wrongr_1 4).trans (by decide +kernel)) (by decide)
theorem dX9_wrong_21 : decode cX9_wrong 21 = .ok (.ldc_w 309, 3) := dk_19_ (show cX9_wrong.data.toList[21]? = some 0x13 from (LBX9_wrongr_1 5).trans (by decide +kernel)) (show cX9_wrong.data.toList[22]? = some 0x01 from (LBX9_wrongr_1 6).trans (by decide +kernel)) (show cX9_wrong.data.toList[23]? = some 0x35 from (LBX9_wrongr_1 7).trans (by decide +kernel)) (by decide)
theorem dX9_wrong_24 : decode cX9_wrong 24 = .ok (.goto 4, 3) := dk_167_ (show cX9_wrong.data.toList[24]? = some 0xa7 from (LBX9_wrongr_1 8).trans (by decide +kernel)) (show cX9_wrong.data.toList[25]? = some 0x00 from (LBX9_wrongr_1 9).trans (by decide +kernel)) (show cX9_wrong.data.toList[26]? = some 0x04 from (LBX9_wrongr_1 10).trans (by decide +kernel)) (by decide)
theorem dX9_wrong_27 : decode cX9_wrong 27 = .ok (.iconst 0, 1) := dk_3_ (show cX9_wrong.data.toList[27]? = some 0x03 from (LBX9_wrongr_1 11).trans (by decide +kernel))
theorem dX9_wrong_28 : decode cX9_wrong 28 = .ok (.ireturn, 1) := dk_172_ (show cX9_wrong.data.toList[28]? = some 0xac from (LBX9_wrongr_1 12).trans (by decide +kernel))
def LRX9_read_14 : List UInt8 := []
def LBX9_read_13 : List UInt8 := [0x1d, 0x60, 0xac]
def LRX9_read_13 : List UInt8 := LBX9_read_13 ++ LRX9_read_14
def LBX9_read_12 : List UInt8 := [0x1d, 0x60, 0x04, 0x64, 0x2f, 0x88, 0x60, 0x2e, 0xa0, 0x00, 0x07, 0x03, 0xa7, 0x00, 0x06, 0x04]
def LRX9_read_12 : List UInt8 := LBX9_read_12 ++ LRX9_read_13
def LBX9_read_11 : List UInt8 := [0x31, 0x10, 0x28, 0x1b, 0x68, 0x2f, 0x88, 0x68, 0x2a, 0xb4, 0x00, 0x31, 0x10, 0x28, 0x1b, 0x68]
def LRX9_read_11 : List UInt8 := LBX9_read_11 ++ LRX9_read_12
def LBX9_read_10 : List UInt8 := [0xa2, 0x00, 0x05, 0x04, 0xac, 0x15, 0x04, 0x2a, 0xb4, 0x00, 0x16, 0x10, 0x0a, 0x2a, 0xb4, 0x00]
def LRX9_read_10 : List UInt8 := LBX9_read_10 ++ LRX9_read_11
def LBX9_read_9 : List UInt8 := [0x06, 0x88, 0xb6, 0x00, 0x64, 0x60, 0x36, 0x04, 0x84, 0x05, 0x01, 0xa7, 0xff, 0x94, 0x1d, 0x05]
def LRX9_read_9 : List UInt8 := LBX9_read_9 ++ LRX9_read_10
def LBX9_read_8 : List UInt8 := [0x00, 0x61, 0x9a, 0x00, 0x08, 0x15, 0x05, 0x04, 0x60, 0xac, 0x15, 0x04, 0x2a, 0x15, 0x08, 0x16]
def LRX9_read_8 : List UInt8 := LBX9_read_8 ++ LRX9_read_9
def LBX9_read_7 : List UInt8 := [0x16, 0x06, 0x15, 0x08, 0x85, 0x94, 0x99, 0x00, 0x0f, 0x2a, 0x15, 0x08, 0x16, 0x06, 0x88, 0xb6]
def LRX9_read_7 : List UInt8 := LBX9_read_7 ++ LRX9_read_8
def LBX9_read_6 : List UInt8 := [0xb4, 0x00, 0x31, 0x10, 0x28, 0x1b, 0x68, 0x15, 0x05, 0x60, 0x04, 0x64, 0x2f, 0x88, 0x36, 0x08]
def LRX9_read_6 : List UInt8 := LBX9_read_6 ++ LRX9_read_7
def LBX9_read_5 : List UInt8 := [0x00, 0x39, 0x9a, 0x00, 0x08, 0x15, 0x05, 0x04, 0x60, 0xac, 0x15, 0x05, 0x9e, 0x00, 0x3c, 0x2a]
def LRX9_read_5 : List UInt8 := LBX9_read_5 ++ LRX9_read_6
def LBX9_read_4 : List UInt8 := [0x2f, 0x37, 0x06, 0x16, 0x06, 0x09, 0x2a, 0xb4, 0x00, 0x07, 0x03, 0x2e, 0x04, 0x64, 0x85, 0xb8]
def LRX9_read_4 : List UInt8 := LBX9_read_4 ++ LRX9_read_5
def LBX9_read_3 : List UInt8 := [0x05, 0x1d, 0xa2, 0x00, 0x6c, 0x2a, 0xb4, 0x00, 0x31, 0x10, 0x28, 0x1b, 0x68, 0x15, 0x05, 0x60]
def LRX9_read_3 : List UInt8 := LBX9_read_3 ++ LRX9_read_4
def LBX9_read_2 : List UInt8 := [0x46, 0xac, 0x2a, 0xb4, 0x00, 0x2e, 0x1b, 0x2e, 0x3e, 0x03, 0x36, 0x04, 0x03, 0x36, 0x05, 0x15]
def LRX9_read_2 : List UInt8 := LBX9_read_2 ++ LRX9_read_3
def LBX9_read_1 : List UInt8 := [0x2a, 0xb6, 0x00, 0x71, 0x2a, 0xb4, 0x00, 0x6d, 0x99, 0x00, 0x0a, 0x2a, 0x12, 0x74, 0xb6, 0x00]
def LRX9_read_1 : List UInt8 := LBX9_read_1 ++ LRX9_read_2
def LBX9_read_0 : List UInt8 := [0x2a, 0x1b, 0xb6, 0x01, 0x36, 0x3d, 0x1c, 0x99, 0x00, 0x09, 0x2a, 0x1c, 0xb6, 0x00, 0x46, 0xac]
def LRX9_read_0 : List UInt8 := LBX9_read_0 ++ LRX9_read_1
set_option maxRecDepth 100000 in
theorem LBX9_read_eq : cX9_read.data.toList = LRX9_read_0 := by decide +kernel
theorem LBX9_readr_0 (k : Nat) : cX9_read.data.toList[0 + k]? = LRX9_read_0[k]? := by rw [LBX9_read_eq, Nat.zero_add]
theorem LBX9_readr_1 (k : Nat) : cX9_read.data.toList[16 + k]? = LRX9_read_1[k]? := by
  have h := LBX9_readr_0 (16 + k)
  rw [show 0 + (16 + k) = 16 + k by omega] at h
  rw [h]
  exact (List.getElem?_append_right (l₁ := LBX9_read_0) (l₂ := LRX9_read_1) (show 16 ≤ 16 + k by omega)).trans (congrArg (fun i => LRX9_read_1[i]?) (show 16 + k - 16 = k by omega))
theorem LBX9_readr_2 (k : Nat) : cX9_read.data.toList[32 + k]? = LRX9_read_2[k]? := by
  have h := LBX9_readr_1 (16 + k)
  rw [show 16 + (16 + k) = 32 + k by omega] at h
  rw [h]
  exact (List.getElem?_append_right (l₁ := LBX9_read_1) (l₂ := LRX9_read_2) (show 16 ≤ 16 + k by omega)).trans (congrArg (fun i => LRX9_read_2[i]?) (show 16 + k - 16 = k by omega))
theorem LBX9_readr_3 (k : Nat) : cX9_read.data.toList[48 + k]? = LRX9_read_3[k]? := by
  have h := LBX9_readr_2 (16 + k)
  rw [show 32 + (16 + k) = 48 + k by omega] at h
  rw [h]
  exact (List.getElem?_append_right (l₁ := LBX9_read_2) (l₂ := LRX9_read_3) (show 16 ≤ 16 + k by omega)).trans (congrArg (fun i => LRX9_read_3[i]?) (show 16 + k - 16 = k by omega))
theorem LBX9_readr_4 (k : Nat) : cX9_read.data.toList[64 + k]? = LRX9_read_4[k]? := by
  have h := LBX9_readr_3 (16 + k)
  rw [show 48 + (16 + k) = 64 + k by omega] at h
  rw [h]
  exact (List.getElem?_append_right (l₁ := LBX9_read_3) (l₂ := LRX9_read_4) (show 16 ≤ 16 + k by omega)).trans (congrArg (fun i => LRX9_read_4[i]?) (show 16 + k - 16 = k by omega))
theorem LBX9_readr_5 (k : Nat) : cX9_read.data.toList[80 + k]? = LRX9_read_5[k]? := by
  have h := LBX9_readr_4 (16 + k)
  rw [show 64 + (16 + k) = 80 + k by omega] at h
  rw [h]
  exact (List.getElem?_append_right (l₁ := LBX9_read_4) (l₂ := LRX9_read_5) (show 16 ≤ 16 + k by omega)).trans (congrArg (fun i => LRX9_read_5[i]?) (show 16 + k - 16 = k by omega))
theorem LBX9_readr_6 (k : Nat) : cX9_read.data.toList[96 + k]? = LRX9_read_6[k]? := by
  have h := LBX9_readr_5 (16 + k)
  rw [show 80 + (16 + k) = 96 + k by omega] at h
  rw [h]
  exact (List.getElem?_append_right (l₁ := LBX9_read_5) (l₂ := LRX9_read_6) (show 16 ≤ 16 + k by omega)).trans (congrArg (fun i => LRX9_read_6[i]?) (show 16 + k - 16 = k by omega))
theorem LBX9_readr_7 (k : Nat) : cX9_read.data.toList[112 + k]? = LRX9_read_7[k]? := by
  have h := LBX9_readr_6 (16 + k)
  rw [show 96 + (16 + k) = 112 + k by omega] at h
  rw [h]
  exact (List.getElem?_append_right (l₁ := LBX9_read_6) (l₂ := LRX9_read_7) (show 16 ≤ 16 + k by omega)).trans (congrArg (fun i => LRX9_read_7[i]?) (show 16 + k - 16 = k by omega))
theorem LBX9_readr_8 (k : Nat) : cX9_read.data.toList[128 + k]? = LRX9_read_8[k]? := by
  have h := LBX9_readr_7 (16 + k)
  rw [show 112 + (16 + k) = 128 + k by omega] at h
  rw [h]
  exact (List.getElem?_append_right (l₁ := LBX9_read_7) (l₂ := LRX9_read_8) (show 16 ≤ 16 + k by omega)).trans (congrArg (fun i => LRX9_read_8[i]?) (show 16 + k - 16 = k by omega))
theorem LBX9_readr_9 (k : Nat) : cX9_read.data.toList[144 + k]? = LRX9_read_9[k]? := by
  have h := LBX9_readr_8 (16 + k)
  rw [show 128 + (16 + k) = 144 + k by omega] at h
  rw [h]
  exact (List.getElem?_append_right (l₁ := LBX9_read_8) (l₂ := LRX9_read_9) (show 16 ≤ 16 + k by omega)).trans (congrArg (fun i => LRX9_read_9[i]?) (show 16 + k - 16 = k by omega))
theorem LBX9_readr_10 (k : Nat) : cX9_read.data.toList[160 + k]? = LRX9_read_10[k]? := by
  have h := LBX9_readr_9 (16 + k)
  rw [show 144 + (16 + k) = 160 + k by omega] at h
  rw [h]
  exact (List.getElem?_append_right (l₁ := LBX9_read_9) (l₂ := LRX9_read_10) (show 16 ≤ 16 + k by omega)).trans (congrArg (fun i => LRX9_read_10[i]?) (show 16 + k - 16 = k by omega))
theorem LBX9_readr_11 (k : Nat) : cX9_read.data.toList[176 + k]? = LRX9_read_11[k]? := by
  have h := LBX9_readr_10 (16 + k)
  rw [show 160 + (16 + k) = 176 + k by omega] at h
  rw [h]
  exact (List.getElem?_append_right (l₁ := LBX9_read_10) (l₂ := LRX9_read_11) (show 16 ≤ 16 + k by omega)).trans (congrArg (fun i => LRX9_read_11[i]?) (show 16 + k - 16 = k by omega))
theorem LBX9_readr_12 (k : Nat) : cX9_read.data.toList[192 + k]? = LRX9_read_12[k]? := by
  have h := LBX9_readr_11 (16 + k)
  rw [show 176 + (16 + k) = 192 + k by omega] at h
  rw [h]
  exact (List.getElem?_append_right (l₁ := LBX9_read_11) (l₂ := LRX9_read_12) (show 16 ≤ 16 + k by omega)).trans (congrArg (fun i => LRX9_read_12[i]?) (show 16 + k - 16 = k by omega))
theorem LBX9_readr_13 (k : Nat) : cX9_read.data.toList[208 + k]? = LRX9_read_13[k]? := by
  have h := LBX9_readr_12 (16 + k)
  rw [show 192 + (16 + k) = 208 + k by omega] at h
  rw [h]
  exact (List.getElem?_append_right (l₁ := LBX9_read_12) (l₂ := LRX9_read_13) (show 16 ≤ 16 + k by omega)).trans (congrArg (fun i => LRX9_read_13[i]?) (show 16 + k - 16 = k by omega))
theorem dX9_read_0 : decode cX9_read 0 = .ok (.aload_n 0, 1) := dk_42_ (show cX9_read.data.toList[0]? = some 0x2a from (LBX9_readr_0 0).trans (by decide +kernel))
theorem dX9_read_1 : decode cX9_read 1 = .ok (.iload_n 1, 1) := dk_27_ (show cX9_read.data.toList[1]? = some 0x1b from (LBX9_readr_0 1).trans (by decide +kernel))
theorem dX9_read_2 : decode cX9_read 2 = .ok (.invokevirtual 310, 3) := dk_182_ (show cX9_read.data.toList[2]? = some 0xb6 from (LBX9_readr_0 2).trans (by decide +kernel)) (show cX9_read.data.toList[3]? = some 0x01 from (LBX9_readr_0 3).trans (by decide +kernel)) (show cX9_read.data.toList[4]? = some 0x36 from (LBX9_readr_0 4).trans (by decide +kernel)) (by decide)
theorem dX9_read_5 : decode cX9_read 5 = .ok (.istore_n 2, 1) := dk_61_ (show cX9_read.data.toList[5]? = some 0x3d from (LBX9_readr_0 5).trans (by decide +kernel))
theorem dX9_read_6 : decode cX9_read 6 = .ok (.iload_n 2, 1) := dk_28_ (show cX9_read.data.toList[6]? = some 0x1c from (LBX9_readr_0 6).trans (by decide +kernel))
theorem dX9_read_7 : decode cX9_read 7 = .ok (.ifCond .eq 9, 3) := dk_153_ (show cX9_read.data.toList[7]? = some 0x99 from (LBX9_readr_0 7).trans (by decide +kernel)) (show cX9_read.data.toList[8]? = some 0x00 from (LBX9_readr_0 8).trans (by decide +kernel)) (show cX9_read.data.toList[9]? = some 0x09 from (LBX9_readr_0 9).trans (by decide +kernel)) (by decide)
theorem dX9_read_10 : decode cX9_read 10 = .ok (.aload_n 0, 1) := dk_42_ (show cX9_read.data.toList[10]? = some 0x2a from (LBX9_readr_0 10).trans (by decide +kernel))
theorem dX9_read_11 : decode cX9_read 11 = .ok (.iload_n 2, 1) := dk_28_ (show cX9_read.data.toList[11]? = some 0x1c from (LBX9_readr_0 11).trans (by decide +kernel))
theorem dX9_read_12 : decode cX9_read 12 = .ok (.invokevirtual 70, 3) := dk_182_ (show cX9_read.data.toList[12]? = some 0xb6 from (LBX9_readr_0 12).trans (by decide +kernel)) (show cX9_read.data.toList[13]? = some 0x00 from (LBX9_readr_0 13).trans (by decide +kernel)) (show cX9_read.data.toList[14]? = some 0x46 from (LBX9_readr_0 14).trans (by decide +kernel)) (by decide)
theorem dX9_read_15 : decode cX9_read 15 = .ok (.ireturn, 1) := dk_172_ (show cX9_read.data.toList[15]? = some 0xac from (LBX9_readr_0 15).trans (by decide +kernel))
theorem dX9_read_16 : decode cX9_read 16 = .ok (.aload_n 0, 1) := dk_42_ (show cX9_read.data.toList[16]? = some 0x2a from (LBX9_readr_1 0).trans (by decide +kernel))
theorem dX9_read_17 : decode cX9_read 17 = .ok (.invokevirtual 113, 3) := dk_182_ (show cX9_read.data.toList[17]? = some 0xb6 from (LBX9_readr_1 1).trans (by decide +kernel)) (show cX9_read.data.toList[18]? = some 0x00 from (LBX9_readr_1 2).trans (by decide +kernel)) (show cX9_read.data.toList[19]? = some 0x71 from (LBX9_readr_1 3).trans (by decide +kernel)) (by decide)
theorem dX9_read_20 : decode cX9_read 20 = .ok (.aload_n 0, 1) := dk_42_ (show cX9_read.data.toList[20]? = some 0x2a from (LBX9_readr_1 4).trans (by decide +kernel))
theorem dX9_read_21 : decode cX9_read 21 = .ok (.getfield 109, 3) := dk_180_ (show cX9_read.data.toList[21]? = some 0xb4 from (LBX9_readr_1 5).trans (by decide +kernel)) (show cX9_read.data.toList[22]? = some 0x00 from (LBX9_readr_1 6).trans (by decide +kernel)) (show cX9_read.data.toList[23]? = some 0x6d from (LBX9_readr_1 7).trans (by decide +kernel)) (by decide)
theorem dX9_read_24 : decode cX9_read 24 = .ok (.ifCond .eq 10, 3) := dk_153_ (show cX9_read.data.toList[24]? = some 0x99 from (LBX9_readr_1 8).trans (by decide +kernel)) (show cX9_read.data.toList[25]? = some 0x00 from (LBX9_readr_1 9).trans (by decide +kernel)) (show cX9_read.data.toList[26]? = some 0x0a from (LBX9_readr_1 10).trans (by decide +kernel)) (by decide)
theorem dX9_read_27 : decode cX9_read 27 = .ok (.aload_n 0, 1) := dk_42_ (show cX9_read.data.toList[27]? = some 0x2a from (LBX9_readr_1 11).trans (by decide +kernel))
theorem dX9_read_28 : decode cX9_read 28 = .ok (.ldc 116, 2) := dk_18_ (show cX9_read.data.toList[28]? = some 0x12 from (LBX9_readr_1 12).trans (by decide +kernel)) (show cX9_read.data.toList[29]? = some 0x74 from (LBX9_readr_1 13).trans (by decide +kernel)) (by decide)
theorem dX9_read_30 : decode cX9_read 30 = .ok (.invokevirtual 70, 3) := dk_182_ (show cX9_read.data.toList[30]? = some 0xb6 from (LBX9_readr_1 14).trans (by decide +kernel)) (show cX9_read.data.toList[31]? = some 0x00 from (LBX9_readr_1 15).trans (by decide +kernel)) (show cX9_read.data.toList[32]? = some 0x46 from (LBX9_readr_2 0).trans (by decide +kernel)) (by decide)
theorem dX9_read_33 : decode cX9_read 33 = .ok (.ireturn, 1) := dk_172_ (show cX9_read.data.toList[33]? = some 0xac from (LBX9_readr_2 1).trans (by decide +kernel))
theorem dX9_read_34 : decode cX9_read 34 = .ok (.aload_n 0, 1) := dk_42_ (show cX9_read.data.toList[34]? = some 0x2a from (LBX9_readr_2 2).trans (by decide +kernel))
theorem dX9_read_35 : decode cX9_read 35 = .ok (.getfield 46, 3) := dk_180_ (show cX9_read.data.toList[35]? = some 0xb4 from (LBX9_readr_2 3).trans (by decide +kernel)) (show cX9_read.data.toList[36]? = some 0x00 from (LBX9_readr_2 4).trans (by decide +kernel)) (show cX9_read.data.toList[37]? = some 0x2e from (LBX9_readr_2 5).trans (by decide +kernel)) (by decide)
theorem dX9_read_38 : decode cX9_read 38 = .ok (.iload_n 1, 1) := dk_27_ (show cX9_read.data.toList[38]? = some 0x1b from (LBX9_readr_2 6).trans (by decide +kernel))
theorem dX9_read_39 : decode cX9_read 39 = .ok (.iaload, 1) := dk_46_ (show cX9_read.data.toList[39]? = some 0x2e from (LBX9_readr_2 7).trans (by decide +kernel))
theorem dX9_read_40 : decode cX9_read 40 = .ok (.istore_n 3, 1) := dk_62_ (show cX9_read.data.toList[40]? = some 0x3e from (LBX9_readr_2 8).trans (by decide +kernel))
theorem dX9_read_41 : decode cX9_read 41 = .ok (.iconst 0, 1) := dk_3_ (show cX9_read.data.toList[41]? = some 0x03 from (LBX9_readr_2 9).trans (by decide +kernel))
theorem dX9_read_42 : decode cX9_read 42 = .ok (.istore 4, 2) := dk_54_ (show cX9_read.data.toList[42]? = some 0x36 from (LBX9_readr_2 10).trans (by decide +kernel)) (show cX9_read.data.toList[43]? = some 0x04 from (LBX9_readr_2 11).trans (by decide +kernel)) (by decide)
theorem dX9_read_44 : decode cX9_read 44 = .ok (.iconst 0, 1) := dk_3_ (show cX9_read.data.toList[44]? = some 0x03 from (LBX9_readr_2 12).trans (by decide +kernel))
theorem dX9_read_45 : decode cX9_read 45 = .ok (.istore 5, 2) := dk_54_ (show cX9_read.data.toList[45]? = some 0x36 from (LBX9_readr_2 13).trans (by decide +kernel)) (show cX9_read.data.toList[46]? = some 0x05 from (LBX9_readr_2 14).trans (by decide +kernel)) (by decide)
theorem dX9_read_47 : decode cX9_read 47 = .ok (.iload 5, 2) := dk_21_ (show cX9_read.data.toList[47]? = some 0x15 from (LBX9_readr_2 15).trans (by decide +kernel)) (show cX9_read.data.toList[48]? = some 0x05 from (LBX9_readr_3 0).trans (by decide +kernel)) (by decide)
theorem dX9_read_49 : decode cX9_read 49 = .ok (.iload_n 3, 1) := dk_29_ (show cX9_read.data.toList[49]? = some 0x1d from (LBX9_readr_3 1).trans (by decide +kernel))
theorem dX9_read_50 : decode cX9_read 50 = .ok (.if_icmp .ge 108, 3) := dk_162_ (show cX9_read.data.toList[50]? = some 0xa2 from (LBX9_readr_3 2).trans (by decide +kernel)) (show cX9_read.data.toList[51]? = some 0x00 from (LBX9_readr_3 3).trans (by decide +kernel)) (show cX9_read.data.toList[52]? = some 0x6c from (LBX9_readr_3 4).trans (by decide +kernel)) (by decide)
theorem dX9_read_53 : decode cX9_read 53 = .ok (.aload_n 0, 1) := dk_42_ (show cX9_read.data.toList[53]? = some 0x2a from (LBX9_readr_3 5).trans (by decide +kernel))
theorem dX9_read_54 : decode cX9_read 54 = .ok (.getfield 49, 3) := dk_180_ (show cX9_read.data.toList[54]? = some 0xb4 from (LBX9_readr_3 6).trans (by decide +kernel)) (show cX9_read.data.toList[55]? = some 0x00 from (LBX9_readr_3 7).trans (by decide +kernel)) (show cX9_read.data.toList[56]? = some 0x31 from (LBX9_readr_3 8).trans (by decide +kernel)) (by decide)
theorem dX9_read_57 : decode cX9_read 57 = .ok (.bipush 40, 2) := dk_16_ (show cX9_read.data.toList[57]? = some 0x10 from (LBX9_readr_3 9).trans (by decide +kernel)) (show cX9_read.data.toList[58]? = some 0x28 from (LBX9_readr_3 10).trans (by decide +kernel)) (by decide)
theorem dX9_read_59 : decode cX9_read 59 = .ok (.iload_n 1, 1) := dk_27_ (show cX9_read.data.toList[59]? = some 0x1b from (LBX9_readr_3 11).trans (by decide +kernel))
theorem dX9_read_60 : decode cX9_read 60 = .ok (.imul, 1) := dk_104_ (show cX9_read.data.toList[60]? = some 0x68 from (LBX9_readr_3 12).trans (by decide +kernel))
theorem dX9_read_61 : decode cX9_read 61 = .ok (.iload 5, 2) := dk_21_ (show cX9_read.data.toList[61]? = some 0x15 from (LBX9_readr_3 13).trans (by decide +kernel)) (show cX9_read.data.toList[62]? = some 0x05 from (LBX9_readr_3 14).trans (by decide +kernel)) (by decide)
theorem dX9_read_63 : decode cX9_read 63 = .ok (.iadd, 1) := dk_96_ (show cX9_read.data.toList[63]? = some 0x60 from (LBX9_readr_3 15).trans (by decide +kernel))
theorem dX9_read_64 : decode cX9_read 64 = .ok (.laload, 1) := dk_47_ (show cX9_read.data.toList[64]? = some 0x2f from (LBX9_readr_4 0).trans (by decide +kernel))
theorem dX9_read_65 : decode cX9_read 65 = .ok (.lstore 6, 2) := dk_55_ (show cX9_read.data.toList[65]? = some 0x37 from (LBX9_readr_4 1).trans (by decide +kernel)) (show cX9_read.data.toList[66]? = some 0x06 from (LBX9_readr_4 2).trans (by decide +kernel)) (by decide)
theorem dX9_read_67 : decode cX9_read 67 = .ok (.lload 6, 2) := dk_22_ (show cX9_read.data.toList[67]? = some 0x16 from (LBX9_readr_4 3).trans (by decide +kernel)) (show cX9_read.data.toList[68]? = some 0x06 from (LBX9_readr_4 4).trans (by decide +kernel)) (by decide)
theorem dX9_read_69 : decode cX9_read 69 = .ok (.lconst 0, 1) := dk_9_ (show cX9_read.data.toList[69]? = some 0x09 from (LBX9_readr_4 5).trans (by decide +kernel))
theorem dX9_read_70 : decode cX9_read 70 = .ok (.aload_n 0, 1) := dk_42_ (show cX9_read.data.toList[70]? = some 0x2a from (LBX9_readr_4 6).trans (by decide +kernel))
theorem dX9_read_71 : decode cX9_read 71 = .ok (.getfield 7, 3) := dk_180_ (show cX9_read.data.toList[71]? = some 0xb4 from (LBX9_readr_4 7).trans (by decide +kernel)) (show cX9_read.data.toList[72]? = some 0x00 from (LBX9_readr_4 8).trans (by decide +kernel)) (show cX9_read.data.toList[73]? = some 0x07 from (LBX9_readr_4 9).trans (by decide +kernel)) (by decide)
theorem dX9_read_74 : decode cX9_read 74 = .ok (.iconst 0, 1) := dk_3_ (show cX9_read.data.toList[74]? = some 0x03 from (LBX9_readr_4 10).trans (by decide +kernel))
theorem dX9_read_75 : decode cX9_read 75 = .ok (.iaload, 1) := dk_46_ (show cX9_read.data.toList[75]? = some 0x2e from (LBX9_readr_4 11).trans (by decide +kernel))
theorem dX9_read_76 : decode cX9_read 76 = .ok (.iconst 1, 1) := dk_4_ (show cX9_read.data.toList[76]? = some 0x04 from (LBX9_readr_4 12).trans (by decide +kernel))
theorem dX9_read_77 : decode cX9_read 77 = .ok (.isub, 1) := dk_100_ (show cX9_read.data.toList[77]? = some 0x64 from (LBX9_readr_4 13).trans (by decide +kernel))
theorem dX9_read_78 : decode cX9_read 78 = .ok (.i2l, 1) := dk_133_ (show cX9_read.data.toList[78]? = some 0x85 from (LBX9_readr_4 14).trans (by decide +kernel))
theorem dX9_read_79 : decode cX9_read 79 = .ok (.invokestatic 57, 3) := dk_184_ (show cX9_read.data.toList[79]? = some 0xb8 from (LBX9_readr_4 15).trans (by decide +kernel)) (show cX9_read.data.toList[80]? = some 0x00 from (LBX9_readr_5 0).trans (by decide +kernel)) (show cX9_read.data.toList[81]? = some 0x39 from (LBX9_readr_5 1).trans (by decide +kernel)) (by decide)
theorem dX9_read_82 : decode cX9_read 82 = .ok (.ifCond .ne 8, 3) := dk_154_ (show cX9_read.data.toList[82]? = some 0x9a from (LBX9_readr_5 2).trans (by decide +kernel)) (show cX9_read.data.toList[83]? = some 0x00 from (LBX9_readr_5 3).trans (by decide +kernel)) (show cX9_read.data.toList[84]? = some 0x08 from (LBX9_readr_5 4).trans (by decide +kernel)) (by decide)
theorem dX9_read_85 : decode cX9_read 85 = .ok (.iload 5, 2) := dk_21_ (show cX9_read.data.toList[85]? = some 0x15 from (LBX9_readr_5 5).trans (by decide +kernel)) (show cX9_read.data.toList[86]? = some 0x05 from (LBX9_readr_5 6).trans (by decide +kernel)) (by decide)
theorem dX9_read_87 : decode cX9_read 87 = .ok (.iconst 1, 1) := dk_4_ (show cX9_read.data.toList[87]? = some 0x04 from (LBX9_readr_5 7).trans (by decide +kernel))
theorem dX9_read_88 : decode cX9_read 88 = .ok (.iadd, 1) := dk_96_ (show cX9_read.data.toList[88]? = some 0x60 from (LBX9_readr_5 8).trans (by decide +kernel))
theorem dX9_read_89 : decode cX9_read 89 = .ok (.ireturn, 1) := dk_172_ (show cX9_read.data.toList[89]? = some 0xac from (LBX9_readr_5 9).trans (by decide +kernel))
theorem dX9_read_90 : decode cX9_read 90 = .ok (.iload 5, 2) := dk_21_ (show cX9_read.data.toList[90]? = some 0x15 from (LBX9_readr_5 10).trans (by decide +kernel)) (show cX9_read.data.toList[91]? = some 0x05 from (LBX9_readr_5 11).trans (by decide +kernel)) (by decide)
theorem dX9_read_92 : decode cX9_read 92 = .ok (.ifCond .le 60, 3) := dk_158_ (show cX9_read.data.toList[92]? = some 0x9e from (LBX9_readr_5 12).trans (by decide +kernel)) (show cX9_read.data.toList[93]? = some 0x00 from (LBX9_readr_5 13).trans (by decide +kernel)) (show cX9_read.data.toList[94]? = some 0x3c from (LBX9_readr_5 14).trans (by decide +kernel)) (by decide)
theorem dX9_read_95 : decode cX9_read 95 = .ok (.aload_n 0, 1) := dk_42_ (show cX9_read.data.toList[95]? = some 0x2a from (LBX9_readr_5 15).trans (by decide +kernel))
theorem dX9_read_96 : decode cX9_read 96 = .ok (.getfield 49, 3) := dk_180_ (show cX9_read.data.toList[96]? = some 0xb4 from (LBX9_readr_6 0).trans (by decide +kernel)) (show cX9_read.data.toList[97]? = some 0x00 from (LBX9_readr_6 1).trans (by decide +kernel)) (show cX9_read.data.toList[98]? = some 0x31 from (LBX9_readr_6 2).trans (by decide +kernel)) (by decide)
theorem dX9_read_99 : decode cX9_read 99 = .ok (.bipush 40, 2) := dk_16_ (show cX9_read.data.toList[99]? = some 0x10 from (LBX9_readr_6 3).trans (by decide +kernel)) (show cX9_read.data.toList[100]? = some 0x28 from (LBX9_readr_6 4).trans (by decide +kernel)) (by decide)
theorem dX9_read_101 : decode cX9_read 101 = .ok (.iload_n 1, 1) := dk_27_ (show cX9_read.data.toList[101]? = some 0x1b from (LBX9_readr_6 5).trans (by decide +kernel))
theorem dX9_read_102 : decode cX9_read 102 = .ok (.imul, 1) := dk_104_ (show cX9_read.data.toList[102]? = some 0x68 from (LBX9_readr_6 6).trans (by decide +kernel))
theorem dX9_read_103 : decode cX9_read 103 = .ok (.iload 5, 2) := dk_21_ (show cX9_read.data.toList[103]? = some 0x15 from (LBX9_readr_6 7).trans (by decide +kernel)) (show cX9_read.data.toList[104]? = some 0x05 from (LBX9_readr_6 8).trans (by decide +kernel)) (by decide)
theorem dX9_read_105 : decode cX9_read 105 = .ok (.iadd, 1) := dk_96_ (show cX9_read.data.toList[105]? = some 0x60 from (LBX9_readr_6 9).trans (by decide +kernel))
theorem dX9_read_106 : decode cX9_read 106 = .ok (.iconst 1, 1) := dk_4_ (show cX9_read.data.toList[106]? = some 0x04 from (LBX9_readr_6 10).trans (by decide +kernel))
theorem dX9_read_107 : decode cX9_read 107 = .ok (.isub, 1) := dk_100_ (show cX9_read.data.toList[107]? = some 0x64 from (LBX9_readr_6 11).trans (by decide +kernel))
theorem dX9_read_108 : decode cX9_read 108 = .ok (.laload, 1) := dk_47_ (show cX9_read.data.toList[108]? = some 0x2f from (LBX9_readr_6 12).trans (by decide +kernel))
theorem dX9_read_109 : decode cX9_read 109 = .ok (.l2i, 1) := dk_136_ (show cX9_read.data.toList[109]? = some 0x88 from (LBX9_readr_6 13).trans (by decide +kernel))
theorem dX9_read_110 : decode cX9_read 110 = .ok (.istore 8, 2) := dk_54_ (show cX9_read.data.toList[110]? = some 0x36 from (LBX9_readr_6 14).trans (by decide +kernel)) (show cX9_read.data.toList[111]? = some 0x08 from (LBX9_readr_6 15).trans (by decide +kernel)) (by decide)
theorem dX9_read_112 : decode cX9_read 112 = .ok (.lload 6, 2) := dk_22_ (show cX9_read.data.toList[112]? = some 0x16 from (LBX9_readr_7 0).trans (by decide +kernel)) (show cX9_read.data.toList[113]? = some 0x06 from (LBX9_readr_7 1).trans (by decide +kernel)) (by decide)
theorem dX9_read_114 : decode cX9_read 114 = .ok (.iload 8, 2) := dk_21_ (show cX9_read.data.toList[114]? = some 0x15 from (LBX9_readr_7 2).trans (by decide +kernel)) (show cX9_read.data.toList[115]? = some 0x08 from (LBX9_readr_7 3).trans (by decide +kernel)) (by decide)
theorem dX9_read_116 : decode cX9_read 116 = .ok (.i2l, 1) := dk_133_ (show cX9_read.data.toList[116]? = some 0x85 from (LBX9_readr_7 4).trans (by decide +kernel))
theorem dX9_read_117 : decode cX9_read 117 = .ok (.lcmp, 1) := dk_148_ (show cX9_read.data.toList[117]? = some 0x94 from (LBX9_readr_7 5).trans (by decide +kernel))
theorem dX9_read_118 : decode cX9_read 118 = .ok (.ifCond .eq 15, 3) := dk_153_ (show cX9_read.data.toList[118]? = some 0x99 from (LBX9_readr_7 6).trans (by decide +kernel)) (show cX9_read.data.toList[119]? = some 0x00 from (LBX9_readr_7 7).trans (by decide +kernel)) (show cX9_read.data.toList[120]? = some 0x0f from (LBX9_readr_7 8).trans (by decide +kernel)) (by decide)
theorem dX9_read_121 : decode cX9_read 121 = .ok (.aload_n 0, 1) := dk_42_ (show cX9_read.data.toList[121]? = some 0x2a from (LBX9_readr_7 9).trans (by decide +kernel))
theorem dX9_read_122 : decode cX9_read 122 = .ok (.iload 8, 2) := dk_21_ (show cX9_read.data.toList[122]? = some 0x15 from (LBX9_readr_7 10).trans (by decide +kernel)) (show cX9_read.data.toList[123]? = some 0x08 from (LBX9_readr_7 11).trans (by decide +kernel)) (by decide)
theorem dX9_read_124 : decode cX9_read 124 = .ok (.lload 6, 2) := dk_22_ (show cX9_read.data.toList[124]? = some 0x16 from (LBX9_readr_7 12).trans (by decide +kernel)) (show cX9_read.data.toList[125]? = some 0x06 from (LBX9_readr_7 13).trans (by decide +kernel)) (by decide)
theorem dX9_read_126 : decode cX9_read 126 = .ok (.l2i, 1) := dk_136_ (show cX9_read.data.toList[126]? = some 0x88 from (LBX9_readr_7 14).trans (by decide +kernel))
theorem dX9_read_127 : decode cX9_read 127 = .ok (.invokevirtual 97, 3) := dk_182_ (show cX9_read.data.toList[127]? = some 0xb6 from (LBX9_readr_7 15).trans (by decide +kernel)) (show cX9_read.data.toList[128]? = some 0x00 from (LBX9_readr_8 0).trans (by decide +kernel)) (show cX9_read.data.toList[129]? = some 0x61 from (LBX9_readr_8 1).trans (by decide +kernel)) (by decide)
theorem dX9_read_130 : decode cX9_read 130 = .ok (.ifCond .ne 8, 3) := dk_154_ (show cX9_read.data.toList[130]? = some 0x9a from (LBX9_readr_8 2).trans (by decide +kernel)) (show cX9_read.data.toList[131]? = some 0x00 from (LBX9_readr_8 3).trans (by decide +kernel)) (show cX9_read.data.toList[132]? = some 0x08 from (LBX9_readr_8 4).trans (by decide +kernel)) (by decide)
theorem dX9_read_133 : decode cX9_read 133 = .ok (.iload 5, 2) := dk_21_ (show cX9_read.data.toList[133]? = some 0x15 from (LBX9_readr_8 5).trans (by decide +kernel)) (show cX9_read.data.toList[134]? = some 0x05 from (LBX9_readr_8 6).trans (by decide +kernel)) (by decide)
theorem dX9_read_135 : decode cX9_read 135 = .ok (.iconst 1, 1) := dk_4_ (show cX9_read.data.toList[135]? = some 0x04 from (LBX9_readr_8 7).trans (by decide +kernel))
theorem dX9_read_136 : decode cX9_read 136 = .ok (.iadd, 1) := dk_96_ (show cX9_read.data.toList[136]? = some 0x60 from (LBX9_readr_8 8).trans (by decide +kernel))
theorem dX9_read_137 : decode cX9_read 137 = .ok (.ireturn, 1) := dk_172_ (show cX9_read.data.toList[137]? = some 0xac from (LBX9_readr_8 9).trans (by decide +kernel))
theorem dX9_read_138 : decode cX9_read 138 = .ok (.iload 4, 2) := dk_21_ (show cX9_read.data.toList[138]? = some 0x15 from (LBX9_readr_8 10).trans (by decide +kernel)) (show cX9_read.data.toList[139]? = some 0x04 from (LBX9_readr_8 11).trans (by decide +kernel)) (by decide)
theorem dX9_read_140 : decode cX9_read 140 = .ok (.aload_n 0, 1) := dk_42_ (show cX9_read.data.toList[140]? = some 0x2a from (LBX9_readr_8 12).trans (by decide +kernel))
theorem dX9_read_141 : decode cX9_read 141 = .ok (.iload 8, 2) := dk_21_ (show cX9_read.data.toList[141]? = some 0x15 from (LBX9_readr_8 13).trans (by decide +kernel)) (show cX9_read.data.toList[142]? = some 0x08 from (LBX9_readr_8 14).trans (by decide +kernel)) (by decide)
theorem dX9_read_143 : decode cX9_read 143 = .ok (.lload 6, 2) := dk_22_ (show cX9_read.data.toList[143]? = some 0x16 from (LBX9_readr_8 15).trans (by decide +kernel)) (show cX9_read.data.toList[144]? = some 0x06 from (LBX9_readr_9 0).trans (by decide +kernel)) (by decide)
theorem dX9_read_145 : decode cX9_read 145 = .ok (.l2i, 1) := dk_136_ (show cX9_read.data.toList[145]? = some 0x88 from (LBX9_readr_9 1).trans (by decide +kernel))
theorem dX9_read_146 : decode cX9_read 146 = .ok (.invokevirtual 100, 3) := dk_182_ (show cX9_read.data.toList[146]? = some 0xb6 from (LBX9_readr_9 2).trans (by decide +kernel)) (show cX9_read.data.toList[147]? = some 0x00 from (LBX9_readr_9 3).trans (by decide +kernel)) (show cX9_read.data.toList[148]? = some 0x64 from (LBX9_readr_9 4).trans (by decide +kernel)) (by decide)
theorem dX9_read_149 : decode cX9_read 149 = .ok (.iadd, 1) := dk_96_ (show cX9_read.data.toList[149]? = some 0x60 from (LBX9_readr_9 5).trans (by decide +kernel))
theorem dX9_read_150 : decode cX9_read 150 = .ok (.istore 4, 2) := dk_54_ (show cX9_read.data.toList[150]? = some 0x36 from (LBX9_readr_9 6).trans (by decide +kernel)) (show cX9_read.data.toList[151]? = some 0x04 from (LBX9_readr_9 7).trans (by decide +kernel)) (by decide)
theorem dX9_read_152 : decode cX9_read 152 = .ok (.iinc 5 1, 3) := dk_132_ (show cX9_read.data.toList[152]? = some 0x84 from (LBX9_readr_9 8).trans (by decide +kernel)) (show cX9_read.data.toList[153]? = some 0x05 from (LBX9_readr_9 9).trans (by decide +kernel)) (show cX9_read.data.toList[154]? = some 0x01 from (LBX9_readr_9 10).trans (by decide +kernel)) (by decide) (by decide)
theorem dX9_read_155 : decode cX9_read 155 = .ok (.goto (-108), 3) := dk_167_ (show cX9_read.data.toList[155]? = some 0xa7 from (LBX9_readr_9 11).trans (by decide +kernel)) (show cX9_read.data.toList[156]? = some 0xff from (LBX9_readr_9 12).trans (by decide +kernel)) (show cX9_read.data.toList[157]? = some 0x94 from (LBX9_readr_9 13).trans (by decide +kernel)) (by decide)
theorem dX9_read_158 : decode cX9_read 158 = .ok (.iload_n 3, 1) := dk_29_ (show cX9_read.data.toList[158]? = some 0x1d from (LBX9_readr_9 14).trans (by decide +kernel))
theorem dX9_read_159 : decode cX9_read 159 = .ok (.iconst 2, 1) := dk_5_ (show cX9_read.data.toList[159]? = some 0x05 from (LBX9_readr_9 15).trans (by decide +kernel))
theorem dX9_read_160 : decode cX9_read 160 = .ok (.if_icmp .ge 5, 3) := dk_162_ (show cX9_read.data.toList[160]? = some 0xa2 from (LBX9_readr_10 0).trans (by decide +kernel)) (show cX9_read.data.toList[161]? = some 0x00 from (LBX9_readr_10 1).trans (by decide +kernel)) (show cX9_read.data.toList[162]? = some 0x05 from (LBX9_readr_10 2).trans (by decide +kernel)) (by decide)
theorem dX9_read_163 : decode cX9_read 163 = .ok (.iconst 1, 1) := dk_4_ (show cX9_read.data.toList[163]? = some 0x04 from (LBX9_readr_10 3).trans (by decide +kernel))
theorem dX9_read_164 : decode cX9_read 164 = .ok (.ireturn, 1) := dk_172_ (show cX9_read.data.toList[164]? = some 0xac from (LBX9_readr_10 4).trans (by decide +kernel))
theorem dX9_read_165 : decode cX9_read 165 = .ok (.iload 4, 2) := dk_21_ (show cX9_read.data.toList[165]? = some 0x15 from (LBX9_readr_10 5).trans (by decide +kernel)) (show cX9_read.data.toList[166]? = some 0x04 from (LBX9_readr_10 6).trans (by decide +kernel)) (by decide)
theorem dX9_read_167 : decode cX9_read 167 = .ok (.aload_n 0, 1) := dk_42_ (show cX9_read.data.toList[167]? = some 0x2a from (LBX9_readr_10 7).trans (by decide +kernel))
theorem dX9_read_168 : decode cX9_read 168 = .ok (.getfield 22, 3) := dk_180_ (show cX9_read.data.toList[168]? = some 0xb4 from (LBX9_readr_10 8).trans (by decide +kernel)) (show cX9_read.data.toList[169]? = some 0x00 from (LBX9_readr_10 9).trans (by decide +kernel)) (show cX9_read.data.toList[170]? = some 0x16 from (LBX9_readr_10 10).trans (by decide +kernel)) (by decide)
theorem dX9_read_171 : decode cX9_read 171 = .ok (.bipush 10, 2) := dk_16_ (show cX9_read.data.toList[171]? = some 0x10 from (LBX9_readr_10 11).trans (by decide +kernel)) (show cX9_read.data.toList[172]? = some 0x0a from (LBX9_readr_10 12).trans (by decide +kernel)) (by decide)
theorem dX9_read_173 : decode cX9_read 173 = .ok (.aload_n 0, 1) := dk_42_ (show cX9_read.data.toList[173]? = some 0x2a from (LBX9_readr_10 13).trans (by decide +kernel))
theorem dX9_read_174 : decode cX9_read 174 = .ok (.getfield 49, 3) := dk_180_ (show cX9_read.data.toList[174]? = some 0xb4 from (LBX9_readr_10 14).trans (by decide +kernel)) (show cX9_read.data.toList[175]? = some 0x00 from (LBX9_readr_10 15).trans (by decide +kernel)) (show cX9_read.data.toList[176]? = some 0x31 from (LBX9_readr_11 0).trans (by decide +kernel)) (by decide)
theorem dX9_read_177 : decode cX9_read 177 = .ok (.bipush 40, 2) := dk_16_ (show cX9_read.data.toList[177]? = some 0x10 from (LBX9_readr_11 1).trans (by decide +kernel)) (show cX9_read.data.toList[178]? = some 0x28 from (LBX9_readr_11 2).trans (by decide +kernel)) (by decide)
theorem dX9_read_179 : decode cX9_read 179 = .ok (.iload_n 1, 1) := dk_27_ (show cX9_read.data.toList[179]? = some 0x1b from (LBX9_readr_11 3).trans (by decide +kernel))
theorem dX9_read_180 : decode cX9_read 180 = .ok (.imul, 1) := dk_104_ (show cX9_read.data.toList[180]? = some 0x68 from (LBX9_readr_11 4).trans (by decide +kernel))
theorem dX9_read_181 : decode cX9_read 181 = .ok (.laload, 1) := dk_47_ (show cX9_read.data.toList[181]? = some 0x2f from (LBX9_readr_11 5).trans (by decide +kernel))
theorem dX9_read_182 : decode cX9_read 182 = .ok (.l2i, 1) := dk_136_ (show cX9_read.data.toList[182]? = some 0x88 from (LBX9_readr_11 6).trans (by decide +kernel))
theorem dX9_read_183 : decode cX9_read 183 = .ok (.imul, 1) := dk_104_ (show cX9_read.data.toList[183]? = some 0x68 from (LBX9_readr_11 7).trans (by decide +kernel))
theorem dX9_read_184 : decode cX9_read 184 = .ok (.aload_n 0, 1) := dk_42_ (show cX9_read.data.toList[184]? = some 0x2a from (LBX9_readr_11 8).trans (by decide +kernel))
theorem dX9_read_185 : decode cX9_read 185 = .ok (.getfield 49, 3) := dk_180_ (show cX9_read.data.toList[185]? = some 0xb4 from (LBX9_readr_11 9).trans (by decide +kernel)) (show cX9_read.data.toList[186]? = some 0x00 from (LBX9_readr_11 10).trans (by decide +kernel)) (show cX9_read.data.toList[187]? = some 0x31 from (LBX9_readr_11 11).trans (by decide +kernel)) (by decide)
theorem dX9_read_188 : decode cX9_read 188 = .ok (.bipush 40, 2) := dk_16_ (show cX9_read.data.toList[188]? = some 0x10 from (LBX9_readr_11 12).trans (by decide +kernel)) (show cX9_read.data.toList[189]? = some 0x28 from (LBX9_readr_11 13).trans (by decide +kernel)) (by decide)
theorem dX9_read_190 : decode cX9_read 190 = .ok (.iload_n 1, 1) := dk_27_ (show cX9_read.data.toList[190]? = some 0x1b from (LBX9_readr_11 14).trans (by decide +kernel))
theorem dX9_read_191 : decode cX9_read 191 = .ok (.imul, 1) := dk_104_ (show cX9_read.data.toList[191]? = some 0x68 from (LBX9_readr_11 15).trans (by decide +kernel))
theorem dX9_read_192 : decode cX9_read 192 = .ok (.iload_n 3, 1) := dk_29_ (show cX9_read.data.toList[192]? = some 0x1d from (LBX9_readr_12 0).trans (by decide +kernel))
theorem dX9_read_193 : decode cX9_read 193 = .ok (.iadd, 1) := dk_96_ (show cX9_read.data.toList[193]? = some 0x60 from (LBX9_readr_12 1).trans (by decide +kernel))
theorem dX9_read_194 : decode cX9_read 194 = .ok (.iconst 1, 1) := dk_4_ (show cX9_read.data.toList[194]? = some 0x04 from (LBX9_readr_12 2).trans (by decide +kernel))
theorem dX9_read_195 : decode cX9_read 195 = .ok (.isub, 1) := dk_100_ (show cX9_read.data.toList[195]? = some 0x64 from (LBX9_readr_12 3).trans (by decide +kernel))
theorem dX9_read_196 : decode cX9_read 196 = .ok (.laload, 1) := dk_47_ (show cX9_read.data.toList[196]? = some 0x2f from (LBX9_readr_12 4).trans (by decide +kernel))
theorem dX9_read_197 : decode cX9_read 197 = .ok (.l2i, 1) := dk_136_ (show cX9_read.data.toList[197]? = some 0x88 from (LBX9_readr_12 5).trans (by decide +kernel))
theorem dX9_read_198 : decode cX9_read 198 = .ok (.iadd, 1) := dk_96_ (show cX9_read.data.toList[198]? = some 0x60 from (LBX9_readr_12 6).trans (by decide +kernel))
theorem dX9_read_199 : decode cX9_read 199 = .ok (.iaload, 1) := dk_46_ (show cX9_read.data.toList[199]? = some 0x2e from (LBX9_readr_12 7).trans (by decide +kernel))
theorem dX9_read_200 : decode cX9_read 200 = .ok (.if_icmp .ne 7, 3) := dk_160_ (show cX9_read.data.toList[200]? = some 0xa0 from (LBX9_readr_12 8).trans (by decide +kernel)) (show cX9_read.data.toList[201]? = some 0x00 from (LBX9_readr_12 9).trans (by decide +kernel)) (show cX9_read.data.toList[202]? = some 0x07 from (LBX9_readr_12 10).trans (by decide +kernel)) (by decide)
theorem dX9_read_203 : decode cX9_read 203 = .ok (.iconst 0, 1) := dk_3_ (show cX9_read.data.toList[203]? = some 0x03 from (LBX9_readr_12 11).trans (by decide +kernel))
theorem dX9_read_204 : decode cX9_read 204 = .ok (.goto 6, 3) := dk_167_ (show cX9_read.data.toList[204]? = some 0xa7 from (LBX9_readr_12 12).trans (by decide +kernel)) (show cX9_read.data.toList[205]? = some 0x00 from (LBX9_readr_12 13).trans (by decide +kernel)) (show cX9_read.data.toList[206]? = some 0x06 from (LBX9_readr_12 14).trans (by decide +kernel)) (by decide)
theorem dX9_read_207 : decode cX9_read 207 = .ok (.iconst 1, 1) := dk_4_ (show cX9_read.data.toList[207]? = some 0x04 from (LBX9_readr_12 15).trans (by decide +kernel))
theorem dX9_read_208 : decode cX9_read 208 = .ok (.iload_n 3, 1) := dk_29_ (show cX9_read.data.toList[208]? = some 0x1d from (LBX9_readr_13 0).trans (by decide +kernel))
theorem dX9_read_209 : decode cX9_read 209 = .ok (.iadd, 1) := dk_96_ (show cX9_read.data.toList[209]? = some 0x60 from (LBX9_readr_13 1).trans (by decide +kernel))
theorem dX9_read_210 : decode cX9_read 210 = .ok (.ireturn, 1) := dk_172_ (show cX9_read.data.toList[210]? = some 0xac from (LBX9_readr_13 2).trans (by decide +kernel))
theorem uw905 : Cond.methodLink RX9 305 yX9_isOne ∈ wsU := ut6 (List.mem_of_getElem? (i := 180) rfl) rfl
theorem uw906 : Cond.static yX9_isOne ∈ wsU := ut6 (List.mem_of_getElem? (i := 181) rfl) rfl
theorem uw907 : Cond.initialized yX9_isOne.cls ∈ wsU := ut1 (List.mem_of_getElem? (i := 10) rfl) rfl
theorem uw908 : Cond.code yX9_isOne cX9_isOne 1 (some .boolean) ∈ wsU := ut6 (List.mem_of_getElem? (i := 182) rfl) rfl
theorem uw909 : Cond.fieldLink RX9 43 "LongerBackModel" "bitsOf" "[I" ∈ wsU := ut4 (List.mem_of_getElem? (i := 231) rfl) rfl
theorem uw910 : Cond.constant RX9 309 (-1000000006) ∈ wsU := ut6 (List.mem_of_getElem? (i := 193) rfl) rfl
theorem uw911 : Cond.methodLink RX9 310 yX9_wrong ∈ wsU := ut6 (List.mem_of_getElem? (i := 189) rfl) rfl
theorem uw912 : Cond.instanceMethod yX9_wrong ∈ wsU := ut6 (List.mem_of_getElem? (i := 191) rfl) rfl
theorem uw913 : Cond.selects RX9 yX9_wrong yX9_wrong ∈ wsU := us_sel (q := (yX9_wrong, 27)) (List.mem_of_getElem? (i := 77) (by decide +kernel)) rfl
theorem uw914 : Cond.code yX9_wrong cX9_wrong 2 (some .int) ∈ wsU := ut6 (List.mem_of_getElem? (i := 192) rfl) rfl
theorem uw915 : Cond.fieldLink RX9 46 "LongerBackModel" "sizeOf" "[I" ∈ wsU := ut4 (List.mem_of_getElem? (i := 232) rfl) rfl
theorem uw916 : Cond.fieldLink RX9 49 "LongerBackModel" "number" "[J" ∈ wsU := ut4 (List.mem_of_getElem? (i := 233) rfl) rfl
theorem ks_X9_305 : xWS RX9 305 yX9_isOne cX9_isOne 1 (some .boolean) 1 := ⟨⟨uw905, uw906, uw907, uw908⟩, by decide +kernel⟩
theorem kf_X9_43 : xWF RX9 43 9 23 RX9 TX9 27 := ⟨inUX9, rfl, by decide, uw909⟩
theorem kv_X9_310 : xWV RX9 310 RX9 yX9_wrong cX9_wrong 2 (some .int) 1 := ⟨⟨uw911, uw912, uw913, uw657, uw914⟩, by decide +kernel⟩
theorem kf_X9_46 : xWF RX9 46 9 24 RX9 TX9 27 := ⟨inUX9, rfl, by decide, uw915⟩
theorem kf_X9_49 : xWF RX9 49 9 25 RX9 TX9 27 := ⟨inUX9, rfl, by decide, uw916⟩
set_option maxHeartbeats 4000000 in
set_option maxRecDepth 100000 in
theorem c_X9_narrowed (l : Launch) (D : va_G) (cI cJ cZ cS : ClassId) (ta : Nat) (sa sv : Nat → Nat) (sz : Nat) (p0 : Int32) (p1 : Int64) : Met l yX9_narrowed (Cond.code yX9_narrowed cX9_narrowed 3 (some .long) :: wsU) ({ frames := 0, cells := 0, slots := 0, locals := 0 }) (va_Pc [.int p0, .long p1] (XW D (xT cI cJ cZ cS) ta sa sv [] sz)) (vp_Sl (fun r : Int64 => (r = sp_low p0 p1))) 0 0 (fun _ => False) := by
  refine xh (QA := fun _ => vp_Sl (fun r : Int64 => (r = sp_low p0 p1))) (fr := fun _ _ => False) (by decide) (Nat.le_of_ble_eq_true rfl) ?_
  intro p e s m below meth c ls A hF hr hlk hin hsz hP hK hD hN hZ hA hS hl
  have hF : CallFix p m c cX9_narrowed 3 s _ _ RX9 := hF
  have hx := hF.1
  have hb := hF.2.1
  have hml := hF.2.2.1
  have hown := hF.2.2.2.1
  have hu : ∀ w ∈ wsU, w.before _ s = true := fun w h => hF.2.2.2.2 w (List.mem_cons_of_mem _ h)
  have hl : lv_has ls 3 [(0, .int p0), (1, .long p1)] := hl
  refine lv_iload_n hx hb dX9_narrowed_0 rfl (lv_at hl 0 rfl) ?_
  refine lv_bipush (v := 8) hx hb dX9_narrowed_1 (by decide) ?_
  refine lv_icmp_ne (tgt := 13) hx hb dX9_narrowed_3 (by decide) (fun c_1 => ?_) (fun c_1 => ?_)
  · skip
    refine lv_iload_n hx hb dX9_narrowed_13 rfl (lv_at hl 0 rfl) ?_
    refine lv_bipush (v := 16) hx hb dX9_narrowed_14 (by decide) ?_
    refine lv_icmp_ne (tgt := 26) hx hb dX9_narrowed_16 (by decide) (fun c_2 => ?_) (fun c_2 => ?_)
    · skip
      refine lv_lload_n hx hb dX9_narrowed_26 rfl (lv_at hl 1 rfl) ?_
      exact W.lret (v := p1) hx hb hr (fun t ht hW => ⟨p1, rfl, (sp_low64 c_1 c_2), ht⟩) (fun q h => by cases h) dX9_narrowed_27 hlk
    · skip
      refine lv_lload_n hx hb dX9_narrowed_19 rfl (lv_at hl 1 rfl) ?_
      refine lv_l2i (v := p1.toInt32) hx hb dX9_narrowed_20 rfl ?_
      refine lv_i2s hx hb dX9_narrowed_21 rfl ?_
      refine lv_i2l (v := p1.toInt32.toInt16.toInt32.toInt64) hx hb dX9_narrowed_22 rfl ?_
      refine lv_goto (tgt := 27) hx hb dX9_narrowed_23 (by decide) ?_
      exact W.lret (v := p1.toInt32.toInt16.toInt32.toInt64) hx hb hr (fun t ht hW => ⟨p1.toInt32.toInt16.toInt32.toInt64, rfl, (sp_low16 c_1 c_2), ht⟩) (fun q h => by cases h) dX9_narrowed_27 hlk
  · skip
    refine lv_lload_n hx hb dX9_narrowed_6 rfl (lv_at hl 1 rfl) ?_
    refine lv_l2i (v := p1.toInt32) hx hb dX9_narrowed_7 rfl ?_
    refine lv_i2b hx hb dX9_narrowed_8 rfl ?_
    refine lv_i2l (v := p1.toInt32.toInt8.toInt32.toInt64) hx hb dX9_narrowed_9 rfl ?_
    refine lv_goto (tgt := 27) hx hb dX9_narrowed_10 (by decide) ?_
    exact W.lret (v := p1.toInt32.toInt8.toInt32.toInt64) hx hb hr (fun t ht hW => ⟨p1.toInt32.toInt8.toInt32.toInt64, rfl, (sp_low8 c_1), ht⟩) (fun q h => by cases h) dX9_narrowed_27 hlk
set_option maxHeartbeats 4000000 in
set_option maxRecDepth 100000 in
theorem c_X9_wrong (l : Launch) (D : va_G) (cI cJ cZ cS : ClassId) (ta : Nat) (sa sv : Nat → Nat) (sz : Nat) (h0 : Nat) (ys : Nat) (yk : Nat) (yo : Nat) (yt : Nat) (mk0 : Int32) (yfa : Nat) (yfe : Nat) (mL : Int32) (mS : Int32) (mM : Int32) (yro : Nat) (yhe : Nat) (ygr : Nat) (mF : Int32) (mC : Int32) (mY : Int32) (yta : Nat) (mz : Nat) (mf : Nat) (mt : Nat) (mv : Int32) (mw : Int32) (ywa : Nat) (ybi : Nat) (ysi : Nat) (ynu : Nat) (ymo : Nat) (bi : Nat → Int32) (p0 : Int32) : Met l yX9_wrong (Cond.code yX9_wrong cX9_wrong 2 (some .int) :: wsU) ({ frames := 2, cells := 0, slots := 0, locals := 45 }) (va_Pc [.ref h0, .int p0] (XW D (xT cI cJ cZ cS) ta sa sv [(h0, .inr (9, [.ref ys, .ref yk, .ref yo, .ref yt, .int mk0, .ref yfa, .ref yfe, .int mL, .int mS, .int mM, .ref yro, .ref yhe, .ref ygr, .int mF, .int mC, .int mY, .ref yta, .int (nI (mz)), .int (nI (mf)), .int (nI (mt)), .int mv, .int mw, .ref ywa, .ref ybi, .ref ysi, .ref ynu, .ref ymo])), (ybi, .inl (cI, 4, .inl bi))] sz)) (vp_Si (fun r : Int32 => (r = (-1000000001)) ∨ (r = (-1000000006)) ∨ (r = 0 ∧ (¬ p0 < 0) ∧ (¬ 3 < p0)))) 0 0 (fun _ => False) := by
  refine xh (QA := fun _ => vp_Si (fun r : Int32 => (r = (-1000000001)) ∨ (r = (-1000000006)) ∨ (r = 0 ∧ (¬ p0 < 0) ∧ (¬ 3 < p0)))) (fr := fun _ _ => False) (by decide) (Nat.le_of_ble_eq_true rfl) ?_
  intro p e s m below meth c ls A hF hr hlk hin hsz hP hK hD hN hZ hA hS hl
  have hF : CallFix p m c cX9_wrong 2 s _ _ RX9 := hF
  have hx := hF.1
  have hb := hF.2.1
  have hml := hF.2.2.1
  have hown := hF.2.2.2.1
  have hu : ∀ w ∈ wsU, w.before _ s = true := fun w h => hF.2.2.2.2 w (List.mem_cons_of_mem _ h)
  have hl : lv_has ls 2 [(0, .ref h0), (1, .int p0)] := hl
  refine lv_iload_n hx hb dX9_wrong_0 rfl (lv_at hl 1 rfl) ?_
  refine xc_Sr hF (c_X9_isOne l D cI cJ cZ cS ta sa sv s.heap.size p0 ) ks_X9_305 ⟨rfl, rfl, Nat.le_of_ble_eq_true rfl, Nat.le_of_ble_eq_true rfl⟩ ⟨Nat.le_of_ble_eq_true rfl, Nat.le_of_ble_eq_true rfl⟩ hK hN hZ hP hD hS hA [] rfl rfl rfl hl.1 rfl (Nat.le_of_ble_eq_true rfl) dX9_wrong_1 (fun r_1 hw_r_1 => ?_)
  rcases hw_r_1 with ⟨rfl, h_2, h_3⟩ | ⟨rfl, h_4⟩
  · skip
    refine lv_if_ne (tgt := 12) hx hb dX9_wrong_4 (by decide) (fun c_5 => ?_) (fun c_5 => absurd c_5 (by decide))
    refine lv_aload_n hx hb dX9_wrong_12 rfl (lv_at hl 0 rfl) ?_
    refine xg hF kf_X9_43 hK hP 0 rfl rfl dX9_wrong_13 ?_
    refine lv_iload_n hx hb dX9_wrong_16 rfl (lv_at hl 1 rfl) ?_
    refine va_iald hx hb hK hP 1 0 rfl rfl (x_in4 h_2 h_3) dX9_wrong_17 ?_
    refine lv_if_ne (tgt := 27) hx hb dX9_wrong_18 (by decide) (fun c_6 => ?_) (fun c_6 => ?_)
    · skip
      refine lv_iconst (v := 0) hx hb dX9_wrong_27 (by decide) ?_
      exact W.iret (v := 0) hx hb hr (fun t ht hW => ⟨0, rfl, (by first | exact Or.inr (Or.inr (⟨rfl, (by first | assumption | omega | exact Or.inl (by first | assumption | omega) | exact Or.inr (by first | assumption | omega)), (by first | assumption | omega | exact Or.inl (by first | assumption | omega) | exact Or.inr (by first | assumption | omega))⟩))), ht⟩) (fun q h => by cases h) dX9_wrong_28 hlk
    · skip
      refine lv_ldcw (v := (-1000000006)) hx hb hown (hu _ uw910) dX9_wrong_21 ?_
      refine lv_goto (tgt := 28) hx hb dX9_wrong_24 (by decide) ?_
      exact W.iret (v := (-1000000006)) hx hb hr (fun t ht hW => ⟨(-1000000006), rfl, (by first | exact Or.inr (Or.inl rfl)), ht⟩) (fun q h => by cases h) dX9_wrong_28 hlk
  · skip
    refine lv_if_ne (tgt := 12) hx hb dX9_wrong_4 (by decide) (fun c_7 => absurd (by decide) c_7) (fun c_7 => ?_)
    refine lv_ldc (v := (-1000000001)) hx hb hown (hu _ uw648) dX9_wrong_7 ?_
    refine lv_goto (tgt := 28) hx hb dX9_wrong_9 (by decide) ?_
    exact W.iret (v := (-1000000001)) hx hb hr (fun t ht hW => ⟨(-1000000001), rfl, (by first | exact Or.inl rfl), ht⟩) (fun q h => by cases h) dX9_wrong_28 hlk
set_option maxHeartbeats 4000000 in
set_option maxRecDepth 100000 in
theorem c_X9_read (l : Launch) (D : va_G) (cI cJ cZ cS : ClassId) (ta : Nat) (sa sv : Nat → Nat) (sz : Nat) (h0 : Nat) (ys : Nat) (yk : Nat) (yo : Nat) (yt : Nat) (mk0 : Int32) (yfa : Nat) (yfe : Nat) (mL : Int32) (mS : Int32) (mM : Int32) (yro : Nat) (yhe : Nat) (ygr : Nat) (mF : Int32) (mC : Int32) (mY : Int32) (yta : Nat) (mz : Nat) (mf : Nat) (mt : Nat) (mv : Int32) (mw : Int32) (ywa : Nat) (ybi : Nat) (ysi : Nat) (ynu : Nat) (ymo : Nat) (ms : Nat → Int32) (fa : Nat → Int32) (fe : Nat → Int32) (bi : Nat → Int32) (sq : Nat → Int32) (nb : Nat → Int64) (mq : Nat → Int32) (P : Nat) (Rn : Nat) (Wn : Nat) (fae : Nat → Int32) (fal : Nat → Int32) (fau : Nat → Int32) (fao : Nat → Int32) (farn : Nat → Int32) (farp : Nat → Int32) (fak : Nat → Int32) (fawn : Nat → Int32) (fawp : Nat → Int32) (fat : Nat → Int32) (fas : Nat → Int32) (p0 : Int32) (hsq : BA 4 41 sq) (hs0 : ms 0 = nI P) (hs1 : ms 1 = nI Rn) (hs2 : ms 2 = nI Wn) (hsS : SI ms) (hsM : MI ms) (hsp : P ≤ 10) (hsr : Rn ≤ 8) (hsw : Wn ≤ 8) (hsR : RI Rn ms) (hsG : FR P ms fae fal fau fao farn farp fak fawn fawp fat fas) : Met l yX9_read (Cond.code yX9_read cX9_read 9 (some .int) :: wsU) ({ frames := 3, cells := 0, slots := 0, locals := 66 }) (va_Pc [.ref h0, .int p0] (XW D (xT cI cJ cZ cS) ta sa sv [(h0, .inr (9, [.ref ys, .ref yk, .ref yo, .ref yt, .int mk0, .ref yfa, .ref yfe, .int mL, .int mS, .int mM, .ref yro, .ref yhe, .ref ygr, .int mF, .int mC, .int mY, .ref yta, .int (nI (mz)), .int (nI (mf)), .int (nI (mt)), .int mv, .int mw, .ref ywa, .ref ybi, .ref ysi, .ref ynu, .ref ymo])), (ys, .inl (cI, 449, .inl ms)), (yfa, .inl (cI, 100, .inl fa)), (yfe, .inl (cI, 100, .inl fe)), (ybi, .inl (cI, 4, .inl bi)), (ysi, .inl (cI, 4, .inl sq)), (ynu, .inl (cJ, 160, .inr (.inl nb))), (yt, .inl (cI, 7, .inl mq))] sz)) (XQi (fun (r : Int32) (u : Int32 × (Nat → Int32) × (Nat → Int32) × (Nat → Int32)) => match u with | (mL2, fa2, fe2, mq2) => (True)) D (fun (u : Int32 × (Nat → Int32) × (Nat → Int32) × (Nat → Int32)) => match u with | (mL2, fa2, fe2, mq2) => [(h0, .inr (9, [.ref ys, .ref yk, .ref yo, .ref yt, .int mk0, .ref yfa, .ref yfe, .int mL2, .int mS, .int mM, .ref yro, .ref yhe, .ref ygr, .int mF, .int mC, .int mY, .ref yta, .int (nI (mz)), .int (nI (mf)), .int (nI (mt)), .int mv, .int mw, .ref ywa, .ref ybi, .ref ysi, .ref ynu, .ref ymo])), (ys, .inl (cI, 449, .inl ms)), (yfa, .inl (cI, 100, .inl fa2)), (yfe, .inl (cI, 100, .inl fe2)), (ybi, .inl (cI, 4, .inl bi)), (ysi, .inl (cI, 4, .inl sq)), (ynu, .inl (cJ, 160, .inr (.inl nb))), (yt, .inl (cI, 7, .inl mq2))]) (va_A [(h0, .inr (9, [.ref ys, .ref yk, .ref yo, .ref yt, .int mk0, .ref yfa, .ref yfe, .int mL, .int mS, .int mM, .ref yro, .ref yhe, .ref ygr, .int mF, .int mC, .int mY, .ref yta, .int (nI (mz)), .int (nI (mf)), .int (nI (mt)), .int mv, .int mw, .ref ywa, .ref ybi, .ref ysi, .ref ynu, .ref ymo])), (ys, .inl (cI, 449, .inl ms)), (yfa, .inl (cI, 100, .inl fa)), (yfe, .inl (cI, 100, .inl fe)), (ybi, .inl (cI, 4, .inl bi)), (ysi, .inl (cI, 4, .inl sq)), (ynu, .inl (cJ, 160, .inr (.inl nb))), (yt, .inl (cI, 7, .inl mq))] sz)) 0 0 (va_A [(h0, .inr (9, [.ref ys, .ref yk, .ref yo, .ref yt, .int mk0, .ref yfa, .ref yfe, .int mL, .int mS, .int mM, .ref yro, .ref yhe, .ref ygr, .int mF, .int mC, .int mY, .ref yta, .int (nI (mz)), .int (nI (mf)), .int (nI (mt)), .int mv, .int mw, .ref ywa, .ref ybi, .ref ysi, .ref ynu, .ref ymo])), (ys, .inl (cI, 449, .inl ms)), (yfa, .inl (cI, 100, .inl fa)), (yfe, .inl (cI, 100, .inl fe)), (ybi, .inl (cI, 4, .inl bi)), (ysi, .inl (cI, 4, .inl sq)), (ynu, .inl (cJ, 160, .inr (.inl nb))), (yt, .inl (cI, 7, .inl mq))] sz) := by
  refine xh (QA := fun A => XQi (fun (r : Int32) (u : Int32 × (Nat → Int32) × (Nat → Int32) × (Nat → Int32)) => match u with | (mL2, fa2, fe2, mq2) => (True)) D (fun (u : Int32 × (Nat → Int32) × (Nat → Int32) × (Nat → Int32)) => match u with | (mL2, fa2, fe2, mq2) => [(h0, .inr (9, [.ref ys, .ref yk, .ref yo, .ref yt, .int mk0, .ref yfa, .ref yfe, .int mL2, .int mS, .int mM, .ref yro, .ref yhe, .ref ygr, .int mF, .int mC, .int mY, .ref yta, .int (nI (mz)), .int (nI (mf)), .int (nI (mt)), .int mv, .int mw, .ref ywa, .ref ybi, .ref ysi, .ref ynu, .ref ymo])), (ys, .inl (cI, 449, .inl ms)), (yfa, .inl (cI, 100, .inl fa2)), (yfe, .inl (cI, 100, .inl fe2)), (ybi, .inl (cI, 4, .inl bi)), (ysi, .inl (cI, 4, .inl sq)), (ynu, .inl (cJ, 160, .inr (.inl nb))), (yt, .inl (cI, 7, .inl mq2))]) A) (fr := fun A => A) (by decide) (Nat.le_of_ble_eq_true rfl) ?_
  intro p e s m below meth c ls A hF hr hlk hin hsz hP hK hD hN hZ hA hS hl
  have hF : CallFix p m c cX9_read 9 s _ _ RX9 := hF
  have hx := hF.1
  have hb := hF.2.1
  have hml := hF.2.2.1
  have hown := hF.2.2.2.1
  have hu : ∀ w ∈ wsU, w.before _ s = true := fun w h => hF.2.2.2.2 w (List.mem_cons_of_mem _ h)
  have hl : lv_has ls 9 [(0, .ref h0), (1, .int p0)] := hl
  refine lv_aload_n hx hb dX9_read_0 rfl (lv_at hl 0 rfl) ?_
  refine lv_iload_n hx hb dX9_read_1 rfl (lv_at hl 1 rfl) ?_
  refine xc_Vr hF (c_X9_wrong l D cI cJ cZ cS ta sa sv s.heap.size h0 ys yk yo yt mk0 yfa yfe mL mS mM yro yhe ygr mF mC mY yta mz mf mt mv mw ywa ybi ysi ynu ymo bi p0 ) kv_X9_310 ⟨rfl, rfl, Nat.le_of_ble_eq_true rfl, Nat.le_of_ble_eq_true rfl⟩ ⟨Nat.le_of_ble_eq_true rfl, Nat.le_of_ble_eq_true rfl⟩ hK hN hZ hP hD hS hA [0, 4] rfl rfl 0 rfl rfl rfl rfl hl.1 rfl (Nat.le_of_ble_eq_true rfl) dX9_read_2 (fun r_1 hw_r_1 => ?_)
  rcases hw_r_1 with rfl | rfl | ⟨rfl, h_2, h_3⟩
  · skip
    refine lv_istore_n (lv' := [(2, .int (-1000000001)), (0, .ref h0), (1, .int p0)]) hx hb dX9_read_5 rfl hl (by decide) rfl (fun ls hl => ?_)
    refine lv_iload_n hx hb dX9_read_6 rfl (lv_at hl 0 rfl) ?_
    refine lv_if_eq (tgt := 16) hx hb dX9_read_7 (by decide) (fun c_4 => absurd c_4 (by decide)) (fun c_4 => ?_)
    refine lv_aload_n hx hb dX9_read_10 rfl (lv_at hl 1 rfl) ?_
    refine lv_iload_n hx hb dX9_read_11 rfl (lv_at hl 0 rfl) ?_
    refine xc_Vi (wr := [(ys, .inl (cI, 449, .inl ms)), (yfa, .inl (cI, 100, .inl fa)), (yfe, .inl (cI, 100, .inl fe)), (ybi, .inl (cI, 4, .inl bi)), (ysi, .inl (cI, 4, .inl sq)), (ynu, .inl (cJ, 160, .inr (.inl nb)))]) hF (c_X9_finds_B l D cI cJ cZ cS ta sa sv s.heap.size h0 ys yk yo yt mk0 yfa yfe mL mS mM yro yhe ygr mF mC mY yta mz mf mt mv mw ywa ybi ysi ynu ymo mq ) kv_X9_70 ⟨rfl, rfl, Nat.le_of_ble_eq_true rfl, Nat.le_of_ble_eq_true rfl⟩ ⟨Nat.le_of_ble_eq_true rfl, Nat.le_of_ble_eq_true rfl⟩ hK hN hZ hP hD hS hA [0, 7] [1, 2, 3, 4, 5, 6] rfl rfl rfl (by decide +kernel) (by decide +kernel) 0 rfl rfl rfl rfl hl.1 rfl (Nat.le_of_ble_eq_true rfl) dX9_read_12 (fun r_5 u_r_5 H locs hw_r_5 hP hD hS => ?_)
    obtain ⟨mq2_6, rfl⟩ : ∃ z, z = u_r_5 := ⟨_, rfl⟩
    try dsimp only at hw_r_5
    have hP : va_P D vwCl [(ys, .inl (cI, 449, .inl ms)), (yfa, .inl (cI, 100, .inl fa)), (yfe, .inl (cI, 100, .inl fe)), (ybi, .inl (cI, 4, .inl bi)), (ysi, .inl (cI, 4, .inl sq)), (ynu, .inl (cJ, 160, .inr (.inl nb))), (h0, .inr (9, [.ref ys, .ref yk, .ref yo, .ref yt, .int mk0, .ref yfa, .ref yfe, .int mL, .int mS, .int mM, .ref yro, .ref yhe, .ref ygr, .int mF, .int mC, .int mY, .ref yta, .int (nI (mz)), .int (nI (mf)), .int (nI (mt)), .int mv, .int mw, .ref ywa, .ref ybi, .ref ysi, .ref ynu, .ref ymo])), (yt, .inl (cI, 7, .inl mq2_6))] H := hP
    have hD : va_D A [(ys, .inl (cI, 449, .inl ms)), (yfa, .inl (cI, 100, .inl fa)), (yfe, .inl (cI, 100, .inl fe)), (ybi, .inl (cI, 4, .inl bi)), (ysi, .inl (cI, 4, .inl sq)), (ynu, .inl (cJ, 160, .inr (.inl nb))), (h0, .inr (9, [.ref ys, .ref yk, .ref yo, .ref yt, .int mk0, .ref yfa, .ref yfe, .int mL, .int mS, .int mM, .ref yro, .ref yhe, .ref ygr, .int mF, .int mC, .int mY, .ref yta, .int (nI (mz)), .int (nI (mf)), .int (nI (mt)), .int mv, .int mw, .ref ywa, .ref ybi, .ref ysi, .ref ynu, .ref ymo])), (yt, .inl (cI, 7, .inl mq2_6))] := hD
    subst hw_r_5
    exact W.iret (v := (-1000000001)) hx hb hr (fun t ht hW => ⟨⟨(-1000000001), (mL, fa, fe, mq2_6), rfl, trivial, by rw [ht]; exact hP.sub [6, 0, 1, 2, 3, 4, 5, 7] rfl, hD.sub [6, 0, 1, 2, 3, 4, 5, 7] (by decide +kernel) rfl⟩, hS.F ht⟩) hS.2.2 dX9_read_15 hlk
  · skip
    refine lv_istore_n (lv' := [(2, .int (-1000000006)), (0, .ref h0), (1, .int p0)]) hx hb dX9_read_5 rfl hl (by decide) rfl (fun ls hl => ?_)
    refine lv_iload_n hx hb dX9_read_6 rfl (lv_at hl 0 rfl) ?_
    refine lv_if_eq (tgt := 16) hx hb dX9_read_7 (by decide) (fun c_7 => absurd c_7 (by decide)) (fun c_7 => ?_)
    refine lv_aload_n hx hb dX9_read_10 rfl (lv_at hl 1 rfl) ?_
    refine lv_iload_n hx hb dX9_read_11 rfl (lv_at hl 0 rfl) ?_
    refine xc_Vi (wr := [(ys, .inl (cI, 449, .inl ms)), (yfa, .inl (cI, 100, .inl fa)), (yfe, .inl (cI, 100, .inl fe)), (ybi, .inl (cI, 4, .inl bi)), (ysi, .inl (cI, 4, .inl sq)), (ynu, .inl (cJ, 160, .inr (.inl nb)))]) hF (c_X9_finds_M l D cI cJ cZ cS ta sa sv s.heap.size h0 ys yk yo yt mk0 yfa yfe mL mS mM yro yhe ygr mF mC mY yta mz mf mt mv mw ywa ybi ysi ynu ymo mq ) kv_X9_70 ⟨rfl, rfl, Nat.le_of_ble_eq_true rfl, Nat.le_of_ble_eq_true rfl⟩ ⟨Nat.le_of_ble_eq_true rfl, Nat.le_of_ble_eq_true rfl⟩ hK hN hZ hP hD hS hA [0, 7] [1, 2, 3, 4, 5, 6] rfl rfl rfl (by decide +kernel) (by decide +kernel) 0 rfl rfl rfl rfl hl.1 rfl (Nat.le_of_ble_eq_true rfl) dX9_read_12 (fun r_8 u_r_8 H locs hw_r_8 hP hD hS => ?_)
    obtain ⟨mq2_9, rfl⟩ : ∃ z, z = u_r_8 := ⟨_, rfl⟩
    try dsimp only at hw_r_8
    have hP : va_P D vwCl [(ys, .inl (cI, 449, .inl ms)), (yfa, .inl (cI, 100, .inl fa)), (yfe, .inl (cI, 100, .inl fe)), (ybi, .inl (cI, 4, .inl bi)), (ysi, .inl (cI, 4, .inl sq)), (ynu, .inl (cJ, 160, .inr (.inl nb))), (h0, .inr (9, [.ref ys, .ref yk, .ref yo, .ref yt, .int mk0, .ref yfa, .ref yfe, .int mL, .int mS, .int mM, .ref yro, .ref yhe, .ref ygr, .int mF, .int mC, .int mY, .ref yta, .int (nI (mz)), .int (nI (mf)), .int (nI (mt)), .int mv, .int mw, .ref ywa, .ref ybi, .ref ysi, .ref ynu, .ref ymo])), (yt, .inl (cI, 7, .inl mq2_9))] H := hP
    have hD : va_D A [(ys, .inl (cI, 449, .inl ms)), (yfa, .inl (cI, 100, .inl fa)), (yfe, .inl (cI, 100, .inl fe)), (ybi, .inl (cI, 4, .inl bi)), (ysi, .inl (cI, 4, .inl sq)), (ynu, .inl (cJ, 160, .inr (.inl nb))), (h0, .inr (9, [.ref ys, .ref yk, .ref yo, .ref yt, .int mk0, .ref yfa, .ref yfe, .int mL, .int mS, .int mM, .ref yro, .ref yhe, .ref ygr, .int mF, .int mC, .int mY, .ref yta, .int (nI (mz)), .int (nI (mf)), .int (nI (mt)), .int mv, .int mw, .ref ywa, .ref ybi, .ref ysi, .ref ynu, .ref ymo])), (yt, .inl (cI, 7, .inl mq2_9))] := hD
    subst hw_r_8
    exact W.iret (v := (-1000000006)) hx hb hr (fun t ht hW => ⟨⟨(-1000000006), (mL, fa, fe, mq2_9), rfl, trivial, by rw [ht]; exact hP.sub [6, 0, 1, 2, 3, 4, 5, 7] rfl, hD.sub [6, 0, 1, 2, 3, 4, 5, 7] (by decide +kernel) rfl⟩, hS.F ht⟩) hS.2.2 dX9_read_15 hlk
  · skip
    refine lv_istore_n (lv' := [(2, .int 0), (0, .ref h0), (1, .int p0)]) hx hb dX9_read_5 rfl hl (by decide) rfl (fun ls hl => ?_)
    refine lv_iload_n hx hb dX9_read_6 rfl (lv_at hl 0 rfl) ?_
    refine lv_if_eq (tgt := 16) hx hb dX9_read_7 (by decide) (fun c_10 => ?_) (fun c_10 => absurd (by decide) c_10)
    obtain ⟨y_11, hy_11, rfl⟩ := xrange (w := 3) (by omega) h_2 h_3
    refine lv_aload_n hx hb dX9_read_16 rfl (lv_at hl 1 rfl) ?_
    refine xc_Vv (wr := [(ybi, .inl (cI, 4, .inl bi)), (ysi, .inl (cI, 4, .inl sq)), (ynu, .inl (cJ, 160, .inr (.inl nb))), (yt, .inl (cI, 7, .inl mq))]) hF (c_X9_findFar l D cI cJ cZ cS ta sa sv s.heap.size h0 ys yk yo yt mk0 yfa yfe mL mS mM yro yhe ygr mF mC mY yta mz mf mt mv mw ywa ybi ysi ynu ymo ms fa fe P Rn Wn fae fal fau fao farn farp fak fawn fawp fat fas hs0 hs1 hs2 hsS hsM hsp hsr hsw hsR hsG) kv_X9_113 ⟨rfl, rfl, Nat.le_of_ble_eq_true rfl, Nat.le_of_ble_eq_true rfl⟩ ⟨Nat.le_of_ble_eq_true rfl, Nat.le_of_ble_eq_true rfl⟩ hK hN hZ hP hD hS hA [0, 1, 2, 3] [4, 5, 6, 7] rfl rfl (by decide +kernel) (by decide +kernel) (by decide +kernel) 0 rfl rfl rfl rfl hl.1 rfl (Nat.le_of_ble_eq_true rfl) dX9_read_17 (fun u_r_12 H locs hw_r_12 hP hD hS => ?_)
    obtain ⟨mL2_13, fa2_14, fe2_15⟩ := u_r_12
    try dsimp only at hw_r_12
    have i_16 := hw_r_12
    have hP : va_P D vwCl [(ybi, .inl (cI, 4, .inl bi)), (ysi, .inl (cI, 4, .inl sq)), (ynu, .inl (cJ, 160, .inr (.inl nb))), (yt, .inl (cI, 7, .inl mq)), (h0, .inr (9, [.ref ys, .ref yk, .ref yo, .ref yt, .int mk0, .ref yfa, .ref yfe, .int mL2_13, .int mS, .int mM, .ref yro, .ref yhe, .ref ygr, .int mF, .int mC, .int mY, .ref yta, .int (nI (mz)), .int (nI (mf)), .int (nI (mt)), .int mv, .int mw, .ref ywa, .ref ybi, .ref ysi, .ref ynu, .ref ymo])), (ys, .inl (cI, 449, .inl ms)), (yfa, .inl (cI, 100, .inl fa2_14)), (yfe, .inl (cI, 100, .inl fe2_15))] H := hP
    have hD : va_D A [(ybi, .inl (cI, 4, .inl bi)), (ysi, .inl (cI, 4, .inl sq)), (ynu, .inl (cJ, 160, .inr (.inl nb))), (yt, .inl (cI, 7, .inl mq)), (h0, .inr (9, [.ref ys, .ref yk, .ref yo, .ref yt, .int mk0, .ref yfa, .ref yfe, .int mL2_13, .int mS, .int mM, .ref yro, .ref yhe, .ref ygr, .int mF, .int mC, .int mY, .ref yta, .int (nI (mz)), .int (nI (mf)), .int (nI (mt)), .int mv, .int mw, .ref ywa, .ref ybi, .ref ysi, .ref ynu, .ref ymo])), (ys, .inl (cI, 449, .inl ms)), (yfa, .inl (cI, 100, .inl fa2_14)), (yfe, .inl (cI, 100, .inl fe2_15))] := hD
    refine lv_aload_n hx hb dX9_read_20 rfl (lv_at hl 1 rfl) ?_
    refine xg hF kf_X9_109 hK hP 4 rfl rfl dX9_read_21 ?_
    refine lv_if_eq (tgt := 34) hx hb dX9_read_24 (by decide) (fun c_17 => ?_) (fun c_17 => ?_)
    · skip
      refine lv_aload_n hx hb dX9_read_34 rfl (lv_at hl 1 rfl) ?_
      refine xg hF kf_X9_46 hK hP 4 rfl rfl dX9_read_35 ?_
      refine lv_iload_n hx hb dX9_read_38 rfl (lv_at hl 2 rfl) ?_
      refine va_iald hx hb hK hP 1 0 rfl rfl (vp_in_nI (show y_11 < 4 by omega) (by decide)) dX9_read_39 ?_
      refine xl_i (y := sq y_11) (congrArg sq (nI_clamp (show y_11 < 2 ^ 31 by omega))) ?_
      obtain ⟨q_18, hq_18, eq_18⟩ := hsq y_11 (by omega)
      refine xl_i (y := nI (q_18)) eq_18 ?_
      refine lv_istore_n (lv' := [(3, .int (nI (q_18))), (2, .int 0), (0, .ref h0), (1, .int (nI (y_11)))]) hx hb dX9_read_40 rfl hl (by decide) rfl (fun ls hl => ?_)
      refine lv_iconst (v := 0) hx hb dX9_read_41 (by decide) ?_
      refine lv_istore (lv' := [(4, .int 0), (3, .int (nI (q_18))), (2, .int 0), (0, .ref h0), (1, .int (nI (y_11)))]) hx hb dX9_read_42 hl (by decide) rfl (fun ls hl => ?_)
      refine lv_iconst (v := 0) hx hb dX9_read_44 (by decide) ?_
      refine lv_istore (lv' := [(5, .int 0), (4, .int 0), (3, .int (nI (q_18))), (2, .int 0), (0, .ref h0), (1, .int (nI (y_11)))]) hx hb dX9_read_45 hl (by decide) rfl (fun ls hl => ?_)
      suffices loop_47 : ∀ (n_47 : Nat) (i : Nat) (u8 : Int32) (H : Heap) (locs : List Loc) (ls : Array Slot), q_18 - i < n_47 → (i ≤ q_18) → (rd_A P nb (40 * y_11) i) → va_P D vwCl [(ybi, .inl (cI, 4, .inl bi)), (ysi, .inl (cI, 4, .inl sq)), (ynu, .inl (cJ, 160, .inr (.inl nb))), (yt, .inl (cI, 7, .inl mq)), (h0, .inr (9, [.ref ys, .ref yk, .ref yo, .ref yt, .int mk0, .ref yfa, .ref yfe, .int mL2_13, .int mS, .int mM, .ref yro, .ref yhe, .ref ygr, .int mF, .int mC, .int mY, .ref yta, .int (nI (mz)), .int (nI (mf)), .int (nI (mt)), .int mv, .int mw, .ref ywa, .ref ybi, .ref ysi, .ref ynu, .ref ymo])), (ys, .inl (cI, 449, .inl ms)), (yfa, .inl (cI, 100, .inl fa2_14)), (yfe, .inl (cI, 100, .inl fe2_15))] H → va_D A [(ybi, .inl (cI, 4, .inl bi)), (ysi, .inl (cI, 4, .inl sq)), (ynu, .inl (cJ, 160, .inr (.inl nb))), (yt, .inl (cI, 7, .inl mq)), (h0, .inr (9, [.ref ys, .ref yk, .ref yo, .ref yt, .int mk0, .ref yfa, .ref yfe, .int mL2_13, .int mS, .int mM, .ref yro, .ref yhe, .ref ygr, .int mF, .int mC, .int mY, .ref yta, .int (nI (mz)), .int (nI (mf)), .int (nI (mt)), .int mv, .int mw, .ref ywa, .ref ybi, .ref ysi, .ref ynu, .ref ymo])), (ys, .inl (cI, 449, .inl ms)), (yfa, .inl (cI, 100, .inl fa2_14)), (yfe, .inl (cI, 100, .inl fe2_15))] → va_S A s.heap H locs → lv_has ls 9 [(5, .int (nI (i))), (4, .int u8), (3, .int (nI (q_18))), (2, .int 0), (0, .ref h0), (1, .int (nI (y_11)))] → W p l e ({ frames := 3, cells := 0, slots := 0, locals := 66 }) s m ([.ref h0, .int (nI (y_11))] : List Value).toArray below meth c H locs 0 0 (MQ below (XQi (fun (r : Int32) (u : Int32 × (Nat → Int32) × (Nat → Int32) × (Nat → Int32)) => match u with | (mL2, fa2, fe2, mq2) => (True)) D (fun (u : Int32 × (Nat → Int32) × (Nat → Int32) × (Nat → Int32)) => match u with | (mL2, fa2, fe2, mq2) => [(h0, .inr (9, [.ref ys, .ref yk, .ref yo, .ref yt, .int mk0, .ref yfa, .ref yfe, .int mL2, .int mS, .int mM, .ref yro, .ref yhe, .ref ygr, .int mF, .int mC, .int mY, .ref yta, .int (nI (mz)), .int (nI (mf)), .int (nI (mt)), .int mv, .int mw, .ref ywa, .ref ybi, .ref ysi, .ref ynu, .ref ymo])), (ys, .inl (cI, 449, .inl ms)), (yfa, .inl (cI, 100, .inl fa2)), (yfe, .inl (cI, 100, .inl fe2)), (ybi, .inl (cI, 4, .inl bi)), (ysi, .inl (cI, 4, .inl sq)), (ynu, .inl (cJ, 160, .inr (.inl nb))), (yt, .inl (cI, 7, .inl mq2))]) A) ([.ref h0, .int (nI (y_11))] : List Value).toArray s 0 0 A) (F0 m 47 ls []) by
        exact loop_47 _ 0 0 _ _ _ (Nat.lt_succ_self _) (by omega) rd_A.zero hP hD hS (lv_sub hl [0, 1, 2, 3, 4, 5] rfl)
      intro n_47
      induction n_47 with
      | zero =>
        intro i u8 H locs ls hm_47
        exact absurd hm_47 (Nat.not_lt_zero _)
      | succ n_47 ih_47 =>
        intro i u8 H locs ls hm_47 hi hr8 hP hD hS hl
        refine lv_iload hx hb dX9_read_47 (lv_at hl 0 rfl) ?_
        refine lv_iload_n hx hb dX9_read_49 rfl (lv_at hl 2 rfl) ?_
        refine lv_icmp_ge (tgt := 158) hx hb dX9_read_50 (by decide) (fun c_19 => ?_) (fun c_19 => ?_)
        · skip
          have nc_19 : q_18 ≤ i := xn_le (a := q_18) (b := i) (by omega) (by omega) c_19
          refine lv_iload_n hx hb dX9_read_158 rfl (lv_at hl 2 rfl) ?_
          refine lv_iconst (v := 2) hx hb dX9_read_159 (by decide) ?_
          refine lv_icmp_ge (tgt := 165) hx hb dX9_read_160 (by decide) (fun c_20 => ?_) (fun c_20 => ?_)
          · skip
            have nc_20 : 2 ≤ q_18 := xn_le (a := 2) (b := q_18) (by omega) (by omega) c_20
            refine lv_iload hx hb dX9_read_165 (lv_at hl 1 rfl) ?_
            refine lv_aload_n hx hb dX9_read_167 rfl (lv_at hl 4 rfl) ?_
            refine xg hF kf_X9_22 hK hP 4 rfl rfl dX9_read_168 ?_
            refine lv_bipush (v := 10) hx hb dX9_read_171 (by decide) ?_
            refine lv_aload_n hx hb dX9_read_173 rfl (lv_at hl 4 rfl) ?_
            refine xg hF kf_X9_49 hK hP 4 rfl rfl dX9_read_174 ?_
            refine lv_bipush (v := 40) hx hb dX9_read_177 (by decide) ?_
            refine lv_iload_n hx hb dX9_read_179 rfl (lv_at hl 5 rfl) ?_
            refine lv_imul hx hb dX9_read_180 ?_
            refine xl_i (y := nI (40 * y_11)) (pk_mul 40 y_11) ?_
            refine va_lald hx hb hK hP 2 1 rfl rfl (vp_in_nI (show 40 * y_11 < 160 by omega) (by decide)) dX9_read_181 ?_
            refine xl_l (y := nb (40 * y_11)) (congrArg nb (nI_clamp (show 40 * y_11 < 2 ^ 31 by omega))) ?_
            obtain ⟨y7, hy7, ey7⟩ := hr8 0 (by omega)
            rw [show 40 * y_11 + 0 = 40 * y_11 by omega] at ey7
            refine lv_l2i (v := (nb (40 * y_11)).toInt32) hx hb dX9_read_182 rfl ?_
            refine xl_i (y := nI (y7)) ey7 ?_
            refine lv_imul hx hb dX9_read_183 ?_
            refine xl_i (y := nI (10 * y7)) (pk_mul 10 y7) ?_
            refine lv_aload_n hx hb dX9_read_184 rfl (lv_at hl 4 rfl) ?_
            refine xg hF kf_X9_49 hK hP 4 rfl rfl dX9_read_185 ?_
            refine lv_bipush (v := 40) hx hb dX9_read_188 (by decide) ?_
            refine lv_iload_n hx hb dX9_read_190 rfl (lv_at hl 5 rfl) ?_
            refine lv_imul hx hb dX9_read_191 ?_
            refine xl_i (y := nI (40 * y_11)) (pk_mul 40 y_11) ?_
            refine lv_iload_n hx hb dX9_read_192 rfl (lv_at hl 2 rfl) ?_
            refine lv_iadd hx hb dX9_read_193 ?_
            refine xl_i (y := nI (40 * y_11 + q_18)) (nI_add (40 * y_11) q_18) ?_
            refine lv_iconst (v := 1) hx hb dX9_read_194 (by decide) ?_
            refine lv_isub hx hb dX9_read_195 ?_
            refine xl_i (y := nI (40 * y_11 + q_18 - 1)) (pk_sub (show 1 ≤ 40 * y_11 + q_18 by omega)) ?_
            refine va_lald hx hb hK hP 2 1 rfl rfl (vp_in_nI (show 40 * y_11 + q_18 - 1 < 160 by omega) (by decide)) dX9_read_196 ?_
            refine xl_l (y := nb (40 * y_11 + q_18 - 1)) (congrArg nb (nI_clamp (show 40 * y_11 + q_18 - 1 < 2 ^ 31 by omega))) ?_
            obtain ⟨y6, hy6, ey6⟩ := hr8 (q_18 - 1) (by omega)
            rw [show 40 * y_11 + (q_18 - 1) = 40 * y_11 + q_18 - 1 by omega] at ey6
            refine lv_l2i (v := (nb (40 * y_11 + q_18 - 1)).toInt32) hx hb dX9_read_197 rfl ?_
            refine xl_i (y := nI (y6)) ey6 ?_
            refine lv_iadd hx hb dX9_read_198 ?_
            refine xl_i (y := nI (10 * y7 + y6)) (nI_add (10 * y7) y6) ?_
            refine va_iald hx hb hK hP 6 0 rfl rfl (vp_in_nI (show 10 * y7 + y6 < 100 by omega) (by decide)) dX9_read_199 ?_
            refine xl_i (y := fa2_14 (10 * y7 + y6)) (congrArg fa2_14 (nI_clamp (show 10 * y7 + y6 < 2 ^ 31 by omega))) ?_
            refine lv_icmp_ne (tgt := 207) hx hb dX9_read_200 (by decide) (fun c_21 => ?_) (fun c_21 => ?_)
            · skip
              refine lv_iconst (v := 1) hx hb dX9_read_207 (by decide) ?_
              refine lv_iload_n hx hb dX9_read_208 rfl (lv_at hl 2 rfl) ?_
              refine lv_iadd hx hb dX9_read_209 ?_
              refine xl_i (y := nI (1 + q_18)) (nI_add 1 q_18) ?_
              exact W.iret (v := nI (1 + q_18)) hx hb hr (fun t ht hW => ⟨⟨nI (1 + q_18), (mL2_13, fa2_14, fe2_15, mq), rfl, trivial, by rw [ht]; exact hP.sub [4, 5, 6, 7, 0, 1, 2, 3] rfl, hD.sub [4, 5, 6, 7, 0, 1, 2, 3] (by decide +kernel) rfl⟩, hS.F ht⟩) hS.2.2 dX9_read_210 hlk
            · skip
              refine lv_iconst (v := 0) hx hb dX9_read_203 (by decide) ?_
              refine lv_goto (tgt := 210) hx hb dX9_read_204 (by decide) ?_
              exact W.iret (v := 0) hx hb hr (fun t ht hW => ⟨⟨0, (mL2_13, fa2_14, fe2_15, mq), rfl, trivial, by rw [ht]; exact hP.sub [4, 5, 6, 7, 0, 1, 2, 3] rfl, hD.sub [4, 5, 6, 7, 0, 1, 2, 3] (by decide +kernel) rfl⟩, hS.F ht⟩) hS.2.2 dX9_read_210 hlk
          · skip
            have nc_20 : q_18 < 2 := xn_nle (a := 2) (b := q_18) (by omega) (by omega) c_20
            refine lv_iconst (v := 1) hx hb dX9_read_163 (by decide) ?_
            exact W.iret (v := 1) hx hb hr (fun t ht hW => ⟨⟨1, (mL2_13, fa2_14, fe2_15, mq), rfl, trivial, by rw [ht]; exact hP.sub [4, 5, 6, 7, 0, 1, 2, 3] rfl, hD.sub [4, 5, 6, 7, 0, 1, 2, 3] (by decide +kernel) rfl⟩, hS.F ht⟩) hS.2.2 dX9_read_164 hlk
        · skip
          have nc_19 : i < q_18 := xn_nle (a := q_18) (b := i) (by omega) (by omega) c_19
          refine lv_aload_n hx hb dX9_read_53 rfl (lv_at hl 4 rfl) ?_
          refine xg hF kf_X9_49 hK hP 4 rfl rfl dX9_read_54 ?_
          refine lv_bipush (v := 40) hx hb dX9_read_57 (by decide) ?_
          refine lv_iload_n hx hb dX9_read_59 rfl (lv_at hl 5 rfl) ?_
          refine lv_imul hx hb dX9_read_60 ?_
          refine xl_i (y := nI (40 * y_11)) (pk_mul 40 y_11) ?_
          refine lv_iload hx hb dX9_read_61 (lv_at hl 0 rfl) ?_
          refine lv_iadd hx hb dX9_read_63 ?_
          refine xl_i (y := nI (40 * y_11 + i)) (nI_add (40 * y_11) i) ?_
          refine va_lald hx hb hK hP 2 1 rfl rfl (vp_in_nI (show 40 * y_11 + i < 160 by omega) (by decide)) dX9_read_64 ?_
          refine xl_l (y := nb (40 * y_11 + i)) (congrArg nb (nI_clamp (show 40 * y_11 + i < 2 ^ 31 by omega))) ?_
          refine lv_lstore (lv' := [(6, .long (nb (40 * y_11 + i))), (5, .int (nI (i))), (4, .int u8), (3, .int (nI (q_18))), (2, .int 0), (0, .ref h0), (1, .int (nI (y_11)))]) hx hb dX9_read_65 hl (by decide) rfl (fun ls hl => ?_)
          refine lv_lload hx hb dX9_read_67 (lv_at hl 0 rfl) ?_
          refine lv_lconst (v := 0) hx hb dX9_read_69 (by decide) ?_
          refine xl_l (y := (0 : Int32).toInt64) (by decide) ?_
          refine lv_aload_n hx hb dX9_read_70 rfl (lv_at hl 5 rfl) ?_
          refine xg hF kf_X9_7 hK hP 4 rfl rfl dX9_read_71 ?_
          refine lv_iconst (v := 0) hx hb dX9_read_74 (by decide) ?_
          refine va_iald hx hb hK hP 5 0 rfl rfl (xin 0 449 (by decide) (by decide)) dX9_read_75 ?_
          refine xl_i (y := nI (P)) hs0 ?_
          refine lv_iconst (v := 1) hx hb dX9_read_76 (by decide) ?_
          refine lv_isub hx hb dX9_read_77 ?_
          refine lv_topi (fun x_22 ex_22 => ?_)
          refine lv_i2l (v := x_22.toInt64) hx hb dX9_read_78 rfl ?_
          refine xc_Sr hF (c_X9_inL l D cI cJ cZ cS ta sa sv H.size (nb (40 * y_11 + i)) 0 x_22 ) ks_X9_57 ⟨rfl, rfl, Nat.le_of_ble_eq_true rfl, Nat.le_of_ble_eq_true rfl⟩ ⟨Nat.le_of_ble_eq_true rfl, Nat.le_of_ble_eq_true rfl⟩ hK hN hZ hP hD hS hA [] rfl rfl rfl hl.1 rfl (Nat.le_of_ble_eq_true rfl) dX9_read_79 (fun r_23 hw_r_23 => ?_)
          rcases hw_r_23 with ⟨rfl, h_24, h_25⟩ | ⟨rfl, h_26⟩
          · skip
            refine lv_if_ne (tgt := 90) hx hb dX9_read_82 (by decide) (fun c_27 => ?_) (fun c_27 => absurd c_27 (by decide))
            obtain ⟨y9, hy9, ey9⟩ := x_inP (by omega) ex_22 h_24 h_25
            refine lv_iload hx hb dX9_read_90 (lv_at hl 1 rfl) ?_
            refine lv_if_le (tgt := 152) hx hb dX9_read_92 (by decide) (fun c_28 => ?_) (fun c_28 => ?_)
            · skip
              have nc_28 : i ≤ 0 := xn_le (a := i) (b := 0) (by omega) (by omega) c_28
              refine lv_iinc (v := nI (i + 1)) (lv' := [(5, .int (nI (i + 1))), (6, .long (nb (40 * y_11 + i))), (4, .int u8), (3, .int (nI (q_18))), (2, .int 0), (0, .ref h0), (1, .int (nI (y_11)))]) hx hb dX9_read_152 hl (k := 1) rfl (nI_1 (i)) (by decide) rfl (fun ls hl => ?_)
              refine lv_goto (tgt := 47) hx hb dX9_read_155 (by decide) ?_
              exact ih_47 (i + 1) u8 _ _ _ (by omega) (by omega) (rd_A.more hr8 ⟨y9, hy9, ey9⟩) (hP.sub [0, 1, 2, 3, 4, 5, 6, 7] rfl) (hD.sub [0, 1, 2, 3, 4, 5, 6, 7] (by decide +kernel) rfl) hS (lv_sub hl [0, 2, 3, 4, 5, 6] rfl)
            · skip
              have nc_28 : 0 < i := xn_nle (a := i) (b := 0) (by omega) (by omega) c_28
              refine lv_aload_n hx hb dX9_read_95 rfl (lv_at hl 5 rfl) ?_
              refine xg hF kf_X9_49 hK hP 4 rfl rfl dX9_read_96 ?_
              refine lv_bipush (v := 40) hx hb dX9_read_99 (by decide) ?_
              refine lv_iload_n hx hb dX9_read_101 rfl (lv_at hl 6 rfl) ?_
              refine lv_imul hx hb dX9_read_102 ?_
              refine xl_i (y := nI (40 * y_11)) (pk_mul 40 y_11) ?_
              refine lv_iload hx hb dX9_read_103 (lv_at hl 1 rfl) ?_
              refine lv_iadd hx hb dX9_read_105 ?_
              refine xl_i (y := nI (40 * y_11 + i)) (nI_add (40 * y_11) i) ?_
              refine lv_iconst (v := 1) hx hb dX9_read_106 (by decide) ?_
              refine lv_isub hx hb dX9_read_107 ?_
              refine xl_i (y := nI (40 * y_11 + i - 1)) (pk_sub (show 1 ≤ 40 * y_11 + i by omega)) ?_
              refine va_lald hx hb hK hP 2 1 rfl rfl (vp_in_nI (show 40 * y_11 + i - 1 < 160 by omega) (by decide)) dX9_read_108 ?_
              refine xl_l (y := nb (40 * y_11 + i - 1)) (congrArg nb (nI_clamp (show 40 * y_11 + i - 1 < 2 ^ 31 by omega))) ?_
              obtain ⟨y8, hy8, ey8⟩ := hr8 (i - 1) (by omega)
              rw [show 40 * y_11 + (i - 1) = 40 * y_11 + i - 1 by omega] at ey8
              refine lv_l2i (v := (nb (40 * y_11 + i - 1)).toInt32) hx hb dX9_read_109 rfl ?_
              refine xl_i (y := nI (y8)) ey8 ?_
              refine lv_istore (lv' := [(8, .int (nI (y8))), (6, .long (nb (40 * y_11 + i))), (5, .int (nI (i))), (4, .int u8), (3, .int (nI (q_18))), (2, .int 0), (0, .ref h0), (1, .int (nI (y_11)))]) hx hb dX9_read_110 hl (by decide) rfl (fun ls hl => ?_)
              refine lv_lload hx hb dX9_read_112 (lv_at hl 1 rfl) ?_
              refine lv_iload hx hb dX9_read_114 (lv_at hl 0 rfl) ?_
              refine lv_i2l (v := (nI (y8)).toInt64) hx hb dX9_read_116 rfl ?_
              refine W.lcmp hx hb dX9_read_117 ?_
              refine lv_if_eq (tgt := 133) hx hb dX9_read_118 (by decide) (fun c_29 => ?_) (fun c_29 => ?_)
              · skip
                refine lv_iload hx hb dX9_read_133 (lv_at hl 2 rfl) ?_
                refine lv_iconst (v := 1) hx hb dX9_read_135 (by decide) ?_
                refine lv_iadd hx hb dX9_read_136 ?_
                refine xl_i (y := nI (i + 1)) (nI_add i 1) ?_
                exact W.iret (v := nI (i + 1)) hx hb hr (fun t ht hW => ⟨⟨nI (i + 1), (mL2_13, fa2_14, fe2_15, mq), rfl, trivial, by rw [ht]; exact hP.sub [4, 5, 6, 7, 0, 1, 2, 3] rfl, hD.sub [4, 5, 6, 7, 0, 1, 2, 3] (by decide +kernel) rfl⟩, hS.F ht⟩) hS.2.2 dX9_read_137 hlk
              · skip
                refine lv_aload_n hx hb dX9_read_121 rfl (lv_at hl 6 rfl) ?_
                refine lv_iload hx hb dX9_read_122 (lv_at hl 0 rfl) ?_
                refine lv_lload hx hb dX9_read_124 (lv_at hl 1 rfl) ?_
                refine lv_l2i (v := (nb (40 * y_11 + i)).toInt32) hx hb dX9_read_126 rfl ?_
                refine xl_i (y := nI (y9)) ey9 ?_
                refine xc_Vr hF (c_X9_isOpen l D cI cJ cZ cS ta sa sv H.size h0 ys yk yo yt mk0 yfa yfe mL2_13 mS mM yro yhe ygr mF mC mY yta mz mf mt mv mw ywa ybi ysi ynu ymo ms P Rn Wn fae fal fau fao farn farp fak fawn fawp fat fas y8 y9 (by omega) (by omega) hs0 hs1 hs2 hsS hsM hsp hsr hsw hsR hsG) kv_X9_97 ⟨rfl, rfl, Nat.le_of_ble_eq_true rfl, Nat.le_of_ble_eq_true rfl⟩ ⟨Nat.le_of_ble_eq_true rfl, Nat.le_of_ble_eq_true rfl⟩ hK hN hZ hP hD hS hA [4, 5] rfl rfl 0 rfl rfl rfl rfl hl.1 rfl (Nat.le_of_ble_eq_true rfl) dX9_read_127 (fun r_30 hw_r_30 => ?_)
                rcases hw_r_30 with ⟨rfl, h_31⟩ | ⟨rfl, h_32⟩
                · skip
                  refine lv_if_ne (tgt := 138) hx hb dX9_read_130 (by decide) (fun c_33 => ?_) (fun c_33 => absurd c_33 (by decide))
                  refine lv_iload hx hb dX9_read_138 (lv_at hl 3 rfl) ?_
                  refine lv_aload_n hx hb dX9_read_140 rfl (lv_at hl 6 rfl) ?_
                  refine lv_iload hx hb dX9_read_141 (lv_at hl 0 rfl) ?_
                  refine lv_lload hx hb dX9_read_143 (lv_at hl 1 rfl) ?_
                  refine lv_l2i (v := (nb (40 * y_11 + i)).toInt32) hx hb dX9_read_145 rfl ?_
                  refine xl_i (y := nI (y9)) ey9 ?_
                  refine xc_Vr hF (c_X9_miles l D cI cJ cZ cS ta sa sv H.size h0 ys yk yo yt mk0 yfa yfe mL2_13 mS mM yro yhe ygr mF mC mY yta mz mf mt mv mw ywa ybi ysi ynu ymo ms P Rn Wn fae fal fau fao farn farp fak fawn fawp fat fas y8 y9 (by omega) (by omega) hs0 hs1 hs2 hsS hsM hsp hsr hsw hsR hsG) kv_X9_100 ⟨rfl, rfl, Nat.le_of_ble_eq_true rfl, Nat.le_of_ble_eq_true rfl⟩ ⟨Nat.le_of_ble_eq_true rfl, Nat.le_of_ble_eq_true rfl⟩ hK hN hZ hP hD hS hA [4, 5] rfl rfl 0 rfl rfl rfl rfl hl.1 rfl (Nat.le_of_ble_eq_true rfl) dX9_read_146 (fun r_34 hw_r_34 => ?_)
                  subst hw_r_34
                  refine lv_iadd hx hb dX9_read_149 ?_
                  refine lv_topi (fun x_35 ex_35 => ?_)
                  refine lv_istore (lv' := [(4, .int x_35), (8, .int (nI (y8))), (6, .long (nb (40 * y_11 + i))), (5, .int (nI (i))), (3, .int (nI (q_18))), (2, .int 0), (0, .ref h0), (1, .int (nI (y_11)))]) hx hb dX9_read_150 hl (by decide) rfl (fun ls hl => ?_)
                  refine lv_iinc (v := nI (i + 1)) (lv' := [(5, .int (nI (i + 1))), (4, .int x_35), (8, .int (nI (y8))), (6, .long (nb (40 * y_11 + i))), (3, .int (nI (q_18))), (2, .int 0), (0, .ref h0), (1, .int (nI (y_11)))]) hx hb dX9_read_152 hl (k := 3) rfl (nI_1 (i)) (by decide) rfl (fun ls hl => ?_)
                  refine lv_goto (tgt := 47) hx hb dX9_read_155 (by decide) ?_
                  exact ih_47 (i + 1) x_35 _ _ _ (by omega) (by omega) (rd_A.more hr8 ⟨y9, hy9, ey9⟩) (hP.sub [0, 1, 2, 3, 4, 5, 6, 7] rfl) (hD.sub [0, 1, 2, 3, 4, 5, 6, 7] (by decide +kernel) rfl) hS (lv_sub hl [0, 1, 4, 5, 6, 7] rfl)
                · skip
                  refine lv_if_ne (tgt := 138) hx hb dX9_read_130 (by decide) (fun c_36 => absurd (by decide) c_36) (fun c_36 => ?_)
                  refine lv_iload hx hb dX9_read_133 (lv_at hl 2 rfl) ?_
                  refine lv_iconst (v := 1) hx hb dX9_read_135 (by decide) ?_
                  refine lv_iadd hx hb dX9_read_136 ?_
                  refine xl_i (y := nI (i + 1)) (nI_add i 1) ?_
                  exact W.iret (v := nI (i + 1)) hx hb hr (fun t ht hW => ⟨⟨nI (i + 1), (mL2_13, fa2_14, fe2_15, mq), rfl, trivial, by rw [ht]; exact hP.sub [4, 5, 6, 7, 0, 1, 2, 3] rfl, hD.sub [4, 5, 6, 7, 0, 1, 2, 3] (by decide +kernel) rfl⟩, hS.F ht⟩) hS.2.2 dX9_read_137 hlk
          · skip
            refine lv_if_ne (tgt := 90) hx hb dX9_read_82 (by decide) (fun c_37 => absurd (by decide) c_37) (fun c_37 => ?_)
            refine lv_iload hx hb dX9_read_85 (lv_at hl 1 rfl) ?_
            refine lv_iconst (v := 1) hx hb dX9_read_87 (by decide) ?_
            refine lv_iadd hx hb dX9_read_88 ?_
            refine xl_i (y := nI (i + 1)) (nI_add i 1) ?_
            exact W.iret (v := nI (i + 1)) hx hb hr (fun t ht hW => ⟨⟨nI (i + 1), (mL2_13, fa2_14, fe2_15, mq), rfl, trivial, by rw [ht]; exact hP.sub [4, 5, 6, 7, 0, 1, 2, 3] rfl, hD.sub [4, 5, 6, 7, 0, 1, 2, 3] (by decide +kernel) rfl⟩, hS.F ht⟩) hS.2.2 dX9_read_89 hlk
    · skip
      refine lv_aload_n hx hb dX9_read_27 rfl (lv_at hl 1 rfl) ?_
      refine lv_ldc (v := (-1000000005)) hx hb hown (hu _ uw716) dX9_read_28 ?_
      refine xc_Vi (wr := [(ybi, .inl (cI, 4, .inl bi)), (ysi, .inl (cI, 4, .inl sq)), (ynu, .inl (cJ, 160, .inr (.inl nb))), (ys, .inl (cI, 449, .inl ms)), (yfa, .inl (cI, 100, .inl fa2_14)), (yfe, .inl (cI, 100, .inl fe2_15))]) hF (c_X9_finds_T l D cI cJ cZ cS ta sa sv H.size h0 ys yk yo yt mk0 yfa yfe mL2_13 mS mM yro yhe ygr mF mC mY yta mz mf mt mv mw ywa ybi ysi ynu ymo mq ) kv_X9_70 ⟨rfl, rfl, Nat.le_of_ble_eq_true rfl, Nat.le_of_ble_eq_true rfl⟩ ⟨Nat.le_of_ble_eq_true rfl, Nat.le_of_ble_eq_true rfl⟩ hK hN hZ hP hD hS hA [4, 3] [0, 1, 2, 5, 6, 7] rfl rfl rfl (by decide +kernel) (by decide +kernel) 0 rfl rfl rfl rfl hl.1 rfl (Nat.le_of_ble_eq_true rfl) dX9_read_30 (fun r_38 u_r_38 H locs hw_r_38 hP hD hS => ?_)
      obtain ⟨mq2_39, rfl⟩ : ∃ z, z = u_r_38 := ⟨_, rfl⟩
      try dsimp only at hw_r_38
      have hP : va_P D vwCl [(ybi, .inl (cI, 4, .inl bi)), (ysi, .inl (cI, 4, .inl sq)), (ynu, .inl (cJ, 160, .inr (.inl nb))), (ys, .inl (cI, 449, .inl ms)), (yfa, .inl (cI, 100, .inl fa2_14)), (yfe, .inl (cI, 100, .inl fe2_15)), (h0, .inr (9, [.ref ys, .ref yk, .ref yo, .ref yt, .int mk0, .ref yfa, .ref yfe, .int mL2_13, .int mS, .int mM, .ref yro, .ref yhe, .ref ygr, .int mF, .int mC, .int mY, .ref yta, .int (nI (mz)), .int (nI (mf)), .int (nI (mt)), .int mv, .int mw, .ref ywa, .ref ybi, .ref ysi, .ref ynu, .ref ymo])), (yt, .inl (cI, 7, .inl mq2_39))] H := hP
      have hD : va_D A [(ybi, .inl (cI, 4, .inl bi)), (ysi, .inl (cI, 4, .inl sq)), (ynu, .inl (cJ, 160, .inr (.inl nb))), (ys, .inl (cI, 449, .inl ms)), (yfa, .inl (cI, 100, .inl fa2_14)), (yfe, .inl (cI, 100, .inl fe2_15)), (h0, .inr (9, [.ref ys, .ref yk, .ref yo, .ref yt, .int mk0, .ref yfa, .ref yfe, .int mL2_13, .int mS, .int mM, .ref yro, .ref yhe, .ref ygr, .int mF, .int mC, .int mY, .ref yta, .int (nI (mz)), .int (nI (mf)), .int (nI (mt)), .int mv, .int mw, .ref ywa, .ref ybi, .ref ysi, .ref ynu, .ref ymo])), (yt, .inl (cI, 7, .inl mq2_39))] := hD
      subst hw_r_38
      exact W.iret (v := (-1000000005)) hx hb hr (fun t ht hW => ⟨⟨(-1000000005), (mL2_13, fa2_14, fe2_15, mq2_39), rfl, trivial, by rw [ht]; exact hP.sub [6, 3, 4, 5, 0, 1, 2, 7] rfl, hD.sub [6, 3, 4, 5, 0, 1, 2, 7] (by decide +kernel) rfl⟩, hS.F ht⟩) hS.2.2 dX9_read_33 hlk
