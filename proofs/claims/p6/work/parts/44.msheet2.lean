def LRX9_sheet_8 : List UInt8 := []
def LBX9_sheet_7 : List UInt8 := [0x2a, 0xb4, 0x00, 0x2e, 0x1b, 0x2e, 0xac]
def LRX9_sheet_7 : List UInt8 := LBX9_sheet_7 ++ LRX9_sheet_8
def LBX9_sheet_6 : List UInt8 := [0x31, 0x10, 0x28, 0x1b, 0x68, 0x15, 0x04, 0x60, 0x09, 0x50, 0x84, 0x04, 0x01, 0xa7, 0xff, 0xe9]
def LRX9_sheet_6 : List UInt8 := LBX9_sheet_6 ++ LRX9_sheet_7
def LBX9_sheet_5 : List UInt8 := [0x04, 0x1d, 0x4f, 0x03, 0x36, 0x04, 0x15, 0x04, 0x10, 0x28, 0xa2, 0x00, 0x16, 0x2a, 0xb4, 0x00]
def LRX9_sheet_5 : List UInt8 := LBX9_sheet_5 ++ LRX9_sheet_6
def LBX9_sheet_4 : List UInt8 := [0x2b, 0x1b, 0x1c, 0x4f, 0x2a, 0xb4, 0x00, 0x2e, 0x1b, 0x1c, 0x9a, 0x00, 0x07, 0x03, 0xa7, 0x00]
def LRX9_sheet_4 : List UInt8 := LBX9_sheet_4 ++ LRX9_sheet_5
def LBX9_sheet_3 : List UInt8 := [0x1d, 0x10, 0x28, 0xa4, 0x00, 0x0a, 0x2a, 0x12, 0x38, 0xb6, 0x00, 0x46, 0xac, 0x2a, 0xb4, 0x00]
def LRX9_sheet_3 : List UInt8 := LBX9_sheet_3 ++ LRX9_sheet_4
def LBX9_sheet_2 : List UInt8 := [0xb6, 0x00, 0x46, 0xac, 0x1d, 0x9c, 0x00, 0x0b, 0x2a, 0x13, 0x01, 0x34, 0xb6, 0x00, 0x46, 0xac]
def LRX9_sheet_2 : List UInt8 := LBX9_sheet_2 ++ LRX9_sheet_3
def LBX9_sheet_1 : List UInt8 := [0x16, 0x1c, 0x10, 0x10, 0x9f, 0x00, 0x10, 0x1c, 0x10, 0x40, 0x9f, 0x00, 0x0a, 0x2a, 0x12, 0x38]
def LRX9_sheet_1 : List UInt8 := LBX9_sheet_1 ++ LRX9_sheet_2
def LBX9_sheet_0 : List UInt8 := [0x1b, 0xb8, 0x01, 0x31, 0x99, 0x00, 0x19, 0x1c, 0x99, 0x00, 0x1c, 0x1c, 0x10, 0x08, 0x9f, 0x00]
def LRX9_sheet_0 : List UInt8 := LBX9_sheet_0 ++ LRX9_sheet_1
set_option maxRecDepth 100000 in
theorem LBX9_sheet_eq : cX9_sheet.data.toList = LRX9_sheet_0 := by decide +kernel
theorem LBX9_sheetr_0 (k : Nat) : cX9_sheet.data.toList[0 + k]? = LRX9_sheet_0[k]? := by rw [LBX9_sheet_eq, Nat.zero_add]
theorem LBX9_sheetr_1 (k : Nat) : cX9_sheet.data.toList[16 + k]? = LRX9_sheet_1[k]? := by
  have h := LBX9_sheetr_0 (16 + k)
  rw [show 0 + (16 + k) = 16 + k by omega] at h
  rw [h]
  exact (List.getElem?_append_right (l₁ := LBX9_sheet_0) (l₂ := LRX9_sheet_1) (show 16 ≤ 16 + k by omega)).trans (congrArg (fun i => LRX9_sheet_1[i]?) (show 16 + k - 16 = k by omega))
theorem LBX9_sheetr_2 (k : Nat) : cX9_sheet.data.toList[32 + k]? = LRX9_sheet_2[k]? := by
  have h := LBX9_sheetr_1 (16 + k)
  rw [show 16 + (16 + k) = 32 + k by omega] at h
  rw [h]
  exact (List.getElem?_append_right (l₁ := LBX9_sheet_1) (l₂ := LRX9_sheet_2) (show 16 ≤ 16 + k by omega)).trans (congrArg (fun i => LRX9_sheet_2[i]?) (show 16 + k - 16 = k by omega))
theorem LBX9_sheetr_3 (k : Nat) : cX9_sheet.data.toList[48 + k]? = LRX9_sheet_3[k]? := by
  have h := LBX9_sheetr_2 (16 + k)
  rw [show 32 + (16 + k) = 48 + k by omega] at h
  rw [h]
  exact (List.getElem?_append_right (l₁ := LBX9_sheet_2) (l₂ := LRX9_sheet_3) (show 16 ≤ 16 + k by omega)).trans (congrArg (fun i => LRX9_sheet_3[i]?) (show 16 + k - 16 = k by omega))
theorem LBX9_sheetr_4 (k : Nat) : cX9_sheet.data.toList[64 + k]? = LRX9_sheet_4[k]? := by
  have h := LBX9_sheetr_3 (16 + k)
  rw [show 48 + (16 + k) = 64 + k by omega] at h
  rw [h]
  exact (List.getElem?_append_right (l₁ := LBX9_sheet_3) (l₂ := LRX9_sheet_4) (show 16 ≤ 16 + k by omega)).trans (congrArg (fun i => LRX9_sheet_4[i]?) (show 16 + k - 16 = k by omega))
theorem LBX9_sheetr_5 (k : Nat) : cX9_sheet.data.toList[80 + k]? = LRX9_sheet_5[k]? := by
  have h := LBX9_sheetr_4 (16 + k)
  rw [show 64 + (16 + k) = 80 + k by omega] at h
  rw [h]
  exact (List.getElem?_append_right (l₁ := LBX9_sheet_4) (l₂ := LRX9_sheet_5) (show 16 ≤ 16 + k by omega)).trans (congrArg (fun i => LRX9_sheet_5[i]?) (show 16 + k - 16 = k by omega))
theorem LBX9_sheetr_6 (k : Nat) : cX9_sheet.data.toList[96 + k]? = LRX9_sheet_6[k]? := by
  have h := LBX9_sheetr_5 (16 + k)
  rw [show 80 + (16 + k) = 96 + k by omega] at h
  rw [h]
  exact (List.getElem?_append_right (l₁ := LBX9_sheet_5) (l₂ := LRX9_sheet_6) (show 16 ≤ 16 + k by omega)).trans (congrArg (fun i => LRX9_sheet_6[i]?) (show 16 + k - 16 = k by omega))
theorem LBX9_sheetr_7 (k : Nat) : cX9_sheet.data.toList[112 + k]? = LRX9_sheet_7[k]? := by
  have h := LBX9_sheetr_6 (16 + k)
  rw [show 96 + (16 + k) = 112 + k by omega] at h
  rw [h]
  exact (List.getElem?_append_right (l₁ := LBX9_sheet_6) (l₂ := LRX9_sheet_7) (show 16 ≤ 16 + k by omega)).trans (congrArg (fun i => LRX9_sheet_7[i]?) (show 16 + k - 16 = k by omega))
theorem dX9_sheet_0 : decode cX9_sheet 0 = .ok (.iload_n 1, 1) := dk_27_ (show cX9_sheet.data.toList[0]? = some 0x1b from (LBX9_sheetr_0 0).trans (by decide +kernel))
theorem dX9_sheet_1 : decode cX9_sheet 1 = .ok (.invokestatic 305, 3) := dk_184_ (show cX9_sheet.data.toList[1]? = some 0xb8 from (LBX9_sheetr_0 1).trans (by decide +kernel)) (show cX9_sheet.data.toList[2]? = some 0x01 from (LBX9_sheetr_0 2).trans (by decide +kernel)) (show cX9_sheet.data.toList[3]? = some 0x31 from (LBX9_sheetr_0 3).trans (by decide +kernel)) (by decide)
theorem dX9_sheet_4 : decode cX9_sheet 4 = .ok (.ifCond .eq 25, 3) := dk_153_ (show cX9_sheet.data.toList[4]? = some 0x99 from (LBX9_sheetr_0 4).trans (by decide +kernel)) (show cX9_sheet.data.toList[5]? = some 0x00 from (LBX9_sheetr_0 5).trans (by decide +kernel)) (show cX9_sheet.data.toList[6]? = some 0x19 from (LBX9_sheetr_0 6).trans (by decide +kernel)) (by decide)
theorem dX9_sheet_29 : decode cX9_sheet 29 = .ok (.aload_n 0, 1) := dk_42_ (show cX9_sheet.data.toList[29]? = some 0x2a from (LBX9_sheetr_1 13).trans (by decide +kernel))
theorem dX9_sheet_30 : decode cX9_sheet 30 = .ok (.ldc 56, 2) := dk_18_ (show cX9_sheet.data.toList[30]? = some 0x12 from (LBX9_sheetr_1 14).trans (by decide +kernel)) (show cX9_sheet.data.toList[31]? = some 0x38 from (LBX9_sheetr_1 15).trans (by decide +kernel)) (by decide)
theorem dX9_sheet_32 : decode cX9_sheet 32 = .ok (.invokevirtual 70, 3) := dk_182_ (show cX9_sheet.data.toList[32]? = some 0xb6 from (LBX9_sheetr_2 0).trans (by decide +kernel)) (show cX9_sheet.data.toList[33]? = some 0x00 from (LBX9_sheetr_2 1).trans (by decide +kernel)) (show cX9_sheet.data.toList[34]? = some 0x46 from (LBX9_sheetr_2 2).trans (by decide +kernel)) (by decide)
theorem dX9_sheet_35 : decode cX9_sheet 35 = .ok (.ireturn, 1) := dk_172_ (show cX9_sheet.data.toList[35]? = some 0xac from (LBX9_sheetr_2 3).trans (by decide +kernel))
def LRX9_write_6 : List UInt8 := []
def LBX9_write_5 : List UInt8 := [0x16, 0x06, 0xad]
def LRX9_write_5 : List UInt8 := LBX9_write_5 ++ LRX9_write_6
def LBX9_write_4 : List UInt8 := [0x28, 0x1b, 0x68, 0x1c, 0x60, 0x2a, 0xb4, 0x00, 0x2b, 0x1b, 0x2e, 0x21, 0xb8, 0x01, 0x39, 0x50]
def LRX9_write_4 : List UInt8 := LBX9_write_4 ++ LRX9_write_5
def LBX9_write_3 : List UInt8 := [0x00, 0x31, 0x10, 0x28, 0x1b, 0x68, 0x1c, 0x60, 0x2f, 0x37, 0x06, 0x2a, 0xb4, 0x00, 0x31, 0x10]
def LRX9_write_3 : List UInt8 := LBX9_write_3 ++ LRX9_write_4
def LBX9_write_2 : List UInt8 := [0xb8, 0x00, 0x39, 0x9a, 0x00, 0x0b, 0x2a, 0x12, 0x38, 0xb6, 0x00, 0x46, 0x85, 0xad, 0x2a, 0xb4]
def LRX9_write_2 : List UInt8 := LBX9_write_2 ++ LRX9_write_3
def LBX9_write_1 : List UInt8 := [0x00, 0x46, 0x85, 0xad, 0x1c, 0x85, 0x09, 0x2a, 0xb4, 0x00, 0x2e, 0x1b, 0x2e, 0x04, 0x64, 0x85]
def LRX9_write_1 : List UInt8 := LBX9_write_1 ++ LRX9_write_2
def LBX9_write_0 : List UInt8 := [0x2a, 0x1b, 0xb6, 0x01, 0x36, 0x36, 0x05, 0x15, 0x05, 0x99, 0x00, 0x0b, 0x2a, 0x15, 0x05, 0xb6]
def LRX9_write_0 : List UInt8 := LBX9_write_0 ++ LRX9_write_1
set_option maxRecDepth 100000 in
theorem LBX9_write_eq : cX9_write.data.toList = LRX9_write_0 := by decide +kernel
theorem LBX9_writer_0 (k : Nat) : cX9_write.data.toList[0 + k]? = LRX9_write_0[k]? := by rw [LBX9_write_eq, Nat.zero_add]
theorem LBX9_writer_1 (k : Nat) : cX9_write.data.toList[16 + k]? = LRX9_write_1[k]? := by
  have h := LBX9_writer_0 (16 + k)
  rw [show 0 + (16 + k) = 16 + k by omega] at h
  rw [h]
  exact (List.getElem?_append_right (l₁ := LBX9_write_0) (l₂ := LRX9_write_1) (show 16 ≤ 16 + k by omega)).trans (congrArg (fun i => LRX9_write_1[i]?) (show 16 + k - 16 = k by omega))
theorem LBX9_writer_2 (k : Nat) : cX9_write.data.toList[32 + k]? = LRX9_write_2[k]? := by
  have h := LBX9_writer_1 (16 + k)
  rw [show 16 + (16 + k) = 32 + k by omega] at h
  rw [h]
  exact (List.getElem?_append_right (l₁ := LBX9_write_1) (l₂ := LRX9_write_2) (show 16 ≤ 16 + k by omega)).trans (congrArg (fun i => LRX9_write_2[i]?) (show 16 + k - 16 = k by omega))
theorem LBX9_writer_3 (k : Nat) : cX9_write.data.toList[48 + k]? = LRX9_write_3[k]? := by
  have h := LBX9_writer_2 (16 + k)
  rw [show 32 + (16 + k) = 48 + k by omega] at h
  rw [h]
  exact (List.getElem?_append_right (l₁ := LBX9_write_2) (l₂ := LRX9_write_3) (show 16 ≤ 16 + k by omega)).trans (congrArg (fun i => LRX9_write_3[i]?) (show 16 + k - 16 = k by omega))
theorem LBX9_writer_4 (k : Nat) : cX9_write.data.toList[64 + k]? = LRX9_write_4[k]? := by
  have h := LBX9_writer_3 (16 + k)
  rw [show 48 + (16 + k) = 64 + k by omega] at h
  rw [h]
  exact (List.getElem?_append_right (l₁ := LBX9_write_3) (l₂ := LRX9_write_4) (show 16 ≤ 16 + k by omega)).trans (congrArg (fun i => LRX9_write_4[i]?) (show 16 + k - 16 = k by omega))
theorem LBX9_writer_5 (k : Nat) : cX9_write.data.toList[80 + k]? = LRX9_write_5[k]? := by
  have h := LBX9_writer_4 (16 + k)
  rw [show 64 + (16 + k) = 80 + k by omega] at h
  rw [h]
  exact (List.getElem?_append_right (l₁ := LBX9_write_4) (l₂ := LRX9_write_5) (show 16 ≤ 16 + k by omega)).trans (congrArg (fun i => LRX9_write_5[i]?) (show 16 + k - 16 = k by omega))
theorem dX9_write_0 : decode cX9_write 0 = .ok (.aload_n 0, 1) := dk_42_ (show cX9_write.data.toList[0]? = some 0x2a from (LBX9_writer_0 0).trans (by decide +kernel))
theorem dX9_write_1 : decode cX9_write 1 = .ok (.iload_n 1, 1) := dk_27_ (show cX9_write.data.toList[1]? = some 0x1b from (LBX9_writer_0 1).trans (by decide +kernel))
theorem dX9_write_2 : decode cX9_write 2 = .ok (.invokevirtual 310, 3) := dk_182_ (show cX9_write.data.toList[2]? = some 0xb6 from (LBX9_writer_0 2).trans (by decide +kernel)) (show cX9_write.data.toList[3]? = some 0x01 from (LBX9_writer_0 3).trans (by decide +kernel)) (show cX9_write.data.toList[4]? = some 0x36 from (LBX9_writer_0 4).trans (by decide +kernel)) (by decide)
theorem dX9_write_5 : decode cX9_write 5 = .ok (.istore 5, 2) := dk_54_ (show cX9_write.data.toList[5]? = some 0x36 from (LBX9_writer_0 5).trans (by decide +kernel)) (show cX9_write.data.toList[6]? = some 0x05 from (LBX9_writer_0 6).trans (by decide +kernel)) (by decide)
theorem dX9_write_7 : decode cX9_write 7 = .ok (.iload 5, 2) := dk_21_ (show cX9_write.data.toList[7]? = some 0x15 from (LBX9_writer_0 7).trans (by decide +kernel)) (show cX9_write.data.toList[8]? = some 0x05 from (LBX9_writer_0 8).trans (by decide +kernel)) (by decide)
theorem dX9_write_9 : decode cX9_write 9 = .ok (.ifCond .eq 11, 3) := dk_153_ (show cX9_write.data.toList[9]? = some 0x99 from (LBX9_writer_0 9).trans (by decide +kernel)) (show cX9_write.data.toList[10]? = some 0x00 from (LBX9_writer_0 10).trans (by decide +kernel)) (show cX9_write.data.toList[11]? = some 0x0b from (LBX9_writer_0 11).trans (by decide +kernel)) (by decide)
theorem dX9_write_12 : decode cX9_write 12 = .ok (.aload_n 0, 1) := dk_42_ (show cX9_write.data.toList[12]? = some 0x2a from (LBX9_writer_0 12).trans (by decide +kernel))
theorem dX9_write_13 : decode cX9_write 13 = .ok (.iload 5, 2) := dk_21_ (show cX9_write.data.toList[13]? = some 0x15 from (LBX9_writer_0 13).trans (by decide +kernel)) (show cX9_write.data.toList[14]? = some 0x05 from (LBX9_writer_0 14).trans (by decide +kernel)) (by decide)
theorem dX9_write_15 : decode cX9_write 15 = .ok (.invokevirtual 70, 3) := dk_182_ (show cX9_write.data.toList[15]? = some 0xb6 from (LBX9_writer_0 15).trans (by decide +kernel)) (show cX9_write.data.toList[16]? = some 0x00 from (LBX9_writer_1 0).trans (by decide +kernel)) (show cX9_write.data.toList[17]? = some 0x46 from (LBX9_writer_1 1).trans (by decide +kernel)) (by decide)
theorem dX9_write_18 : decode cX9_write 18 = .ok (.i2l, 1) := dk_133_ (show cX9_write.data.toList[18]? = some 0x85 from (LBX9_writer_1 2).trans (by decide +kernel))
theorem dX9_write_19 : decode cX9_write 19 = .ok (.lreturn, 1) := dk_173_ (show cX9_write.data.toList[19]? = some 0xad from (LBX9_writer_1 3).trans (by decide +kernel))
theorem dX9_sheet_7 : decode cX9_sheet 7 = .ok (.iload_n 2, 1) := dk_28_ (show cX9_sheet.data.toList[7]? = some 0x1c from (LBX9_sheetr_0 7).trans (by decide +kernel))
theorem dX9_sheet_8 : decode cX9_sheet 8 = .ok (.ifCond .eq 28, 3) := dk_153_ (show cX9_sheet.data.toList[8]? = some 0x99 from (LBX9_sheetr_0 8).trans (by decide +kernel)) (show cX9_sheet.data.toList[9]? = some 0x00 from (LBX9_sheetr_0 9).trans (by decide +kernel)) (show cX9_sheet.data.toList[10]? = some 0x1c from (LBX9_sheetr_0 10).trans (by decide +kernel)) (by decide)
theorem dX9_sheet_11 : decode cX9_sheet 11 = .ok (.iload_n 2, 1) := dk_28_ (show cX9_sheet.data.toList[11]? = some 0x1c from (LBX9_sheetr_0 11).trans (by decide +kernel))
theorem dX9_sheet_12 : decode cX9_sheet 12 = .ok (.bipush 8, 2) := dk_16_ (show cX9_sheet.data.toList[12]? = some 0x10 from (LBX9_sheetr_0 12).trans (by decide +kernel)) (show cX9_sheet.data.toList[13]? = some 0x08 from (LBX9_sheetr_0 13).trans (by decide +kernel)) (by decide)
theorem dX9_sheet_14 : decode cX9_sheet 14 = .ok (.if_icmp .eq 22, 3) := dk_159_ (show cX9_sheet.data.toList[14]? = some 0x9f from (LBX9_sheetr_0 14).trans (by decide +kernel)) (show cX9_sheet.data.toList[15]? = some 0x00 from (LBX9_sheetr_0 15).trans (by decide +kernel)) (show cX9_sheet.data.toList[16]? = some 0x16 from (LBX9_sheetr_1 0).trans (by decide +kernel)) (by decide)
theorem dX9_sheet_17 : decode cX9_sheet 17 = .ok (.iload_n 2, 1) := dk_28_ (show cX9_sheet.data.toList[17]? = some 0x1c from (LBX9_sheetr_1 1).trans (by decide +kernel))
theorem dX9_sheet_18 : decode cX9_sheet 18 = .ok (.bipush 16, 2) := dk_16_ (show cX9_sheet.data.toList[18]? = some 0x10 from (LBX9_sheetr_1 2).trans (by decide +kernel)) (show cX9_sheet.data.toList[19]? = some 0x10 from (LBX9_sheetr_1 3).trans (by decide +kernel)) (by decide)
theorem dX9_sheet_20 : decode cX9_sheet 20 = .ok (.if_icmp .eq 16, 3) := dk_159_ (show cX9_sheet.data.toList[20]? = some 0x9f from (LBX9_sheetr_1 4).trans (by decide +kernel)) (show cX9_sheet.data.toList[21]? = some 0x00 from (LBX9_sheetr_1 5).trans (by decide +kernel)) (show cX9_sheet.data.toList[22]? = some 0x10 from (LBX9_sheetr_1 6).trans (by decide +kernel)) (by decide)
theorem dX9_sheet_23 : decode cX9_sheet 23 = .ok (.iload_n 2, 1) := dk_28_ (show cX9_sheet.data.toList[23]? = some 0x1c from (LBX9_sheetr_1 7).trans (by decide +kernel))
theorem dX9_sheet_24 : decode cX9_sheet 24 = .ok (.bipush 64, 2) := dk_16_ (show cX9_sheet.data.toList[24]? = some 0x10 from (LBX9_sheetr_1 8).trans (by decide +kernel)) (show cX9_sheet.data.toList[25]? = some 0x40 from (LBX9_sheetr_1 9).trans (by decide +kernel)) (by decide)
theorem dX9_sheet_26 : decode cX9_sheet 26 = .ok (.if_icmp .eq 10, 3) := dk_159_ (show cX9_sheet.data.toList[26]? = some 0x9f from (LBX9_sheetr_1 10).trans (by decide +kernel)) (show cX9_sheet.data.toList[27]? = some 0x00 from (LBX9_sheetr_1 11).trans (by decide +kernel)) (show cX9_sheet.data.toList[28]? = some 0x0a from (LBX9_sheetr_1 12).trans (by decide +kernel)) (by decide)
theorem dX9_sheet_36 : decode cX9_sheet 36 = .ok (.iload_n 3, 1) := dk_29_ (show cX9_sheet.data.toList[36]? = some 0x1d from (LBX9_sheetr_2 4).trans (by decide +kernel))
theorem dX9_sheet_37 : decode cX9_sheet 37 = .ok (.ifCond .ge 11, 3) := dk_156_ (show cX9_sheet.data.toList[37]? = some 0x9c from (LBX9_sheetr_2 5).trans (by decide +kernel)) (show cX9_sheet.data.toList[38]? = some 0x00 from (LBX9_sheetr_2 6).trans (by decide +kernel)) (show cX9_sheet.data.toList[39]? = some 0x0b from (LBX9_sheetr_2 7).trans (by decide +kernel)) (by decide)
theorem dX9_sheet_40 : decode cX9_sheet 40 = .ok (.aload_n 0, 1) := dk_42_ (show cX9_sheet.data.toList[40]? = some 0x2a from (LBX9_sheetr_2 8).trans (by decide +kernel))
theorem dX9_sheet_41 : decode cX9_sheet 41 = .ok (.ldc_w 308, 3) := dk_19_ (show cX9_sheet.data.toList[41]? = some 0x13 from (LBX9_sheetr_2 9).trans (by decide +kernel)) (show cX9_sheet.data.toList[42]? = some 0x01 from (LBX9_sheetr_2 10).trans (by decide +kernel)) (show cX9_sheet.data.toList[43]? = some 0x34 from (LBX9_sheetr_2 11).trans (by decide +kernel)) (by decide)
theorem dX9_sheet_44 : decode cX9_sheet 44 = .ok (.invokevirtual 70, 3) := dk_182_ (show cX9_sheet.data.toList[44]? = some 0xb6 from (LBX9_sheetr_2 12).trans (by decide +kernel)) (show cX9_sheet.data.toList[45]? = some 0x00 from (LBX9_sheetr_2 13).trans (by decide +kernel)) (show cX9_sheet.data.toList[46]? = some 0x46 from (LBX9_sheetr_2 14).trans (by decide +kernel)) (by decide)
theorem dX9_sheet_47 : decode cX9_sheet 47 = .ok (.ireturn, 1) := dk_172_ (show cX9_sheet.data.toList[47]? = some 0xac from (LBX9_sheetr_2 15).trans (by decide +kernel))
theorem dX9_sheet_48 : decode cX9_sheet 48 = .ok (.iload_n 3, 1) := dk_29_ (show cX9_sheet.data.toList[48]? = some 0x1d from (LBX9_sheetr_3 0).trans (by decide +kernel))
theorem dX9_sheet_49 : decode cX9_sheet 49 = .ok (.bipush 40, 2) := dk_16_ (show cX9_sheet.data.toList[49]? = some 0x10 from (LBX9_sheetr_3 1).trans (by decide +kernel)) (show cX9_sheet.data.toList[50]? = some 0x28 from (LBX9_sheetr_3 2).trans (by decide +kernel)) (by decide)
theorem dX9_sheet_51 : decode cX9_sheet 51 = .ok (.if_icmp .le 10, 3) := dk_164_ (show cX9_sheet.data.toList[51]? = some 0xa4 from (LBX9_sheetr_3 3).trans (by decide +kernel)) (show cX9_sheet.data.toList[52]? = some 0x00 from (LBX9_sheetr_3 4).trans (by decide +kernel)) (show cX9_sheet.data.toList[53]? = some 0x0a from (LBX9_sheetr_3 5).trans (by decide +kernel)) (by decide)
theorem dX9_sheet_54 : decode cX9_sheet 54 = .ok (.aload_n 0, 1) := dk_42_ (show cX9_sheet.data.toList[54]? = some 0x2a from (LBX9_sheetr_3 6).trans (by decide +kernel))
theorem dX9_sheet_55 : decode cX9_sheet 55 = .ok (.ldc 56, 2) := dk_18_ (show cX9_sheet.data.toList[55]? = some 0x12 from (LBX9_sheetr_3 7).trans (by decide +kernel)) (show cX9_sheet.data.toList[56]? = some 0x38 from (LBX9_sheetr_3 8).trans (by decide +kernel)) (by decide)
theorem dX9_sheet_57 : decode cX9_sheet 57 = .ok (.invokevirtual 70, 3) := dk_182_ (show cX9_sheet.data.toList[57]? = some 0xb6 from (LBX9_sheetr_3 9).trans (by decide +kernel)) (show cX9_sheet.data.toList[58]? = some 0x00 from (LBX9_sheetr_3 10).trans (by decide +kernel)) (show cX9_sheet.data.toList[59]? = some 0x46 from (LBX9_sheetr_3 11).trans (by decide +kernel)) (by decide)
theorem dX9_sheet_60 : decode cX9_sheet 60 = .ok (.ireturn, 1) := dk_172_ (show cX9_sheet.data.toList[60]? = some 0xac from (LBX9_sheetr_3 12).trans (by decide +kernel))
theorem dX9_sheet_61 : decode cX9_sheet 61 = .ok (.aload_n 0, 1) := dk_42_ (show cX9_sheet.data.toList[61]? = some 0x2a from (LBX9_sheetr_3 13).trans (by decide +kernel))
theorem dX9_sheet_62 : decode cX9_sheet 62 = .ok (.getfield 43, 3) := dk_180_ (show cX9_sheet.data.toList[62]? = some 0xb4 from (LBX9_sheetr_3 14).trans (by decide +kernel)) (show cX9_sheet.data.toList[63]? = some 0x00 from (LBX9_sheetr_3 15).trans (by decide +kernel)) (show cX9_sheet.data.toList[64]? = some 0x2b from (LBX9_sheetr_4 0).trans (by decide +kernel)) (by decide)
theorem dX9_sheet_65 : decode cX9_sheet 65 = .ok (.iload_n 1, 1) := dk_27_ (show cX9_sheet.data.toList[65]? = some 0x1b from (LBX9_sheetr_4 1).trans (by decide +kernel))
theorem dX9_sheet_66 : decode cX9_sheet 66 = .ok (.iload_n 2, 1) := dk_28_ (show cX9_sheet.data.toList[66]? = some 0x1c from (LBX9_sheetr_4 2).trans (by decide +kernel))
theorem dX9_sheet_67 : decode cX9_sheet 67 = .ok (.iastore, 1) := dk_79_ (show cX9_sheet.data.toList[67]? = some 0x4f from (LBX9_sheetr_4 3).trans (by decide +kernel))
theorem dX9_sheet_68 : decode cX9_sheet 68 = .ok (.aload_n 0, 1) := dk_42_ (show cX9_sheet.data.toList[68]? = some 0x2a from (LBX9_sheetr_4 4).trans (by decide +kernel))
theorem dX9_sheet_69 : decode cX9_sheet 69 = .ok (.getfield 46, 3) := dk_180_ (show cX9_sheet.data.toList[69]? = some 0xb4 from (LBX9_sheetr_4 5).trans (by decide +kernel)) (show cX9_sheet.data.toList[70]? = some 0x00 from (LBX9_sheetr_4 6).trans (by decide +kernel)) (show cX9_sheet.data.toList[71]? = some 0x2e from (LBX9_sheetr_4 7).trans (by decide +kernel)) (by decide)
theorem dX9_sheet_72 : decode cX9_sheet 72 = .ok (.iload_n 1, 1) := dk_27_ (show cX9_sheet.data.toList[72]? = some 0x1b from (LBX9_sheetr_4 8).trans (by decide +kernel))
theorem dX9_sheet_73 : decode cX9_sheet 73 = .ok (.iload_n 2, 1) := dk_28_ (show cX9_sheet.data.toList[73]? = some 0x1c from (LBX9_sheetr_4 9).trans (by decide +kernel))
theorem dX9_sheet_74 : decode cX9_sheet 74 = .ok (.ifCond .ne 7, 3) := dk_154_ (show cX9_sheet.data.toList[74]? = some 0x9a from (LBX9_sheetr_4 10).trans (by decide +kernel)) (show cX9_sheet.data.toList[75]? = some 0x00 from (LBX9_sheetr_4 11).trans (by decide +kernel)) (show cX9_sheet.data.toList[76]? = some 0x07 from (LBX9_sheetr_4 12).trans (by decide +kernel)) (by decide)
theorem dX9_sheet_77 : decode cX9_sheet 77 = .ok (.iconst 0, 1) := dk_3_ (show cX9_sheet.data.toList[77]? = some 0x03 from (LBX9_sheetr_4 13).trans (by decide +kernel))
theorem dX9_sheet_78 : decode cX9_sheet 78 = .ok (.goto 4, 3) := dk_167_ (show cX9_sheet.data.toList[78]? = some 0xa7 from (LBX9_sheetr_4 14).trans (by decide +kernel)) (show cX9_sheet.data.toList[79]? = some 0x00 from (LBX9_sheetr_4 15).trans (by decide +kernel)) (show cX9_sheet.data.toList[80]? = some 0x04 from (LBX9_sheetr_5 0).trans (by decide +kernel)) (by decide)
theorem dX9_sheet_81 : decode cX9_sheet 81 = .ok (.iload_n 3, 1) := dk_29_ (show cX9_sheet.data.toList[81]? = some 0x1d from (LBX9_sheetr_5 1).trans (by decide +kernel))
theorem dX9_sheet_82 : decode cX9_sheet 82 = .ok (.iastore, 1) := dk_79_ (show cX9_sheet.data.toList[82]? = some 0x4f from (LBX9_sheetr_5 2).trans (by decide +kernel))
theorem dX9_sheet_83 : decode cX9_sheet 83 = .ok (.iconst 0, 1) := dk_3_ (show cX9_sheet.data.toList[83]? = some 0x03 from (LBX9_sheetr_5 3).trans (by decide +kernel))
theorem dX9_sheet_84 : decode cX9_sheet 84 = .ok (.istore 4, 2) := dk_54_ (show cX9_sheet.data.toList[84]? = some 0x36 from (LBX9_sheetr_5 4).trans (by decide +kernel)) (show cX9_sheet.data.toList[85]? = some 0x04 from (LBX9_sheetr_5 5).trans (by decide +kernel)) (by decide)
theorem dX9_sheet_86 : decode cX9_sheet 86 = .ok (.iload 4, 2) := dk_21_ (show cX9_sheet.data.toList[86]? = some 0x15 from (LBX9_sheetr_5 6).trans (by decide +kernel)) (show cX9_sheet.data.toList[87]? = some 0x04 from (LBX9_sheetr_5 7).trans (by decide +kernel)) (by decide)
theorem dX9_sheet_88 : decode cX9_sheet 88 = .ok (.bipush 40, 2) := dk_16_ (show cX9_sheet.data.toList[88]? = some 0x10 from (LBX9_sheetr_5 8).trans (by decide +kernel)) (show cX9_sheet.data.toList[89]? = some 0x28 from (LBX9_sheetr_5 9).trans (by decide +kernel)) (by decide)
theorem dX9_sheet_90 : decode cX9_sheet 90 = .ok (.if_icmp .ge 22, 3) := dk_162_ (show cX9_sheet.data.toList[90]? = some 0xa2 from (LBX9_sheetr_5 10).trans (by decide +kernel)) (show cX9_sheet.data.toList[91]? = some 0x00 from (LBX9_sheetr_5 11).trans (by decide +kernel)) (show cX9_sheet.data.toList[92]? = some 0x16 from (LBX9_sheetr_5 12).trans (by decide +kernel)) (by decide)
theorem dX9_sheet_93 : decode cX9_sheet 93 = .ok (.aload_n 0, 1) := dk_42_ (show cX9_sheet.data.toList[93]? = some 0x2a from (LBX9_sheetr_5 13).trans (by decide +kernel))
theorem dX9_sheet_94 : decode cX9_sheet 94 = .ok (.getfield 49, 3) := dk_180_ (show cX9_sheet.data.toList[94]? = some 0xb4 from (LBX9_sheetr_5 14).trans (by decide +kernel)) (show cX9_sheet.data.toList[95]? = some 0x00 from (LBX9_sheetr_5 15).trans (by decide +kernel)) (show cX9_sheet.data.toList[96]? = some 0x31 from (LBX9_sheetr_6 0).trans (by decide +kernel)) (by decide)
theorem dX9_sheet_97 : decode cX9_sheet 97 = .ok (.bipush 40, 2) := dk_16_ (show cX9_sheet.data.toList[97]? = some 0x10 from (LBX9_sheetr_6 1).trans (by decide +kernel)) (show cX9_sheet.data.toList[98]? = some 0x28 from (LBX9_sheetr_6 2).trans (by decide +kernel)) (by decide)
theorem dX9_sheet_99 : decode cX9_sheet 99 = .ok (.iload_n 1, 1) := dk_27_ (show cX9_sheet.data.toList[99]? = some 0x1b from (LBX9_sheetr_6 3).trans (by decide +kernel))
theorem dX9_sheet_100 : decode cX9_sheet 100 = .ok (.imul, 1) := dk_104_ (show cX9_sheet.data.toList[100]? = some 0x68 from (LBX9_sheetr_6 4).trans (by decide +kernel))
theorem dX9_sheet_101 : decode cX9_sheet 101 = .ok (.iload 4, 2) := dk_21_ (show cX9_sheet.data.toList[101]? = some 0x15 from (LBX9_sheetr_6 5).trans (by decide +kernel)) (show cX9_sheet.data.toList[102]? = some 0x04 from (LBX9_sheetr_6 6).trans (by decide +kernel)) (by decide)
theorem dX9_sheet_103 : decode cX9_sheet 103 = .ok (.iadd, 1) := dk_96_ (show cX9_sheet.data.toList[103]? = some 0x60 from (LBX9_sheetr_6 7).trans (by decide +kernel))
theorem dX9_sheet_104 : decode cX9_sheet 104 = .ok (.lconst 0, 1) := dk_9_ (show cX9_sheet.data.toList[104]? = some 0x09 from (LBX9_sheetr_6 8).trans (by decide +kernel))
theorem dX9_sheet_105 : decode cX9_sheet 105 = .ok (.lastore, 1) := dk_80_ (show cX9_sheet.data.toList[105]? = some 0x50 from (LBX9_sheetr_6 9).trans (by decide +kernel))
theorem dX9_sheet_106 : decode cX9_sheet 106 = .ok (.iinc 4 1, 3) := dk_132_ (show cX9_sheet.data.toList[106]? = some 0x84 from (LBX9_sheetr_6 10).trans (by decide +kernel)) (show cX9_sheet.data.toList[107]? = some 0x04 from (LBX9_sheetr_6 11).trans (by decide +kernel)) (show cX9_sheet.data.toList[108]? = some 0x01 from (LBX9_sheetr_6 12).trans (by decide +kernel)) (by decide) (by decide)
theorem dX9_sheet_109 : decode cX9_sheet 109 = .ok (.goto (-23), 3) := dk_167_ (show cX9_sheet.data.toList[109]? = some 0xa7 from (LBX9_sheetr_6 13).trans (by decide +kernel)) (show cX9_sheet.data.toList[110]? = some 0xff from (LBX9_sheetr_6 14).trans (by decide +kernel)) (show cX9_sheet.data.toList[111]? = some 0xe9 from (LBX9_sheetr_6 15).trans (by decide +kernel)) (by decide)
theorem dX9_sheet_112 : decode cX9_sheet 112 = .ok (.aload_n 0, 1) := dk_42_ (show cX9_sheet.data.toList[112]? = some 0x2a from (LBX9_sheetr_7 0).trans (by decide +kernel))
theorem dX9_sheet_113 : decode cX9_sheet 113 = .ok (.getfield 46, 3) := dk_180_ (show cX9_sheet.data.toList[113]? = some 0xb4 from (LBX9_sheetr_7 1).trans (by decide +kernel)) (show cX9_sheet.data.toList[114]? = some 0x00 from (LBX9_sheetr_7 2).trans (by decide +kernel)) (show cX9_sheet.data.toList[115]? = some 0x2e from (LBX9_sheetr_7 3).trans (by decide +kernel)) (by decide)
theorem dX9_sheet_116 : decode cX9_sheet 116 = .ok (.iload_n 1, 1) := dk_27_ (show cX9_sheet.data.toList[116]? = some 0x1b from (LBX9_sheetr_7 4).trans (by decide +kernel))
theorem dX9_sheet_117 : decode cX9_sheet 117 = .ok (.iaload, 1) := dk_46_ (show cX9_sheet.data.toList[117]? = some 0x2e from (LBX9_sheetr_7 5).trans (by decide +kernel))
theorem dX9_sheet_118 : decode cX9_sheet 118 = .ok (.ireturn, 1) := dk_172_ (show cX9_sheet.data.toList[118]? = some 0xac from (LBX9_sheetr_7 6).trans (by decide +kernel))
theorem dX9_write_20 : decode cX9_write 20 = .ok (.iload_n 2, 1) := dk_28_ (show cX9_write.data.toList[20]? = some 0x1c from (LBX9_writer_1 4).trans (by decide +kernel))
theorem dX9_write_21 : decode cX9_write 21 = .ok (.i2l, 1) := dk_133_ (show cX9_write.data.toList[21]? = some 0x85 from (LBX9_writer_1 5).trans (by decide +kernel))
theorem dX9_write_22 : decode cX9_write 22 = .ok (.lconst 0, 1) := dk_9_ (show cX9_write.data.toList[22]? = some 0x09 from (LBX9_writer_1 6).trans (by decide +kernel))
theorem dX9_write_23 : decode cX9_write 23 = .ok (.aload_n 0, 1) := dk_42_ (show cX9_write.data.toList[23]? = some 0x2a from (LBX9_writer_1 7).trans (by decide +kernel))
theorem dX9_write_24 : decode cX9_write 24 = .ok (.getfield 46, 3) := dk_180_ (show cX9_write.data.toList[24]? = some 0xb4 from (LBX9_writer_1 8).trans (by decide +kernel)) (show cX9_write.data.toList[25]? = some 0x00 from (LBX9_writer_1 9).trans (by decide +kernel)) (show cX9_write.data.toList[26]? = some 0x2e from (LBX9_writer_1 10).trans (by decide +kernel)) (by decide)
theorem dX9_write_27 : decode cX9_write 27 = .ok (.iload_n 1, 1) := dk_27_ (show cX9_write.data.toList[27]? = some 0x1b from (LBX9_writer_1 11).trans (by decide +kernel))
theorem dX9_write_28 : decode cX9_write 28 = .ok (.iaload, 1) := dk_46_ (show cX9_write.data.toList[28]? = some 0x2e from (LBX9_writer_1 12).trans (by decide +kernel))
theorem dX9_write_29 : decode cX9_write 29 = .ok (.iconst 1, 1) := dk_4_ (show cX9_write.data.toList[29]? = some 0x04 from (LBX9_writer_1 13).trans (by decide +kernel))
theorem dX9_write_30 : decode cX9_write 30 = .ok (.isub, 1) := dk_100_ (show cX9_write.data.toList[30]? = some 0x64 from (LBX9_writer_1 14).trans (by decide +kernel))
theorem dX9_write_31 : decode cX9_write 31 = .ok (.i2l, 1) := dk_133_ (show cX9_write.data.toList[31]? = some 0x85 from (LBX9_writer_1 15).trans (by decide +kernel))
theorem dX9_write_32 : decode cX9_write 32 = .ok (.invokestatic 57, 3) := dk_184_ (show cX9_write.data.toList[32]? = some 0xb8 from (LBX9_writer_2 0).trans (by decide +kernel)) (show cX9_write.data.toList[33]? = some 0x00 from (LBX9_writer_2 1).trans (by decide +kernel)) (show cX9_write.data.toList[34]? = some 0x39 from (LBX9_writer_2 2).trans (by decide +kernel)) (by decide)
theorem dX9_write_35 : decode cX9_write 35 = .ok (.ifCond .ne 11, 3) := dk_154_ (show cX9_write.data.toList[35]? = some 0x9a from (LBX9_writer_2 3).trans (by decide +kernel)) (show cX9_write.data.toList[36]? = some 0x00 from (LBX9_writer_2 4).trans (by decide +kernel)) (show cX9_write.data.toList[37]? = some 0x0b from (LBX9_writer_2 5).trans (by decide +kernel)) (by decide)
theorem dX9_write_38 : decode cX9_write 38 = .ok (.aload_n 0, 1) := dk_42_ (show cX9_write.data.toList[38]? = some 0x2a from (LBX9_writer_2 6).trans (by decide +kernel))
theorem dX9_write_39 : decode cX9_write 39 = .ok (.ldc 56, 2) := dk_18_ (show cX9_write.data.toList[39]? = some 0x12 from (LBX9_writer_2 7).trans (by decide +kernel)) (show cX9_write.data.toList[40]? = some 0x38 from (LBX9_writer_2 8).trans (by decide +kernel)) (by decide)
theorem dX9_write_41 : decode cX9_write 41 = .ok (.invokevirtual 70, 3) := dk_182_ (show cX9_write.data.toList[41]? = some 0xb6 from (LBX9_writer_2 9).trans (by decide +kernel)) (show cX9_write.data.toList[42]? = some 0x00 from (LBX9_writer_2 10).trans (by decide +kernel)) (show cX9_write.data.toList[43]? = some 0x46 from (LBX9_writer_2 11).trans (by decide +kernel)) (by decide)
theorem dX9_write_44 : decode cX9_write 44 = .ok (.i2l, 1) := dk_133_ (show cX9_write.data.toList[44]? = some 0x85 from (LBX9_writer_2 12).trans (by decide +kernel))
theorem dX9_write_45 : decode cX9_write 45 = .ok (.lreturn, 1) := dk_173_ (show cX9_write.data.toList[45]? = some 0xad from (LBX9_writer_2 13).trans (by decide +kernel))
theorem dX9_write_46 : decode cX9_write 46 = .ok (.aload_n 0, 1) := dk_42_ (show cX9_write.data.toList[46]? = some 0x2a from (LBX9_writer_2 14).trans (by decide +kernel))
theorem dX9_write_47 : decode cX9_write 47 = .ok (.getfield 49, 3) := dk_180_ (show cX9_write.data.toList[47]? = some 0xb4 from (LBX9_writer_2 15).trans (by decide +kernel)) (show cX9_write.data.toList[48]? = some 0x00 from (LBX9_writer_3 0).trans (by decide +kernel)) (show cX9_write.data.toList[49]? = some 0x31 from (LBX9_writer_3 1).trans (by decide +kernel)) (by decide)
theorem dX9_write_50 : decode cX9_write 50 = .ok (.bipush 40, 2) := dk_16_ (show cX9_write.data.toList[50]? = some 0x10 from (LBX9_writer_3 2).trans (by decide +kernel)) (show cX9_write.data.toList[51]? = some 0x28 from (LBX9_writer_3 3).trans (by decide +kernel)) (by decide)
theorem dX9_write_52 : decode cX9_write 52 = .ok (.iload_n 1, 1) := dk_27_ (show cX9_write.data.toList[52]? = some 0x1b from (LBX9_writer_3 4).trans (by decide +kernel))
theorem dX9_write_53 : decode cX9_write 53 = .ok (.imul, 1) := dk_104_ (show cX9_write.data.toList[53]? = some 0x68 from (LBX9_writer_3 5).trans (by decide +kernel))
theorem dX9_write_54 : decode cX9_write 54 = .ok (.iload_n 2, 1) := dk_28_ (show cX9_write.data.toList[54]? = some 0x1c from (LBX9_writer_3 6).trans (by decide +kernel))
theorem dX9_write_55 : decode cX9_write 55 = .ok (.iadd, 1) := dk_96_ (show cX9_write.data.toList[55]? = some 0x60 from (LBX9_writer_3 7).trans (by decide +kernel))
theorem dX9_write_56 : decode cX9_write 56 = .ok (.laload, 1) := dk_47_ (show cX9_write.data.toList[56]? = some 0x2f from (LBX9_writer_3 8).trans (by decide +kernel))
theorem dX9_write_57 : decode cX9_write 57 = .ok (.lstore 6, 2) := dk_55_ (show cX9_write.data.toList[57]? = some 0x37 from (LBX9_writer_3 9).trans (by decide +kernel)) (show cX9_write.data.toList[58]? = some 0x06 from (LBX9_writer_3 10).trans (by decide +kernel)) (by decide)
theorem dX9_write_59 : decode cX9_write 59 = .ok (.aload_n 0, 1) := dk_42_ (show cX9_write.data.toList[59]? = some 0x2a from (LBX9_writer_3 11).trans (by decide +kernel))
theorem dX9_write_60 : decode cX9_write 60 = .ok (.getfield 49, 3) := dk_180_ (show cX9_write.data.toList[60]? = some 0xb4 from (LBX9_writer_3 12).trans (by decide +kernel)) (show cX9_write.data.toList[61]? = some 0x00 from (LBX9_writer_3 13).trans (by decide +kernel)) (show cX9_write.data.toList[62]? = some 0x31 from (LBX9_writer_3 14).trans (by decide +kernel)) (by decide)
theorem dX9_write_63 : decode cX9_write 63 = .ok (.bipush 40, 2) := dk_16_ (show cX9_write.data.toList[63]? = some 0x10 from (LBX9_writer_3 15).trans (by decide +kernel)) (show cX9_write.data.toList[64]? = some 0x28 from (LBX9_writer_4 0).trans (by decide +kernel)) (by decide)
theorem dX9_write_65 : decode cX9_write 65 = .ok (.iload_n 1, 1) := dk_27_ (show cX9_write.data.toList[65]? = some 0x1b from (LBX9_writer_4 1).trans (by decide +kernel))
theorem dX9_write_66 : decode cX9_write 66 = .ok (.imul, 1) := dk_104_ (show cX9_write.data.toList[66]? = some 0x68 from (LBX9_writer_4 2).trans (by decide +kernel))
theorem dX9_write_67 : decode cX9_write 67 = .ok (.iload_n 2, 1) := dk_28_ (show cX9_write.data.toList[67]? = some 0x1c from (LBX9_writer_4 3).trans (by decide +kernel))
theorem dX9_write_68 : decode cX9_write 68 = .ok (.iadd, 1) := dk_96_ (show cX9_write.data.toList[68]? = some 0x60 from (LBX9_writer_4 4).trans (by decide +kernel))
theorem dX9_write_69 : decode cX9_write 69 = .ok (.aload_n 0, 1) := dk_42_ (show cX9_write.data.toList[69]? = some 0x2a from (LBX9_writer_4 5).trans (by decide +kernel))
theorem dX9_write_70 : decode cX9_write 70 = .ok (.getfield 43, 3) := dk_180_ (show cX9_write.data.toList[70]? = some 0xb4 from (LBX9_writer_4 6).trans (by decide +kernel)) (show cX9_write.data.toList[71]? = some 0x00 from (LBX9_writer_4 7).trans (by decide +kernel)) (show cX9_write.data.toList[72]? = some 0x2b from (LBX9_writer_4 8).trans (by decide +kernel)) (by decide)
theorem dX9_write_73 : decode cX9_write 73 = .ok (.iload_n 1, 1) := dk_27_ (show cX9_write.data.toList[73]? = some 0x1b from (LBX9_writer_4 9).trans (by decide +kernel))
theorem dX9_write_74 : decode cX9_write 74 = .ok (.iaload, 1) := dk_46_ (show cX9_write.data.toList[74]? = some 0x2e from (LBX9_writer_4 10).trans (by decide +kernel))
theorem dX9_write_75 : decode cX9_write 75 = .ok (.lload_n 3, 1) := dk_33_ (show cX9_write.data.toList[75]? = some 0x21 from (LBX9_writer_4 11).trans (by decide +kernel))
theorem dX9_write_76 : decode cX9_write 76 = .ok (.invokestatic 313, 3) := dk_184_ (show cX9_write.data.toList[76]? = some 0xb8 from (LBX9_writer_4 12).trans (by decide +kernel)) (show cX9_write.data.toList[77]? = some 0x01 from (LBX9_writer_4 13).trans (by decide +kernel)) (show cX9_write.data.toList[78]? = some 0x39 from (LBX9_writer_4 14).trans (by decide +kernel)) (by decide)
theorem dX9_write_79 : decode cX9_write 79 = .ok (.lastore, 1) := dk_80_ (show cX9_write.data.toList[79]? = some 0x50 from (LBX9_writer_4 15).trans (by decide +kernel))
theorem dX9_write_80 : decode cX9_write 80 = .ok (.lload 6, 2) := dk_22_ (show cX9_write.data.toList[80]? = some 0x16 from (LBX9_writer_5 0).trans (by decide +kernel)) (show cX9_write.data.toList[81]? = some 0x06 from (LBX9_writer_5 1).trans (by decide +kernel)) (by decide)
theorem dX9_write_82 : decode cX9_write 82 = .ok (.lreturn, 1) := dk_173_ (show cX9_write.data.toList[82]? = some 0xad from (LBX9_writer_5 2).trans (by decide +kernel))
theorem uw923 : Cond.constant RX9 308 (-1000000007) ∈ wsU := ut6 (List.mem_of_getElem? (i := 184) rfl) rfl
theorem uw924 : Cond.methodLink RX9 313 yX9_narrowed ∈ wsU := ut6 (List.mem_of_getElem? (i := 194) rfl) rfl
theorem uw925 : Cond.static yX9_narrowed ∈ wsU := ut6 (List.mem_of_getElem? (i := 195) rfl) rfl
theorem uw926 : Cond.initialized yX9_narrowed.cls ∈ wsU := ut1 (List.mem_of_getElem? (i := 10) rfl) rfl
theorem uw927 : Cond.code yX9_narrowed cX9_narrowed 3 (some .long) ∈ wsU := ut6 (List.mem_of_getElem? (i := 196) rfl) rfl
theorem ks_X9_313 : xWS RX9 313 yX9_narrowed cX9_narrowed 3 (some .long) 2 := ⟨⟨uw924, uw925, uw926, uw927⟩, by decide +kernel⟩
set_option maxHeartbeats 4000000 in
set_option maxRecDepth 100000 in
theorem c_X9_sheet_o (l : Launch) (D : va_G) (cI cJ cZ cS : ClassId) (ta : Nat) (sa sv : Nat → Nat) (sz : Nat) (h0 : Nat) (ys : Nat) (yk : Nat) (yo : Nat) (yt : Nat) (mk0 : Int32) (yfa : Nat) (yfe : Nat) (mL : Int32) (mS : Int32) (mM : Int32) (yro : Nat) (yhe : Nat) (ygr : Nat) (mF : Int32) (mC : Int32) (mY : Int32) (yta : Nat) (mz : Nat) (mf : Nat) (mt : Nat) (mv : Int32) (mw : Int32) (ywa : Nat) (ybi : Nat) (ysi : Nat) (ynu : Nat) (ymo : Nat) (mq : Nat → Int32) (p0 : Int32) (p1 : Int32) (p2 : Int32) (ho : p0 < 0 ∨ 3 < p0) : Met l yX9_sheet (Cond.code yX9_sheet cX9_sheet 5 (some .int) :: wsU) ({ frames := 2, cells := 0, slots := 0, locals := 45 }) (va_Pc [.ref h0, .int p0, .int p1, .int p2] (XW D (xT cI cJ cZ cS) ta sa sv [(h0, .inr (9, [.ref ys, .ref yk, .ref yo, .ref yt, .int mk0, .ref yfa, .ref yfe, .int mL, .int mS, .int mM, .ref yro, .ref yhe, .ref ygr, .int mF, .int mC, .int mY, .ref yta, .int (nI (mz)), .int (nI (mf)), .int (nI (mt)), .int mv, .int mw, .ref ywa, .ref ybi, .ref ysi, .ref ynu, .ref ymo])), (yt, .inl (cI, 7, .inl mq))] sz)) (XQi (fun (r : Int32) (mq2 : (Nat → Int32)) => ((r = (-1000000001)))) D (fun (mq2 : Nat → Int32) => [(h0, .inr (9, [.ref ys, .ref yk, .ref yo, .ref yt, .int mk0, .ref yfa, .ref yfe, .int mL, .int mS, .int mM, .ref yro, .ref yhe, .ref ygr, .int mF, .int mC, .int mY, .ref yta, .int (nI (mz)), .int (nI (mf)), .int (nI (mt)), .int mv, .int mw, .ref ywa, .ref ybi, .ref ysi, .ref ynu, .ref ymo])), (yt, .inl (cI, 7, .inl mq2))]) (va_A [(h0, .inr (9, [.ref ys, .ref yk, .ref yo, .ref yt, .int mk0, .ref yfa, .ref yfe, .int mL, .int mS, .int mM, .ref yro, .ref yhe, .ref ygr, .int mF, .int mC, .int mY, .ref yta, .int (nI (mz)), .int (nI (mf)), .int (nI (mt)), .int mv, .int mw, .ref ywa, .ref ybi, .ref ysi, .ref ynu, .ref ymo])), (yt, .inl (cI, 7, .inl mq))] sz)) 0 0 (va_A [(h0, .inr (9, [.ref ys, .ref yk, .ref yo, .ref yt, .int mk0, .ref yfa, .ref yfe, .int mL, .int mS, .int mM, .ref yro, .ref yhe, .ref ygr, .int mF, .int mC, .int mY, .ref yta, .int (nI (mz)), .int (nI (mf)), .int (nI (mt)), .int mv, .int mw, .ref ywa, .ref ybi, .ref ysi, .ref ynu, .ref ymo])), (yt, .inl (cI, 7, .inl mq))] sz) := by
  refine xh (QA := fun A => XQi (fun (r : Int32) (mq2 : (Nat → Int32)) => ((r = (-1000000001)))) D (fun (mq2 : Nat → Int32) => [(h0, .inr (9, [.ref ys, .ref yk, .ref yo, .ref yt, .int mk0, .ref yfa, .ref yfe, .int mL, .int mS, .int mM, .ref yro, .ref yhe, .ref ygr, .int mF, .int mC, .int mY, .ref yta, .int (nI (mz)), .int (nI (mf)), .int (nI (mt)), .int mv, .int mw, .ref ywa, .ref ybi, .ref ysi, .ref ynu, .ref ymo])), (yt, .inl (cI, 7, .inl mq2))]) A) (fr := fun A => A) (by decide) (Nat.le_of_ble_eq_true rfl) ?_
  intro p e s m below meth c ls A hF hr hlk hin hsz hP hK hD hN hZ hA hS hl
  have hF : CallFix p m c cX9_sheet 5 s _ _ RX9 := hF
  have hx := hF.1
  have hb := hF.2.1
  have hml := hF.2.2.1
  have hown := hF.2.2.2.1
  have hu : ∀ w ∈ wsU, w.before _ s = true := fun w h => hF.2.2.2.2 w (List.mem_cons_of_mem _ h)
  have hl : lv_has ls 5 [(0, .ref h0), (1, .int p0), (2, .int p1), (3, .int p2)] := hl
  refine lv_iload_n hx hb dX9_sheet_0 rfl (lv_at hl 1 rfl) ?_
  refine xc_Sr hF (c_X9_isOne l D cI cJ cZ cS ta sa sv s.heap.size p0 ) ks_X9_305 ⟨rfl, rfl, Nat.le_of_ble_eq_true rfl, Nat.le_of_ble_eq_true rfl⟩ ⟨Nat.le_of_ble_eq_true rfl, Nat.le_of_ble_eq_true rfl⟩ hK hN hZ hP hD hS hA [] rfl rfl rfl hl.1 rfl (Nat.le_of_ble_eq_true rfl) dX9_sheet_1 (fun r_1 hw_r_1 => ?_)
  rcases hw_r_1 with ⟨rfl, h_2, h_3⟩ | ⟨rfl, h_4⟩
  · exact absurd ho (p_no h_2 h_3)
  · skip
    refine lv_if_eq (tgt := 29) hx hb dX9_sheet_4 (by decide) (fun c_5 => ?_) (fun c_5 => absurd (by decide) c_5)
    refine lv_aload_n hx hb dX9_sheet_29 rfl (lv_at hl 0 rfl) ?_
    refine lv_ldc (v := (-1000000001)) hx hb hown (hu _ uw648) dX9_sheet_30 ?_
    refine xc_Vi (wr := []) hF (c_X9_finds_B l D cI cJ cZ cS ta sa sv s.heap.size h0 ys yk yo yt mk0 yfa yfe mL mS mM yro yhe ygr mF mC mY yta mz mf mt mv mw ywa ybi ysi ynu ymo mq ) kv_X9_70 ⟨rfl, rfl, Nat.le_of_ble_eq_true rfl, Nat.le_of_ble_eq_true rfl⟩ ⟨Nat.le_of_ble_eq_true rfl, Nat.le_of_ble_eq_true rfl⟩ hK hN hZ hP hD hS hA [0, 1] [] rfl rfl rfl rfl (by decide) 0 rfl rfl rfl rfl hl.1 rfl (Nat.le_of_ble_eq_true rfl) dX9_sheet_32 (fun r_6 u_r_6 H locs hw_r_6 hP hD hS => ?_)
    obtain ⟨mq2_7, rfl⟩ : ∃ z, z = u_r_6 := ⟨_, rfl⟩
    try dsimp only at hw_r_6
    have hP : va_P D vwCl [(h0, .inr (9, [.ref ys, .ref yk, .ref yo, .ref yt, .int mk0, .ref yfa, .ref yfe, .int mL, .int mS, .int mM, .ref yro, .ref yhe, .ref ygr, .int mF, .int mC, .int mY, .ref yta, .int (nI (mz)), .int (nI (mf)), .int (nI (mt)), .int mv, .int mw, .ref ywa, .ref ybi, .ref ysi, .ref ynu, .ref ymo])), (yt, .inl (cI, 7, .inl mq2_7))] H := hP
    have hD : va_D A [(h0, .inr (9, [.ref ys, .ref yk, .ref yo, .ref yt, .int mk0, .ref yfa, .ref yfe, .int mL, .int mS, .int mM, .ref yro, .ref yhe, .ref ygr, .int mF, .int mC, .int mY, .ref yta, .int (nI (mz)), .int (nI (mf)), .int (nI (mt)), .int mv, .int mw, .ref ywa, .ref ybi, .ref ysi, .ref ynu, .ref ymo])), (yt, .inl (cI, 7, .inl mq2_7))] := hD
    subst hw_r_6
    exact W.iret (v := (-1000000001)) hx hb hr (fun t ht hW => ⟨⟨(-1000000001), mq2_7, rfl, (by first | exact rfl), by rw [ht]; exact hP.sub [0, 1] rfl, hD.sub [0, 1] (by decide) rfl⟩, hS.F ht⟩) hS.2.2 dX9_sheet_35 hlk
set_option maxHeartbeats 4000000 in
set_option maxRecDepth 100000 in
theorem c_X9_wrong_o (l : Launch) (D : va_G) (cI cJ cZ cS : ClassId) (ta : Nat) (sa sv : Nat → Nat) (sz : Nat) (h0 : Nat) (ys : Nat) (yk : Nat) (yo : Nat) (yt : Nat) (mk0 : Int32) (yfa : Nat) (yfe : Nat) (mL : Int32) (mS : Int32) (mM : Int32) (yro : Nat) (yhe : Nat) (ygr : Nat) (mF : Int32) (mC : Int32) (mY : Int32) (yta : Nat) (mz : Nat) (mf : Nat) (mt : Nat) (mv : Int32) (mw : Int32) (ywa : Nat) (ybi : Nat) (ysi : Nat) (ynu : Nat) (ymo : Nat) (p0 : Int32) (ho : p0 < 0 ∨ 3 < p0) : Met l yX9_wrong (Cond.code yX9_wrong cX9_wrong 2 (some .int) :: wsU) ({ frames := 2, cells := 0, slots := 0, locals := 45 }) (va_Pc [.ref h0, .int p0] (XW D (xT cI cJ cZ cS) ta sa sv [(h0, .inr (9, [.ref ys, .ref yk, .ref yo, .ref yt, .int mk0, .ref yfa, .ref yfe, .int mL, .int mS, .int mM, .ref yro, .ref yhe, .ref ygr, .int mF, .int mC, .int mY, .ref yta, .int (nI (mz)), .int (nI (mf)), .int (nI (mt)), .int mv, .int mw, .ref ywa, .ref ybi, .ref ysi, .ref ynu, .ref ymo]))] sz)) (vp_Si (fun r : Int32 => (r = (-1000000001)))) 0 0 (fun _ => False) := by
  refine xh (QA := fun _ => vp_Si (fun r : Int32 => (r = (-1000000001)))) (fr := fun _ _ => False) (by decide) (Nat.le_of_ble_eq_true rfl) ?_
  intro p e s m below meth c ls A hF hr hlk hin hsz hP hK hD hN hZ hA hS hl
  have hF : CallFix p m c cX9_wrong 2 s _ _ RX9 := hF
  have hx := hF.1
  have hb := hF.2.1
  have hml := hF.2.2.1
  have hown := hF.2.2.2.1
  have hu : ∀ w ∈ wsU, w.before _ s = true := fun w h => hF.2.2.2.2 w (List.mem_cons_of_mem _ h)
  have hl : lv_has ls 2 [(0, .ref h0), (1, .int p0)] := hl
  refine lv_iload_n hx hb dX9_wrong_0 rfl (lv_at hl 1 rfl) ?_
  refine xc_Sr hF (c_X9_isOne l D cI cJ cZ cS ta sa sv s.heap.size p0 ) ks_X9_305 ⟨rfl, rfl, Nat.le_of_ble_eq_true rfl, Nat.le_of_ble_eq_true rfl⟩ ⟨Nat.le_of_ble_eq_true rfl, Nat.le_of_ble_eq_true rfl⟩ hK hN hZ hP hD hS hA [] rfl rfl rfl hl.1 rfl (Nat.le_of_ble_eq_true rfl) dX9_wrong_1 (fun r_1 hw_r_1 => ?_)
  rcases hw_r_1 with ⟨rfl, h_2, h_3⟩ | ⟨rfl, h_4⟩
  · exact absurd ho (p_no h_2 h_3)
  · skip
    refine lv_if_ne (tgt := 12) hx hb dX9_wrong_4 (by decide) (fun c_5 => absurd (by decide) c_5) (fun c_5 => ?_)
    refine lv_ldc (v := (-1000000001)) hx hb hown (hu _ uw648) dX9_wrong_7 ?_
    refine lv_goto (tgt := 28) hx hb dX9_wrong_9 (by decide) ?_
    exact W.iret (v := (-1000000001)) hx hb hr (fun t ht hW => ⟨(-1000000001), rfl, (by first | exact rfl), ht⟩) (fun q h => by cases h) dX9_wrong_28 hlk
set_option maxHeartbeats 4000000 in
set_option maxRecDepth 100000 in
theorem c_X9_write_o (l : Launch) (D : va_G) (cI cJ cZ cS : ClassId) (ta : Nat) (sa sv : Nat → Nat) (sz : Nat) (h0 : Nat) (ys : Nat) (yk : Nat) (yo : Nat) (yt : Nat) (mk0 : Int32) (yfa : Nat) (yfe : Nat) (mL : Int32) (mS : Int32) (mM : Int32) (yro : Nat) (yhe : Nat) (ygr : Nat) (mF : Int32) (mC : Int32) (mY : Int32) (yta : Nat) (mz : Nat) (mf : Nat) (mt : Nat) (mv : Int32) (mw : Int32) (ywa : Nat) (ybi : Nat) (ysi : Nat) (ynu : Nat) (ymo : Nat) (mq : Nat → Int32) (p0 : Int32) (p1 : Int32) (p2 : Int64) (ho : p0 < 0 ∨ 3 < p0) : Met l yX9_write (Cond.code yX9_write cX9_write 8 (some .long) :: wsU) ({ frames := 3, cells := 0, slots := 0, locals := 66 }) (va_Pc [.ref h0, .int p0, .int p1, .long p2] (XW D (xT cI cJ cZ cS) ta sa sv [(h0, .inr (9, [.ref ys, .ref yk, .ref yo, .ref yt, .int mk0, .ref yfa, .ref yfe, .int mL, .int mS, .int mM, .ref yro, .ref yhe, .ref ygr, .int mF, .int mC, .int mY, .ref yta, .int (nI (mz)), .int (nI (mf)), .int (nI (mt)), .int mv, .int mw, .ref ywa, .ref ybi, .ref ysi, .ref ynu, .ref ymo])), (yt, .inl (cI, 7, .inl mq))] sz)) (XQl (fun (r : Int64) (mq2 : (Nat → Int32)) => ((r = (-1000000001)))) D (fun (mq2 : Nat → Int32) => [(h0, .inr (9, [.ref ys, .ref yk, .ref yo, .ref yt, .int mk0, .ref yfa, .ref yfe, .int mL, .int mS, .int mM, .ref yro, .ref yhe, .ref ygr, .int mF, .int mC, .int mY, .ref yta, .int (nI (mz)), .int (nI (mf)), .int (nI (mt)), .int mv, .int mw, .ref ywa, .ref ybi, .ref ysi, .ref ynu, .ref ymo])), (yt, .inl (cI, 7, .inl mq2))]) (va_A [(h0, .inr (9, [.ref ys, .ref yk, .ref yo, .ref yt, .int mk0, .ref yfa, .ref yfe, .int mL, .int mS, .int mM, .ref yro, .ref yhe, .ref ygr, .int mF, .int mC, .int mY, .ref yta, .int (nI (mz)), .int (nI (mf)), .int (nI (mt)), .int mv, .int mw, .ref ywa, .ref ybi, .ref ysi, .ref ynu, .ref ymo])), (yt, .inl (cI, 7, .inl mq))] sz)) 0 0 (va_A [(h0, .inr (9, [.ref ys, .ref yk, .ref yo, .ref yt, .int mk0, .ref yfa, .ref yfe, .int mL, .int mS, .int mM, .ref yro, .ref yhe, .ref ygr, .int mF, .int mC, .int mY, .ref yta, .int (nI (mz)), .int (nI (mf)), .int (nI (mt)), .int mv, .int mw, .ref ywa, .ref ybi, .ref ysi, .ref ynu, .ref ymo])), (yt, .inl (cI, 7, .inl mq))] sz) := by
  refine xh (QA := fun A => XQl (fun (r : Int64) (mq2 : (Nat → Int32)) => ((r = (-1000000001)))) D (fun (mq2 : Nat → Int32) => [(h0, .inr (9, [.ref ys, .ref yk, .ref yo, .ref yt, .int mk0, .ref yfa, .ref yfe, .int mL, .int mS, .int mM, .ref yro, .ref yhe, .ref ygr, .int mF, .int mC, .int mY, .ref yta, .int (nI (mz)), .int (nI (mf)), .int (nI (mt)), .int mv, .int mw, .ref ywa, .ref ybi, .ref ysi, .ref ynu, .ref ymo])), (yt, .inl (cI, 7, .inl mq2))]) A) (fr := fun A => A) (by decide) (Nat.le_of_ble_eq_true rfl) ?_
  intro p e s m below meth c ls A hF hr hlk hin hsz hP hK hD hN hZ hA hS hl
  have hF : CallFix p m c cX9_write 8 s _ _ RX9 := hF
  have hx := hF.1
  have hb := hF.2.1
  have hml := hF.2.2.1
  have hown := hF.2.2.2.1
  have hu : ∀ w ∈ wsU, w.before _ s = true := fun w h => hF.2.2.2.2 w (List.mem_cons_of_mem _ h)
  have hl : lv_has ls 8 [(0, .ref h0), (1, .int p0), (2, .int p1), (3, .long p2)] := hl
  refine lv_aload_n hx hb dX9_write_0 rfl (lv_at hl 0 rfl) ?_
  refine lv_iload_n hx hb dX9_write_1 rfl (lv_at hl 1 rfl) ?_
  refine xc_Vr hF (c_X9_wrong_o l D cI cJ cZ cS ta sa sv s.heap.size h0 ys yk yo yt mk0 yfa yfe mL mS mM yro yhe ygr mF mC mY yta mz mf mt mv mw ywa ybi ysi ynu ymo p0 ho) kv_X9_310 ⟨rfl, rfl, Nat.le_of_ble_eq_true rfl, Nat.le_of_ble_eq_true rfl⟩ ⟨Nat.le_of_ble_eq_true rfl, Nat.le_of_ble_eq_true rfl⟩ hK hN hZ hP hD hS hA [0] rfl rfl 0 rfl rfl rfl rfl hl.1 rfl (Nat.le_of_ble_eq_true rfl) dX9_write_2 (fun r_1 hw_r_1 => ?_)
  subst hw_r_1
  refine lv_istore (lv' := [(5, .int (-1000000001)), (0, .ref h0), (1, .int p0), (2, .int p1), (3, .long p2)]) hx hb dX9_write_5 hl (by decide) rfl (fun ls hl => ?_)
  refine lv_iload hx hb dX9_write_7 (lv_at hl 0 rfl) ?_
  refine lv_if_eq (tgt := 20) hx hb dX9_write_9 (by decide) (fun c_2 => absurd c_2 (by decide)) (fun c_2 => ?_)
  refine lv_aload_n hx hb dX9_write_12 rfl (lv_at hl 1 rfl) ?_
  refine lv_iload hx hb dX9_write_13 (lv_at hl 0 rfl) ?_
  refine xc_Vi (wr := []) hF (c_X9_finds_B l D cI cJ cZ cS ta sa sv s.heap.size h0 ys yk yo yt mk0 yfa yfe mL mS mM yro yhe ygr mF mC mY yta mz mf mt mv mw ywa ybi ysi ynu ymo mq ) kv_X9_70 ⟨rfl, rfl, Nat.le_of_ble_eq_true rfl, Nat.le_of_ble_eq_true rfl⟩ ⟨Nat.le_of_ble_eq_true rfl, Nat.le_of_ble_eq_true rfl⟩ hK hN hZ hP hD hS hA [0, 1] [] rfl rfl rfl rfl (by decide) 0 rfl rfl rfl rfl hl.1 rfl (Nat.le_of_ble_eq_true rfl) dX9_write_15 (fun r_3 u_r_3 H locs hw_r_3 hP hD hS => ?_)
  obtain ⟨mq2_4, rfl⟩ : ∃ z, z = u_r_3 := ⟨_, rfl⟩
  try dsimp only at hw_r_3
  have hP : va_P D vwCl [(h0, .inr (9, [.ref ys, .ref yk, .ref yo, .ref yt, .int mk0, .ref yfa, .ref yfe, .int mL, .int mS, .int mM, .ref yro, .ref yhe, .ref ygr, .int mF, .int mC, .int mY, .ref yta, .int (nI (mz)), .int (nI (mf)), .int (nI (mt)), .int mv, .int mw, .ref ywa, .ref ybi, .ref ysi, .ref ynu, .ref ymo])), (yt, .inl (cI, 7, .inl mq2_4))] H := hP
  have hD : va_D A [(h0, .inr (9, [.ref ys, .ref yk, .ref yo, .ref yt, .int mk0, .ref yfa, .ref yfe, .int mL, .int mS, .int mM, .ref yro, .ref yhe, .ref ygr, .int mF, .int mC, .int mY, .ref yta, .int (nI (mz)), .int (nI (mf)), .int (nI (mt)), .int mv, .int mw, .ref ywa, .ref ybi, .ref ysi, .ref ynu, .ref ymo])), (yt, .inl (cI, 7, .inl mq2_4))] := hD
  subst hw_r_3
  refine lv_i2l (v := (-1000000001)) hx hb dX9_write_18 (by decide) ?_
  exact W.lret (v := (-1000000001)) hx hb hr (fun t ht hW => ⟨⟨(-1000000001), mq2_4, rfl, (by first | exact rfl), by rw [ht]; exact hP.sub [0, 1] rfl, hD.sub [0, 1] (by decide) rfl⟩, hS.F ht⟩) hS.2.2 dX9_write_19 hlk
set_option maxHeartbeats 4000000 in
set_option maxRecDepth 100000 in
theorem c_X9_wrong_0 (l : Launch) (D : va_G) (cI cJ cZ cS : ClassId) (ta : Nat) (sa sv : Nat → Nat) (sz : Nat) (h0 : Nat) (ys : Nat) (yk : Nat) (yo : Nat) (yt : Nat) (mk0 : Int32) (yfa : Nat) (yfe : Nat) (mL : Int32) (mS : Int32) (mM : Int32) (yro : Nat) (yhe : Nat) (ygr : Nat) (mF : Int32) (mC : Int32) (mY : Int32) (yta : Nat) (mz : Nat) (mf : Nat) (mt : Nat) (mv : Int32) (mw : Int32) (ywa : Nat) (ybi : Nat) (ysi : Nat) (ynu : Nat) (ymo : Nat) (bi : Nat → Int32) : Met l yX9_wrong (Cond.code yX9_wrong cX9_wrong 2 (some .int) :: wsU) ({ frames := 2, cells := 0, slots := 0, locals := 45 }) (va_Pc [.ref h0, .int 0] (XW D (xT cI cJ cZ cS) ta sa sv [(h0, .inr (9, [.ref ys, .ref yk, .ref yo, .ref yt, .int mk0, .ref yfa, .ref yfe, .int mL, .int mS, .int mM, .ref yro, .ref yhe, .ref ygr, .int mF, .int mC, .int mY, .ref yta, .int (nI (mz)), .int (nI (mf)), .int (nI (mt)), .int mv, .int mw, .ref ywa, .ref ybi, .ref ysi, .ref ynu, .ref ymo])), (ybi, .inl (cI, 4, .inl bi))] sz)) (vp_Si (fun r : Int32 => (r = (-1000000006) ∧ (bi 0 = 0)) ∨ (r = 0 ∧ (¬ bi 0 = 0)))) 0 0 (fun _ => False) := by
  refine xh (QA := fun _ => vp_Si (fun r : Int32 => (r = (-1000000006) ∧ (bi 0 = 0)) ∨ (r = 0 ∧ (¬ bi 0 = 0)))) (fr := fun _ _ => False) (by decide) (Nat.le_of_ble_eq_true rfl) ?_
  intro p e s m below meth c ls A hF hr hlk hin hsz hP hK hD hN hZ hA hS hl
  have hF : CallFix p m c cX9_wrong 2 s _ _ RX9 := hF
  have hx := hF.1
  have hb := hF.2.1
  have hml := hF.2.2.1
  have hown := hF.2.2.2.1
  have hu : ∀ w ∈ wsU, w.before _ s = true := fun w h => hF.2.2.2.2 w (List.mem_cons_of_mem _ h)
  have hl : lv_has ls 2 [(0, .ref h0), (1, .int 0)] := hl
  refine lv_iload_n hx hb dX9_wrong_0 rfl (lv_at hl 1 rfl) ?_
  refine xc_Sr hF (c_X9_isOne l D cI cJ cZ cS ta sa sv s.heap.size 0 ) ks_X9_305 ⟨rfl, rfl, Nat.le_of_ble_eq_true rfl, Nat.le_of_ble_eq_true rfl⟩ ⟨Nat.le_of_ble_eq_true rfl, Nat.le_of_ble_eq_true rfl⟩ hK hN hZ hP hD hS hA [] rfl rfl rfl hl.1 rfl (Nat.le_of_ble_eq_true rfl) dX9_wrong_1 (fun r_1 hw_r_1 => ?_)
  rcases hw_r_1 with ⟨rfl, h_2, h_3⟩ | ⟨rfl, h_4⟩
  · skip
    refine lv_if_ne (tgt := 12) hx hb dX9_wrong_4 (by decide) (fun c_5 => ?_) (fun c_5 => absurd c_5 (by decide))
    refine lv_aload_n hx hb dX9_wrong_12 rfl (lv_at hl 0 rfl) ?_
    refine xg hF kf_X9_43 hK hP 0 rfl rfl dX9_wrong_13 ?_
    refine lv_iload_n hx hb dX9_wrong_16 rfl (lv_at hl 1 rfl) ?_
    refine va_iald hx hb hK hP 1 0 rfl rfl (xin 0 4 (by decide) (by decide)) dX9_wrong_17 ?_
    refine xl_i (y := bi 0) (congrArg bi rfl) ?_
    refine lv_if_ne (tgt := 27) hx hb dX9_wrong_18 (by decide) (fun c_6 => ?_) (fun c_6 => ?_)
    · skip
      refine lv_iconst (v := 0) hx hb dX9_wrong_27 (by decide) ?_
      exact W.iret (v := 0) hx hb hr (fun t ht hW => ⟨0, rfl, (by first | exact Or.inr (⟨rfl, (by first | assumption | omega | exact Or.inl (by first | assumption | omega) | exact Or.inr (by first | assumption | omega))⟩)), ht⟩) (fun q h => by cases h) dX9_wrong_28 hlk
    · skip
      refine lv_ldcw (v := (-1000000006)) hx hb hown (hu _ uw910) dX9_wrong_21 ?_
      refine lv_goto (tgt := 28) hx hb dX9_wrong_24 (by decide) ?_
      exact W.iret (v := (-1000000006)) hx hb hr (fun t ht hW => ⟨(-1000000006), rfl, (by first | exact Or.inl ⟨rfl, (by first | assumption | omega | exact Or.inl (by first | assumption | omega) | exact Or.inr (by first | assumption | omega))⟩), ht⟩) (fun q h => by cases h) dX9_wrong_28 hlk
  · exact absurd h_4 (by decide)
set_option maxHeartbeats 4000000 in
set_option maxRecDepth 100000 in
theorem c_X9_sheet_0 (l : Launch) (D : va_G) (cI cJ cZ cS : ClassId) (ta : Nat) (sa sv : Nat → Nat) (sz : Nat) (h0 : Nat) (ys : Nat) (yk : Nat) (yo : Nat) (yt : Nat) (mk0 : Int32) (yfa : Nat) (yfe : Nat) (mL : Int32) (mS : Int32) (mM : Int32) (yro : Nat) (yhe : Nat) (ygr : Nat) (mF : Int32) (mC : Int32) (mY : Int32) (yta : Nat) (mz : Nat) (mf : Nat) (mt : Nat) (mv : Int32) (mw : Int32) (ywa : Nat) (ybi : Nat) (ysi : Nat) (ynu : Nat) (ymo : Nat) (bi : Nat → Int32) (sq : Nat → Int32) (nb : Nat → Int64) (mq : Nat → Int32) (p1 : Int32) (p2 : Int32) (zq : Nat) (ez : sq 0 = nI zq) (hzq : zq ≤ 40) (hsq : BA 4 41 sq) : Met l yX9_sheet (Cond.code yX9_sheet cX9_sheet 5 (some .int) :: wsU) ({ frames := 2, cells := 0, slots := 0, locals := 45 }) (va_Pc [.ref h0, .int 0, .int p1, .int p2] (XW D (xT cI cJ cZ cS) ta sa sv [(h0, .inr (9, [.ref ys, .ref yk, .ref yo, .ref yt, .int mk0, .ref yfa, .ref yfe, .int mL, .int mS, .int mM, .ref yro, .ref yhe, .ref ygr, .int mF, .int mC, .int mY, .ref yta, .int (nI (mz)), .int (nI (mf)), .int (nI (mt)), .int mv, .int mw, .ref ywa, .ref ybi, .ref ysi, .ref ynu, .ref ymo])), (ybi, .inl (cI, 4, .inl bi)), (ysi, .inl (cI, 4, .inl sq)), (ynu, .inl (cJ, 160, .inr (.inl nb))), (yt, .inl (cI, 7, .inl mq))] sz)) (XQi (fun (r : Int32) (u : (Nat → Int32) × (Nat → Int32) × (Nat → Int64) × (Nat → Int32)) => match u with | (bi2, sq2, nb2, mq2) => ((r = a_sheet 0 p1 p2)) ∧ (bi2 0 = sp_sb p1 p2 (bi 0)) ∧ (∀ j, j ≠ 0 → bi2 j = bi j) ∧ (sq2 0 = nI (sp_sz p1 p2 zq)) ∧ (∀ j, j ≠ 0 → sq2 j = sq j) ∧ (∀ j, j < 40 → nb2 (0 + j) = sp_sn p1 p2 (nb (0 + j))) ∧ (∀ j, j < 0 ∨ 40 ≤ j → nb2 j = nb j) ∧ (BA 4 41 sq2)) D (fun (u : (Nat → Int32) × (Nat → Int32) × (Nat → Int64) × (Nat → Int32)) => match u with | (bi2, sq2, nb2, mq2) => [(h0, .inr (9, [.ref ys, .ref yk, .ref yo, .ref yt, .int mk0, .ref yfa, .ref yfe, .int mL, .int mS, .int mM, .ref yro, .ref yhe, .ref ygr, .int mF, .int mC, .int mY, .ref yta, .int (nI (mz)), .int (nI (mf)), .int (nI (mt)), .int mv, .int mw, .ref ywa, .ref ybi, .ref ysi, .ref ynu, .ref ymo])), (ybi, .inl (cI, 4, .inl bi2)), (ysi, .inl (cI, 4, .inl sq2)), (ynu, .inl (cJ, 160, .inr (.inl nb2))), (yt, .inl (cI, 7, .inl mq2))]) (va_A [(h0, .inr (9, [.ref ys, .ref yk, .ref yo, .ref yt, .int mk0, .ref yfa, .ref yfe, .int mL, .int mS, .int mM, .ref yro, .ref yhe, .ref ygr, .int mF, .int mC, .int mY, .ref yta, .int (nI (mz)), .int (nI (mf)), .int (nI (mt)), .int mv, .int mw, .ref ywa, .ref ybi, .ref ysi, .ref ynu, .ref ymo])), (ybi, .inl (cI, 4, .inl bi)), (ysi, .inl (cI, 4, .inl sq)), (ynu, .inl (cJ, 160, .inr (.inl nb))), (yt, .inl (cI, 7, .inl mq))] sz)) 0 0 (va_A [(h0, .inr (9, [.ref ys, .ref yk, .ref yo, .ref yt, .int mk0, .ref yfa, .ref yfe, .int mL, .int mS, .int mM, .ref yro, .ref yhe, .ref ygr, .int mF, .int mC, .int mY, .ref yta, .int (nI (mz)), .int (nI (mf)), .int (nI (mt)), .int mv, .int mw, .ref ywa, .ref ybi, .ref ysi, .ref ynu, .ref ymo])), (ybi, .inl (cI, 4, .inl bi)), (ysi, .inl (cI, 4, .inl sq)), (ynu, .inl (cJ, 160, .inr (.inl nb))), (yt, .inl (cI, 7, .inl mq))] sz) := by
  refine xh (QA := fun A => XQi (fun (r : Int32) (u : (Nat → Int32) × (Nat → Int32) × (Nat → Int64) × (Nat → Int32)) => match u with | (bi2, sq2, nb2, mq2) => ((r = a_sheet 0 p1 p2)) ∧ (bi2 0 = sp_sb p1 p2 (bi 0)) ∧ (∀ j, j ≠ 0 → bi2 j = bi j) ∧ (sq2 0 = nI (sp_sz p1 p2 zq)) ∧ (∀ j, j ≠ 0 → sq2 j = sq j) ∧ (∀ j, j < 40 → nb2 (0 + j) = sp_sn p1 p2 (nb (0 + j))) ∧ (∀ j, j < 0 ∨ 40 ≤ j → nb2 j = nb j) ∧ (BA 4 41 sq2)) D (fun (u : (Nat → Int32) × (Nat → Int32) × (Nat → Int64) × (Nat → Int32)) => match u with | (bi2, sq2, nb2, mq2) => [(h0, .inr (9, [.ref ys, .ref yk, .ref yo, .ref yt, .int mk0, .ref yfa, .ref yfe, .int mL, .int mS, .int mM, .ref yro, .ref yhe, .ref ygr, .int mF, .int mC, .int mY, .ref yta, .int (nI (mz)), .int (nI (mf)), .int (nI (mt)), .int mv, .int mw, .ref ywa, .ref ybi, .ref ysi, .ref ynu, .ref ymo])), (ybi, .inl (cI, 4, .inl bi2)), (ysi, .inl (cI, 4, .inl sq2)), (ynu, .inl (cJ, 160, .inr (.inl nb2))), (yt, .inl (cI, 7, .inl mq2))]) A) (fr := fun A => A) (by decide) (Nat.le_of_ble_eq_true rfl) ?_
  intro p e s m below meth c ls A hF hr hlk hin hsz hP hK hD hN hZ hA hS hl
  have hF : CallFix p m c cX9_sheet 5 s _ _ RX9 := hF
  have hx := hF.1
  have hb := hF.2.1
  have hml := hF.2.2.1
  have hown := hF.2.2.2.1
  have hu : ∀ w ∈ wsU, w.before _ s = true := fun w h => hF.2.2.2.2 w (List.mem_cons_of_mem _ h)
  have hl : lv_has ls 5 [(0, .ref h0), (1, .int 0), (2, .int p1), (3, .int p2)] := hl
  refine lv_iload_n hx hb dX9_sheet_0 rfl (lv_at hl 1 rfl) ?_
  refine xc_Sr hF (c_X9_isOne l D cI cJ cZ cS ta sa sv s.heap.size 0 ) ks_X9_305 ⟨rfl, rfl, Nat.le_of_ble_eq_true rfl, Nat.le_of_ble_eq_true rfl⟩ ⟨Nat.le_of_ble_eq_true rfl, Nat.le_of_ble_eq_true rfl⟩ hK hN hZ hP hD hS hA [] rfl rfl rfl hl.1 rfl (Nat.le_of_ble_eq_true rfl) dX9_sheet_1 (fun r_1 hw_r_1 => ?_)
  rcases hw_r_1 with ⟨rfl, h_2, h_3⟩ | ⟨rfl, h_4⟩
  · skip
    refine lv_if_eq (tgt := 29) hx hb dX9_sheet_4 (by decide) (fun c_5 => absurd c_5 (by decide)) (fun c_5 => ?_)
    refine lv_iload_n hx hb dX9_sheet_7 rfl (lv_at hl 2 rfl) ?_
    refine lv_if_eq (tgt := 36) hx hb dX9_sheet_8 (by decide) (fun c_6 => ?_) (fun c_6 => ?_)
    · skip
      refine lv_iload_n hx hb dX9_sheet_36 rfl (lv_at hl 3 rfl) ?_
      refine lv_if_ge (tgt := 48) hx hb dX9_sheet_37 (by decide) (fun c_7 => ?_) (fun c_7 => ?_)
      · skip
        refine lv_iload_n hx hb dX9_sheet_48 rfl (lv_at hl 3 rfl) ?_
        refine lv_bipush (v := 40) hx hb dX9_sheet_49 (by decide) ?_
        refine lv_icmp_le (tgt := 61) hx hb dX9_sheet_51 (by decide) (fun c_8 => ?_) (fun c_8 => ?_)
        · skip
          obtain ⟨y_9, hy_9, rfl⟩ := xrange2 (w := 40) (by omega) c_7 c_8
          refine lv_aload_n hx hb dX9_sheet_61 rfl (lv_at hl 0 rfl) ?_
          refine xg hF kf_X9_43 hK hP 0 rfl rfl dX9_sheet_62 ?_
          refine lv_iload_n hx hb dX9_sheet_65 rfl (lv_at hl 1 rfl) ?_
          refine lv_iload_n hx hb dX9_sheet_66 rfl (lv_at hl 2 rfl) ?_
          refine va_iast hx hb hK hP hD hS 1 0 rfl rfl (xin 0 4 (by decide) (by decide)) dX9_sheet_67 (fun H locs hP hD hS => ?_)
          obtain ⟨f_10, ef_10⟩ : ∃ g, g = upd bi 0 p1 := ⟨_, rfl⟩
          have hP : va_P D vwCl [(h0, .inr (9, [.ref ys, .ref yk, .ref yo, .ref yt, .int mk0, .ref yfa, .ref yfe, .int mL, .int mS, .int mM, .ref yro, .ref yhe, .ref ygr, .int mF, .int mC, .int mY, .ref yta, .int (nI (mz)), .int (nI (mf)), .int (nI (mt)), .int mv, .int mw, .ref ywa, .ref ybi, .ref ysi, .ref ynu, .ref ymo])), (ybi, .inl (cI, 4, .inl (upd bi 0 p1))), (ysi, .inl (cI, 4, .inl sq)), (ynu, .inl (cJ, 160, .inr (.inl nb))), (yt, .inl (cI, 7, .inl mq))] H := hP
          have hD : va_D A [(h0, .inr (9, [.ref ys, .ref yk, .ref yo, .ref yt, .int mk0, .ref yfa, .ref yfe, .int mL, .int mS, .int mM, .ref yro, .ref yhe, .ref ygr, .int mF, .int mC, .int mY, .ref yta, .int (nI (mz)), .int (nI (mf)), .int (nI (mt)), .int mv, .int mw, .ref ywa, .ref ybi, .ref ysi, .ref ynu, .ref ymo])), (ybi, .inl (cI, 4, .inl (upd bi 0 p1))), (ysi, .inl (cI, 4, .inl sq)), (ynu, .inl (cJ, 160, .inr (.inl nb))), (yt, .inl (cI, 7, .inl mq))] := hD
          rw [← ef_10] at hP hD
          have hP : va_P D vwCl [(h0, .inr (9, [.ref ys, .ref yk, .ref yo, .ref yt, .int mk0, .ref yfa, .ref yfe, .int mL, .int mS, .int mM, .ref yro, .ref yhe, .ref ygr, .int mF, .int mC, .int mY, .ref yta, .int (nI (mz)), .int (nI (mf)), .int (nI (mt)), .int mv, .int mw, .ref ywa, .ref ybi, .ref ysi, .ref ynu, .ref ymo])), (ybi, .inl (cI, 4, .inl f_10)), (ysi, .inl (cI, 4, .inl sq)), (ynu, .inl (cJ, 160, .inr (.inl nb))), (yt, .inl (cI, 7, .inl mq))] H := hP
          have hD : va_D A [(h0, .inr (9, [.ref ys, .ref yk, .ref yo, .ref yt, .int mk0, .ref yfa, .ref yfe, .int mL, .int mS, .int mM, .ref yro, .ref yhe, .ref ygr, .int mF, .int mC, .int mY, .ref yta, .int (nI (mz)), .int (nI (mf)), .int (nI (mt)), .int mv, .int mw, .ref ywa, .ref ybi, .ref ysi, .ref ynu, .ref ymo])), (ybi, .inl (cI, 4, .inl f_10)), (ysi, .inl (cI, 4, .inl sq)), (ynu, .inl (cJ, 160, .inr (.inl nb))), (yt, .inl (cI, 7, .inl mq))] := hD
          refine lv_aload_n hx hb dX9_sheet_68 rfl (lv_at hl 0 rfl) ?_
          refine xg hF kf_X9_46 hK hP 0 rfl rfl dX9_sheet_69 ?_
          refine lv_iload_n hx hb dX9_sheet_72 rfl (lv_at hl 1 rfl) ?_
          refine lv_iload_n hx hb dX9_sheet_73 rfl (lv_at hl 2 rfl) ?_
          refine lv_if_ne (tgt := 81) hx hb dX9_sheet_74 (by decide) (fun c_11 => ?_) (fun c_11 => ?_)
          · skip
            refine lv_iload_n hx hb dX9_sheet_81 rfl (lv_at hl 3 rfl) ?_
            refine va_iast hx hb hK hP hD hS 2 0 rfl rfl (xin 0 4 (by decide) (by decide)) dX9_sheet_82 (fun H locs hP hD hS => ?_)
            obtain ⟨f_12, ef_12⟩ : ∃ g, g = upd sq 0 (nI (y_9)) := ⟨_, rfl⟩
            have hP : va_P D vwCl [(h0, .inr (9, [.ref ys, .ref yk, .ref yo, .ref yt, .int mk0, .ref yfa, .ref yfe, .int mL, .int mS, .int mM, .ref yro, .ref yhe, .ref ygr, .int mF, .int mC, .int mY, .ref yta, .int (nI (mz)), .int (nI (mf)), .int (nI (mt)), .int mv, .int mw, .ref ywa, .ref ybi, .ref ysi, .ref ynu, .ref ymo])), (ybi, .inl (cI, 4, .inl f_10)), (ysi, .inl (cI, 4, .inl (upd sq 0 (nI (y_9))))), (ynu, .inl (cJ, 160, .inr (.inl nb))), (yt, .inl (cI, 7, .inl mq))] H := hP
            have hD : va_D A [(h0, .inr (9, [.ref ys, .ref yk, .ref yo, .ref yt, .int mk0, .ref yfa, .ref yfe, .int mL, .int mS, .int mM, .ref yro, .ref yhe, .ref ygr, .int mF, .int mC, .int mY, .ref yta, .int (nI (mz)), .int (nI (mf)), .int (nI (mt)), .int mv, .int mw, .ref ywa, .ref ybi, .ref ysi, .ref ynu, .ref ymo])), (ybi, .inl (cI, 4, .inl f_10)), (ysi, .inl (cI, 4, .inl (upd sq 0 (nI (y_9))))), (ynu, .inl (cJ, 160, .inr (.inl nb))), (yt, .inl (cI, 7, .inl mq))] := hD
            rw [← ef_12] at hP hD
            have hf_12 : BA 4 41 f_12 := by rw [ef_12]; exact BA.upd hsq (show y_9 < 41 by omega)
            have hP : va_P D vwCl [(h0, .inr (9, [.ref ys, .ref yk, .ref yo, .ref yt, .int mk0, .ref yfa, .ref yfe, .int mL, .int mS, .int mM, .ref yro, .ref yhe, .ref ygr, .int mF, .int mC, .int mY, .ref yta, .int (nI (mz)), .int (nI (mf)), .int (nI (mt)), .int mv, .int mw, .ref ywa, .ref ybi, .ref ysi, .ref ynu, .ref ymo])), (ybi, .inl (cI, 4, .inl f_10)), (ysi, .inl (cI, 4, .inl f_12)), (ynu, .inl (cJ, 160, .inr (.inl nb))), (yt, .inl (cI, 7, .inl mq))] H := hP
            have hD : va_D A [(h0, .inr (9, [.ref ys, .ref yk, .ref yo, .ref yt, .int mk0, .ref yfa, .ref yfe, .int mL, .int mS, .int mM, .ref yro, .ref yhe, .ref ygr, .int mF, .int mC, .int mY, .ref yta, .int (nI (mz)), .int (nI (mf)), .int (nI (mt)), .int mv, .int mw, .ref ywa, .ref ybi, .ref ysi, .ref ynu, .ref ymo])), (ybi, .inl (cI, 4, .inl f_10)), (ysi, .inl (cI, 4, .inl f_12)), (ynu, .inl (cJ, 160, .inr (.inl nb))), (yt, .inl (cI, 7, .inl mq))] := hD
            refine lv_iconst (v := 0) hx hb dX9_sheet_83 (by decide) ?_
            refine lv_istore (lv' := [(4, .int 0), (0, .ref h0), (1, .int 0), (2, .int p1), (3, .int (nI (y_9)))]) hx hb dX9_sheet_84 hl (by decide) rfl (fun ls hl => ?_)
            suffices loop_86 : ∀ (n_86 : Nat) (i : Nat) (n8 : Nat → Int64) (H : Heap) (locs : List Loc) (ls : Array Slot), 40 - i < n_86 → (i ≤ 40) → (∀ j, 0 ≤ j → j < 0 + i → n8 j = 0) → (∀ j, j < 0 ∨ 40 ≤ j → n8 j = nb j) → va_P D vwCl [(h0, .inr (9, [.ref ys, .ref yk, .ref yo, .ref yt, .int mk0, .ref yfa, .ref yfe, .int mL, .int mS, .int mM, .ref yro, .ref yhe, .ref ygr, .int mF, .int mC, .int mY, .ref yta, .int (nI (mz)), .int (nI (mf)), .int (nI (mt)), .int mv, .int mw, .ref ywa, .ref ybi, .ref ysi, .ref ynu, .ref ymo])), (ybi, .inl (cI, 4, .inl f_10)), (ysi, .inl (cI, 4, .inl f_12)), (ynu, .inl (cJ, 160, .inr (.inl n8))), (yt, .inl (cI, 7, .inl mq))] H → va_D A [(h0, .inr (9, [.ref ys, .ref yk, .ref yo, .ref yt, .int mk0, .ref yfa, .ref yfe, .int mL, .int mS, .int mM, .ref yro, .ref yhe, .ref ygr, .int mF, .int mC, .int mY, .ref yta, .int (nI (mz)), .int (nI (mf)), .int (nI (mt)), .int mv, .int mw, .ref ywa, .ref ybi, .ref ysi, .ref ynu, .ref ymo])), (ybi, .inl (cI, 4, .inl f_10)), (ysi, .inl (cI, 4, .inl f_12)), (ynu, .inl (cJ, 160, .inr (.inl n8))), (yt, .inl (cI, 7, .inl mq))] → va_S A s.heap H locs → lv_has ls 5 [(4, .int (nI (i))), (0, .ref h0), (1, .int 0), (2, .int p1), (3, .int (nI (y_9)))] → W p l e ({ frames := 2, cells := 0, slots := 0, locals := 45 }) s m ([.ref h0, .int 0, .int p1, .int (nI (y_9))] : List Value).toArray below meth c H locs 0 0 (MQ below (XQi (fun (r : Int32) (u : (Nat → Int32) × (Nat → Int32) × (Nat → Int64) × (Nat → Int32)) => match u with | (bi2, sq2, nb2, mq2) => ((r = a_sheet 0 p1 (nI (y_9)))) ∧ (bi2 0 = sp_sb p1 (nI (y_9)) (bi 0)) ∧ (∀ j, j ≠ 0 → bi2 j = bi j) ∧ (sq2 0 = nI (sp_sz p1 (nI (y_9)) zq)) ∧ (∀ j, j ≠ 0 → sq2 j = sq j) ∧ (∀ j, j < 40 → nb2 (0 + j) = sp_sn p1 (nI (y_9)) (nb (0 + j))) ∧ (∀ j, j < 0 ∨ 40 ≤ j → nb2 j = nb j) ∧ (BA 4 41 sq2)) D (fun (u : (Nat → Int32) × (Nat → Int32) × (Nat → Int64) × (Nat → Int32)) => match u with | (bi2, sq2, nb2, mq2) => [(h0, .inr (9, [.ref ys, .ref yk, .ref yo, .ref yt, .int mk0, .ref yfa, .ref yfe, .int mL, .int mS, .int mM, .ref yro, .ref yhe, .ref ygr, .int mF, .int mC, .int mY, .ref yta, .int (nI (mz)), .int (nI (mf)), .int (nI (mt)), .int mv, .int mw, .ref ywa, .ref ybi, .ref ysi, .ref ynu, .ref ymo])), (ybi, .inl (cI, 4, .inl bi2)), (ysi, .inl (cI, 4, .inl sq2)), (ynu, .inl (cJ, 160, .inr (.inl nb2))), (yt, .inl (cI, 7, .inl mq2))]) A) ([.ref h0, .int 0, .int p1, .int (nI (y_9))] : List Value).toArray s 0 0 A) (F0 m 86 ls []) by
              exact loop_86 _ 0 nb _ _ _ (Nat.lt_succ_self _) (by omega) (fun j h1 h2 => absurd h1 (by omega)) (fun _ _ => rfl) hP hD hS (lv_sub hl [0, 1, 2, 3, 4] rfl)
            intro n_86
            induction n_86 with
            | zero =>
              intro i n8 H locs ls hm_86
              exact absurd hm_86 (Nat.not_lt_zero _)
            | succ n_86 ih_86 =>
              intro i n8 H locs ls hm_86 hi hf8 hg8 hP hD hS hl
              refine lv_iload hx hb dX9_sheet_86 (lv_at hl 0 rfl) ?_
              refine lv_bipush (v := 40) hx hb dX9_sheet_88 (by decide) ?_
              refine lv_icmp_ge (tgt := 112) hx hb dX9_sheet_90 (by decide) (fun c_13 => ?_) (fun c_13 => ?_)
              · skip
                have nc_13 : 40 ≤ i := xn_le (a := 40) (b := i) (by omega) (by omega) c_13
                refine lv_aload_n hx hb dX9_sheet_112 rfl (lv_at hl 1 rfl) ?_
                refine xg hF kf_X9_46 hK hP 0 rfl rfl dX9_sheet_113 ?_
                refine lv_iload_n hx hb dX9_sheet_116 rfl (lv_at hl 2 rfl) ?_
                refine va_iald hx hb hK hP 2 0 rfl rfl (xin 0 4 (by decide) (by decide)) dX9_sheet_117 ?_
                refine xl_i (y := f_12 0) (congrArg f_12 rfl) ?_
                refine xl_i (y := nI (y_9)) (by rw [ef_12]; exact pk_us) ?_
                exact W.iret (v := nI (y_9)) hx hb hr (fun t ht hW => ⟨⟨nI (y_9), (f_10, f_12, n8, mq), rfl, ⟨p_sheet6 (by decide) (by decide) (by first | exact Or.inl (by assumption) | exact Or.inr (Or.inl (by assumption)) | exact Or.inr (Or.inr (Or.inl (by assumption))) | exact Or.inr (Or.inr (Or.inr (by assumption)))) (nI_pos (by omega)) (x_le40 (by omega)) (by assumption), (by rw [ef_10]; exact pk_us.trans (if_pos ⟨(by first | exact Or.inl (by assumption) | exact Or.inr (Or.inl (by assumption)) | exact Or.inr (Or.inr (Or.inl (by assumption))) | exact Or.inr (Or.inr (Or.inr (by assumption)))), nI_pos (by omega), x_le40 (by omega)⟩).symm), (fun j hj => by rw [ef_10]; exact pk_un hj), (by rw [ef_12]; exact pk_us.trans (congrArg nI (sp_z1 ⟨(by first | exact Or.inl (by assumption) | exact Or.inr (Or.inl (by assumption)) | exact Or.inr (Or.inr (Or.inl (by assumption))) | exact Or.inr (Or.inr (Or.inr (by assumption)))), nI_pos (by omega), x_le40 (by omega)⟩ (by assumption) (by omega)))), (fun j hj => by rw [ef_12]; exact pk_un hj), (fun j hj => (hf8 (0 + j) (by omega) (by omega)).trans (if_pos ⟨(by first | exact Or.inl (by assumption) | exact Or.inr (Or.inl (by assumption)) | exact Or.inr (Or.inr (Or.inl (by assumption))) | exact Or.inr (Or.inr (Or.inr (by assumption)))), nI_pos (by omega), x_le40 (by omega)⟩).symm), (fun j hj => hg8 j hj), hf_12⟩, by rw [ht]; exact hP.sub [0, 1, 2, 3, 4] rfl, hD.sub [0, 1, 2, 3, 4] (by decide +kernel) rfl⟩, hS.F ht⟩) hS.2.2 dX9_sheet_118 hlk
              · skip
                have nc_13 : i < 40 := xn_nle (a := 40) (b := i) (by omega) (by omega) c_13
                refine lv_aload_n hx hb dX9_sheet_93 rfl (lv_at hl 1 rfl) ?_
                refine xg hF kf_X9_49 hK hP 0 rfl rfl dX9_sheet_94 ?_
                refine lv_bipush (v := 40) hx hb dX9_sheet_97 (by decide) ?_
                refine lv_iload_n hx hb dX9_sheet_99 rfl (lv_at hl 2 rfl) ?_
                refine lv_imul hx hb dX9_sheet_100 ?_
                refine xl_i (y := 0) (by decide) ?_
                refine lv_iload hx hb dX9_sheet_101 (lv_at hl 0 rfl) ?_
                refine lv_iadd hx hb dX9_sheet_103 ?_
                refine xl_i (y := nI (0 + i)) (nI_add 0 i) ?_
                refine lv_lconst (v := 0) hx hb dX9_sheet_104 (by decide) ?_
                refine va_last hx hb hK hP hD hS 3 1 rfl rfl (vp_in_nI (show 0 + i < 160 by omega) (by decide)) dX9_sheet_105 (fun H locs hP hD hS => ?_)
                rw [nI_clamp (show 0 + i < 2 ^ 31 by omega)] at hP hD
                obtain ⟨f_14, ef_14⟩ : ∃ g, g = vp_updL n8 (0 + i) 0 := ⟨_, rfl⟩
                rw [← ef_14] at hP hD
                have hP : va_P D vwCl [(h0, .inr (9, [.ref ys, .ref yk, .ref yo, .ref yt, .int mk0, .ref yfa, .ref yfe, .int mL, .int mS, .int mM, .ref yro, .ref yhe, .ref ygr, .int mF, .int mC, .int mY, .ref yta, .int (nI (mz)), .int (nI (mf)), .int (nI (mt)), .int mv, .int mw, .ref ywa, .ref ybi, .ref ysi, .ref ynu, .ref ymo])), (ybi, .inl (cI, 4, .inl f_10)), (ysi, .inl (cI, 4, .inl f_12)), (ynu, .inl (cJ, 160, .inr (.inl f_14))), (yt, .inl (cI, 7, .inl mq))] H := hP
                have hD : va_D A [(h0, .inr (9, [.ref ys, .ref yk, .ref yo, .ref yt, .int mk0, .ref yfa, .ref yfe, .int mL, .int mS, .int mM, .ref yro, .ref yhe, .ref ygr, .int mF, .int mC, .int mY, .ref yta, .int (nI (mz)), .int (nI (mf)), .int (nI (mt)), .int mv, .int mw, .ref ywa, .ref ybi, .ref ysi, .ref ynu, .ref ymo])), (ybi, .inl (cI, 4, .inl f_10)), (ysi, .inl (cI, 4, .inl f_12)), (ynu, .inl (cJ, 160, .inr (.inl f_14))), (yt, .inl (cI, 7, .inl mq))] := hD
                refine lv_iinc (v := nI (i + 1)) (lv' := [(4, .int (nI (i + 1))), (0, .ref h0), (1, .int 0), (2, .int p1), (3, .int (nI (y_9)))]) hx hb dX9_sheet_106 hl (k := 0) rfl (nI_1 (i)) (by decide) rfl (fun ls hl => ?_)
                refine lv_goto (tgt := 86) hx hb dX9_sheet_109 (by decide) ?_
                exact ih_86 (i + 1) f_14 _ _ _ (by omega) (by omega) (sp_fil hf8 ef_14) (sp_fio hg8 (by omega) (by omega) ef_14) (hP.sub [0, 1, 2, 3, 4] rfl) (hD.sub [0, 1, 2, 3, 4] (by decide +kernel) rfl) hS (lv_sub hl [0, 1, 2, 3, 4] rfl)
          · skip
            refine lv_iconst (v := 0) hx hb dX9_sheet_77 (by decide) ?_
            refine lv_goto (tgt := 82) hx hb dX9_sheet_78 (by decide) ?_
            refine va_iast hx hb hK hP hD hS 2 0 rfl rfl (xin 0 4 (by decide) (by decide)) dX9_sheet_82 (fun H locs hP hD hS => ?_)
            obtain ⟨f_15, ef_15⟩ : ∃ g, g = upd sq 0 0 := ⟨_, rfl⟩
            have hP : va_P D vwCl [(h0, .inr (9, [.ref ys, .ref yk, .ref yo, .ref yt, .int mk0, .ref yfa, .ref yfe, .int mL, .int mS, .int mM, .ref yro, .ref yhe, .ref ygr, .int mF, .int mC, .int mY, .ref yta, .int (nI (mz)), .int (nI (mf)), .int (nI (mt)), .int mv, .int mw, .ref ywa, .ref ybi, .ref ysi, .ref ynu, .ref ymo])), (ybi, .inl (cI, 4, .inl f_10)), (ysi, .inl (cI, 4, .inl (upd sq 0 0))), (ynu, .inl (cJ, 160, .inr (.inl nb))), (yt, .inl (cI, 7, .inl mq))] H := hP
            have hD : va_D A [(h0, .inr (9, [.ref ys, .ref yk, .ref yo, .ref yt, .int mk0, .ref yfa, .ref yfe, .int mL, .int mS, .int mM, .ref yro, .ref yhe, .ref ygr, .int mF, .int mC, .int mY, .ref yta, .int (nI (mz)), .int (nI (mf)), .int (nI (mt)), .int mv, .int mw, .ref ywa, .ref ybi, .ref ysi, .ref ynu, .ref ymo])), (ybi, .inl (cI, 4, .inl f_10)), (ysi, .inl (cI, 4, .inl (upd sq 0 0))), (ynu, .inl (cJ, 160, .inr (.inl nb))), (yt, .inl (cI, 7, .inl mq))] := hD
            rw [← ef_15] at hP hD
            have hf_15 : BA 4 41 f_15 := by rw [ef_15]; exact BA.upd hsq (show 0 < 41 by omega)
            have hP : va_P D vwCl [(h0, .inr (9, [.ref ys, .ref yk, .ref yo, .ref yt, .int mk0, .ref yfa, .ref yfe, .int mL, .int mS, .int mM, .ref yro, .ref yhe, .ref ygr, .int mF, .int mC, .int mY, .ref yta, .int (nI (mz)), .int (nI (mf)), .int (nI (mt)), .int mv, .int mw, .ref ywa, .ref ybi, .ref ysi, .ref ynu, .ref ymo])), (ybi, .inl (cI, 4, .inl f_10)), (ysi, .inl (cI, 4, .inl f_15)), (ynu, .inl (cJ, 160, .inr (.inl nb))), (yt, .inl (cI, 7, .inl mq))] H := hP
            have hD : va_D A [(h0, .inr (9, [.ref ys, .ref yk, .ref yo, .ref yt, .int mk0, .ref yfa, .ref yfe, .int mL, .int mS, .int mM, .ref yro, .ref yhe, .ref ygr, .int mF, .int mC, .int mY, .ref yta, .int (nI (mz)), .int (nI (mf)), .int (nI (mt)), .int mv, .int mw, .ref ywa, .ref ybi, .ref ysi, .ref ynu, .ref ymo])), (ybi, .inl (cI, 4, .inl f_10)), (ysi, .inl (cI, 4, .inl f_15)), (ynu, .inl (cJ, 160, .inr (.inl nb))), (yt, .inl (cI, 7, .inl mq))] := hD
            refine lv_iconst (v := 0) hx hb dX9_sheet_83 (by decide) ?_
            refine lv_istore (lv' := [(4, .int 0), (0, .ref h0), (1, .int 0), (2, .int p1), (3, .int (nI (y_9)))]) hx hb dX9_sheet_84 hl (by decide) rfl (fun ls hl => ?_)
            suffices loop_86 : ∀ (n_86 : Nat) (i : Nat) (n8 : Nat → Int64) (H : Heap) (locs : List Loc) (ls : Array Slot), 40 - i < n_86 → (i ≤ 40) → (∀ j, 0 ≤ j → j < 0 + i → n8 j = 0) → (∀ j, j < 0 ∨ 40 ≤ j → n8 j = nb j) → va_P D vwCl [(h0, .inr (9, [.ref ys, .ref yk, .ref yo, .ref yt, .int mk0, .ref yfa, .ref yfe, .int mL, .int mS, .int mM, .ref yro, .ref yhe, .ref ygr, .int mF, .int mC, .int mY, .ref yta, .int (nI (mz)), .int (nI (mf)), .int (nI (mt)), .int mv, .int mw, .ref ywa, .ref ybi, .ref ysi, .ref ynu, .ref ymo])), (ybi, .inl (cI, 4, .inl f_10)), (ysi, .inl (cI, 4, .inl f_15)), (ynu, .inl (cJ, 160, .inr (.inl n8))), (yt, .inl (cI, 7, .inl mq))] H → va_D A [(h0, .inr (9, [.ref ys, .ref yk, .ref yo, .ref yt, .int mk0, .ref yfa, .ref yfe, .int mL, .int mS, .int mM, .ref yro, .ref yhe, .ref ygr, .int mF, .int mC, .int mY, .ref yta, .int (nI (mz)), .int (nI (mf)), .int (nI (mt)), .int mv, .int mw, .ref ywa, .ref ybi, .ref ysi, .ref ynu, .ref ymo])), (ybi, .inl (cI, 4, .inl f_10)), (ysi, .inl (cI, 4, .inl f_15)), (ynu, .inl (cJ, 160, .inr (.inl n8))), (yt, .inl (cI, 7, .inl mq))] → va_S A s.heap H locs → lv_has ls 5 [(4, .int (nI (i))), (0, .ref h0), (1, .int 0), (2, .int p1), (3, .int (nI (y_9)))] → W p l e ({ frames := 2, cells := 0, slots := 0, locals := 45 }) s m ([.ref h0, .int 0, .int p1, .int (nI (y_9))] : List Value).toArray below meth c H locs 0 0 (MQ below (XQi (fun (r : Int32) (u : (Nat → Int32) × (Nat → Int32) × (Nat → Int64) × (Nat → Int32)) => match u with | (bi2, sq2, nb2, mq2) => ((r = a_sheet 0 p1 (nI (y_9)))) ∧ (bi2 0 = sp_sb p1 (nI (y_9)) (bi 0)) ∧ (∀ j, j ≠ 0 → bi2 j = bi j) ∧ (sq2 0 = nI (sp_sz p1 (nI (y_9)) zq)) ∧ (∀ j, j ≠ 0 → sq2 j = sq j) ∧ (∀ j, j < 40 → nb2 (0 + j) = sp_sn p1 (nI (y_9)) (nb (0 + j))) ∧ (∀ j, j < 0 ∨ 40 ≤ j → nb2 j = nb j) ∧ (BA 4 41 sq2)) D (fun (u : (Nat → Int32) × (Nat → Int32) × (Nat → Int64) × (Nat → Int32)) => match u with | (bi2, sq2, nb2, mq2) => [(h0, .inr (9, [.ref ys, .ref yk, .ref yo, .ref yt, .int mk0, .ref yfa, .ref yfe, .int mL, .int mS, .int mM, .ref yro, .ref yhe, .ref ygr, .int mF, .int mC, .int mY, .ref yta, .int (nI (mz)), .int (nI (mf)), .int (nI (mt)), .int mv, .int mw, .ref ywa, .ref ybi, .ref ysi, .ref ynu, .ref ymo])), (ybi, .inl (cI, 4, .inl bi2)), (ysi, .inl (cI, 4, .inl sq2)), (ynu, .inl (cJ, 160, .inr (.inl nb2))), (yt, .inl (cI, 7, .inl mq2))]) A) ([.ref h0, .int 0, .int p1, .int (nI (y_9))] : List Value).toArray s 0 0 A) (F0 m 86 ls []) by
              exact loop_86 _ 0 nb _ _ _ (Nat.lt_succ_self _) (by omega) (fun j h1 h2 => absurd h1 (by omega)) (fun _ _ => rfl) hP hD hS (lv_sub hl [0, 1, 2, 3, 4] rfl)
            intro n_86
            induction n_86 with
            | zero =>
              intro i n8 H locs ls hm_86
              exact absurd hm_86 (Nat.not_lt_zero _)
            | succ n_86 ih_86 =>
              intro i n8 H locs ls hm_86 hi hf8 hg8 hP hD hS hl
              refine lv_iload hx hb dX9_sheet_86 (lv_at hl 0 rfl) ?_
              refine lv_bipush (v := 40) hx hb dX9_sheet_88 (by decide) ?_
              refine lv_icmp_ge (tgt := 112) hx hb dX9_sheet_90 (by decide) (fun c_16 => ?_) (fun c_16 => ?_)
              · skip
                have nc_16 : 40 ≤ i := xn_le (a := 40) (b := i) (by omega) (by omega) c_16
                refine lv_aload_n hx hb dX9_sheet_112 rfl (lv_at hl 1 rfl) ?_
                refine xg hF kf_X9_46 hK hP 0 rfl rfl dX9_sheet_113 ?_
                refine lv_iload_n hx hb dX9_sheet_116 rfl (lv_at hl 2 rfl) ?_
                refine va_iald hx hb hK hP 2 0 rfl rfl (xin 0 4 (by decide) (by decide)) dX9_sheet_117 ?_
                refine xl_i (y := f_15 0) (congrArg f_15 rfl) ?_
                refine xl_i (y := 0) (by rw [ef_15]; exact pk_us) ?_
                exact W.iret (v := 0) hx hb hr (fun t ht hW => ⟨⟨0, (f_10, f_15, n8, mq), rfl, ⟨p_sheet5 (by decide) (by decide) c_11 (nI_pos (by omega)) (x_le40 (by omega)), (by rw [ef_10]; exact pk_us.trans (if_pos ⟨(by first | exact Or.inl (by assumption) | exact Or.inr (Or.inl (by assumption)) | exact Or.inr (Or.inr (Or.inl (by assumption))) | exact Or.inr (Or.inr (Or.inr (by assumption)))), nI_pos (by omega), x_le40 (by omega)⟩).symm), (fun j hj => by rw [ef_10]; exact pk_un hj), (by rw [ef_15]; exact pk_us.trans (congrArg nI (sp_z0 ⟨(by first | exact Or.inl (by assumption) | exact Or.inr (Or.inl (by assumption)) | exact Or.inr (Or.inr (Or.inl (by assumption))) | exact Or.inr (Or.inr (Or.inr (by assumption)))), nI_pos (by omega), x_le40 (by omega)⟩ c_11))), (fun j hj => by rw [ef_15]; exact pk_un hj), (fun j hj => (hf8 (0 + j) (by omega) (by omega)).trans (if_pos ⟨(by first | exact Or.inl (by assumption) | exact Or.inr (Or.inl (by assumption)) | exact Or.inr (Or.inr (Or.inl (by assumption))) | exact Or.inr (Or.inr (Or.inr (by assumption)))), nI_pos (by omega), x_le40 (by omega)⟩).symm), (fun j hj => hg8 j hj), hf_15⟩, by rw [ht]; exact hP.sub [0, 1, 2, 3, 4] rfl, hD.sub [0, 1, 2, 3, 4] (by decide +kernel) rfl⟩, hS.F ht⟩) hS.2.2 dX9_sheet_118 hlk
              · skip
                have nc_16 : i < 40 := xn_nle (a := 40) (b := i) (by omega) (by omega) c_16
                refine lv_aload_n hx hb dX9_sheet_93 rfl (lv_at hl 1 rfl) ?_
                refine xg hF kf_X9_49 hK hP 0 rfl rfl dX9_sheet_94 ?_
                refine lv_bipush (v := 40) hx hb dX9_sheet_97 (by decide) ?_
                refine lv_iload_n hx hb dX9_sheet_99 rfl (lv_at hl 2 rfl) ?_
                refine lv_imul hx hb dX9_sheet_100 ?_
                refine xl_i (y := 0) (by decide) ?_
                refine lv_iload hx hb dX9_sheet_101 (lv_at hl 0 rfl) ?_
                refine lv_iadd hx hb dX9_sheet_103 ?_
                refine xl_i (y := nI (0 + i)) (nI_add 0 i) ?_
                refine lv_lconst (v := 0) hx hb dX9_sheet_104 (by decide) ?_
                refine va_last hx hb hK hP hD hS 3 1 rfl rfl (vp_in_nI (show 0 + i < 160 by omega) (by decide)) dX9_sheet_105 (fun H locs hP hD hS => ?_)
                rw [nI_clamp (show 0 + i < 2 ^ 31 by omega)] at hP hD
                obtain ⟨f_17, ef_17⟩ : ∃ g, g = vp_updL n8 (0 + i) 0 := ⟨_, rfl⟩
                rw [← ef_17] at hP hD
                have hP : va_P D vwCl [(h0, .inr (9, [.ref ys, .ref yk, .ref yo, .ref yt, .int mk0, .ref yfa, .ref yfe, .int mL, .int mS, .int mM, .ref yro, .ref yhe, .ref ygr, .int mF, .int mC, .int mY, .ref yta, .int (nI (mz)), .int (nI (mf)), .int (nI (mt)), .int mv, .int mw, .ref ywa, .ref ybi, .ref ysi, .ref ynu, .ref ymo])), (ybi, .inl (cI, 4, .inl f_10)), (ysi, .inl (cI, 4, .inl f_15)), (ynu, .inl (cJ, 160, .inr (.inl f_17))), (yt, .inl (cI, 7, .inl mq))] H := hP
                have hD : va_D A [(h0, .inr (9, [.ref ys, .ref yk, .ref yo, .ref yt, .int mk0, .ref yfa, .ref yfe, .int mL, .int mS, .int mM, .ref yro, .ref yhe, .ref ygr, .int mF, .int mC, .int mY, .ref yta, .int (nI (mz)), .int (nI (mf)), .int (nI (mt)), .int mv, .int mw, .ref ywa, .ref ybi, .ref ysi, .ref ynu, .ref ymo])), (ybi, .inl (cI, 4, .inl f_10)), (ysi, .inl (cI, 4, .inl f_15)), (ynu, .inl (cJ, 160, .inr (.inl f_17))), (yt, .inl (cI, 7, .inl mq))] := hD
                refine lv_iinc (v := nI (i + 1)) (lv' := [(4, .int (nI (i + 1))), (0, .ref h0), (1, .int 0), (2, .int p1), (3, .int (nI (y_9)))]) hx hb dX9_sheet_106 hl (k := 0) rfl (nI_1 (i)) (by decide) rfl (fun ls hl => ?_)
                refine lv_goto (tgt := 86) hx hb dX9_sheet_109 (by decide) ?_
                exact ih_86 (i + 1) f_17 _ _ _ (by omega) (by omega) (sp_fil hf8 ef_17) (sp_fio hg8 (by omega) (by omega) ef_17) (hP.sub [0, 1, 2, 3, 4] rfl) (hD.sub [0, 1, 2, 3, 4] (by decide +kernel) rfl) hS (lv_sub hl [0, 1, 2, 3, 4] rfl)
        · skip
          refine lv_aload_n hx hb dX9_sheet_54 rfl (lv_at hl 0 rfl) ?_
          refine lv_ldc (v := (-1000000001)) hx hb hown (hu _ uw648) dX9_sheet_55 ?_
          refine xc_Vi (wr := [(ybi, .inl (cI, 4, .inl bi)), (ysi, .inl (cI, 4, .inl sq)), (ynu, .inl (cJ, 160, .inr (.inl nb)))]) hF (c_X9_finds_B l D cI cJ cZ cS ta sa sv s.heap.size h0 ys yk yo yt mk0 yfa yfe mL mS mM yro yhe ygr mF mC mY yta mz mf mt mv mw ywa ybi ysi ynu ymo mq ) kv_X9_70 ⟨rfl, rfl, Nat.le_of_ble_eq_true rfl, Nat.le_of_ble_eq_true rfl⟩ ⟨Nat.le_of_ble_eq_true rfl, Nat.le_of_ble_eq_true rfl⟩ hK hN hZ hP hD hS hA [0, 4] [1, 2, 3] rfl rfl rfl rfl (by decide) 0 rfl rfl rfl rfl hl.1 rfl (Nat.le_of_ble_eq_true rfl) dX9_sheet_57 (fun r_18 u_r_18 H locs hw_r_18 hP hD hS => ?_)
          obtain ⟨mq2_19, rfl⟩ : ∃ z, z = u_r_18 := ⟨_, rfl⟩
          try dsimp only at hw_r_18
          have hP : va_P D vwCl [(ybi, .inl (cI, 4, .inl bi)), (ysi, .inl (cI, 4, .inl sq)), (ynu, .inl (cJ, 160, .inr (.inl nb))), (h0, .inr (9, [.ref ys, .ref yk, .ref yo, .ref yt, .int mk0, .ref yfa, .ref yfe, .int mL, .int mS, .int mM, .ref yro, .ref yhe, .ref ygr, .int mF, .int mC, .int mY, .ref yta, .int (nI (mz)), .int (nI (mf)), .int (nI (mt)), .int mv, .int mw, .ref ywa, .ref ybi, .ref ysi, .ref ynu, .ref ymo])), (yt, .inl (cI, 7, .inl mq2_19))] H := hP
          have hD : va_D A [(ybi, .inl (cI, 4, .inl bi)), (ysi, .inl (cI, 4, .inl sq)), (ynu, .inl (cJ, 160, .inr (.inl nb))), (h0, .inr (9, [.ref ys, .ref yk, .ref yo, .ref yt, .int mk0, .ref yfa, .ref yfe, .int mL, .int mS, .int mM, .ref yro, .ref yhe, .ref ygr, .int mF, .int mC, .int mY, .ref yta, .int (nI (mz)), .int (nI (mf)), .int (nI (mt)), .int mv, .int mw, .ref ywa, .ref ybi, .ref ysi, .ref ynu, .ref ymo])), (yt, .inl (cI, 7, .inl mq2_19))] := hD
          subst hw_r_18
          exact W.iret (v := (-1000000001)) hx hb hr (fun t ht hW => ⟨⟨(-1000000001), (bi, sq, nb, mq2_19), rfl, ⟨p_sheet4 (by decide) (by decide) (by first | exact Or.inl (by assumption) | exact Or.inr (Or.inl (by assumption)) | exact Or.inr (Or.inr (Or.inl (by assumption))) | exact Or.inr (Or.inr (Or.inr (by assumption)))) (fun h => absurd c_7 (Int32.not_le.mpr h)) (xlt c_8), (if_neg (sp_n4 (xlt c_8))).symm, (fun _ _ => rfl), (ez.trans (congrArg nI (if_neg (sp_n4 (xlt c_8))).symm)), (fun _ _ => rfl), (fun j hj => (if_neg (sp_n4 (xlt c_8))).symm), (fun _ _ => rfl), hsq⟩, by rw [ht]; exact hP.sub [3, 0, 1, 2, 4] rfl, hD.sub [3, 0, 1, 2, 4] (by decide +kernel) rfl⟩, hS.F ht⟩) hS.2.2 dX9_sheet_60 hlk
      · skip
        refine lv_aload_n hx hb dX9_sheet_40 rfl (lv_at hl 0 rfl) ?_
        refine lv_ldcw (v := (-1000000007)) hx hb hown (hu _ uw923) dX9_sheet_41 ?_
        refine xc_Vi (wr := [(ybi, .inl (cI, 4, .inl bi)), (ysi, .inl (cI, 4, .inl sq)), (ynu, .inl (cJ, 160, .inr (.inl nb)))]) hF (c_X9_finds_S l D cI cJ cZ cS ta sa sv s.heap.size h0 ys yk yo yt mk0 yfa yfe mL mS mM yro yhe ygr mF mC mY yta mz mf mt mv mw ywa ybi ysi ynu ymo mq ) kv_X9_70 ⟨rfl, rfl, Nat.le_of_ble_eq_true rfl, Nat.le_of_ble_eq_true rfl⟩ ⟨Nat.le_of_ble_eq_true rfl, Nat.le_of_ble_eq_true rfl⟩ hK hN hZ hP hD hS hA [0, 4] [1, 2, 3] rfl rfl rfl rfl (by decide) 0 rfl rfl rfl rfl hl.1 rfl (Nat.le_of_ble_eq_true rfl) dX9_sheet_44 (fun r_20 u_r_20 H locs hw_r_20 hP hD hS => ?_)
        obtain ⟨mq2_21, rfl⟩ : ∃ z, z = u_r_20 := ⟨_, rfl⟩
        try dsimp only at hw_r_20
        have hP : va_P D vwCl [(ybi, .inl (cI, 4, .inl bi)), (ysi, .inl (cI, 4, .inl sq)), (ynu, .inl (cJ, 160, .inr (.inl nb))), (h0, .inr (9, [.ref ys, .ref yk, .ref yo, .ref yt, .int mk0, .ref yfa, .ref yfe, .int mL, .int mS, .int mM, .ref yro, .ref yhe, .ref ygr, .int mF, .int mC, .int mY, .ref yta, .int (nI (mz)), .int (nI (mf)), .int (nI (mt)), .int mv, .int mw, .ref ywa, .ref ybi, .ref ysi, .ref ynu, .ref ymo])), (yt, .inl (cI, 7, .inl mq2_21))] H := hP
        have hD : va_D A [(ybi, .inl (cI, 4, .inl bi)), (ysi, .inl (cI, 4, .inl sq)), (ynu, .inl (cJ, 160, .inr (.inl nb))), (h0, .inr (9, [.ref ys, .ref yk, .ref yo, .ref yt, .int mk0, .ref yfa, .ref yfe, .int mL, .int mS, .int mM, .ref yro, .ref yhe, .ref ygr, .int mF, .int mC, .int mY, .ref yta, .int (nI (mz)), .int (nI (mf)), .int (nI (mt)), .int mv, .int mw, .ref ywa, .ref ybi, .ref ysi, .ref ynu, .ref ymo])), (yt, .inl (cI, 7, .inl mq2_21))] := hD
        subst hw_r_20
        exact W.iret (v := (-1000000007)) hx hb hr (fun t ht hW => ⟨⟨(-1000000007), (bi, sq, nb, mq2_21), rfl, ⟨p_sheet3 (by decide) (by decide) (by first | exact Or.inl (by assumption) | exact Or.inr (Or.inl (by assumption)) | exact Or.inr (Or.inr (Or.inl (by assumption))) | exact Or.inr (Or.inr (Or.inr (by assumption)))) (xlt c_7), (if_neg (sp_n3 (xlt c_7))).symm, (fun _ _ => rfl), (ez.trans (congrArg nI (if_neg (sp_n3 (xlt c_7))).symm)), (fun _ _ => rfl), (fun j hj => (if_neg (sp_n3 (xlt c_7))).symm), (fun _ _ => rfl), hsq⟩, by rw [ht]; exact hP.sub [3, 0, 1, 2, 4] rfl, hD.sub [3, 0, 1, 2, 4] (by decide +kernel) rfl⟩, hS.F ht⟩) hS.2.2 dX9_sheet_47 hlk
    · skip
      refine lv_iload_n hx hb dX9_sheet_11 rfl (lv_at hl 2 rfl) ?_
      refine lv_bipush (v := 8) hx hb dX9_sheet_12 (by decide) ?_
      refine lv_icmp_eq (tgt := 36) hx hb dX9_sheet_14 (by decide) (fun c_22 => ?_) (fun c_22 => ?_)
      · skip
        refine lv_iload_n hx hb dX9_sheet_36 rfl (lv_at hl 3 rfl) ?_
        refine lv_if_ge (tgt := 48) hx hb dX9_sheet_37 (by decide) (fun c_23 => ?_) (fun c_23 => ?_)
        · skip
          refine lv_iload_n hx hb dX9_sheet_48 rfl (lv_at hl 3 rfl) ?_
          refine lv_bipush (v := 40) hx hb dX9_sheet_49 (by decide) ?_
          refine lv_icmp_le (tgt := 61) hx hb dX9_sheet_51 (by decide) (fun c_24 => ?_) (fun c_24 => ?_)
          · skip
            obtain ⟨y_25, hy_25, rfl⟩ := xrange2 (w := 40) (by omega) c_23 c_24
            refine lv_aload_n hx hb dX9_sheet_61 rfl (lv_at hl 0 rfl) ?_
            refine xg hF kf_X9_43 hK hP 0 rfl rfl dX9_sheet_62 ?_
            refine lv_iload_n hx hb dX9_sheet_65 rfl (lv_at hl 1 rfl) ?_
            refine lv_iload_n hx hb dX9_sheet_66 rfl (lv_at hl 2 rfl) ?_
            refine va_iast hx hb hK hP hD hS 1 0 rfl rfl (xin 0 4 (by decide) (by decide)) dX9_sheet_67 (fun H locs hP hD hS => ?_)
            obtain ⟨f_26, ef_26⟩ : ∃ g, g = upd bi 0 p1 := ⟨_, rfl⟩
            have hP : va_P D vwCl [(h0, .inr (9, [.ref ys, .ref yk, .ref yo, .ref yt, .int mk0, .ref yfa, .ref yfe, .int mL, .int mS, .int mM, .ref yro, .ref yhe, .ref ygr, .int mF, .int mC, .int mY, .ref yta, .int (nI (mz)), .int (nI (mf)), .int (nI (mt)), .int mv, .int mw, .ref ywa, .ref ybi, .ref ysi, .ref ynu, .ref ymo])), (ybi, .inl (cI, 4, .inl (upd bi 0 p1))), (ysi, .inl (cI, 4, .inl sq)), (ynu, .inl (cJ, 160, .inr (.inl nb))), (yt, .inl (cI, 7, .inl mq))] H := hP
            have hD : va_D A [(h0, .inr (9, [.ref ys, .ref yk, .ref yo, .ref yt, .int mk0, .ref yfa, .ref yfe, .int mL, .int mS, .int mM, .ref yro, .ref yhe, .ref ygr, .int mF, .int mC, .int mY, .ref yta, .int (nI (mz)), .int (nI (mf)), .int (nI (mt)), .int mv, .int mw, .ref ywa, .ref ybi, .ref ysi, .ref ynu, .ref ymo])), (ybi, .inl (cI, 4, .inl (upd bi 0 p1))), (ysi, .inl (cI, 4, .inl sq)), (ynu, .inl (cJ, 160, .inr (.inl nb))), (yt, .inl (cI, 7, .inl mq))] := hD
            rw [← ef_26] at hP hD
            have hP : va_P D vwCl [(h0, .inr (9, [.ref ys, .ref yk, .ref yo, .ref yt, .int mk0, .ref yfa, .ref yfe, .int mL, .int mS, .int mM, .ref yro, .ref yhe, .ref ygr, .int mF, .int mC, .int mY, .ref yta, .int (nI (mz)), .int (nI (mf)), .int (nI (mt)), .int mv, .int mw, .ref ywa, .ref ybi, .ref ysi, .ref ynu, .ref ymo])), (ybi, .inl (cI, 4, .inl f_26)), (ysi, .inl (cI, 4, .inl sq)), (ynu, .inl (cJ, 160, .inr (.inl nb))), (yt, .inl (cI, 7, .inl mq))] H := hP
            have hD : va_D A [(h0, .inr (9, [.ref ys, .ref yk, .ref yo, .ref yt, .int mk0, .ref yfa, .ref yfe, .int mL, .int mS, .int mM, .ref yro, .ref yhe, .ref ygr, .int mF, .int mC, .int mY, .ref yta, .int (nI (mz)), .int (nI (mf)), .int (nI (mt)), .int mv, .int mw, .ref ywa, .ref ybi, .ref ysi, .ref ynu, .ref ymo])), (ybi, .inl (cI, 4, .inl f_26)), (ysi, .inl (cI, 4, .inl sq)), (ynu, .inl (cJ, 160, .inr (.inl nb))), (yt, .inl (cI, 7, .inl mq))] := hD
            refine lv_aload_n hx hb dX9_sheet_68 rfl (lv_at hl 0 rfl) ?_
            refine xg hF kf_X9_46 hK hP 0 rfl rfl dX9_sheet_69 ?_
            refine lv_iload_n hx hb dX9_sheet_72 rfl (lv_at hl 1 rfl) ?_
            refine lv_iload_n hx hb dX9_sheet_73 rfl (lv_at hl 2 rfl) ?_
            refine lv_if_ne (tgt := 81) hx hb dX9_sheet_74 (by decide) (fun c_27 => ?_) (fun c_27 => ?_)
            · skip
              refine lv_iload_n hx hb dX9_sheet_81 rfl (lv_at hl 3 rfl) ?_
              refine va_iast hx hb hK hP hD hS 2 0 rfl rfl (xin 0 4 (by decide) (by decide)) dX9_sheet_82 (fun H locs hP hD hS => ?_)
              obtain ⟨f_28, ef_28⟩ : ∃ g, g = upd sq 0 (nI (y_25)) := ⟨_, rfl⟩
              have hP : va_P D vwCl [(h0, .inr (9, [.ref ys, .ref yk, .ref yo, .ref yt, .int mk0, .ref yfa, .ref yfe, .int mL, .int mS, .int mM, .ref yro, .ref yhe, .ref ygr, .int mF, .int mC, .int mY, .ref yta, .int (nI (mz)), .int (nI (mf)), .int (nI (mt)), .int mv, .int mw, .ref ywa, .ref ybi, .ref ysi, .ref ynu, .ref ymo])), (ybi, .inl (cI, 4, .inl f_26)), (ysi, .inl (cI, 4, .inl (upd sq 0 (nI (y_25))))), (ynu, .inl (cJ, 160, .inr (.inl nb))), (yt, .inl (cI, 7, .inl mq))] H := hP
              have hD : va_D A [(h0, .inr (9, [.ref ys, .ref yk, .ref yo, .ref yt, .int mk0, .ref yfa, .ref yfe, .int mL, .int mS, .int mM, .ref yro, .ref yhe, .ref ygr, .int mF, .int mC, .int mY, .ref yta, .int (nI (mz)), .int (nI (mf)), .int (nI (mt)), .int mv, .int mw, .ref ywa, .ref ybi, .ref ysi, .ref ynu, .ref ymo])), (ybi, .inl (cI, 4, .inl f_26)), (ysi, .inl (cI, 4, .inl (upd sq 0 (nI (y_25))))), (ynu, .inl (cJ, 160, .inr (.inl nb))), (yt, .inl (cI, 7, .inl mq))] := hD
              rw [← ef_28] at hP hD
              have hf_28 : BA 4 41 f_28 := by rw [ef_28]; exact BA.upd hsq (show y_25 < 41 by omega)
              have hP : va_P D vwCl [(h0, .inr (9, [.ref ys, .ref yk, .ref yo, .ref yt, .int mk0, .ref yfa, .ref yfe, .int mL, .int mS, .int mM, .ref yro, .ref yhe, .ref ygr, .int mF, .int mC, .int mY, .ref yta, .int (nI (mz)), .int (nI (mf)), .int (nI (mt)), .int mv, .int mw, .ref ywa, .ref ybi, .ref ysi, .ref ynu, .ref ymo])), (ybi, .inl (cI, 4, .inl f_26)), (ysi, .inl (cI, 4, .inl f_28)), (ynu, .inl (cJ, 160, .inr (.inl nb))), (yt, .inl (cI, 7, .inl mq))] H := hP
              have hD : va_D A [(h0, .inr (9, [.ref ys, .ref yk, .ref yo, .ref yt, .int mk0, .ref yfa, .ref yfe, .int mL, .int mS, .int mM, .ref yro, .ref yhe, .ref ygr, .int mF, .int mC, .int mY, .ref yta, .int (nI (mz)), .int (nI (mf)), .int (nI (mt)), .int mv, .int mw, .ref ywa, .ref ybi, .ref ysi, .ref ynu, .ref ymo])), (ybi, .inl (cI, 4, .inl f_26)), (ysi, .inl (cI, 4, .inl f_28)), (ynu, .inl (cJ, 160, .inr (.inl nb))), (yt, .inl (cI, 7, .inl mq))] := hD
              refine lv_iconst (v := 0) hx hb dX9_sheet_83 (by decide) ?_
              refine lv_istore (lv' := [(4, .int 0), (0, .ref h0), (1, .int 0), (2, .int p1), (3, .int (nI (y_25)))]) hx hb dX9_sheet_84 hl (by decide) rfl (fun ls hl => ?_)
              suffices loop_86 : ∀ (n_86 : Nat) (i : Nat) (n8 : Nat → Int64) (H : Heap) (locs : List Loc) (ls : Array Slot), 40 - i < n_86 → (i ≤ 40) → (∀ j, 0 ≤ j → j < 0 + i → n8 j = 0) → (∀ j, j < 0 ∨ 40 ≤ j → n8 j = nb j) → va_P D vwCl [(h0, .inr (9, [.ref ys, .ref yk, .ref yo, .ref yt, .int mk0, .ref yfa, .ref yfe, .int mL, .int mS, .int mM, .ref yro, .ref yhe, .ref ygr, .int mF, .int mC, .int mY, .ref yta, .int (nI (mz)), .int (nI (mf)), .int (nI (mt)), .int mv, .int mw, .ref ywa, .ref ybi, .ref ysi, .ref ynu, .ref ymo])), (ybi, .inl (cI, 4, .inl f_26)), (ysi, .inl (cI, 4, .inl f_28)), (ynu, .inl (cJ, 160, .inr (.inl n8))), (yt, .inl (cI, 7, .inl mq))] H → va_D A [(h0, .inr (9, [.ref ys, .ref yk, .ref yo, .ref yt, .int mk0, .ref yfa, .ref yfe, .int mL, .int mS, .int mM, .ref yro, .ref yhe, .ref ygr, .int mF, .int mC, .int mY, .ref yta, .int (nI (mz)), .int (nI (mf)), .int (nI (mt)), .int mv, .int mw, .ref ywa, .ref ybi, .ref ysi, .ref ynu, .ref ymo])), (ybi, .inl (cI, 4, .inl f_26)), (ysi, .inl (cI, 4, .inl f_28)), (ynu, .inl (cJ, 160, .inr (.inl n8))), (yt, .inl (cI, 7, .inl mq))] → va_S A s.heap H locs → lv_has ls 5 [(4, .int (nI (i))), (0, .ref h0), (1, .int 0), (2, .int p1), (3, .int (nI (y_25)))] → W p l e ({ frames := 2, cells := 0, slots := 0, locals := 45 }) s m ([.ref h0, .int 0, .int p1, .int (nI (y_25))] : List Value).toArray below meth c H locs 0 0 (MQ below (XQi (fun (r : Int32) (u : (Nat → Int32) × (Nat → Int32) × (Nat → Int64) × (Nat → Int32)) => match u with | (bi2, sq2, nb2, mq2) => ((r = a_sheet 0 p1 (nI (y_25)))) ∧ (bi2 0 = sp_sb p1 (nI (y_25)) (bi 0)) ∧ (∀ j, j ≠ 0 → bi2 j = bi j) ∧ (sq2 0 = nI (sp_sz p1 (nI (y_25)) zq)) ∧ (∀ j, j ≠ 0 → sq2 j = sq j) ∧ (∀ j, j < 40 → nb2 (0 + j) = sp_sn p1 (nI (y_25)) (nb (0 + j))) ∧ (∀ j, j < 0 ∨ 40 ≤ j → nb2 j = nb j) ∧ (BA 4 41 sq2)) D (fun (u : (Nat → Int32) × (Nat → Int32) × (Nat → Int64) × (Nat → Int32)) => match u with | (bi2, sq2, nb2, mq2) => [(h0, .inr (9, [.ref ys, .ref yk, .ref yo, .ref yt, .int mk0, .ref yfa, .ref yfe, .int mL, .int mS, .int mM, .ref yro, .ref yhe, .ref ygr, .int mF, .int mC, .int mY, .ref yta, .int (nI (mz)), .int (nI (mf)), .int (nI (mt)), .int mv, .int mw, .ref ywa, .ref ybi, .ref ysi, .ref ynu, .ref ymo])), (ybi, .inl (cI, 4, .inl bi2)), (ysi, .inl (cI, 4, .inl sq2)), (ynu, .inl (cJ, 160, .inr (.inl nb2))), (yt, .inl (cI, 7, .inl mq2))]) A) ([.ref h0, .int 0, .int p1, .int (nI (y_25))] : List Value).toArray s 0 0 A) (F0 m 86 ls []) by
                exact loop_86 _ 0 nb _ _ _ (Nat.lt_succ_self _) (by omega) (fun j h1 h2 => absurd h1 (by omega)) (fun _ _ => rfl) hP hD hS (lv_sub hl [0, 1, 2, 3, 4] rfl)
              intro n_86
              induction n_86 with
              | zero =>
                intro i n8 H locs ls hm_86
                exact absurd hm_86 (Nat.not_lt_zero _)
              | succ n_86 ih_86 =>
                intro i n8 H locs ls hm_86 hi hf8 hg8 hP hD hS hl
                refine lv_iload hx hb dX9_sheet_86 (lv_at hl 0 rfl) ?_
                refine lv_bipush (v := 40) hx hb dX9_sheet_88 (by decide) ?_
                refine lv_icmp_ge (tgt := 112) hx hb dX9_sheet_90 (by decide) (fun c_29 => ?_) (fun c_29 => ?_)
                · skip
                  have nc_29 : 40 ≤ i := xn_le (a := 40) (b := i) (by omega) (by omega) c_29
                  refine lv_aload_n hx hb dX9_sheet_112 rfl (lv_at hl 1 rfl) ?_
                  refine xg hF kf_X9_46 hK hP 0 rfl rfl dX9_sheet_113 ?_
                  refine lv_iload_n hx hb dX9_sheet_116 rfl (lv_at hl 2 rfl) ?_
                  refine va_iald hx hb hK hP 2 0 rfl rfl (xin 0 4 (by decide) (by decide)) dX9_sheet_117 ?_
                  refine xl_i (y := f_28 0) (congrArg f_28 rfl) ?_
                  refine xl_i (y := nI (y_25)) (by rw [ef_28]; exact pk_us) ?_
                  exact W.iret (v := nI (y_25)) hx hb hr (fun t ht hW => ⟨⟨nI (y_25), (f_26, f_28, n8, mq), rfl, ⟨p_sheet6 (by decide) (by decide) (by first | exact Or.inl (by assumption) | exact Or.inr (Or.inl (by assumption)) | exact Or.inr (Or.inr (Or.inl (by assumption))) | exact Or.inr (Or.inr (Or.inr (by assumption)))) (nI_pos (by omega)) (x_le40 (by omega)) (by assumption), (by rw [ef_26]; exact pk_us.trans (if_pos ⟨(by first | exact Or.inl (by assumption) | exact Or.inr (Or.inl (by assumption)) | exact Or.inr (Or.inr (Or.inl (by assumption))) | exact Or.inr (Or.inr (Or.inr (by assumption)))), nI_pos (by omega), x_le40 (by omega)⟩).symm), (fun j hj => by rw [ef_26]; exact pk_un hj), (by rw [ef_28]; exact pk_us.trans (congrArg nI (sp_z1 ⟨(by first | exact Or.inl (by assumption) | exact Or.inr (Or.inl (by assumption)) | exact Or.inr (Or.inr (Or.inl (by assumption))) | exact Or.inr (Or.inr (Or.inr (by assumption)))), nI_pos (by omega), x_le40 (by omega)⟩ (by assumption) (by omega)))), (fun j hj => by rw [ef_28]; exact pk_un hj), (fun j hj => (hf8 (0 + j) (by omega) (by omega)).trans (if_pos ⟨(by first | exact Or.inl (by assumption) | exact Or.inr (Or.inl (by assumption)) | exact Or.inr (Or.inr (Or.inl (by assumption))) | exact Or.inr (Or.inr (Or.inr (by assumption)))), nI_pos (by omega), x_le40 (by omega)⟩).symm), (fun j hj => hg8 j hj), hf_28⟩, by rw [ht]; exact hP.sub [0, 1, 2, 3, 4] rfl, hD.sub [0, 1, 2, 3, 4] (by decide +kernel) rfl⟩, hS.F ht⟩) hS.2.2 dX9_sheet_118 hlk
                · skip
                  have nc_29 : i < 40 := xn_nle (a := 40) (b := i) (by omega) (by omega) c_29
                  refine lv_aload_n hx hb dX9_sheet_93 rfl (lv_at hl 1 rfl) ?_
                  refine xg hF kf_X9_49 hK hP 0 rfl rfl dX9_sheet_94 ?_
                  refine lv_bipush (v := 40) hx hb dX9_sheet_97 (by decide) ?_
                  refine lv_iload_n hx hb dX9_sheet_99 rfl (lv_at hl 2 rfl) ?_
                  refine lv_imul hx hb dX9_sheet_100 ?_
                  refine xl_i (y := 0) (by decide) ?_
                  refine lv_iload hx hb dX9_sheet_101 (lv_at hl 0 rfl) ?_
                  refine lv_iadd hx hb dX9_sheet_103 ?_
                  refine xl_i (y := nI (0 + i)) (nI_add 0 i) ?_
                  refine lv_lconst (v := 0) hx hb dX9_sheet_104 (by decide) ?_
                  refine va_last hx hb hK hP hD hS 3 1 rfl rfl (vp_in_nI (show 0 + i < 160 by omega) (by decide)) dX9_sheet_105 (fun H locs hP hD hS => ?_)
                  rw [nI_clamp (show 0 + i < 2 ^ 31 by omega)] at hP hD
                  obtain ⟨f_30, ef_30⟩ : ∃ g, g = vp_updL n8 (0 + i) 0 := ⟨_, rfl⟩
                  rw [← ef_30] at hP hD
                  have hP : va_P D vwCl [(h0, .inr (9, [.ref ys, .ref yk, .ref yo, .ref yt, .int mk0, .ref yfa, .ref yfe, .int mL, .int mS, .int mM, .ref yro, .ref yhe, .ref ygr, .int mF, .int mC, .int mY, .ref yta, .int (nI (mz)), .int (nI (mf)), .int (nI (mt)), .int mv, .int mw, .ref ywa, .ref ybi, .ref ysi, .ref ynu, .ref ymo])), (ybi, .inl (cI, 4, .inl f_26)), (ysi, .inl (cI, 4, .inl f_28)), (ynu, .inl (cJ, 160, .inr (.inl f_30))), (yt, .inl (cI, 7, .inl mq))] H := hP
                  have hD : va_D A [(h0, .inr (9, [.ref ys, .ref yk, .ref yo, .ref yt, .int mk0, .ref yfa, .ref yfe, .int mL, .int mS, .int mM, .ref yro, .ref yhe, .ref ygr, .int mF, .int mC, .int mY, .ref yta, .int (nI (mz)), .int (nI (mf)), .int (nI (mt)), .int mv, .int mw, .ref ywa, .ref ybi, .ref ysi, .ref ynu, .ref ymo])), (ybi, .inl (cI, 4, .inl f_26)), (ysi, .inl (cI, 4, .inl f_28)), (ynu, .inl (cJ, 160, .inr (.inl f_30))), (yt, .inl (cI, 7, .inl mq))] := hD
                  refine lv_iinc (v := nI (i + 1)) (lv' := [(4, .int (nI (i + 1))), (0, .ref h0), (1, .int 0), (2, .int p1), (3, .int (nI (y_25)))]) hx hb dX9_sheet_106 hl (k := 0) rfl (nI_1 (i)) (by decide) rfl (fun ls hl => ?_)
                  refine lv_goto (tgt := 86) hx hb dX9_sheet_109 (by decide) ?_
                  exact ih_86 (i + 1) f_30 _ _ _ (by omega) (by omega) (sp_fil hf8 ef_30) (sp_fio hg8 (by omega) (by omega) ef_30) (hP.sub [0, 1, 2, 3, 4] rfl) (hD.sub [0, 1, 2, 3, 4] (by decide +kernel) rfl) hS (lv_sub hl [0, 1, 2, 3, 4] rfl)
            · skip
              refine lv_iconst (v := 0) hx hb dX9_sheet_77 (by decide) ?_
              refine lv_goto (tgt := 82) hx hb dX9_sheet_78 (by decide) ?_
              refine va_iast hx hb hK hP hD hS 2 0 rfl rfl (xin 0 4 (by decide) (by decide)) dX9_sheet_82 (fun H locs hP hD hS => ?_)
              obtain ⟨f_31, ef_31⟩ : ∃ g, g = upd sq 0 0 := ⟨_, rfl⟩
              have hP : va_P D vwCl [(h0, .inr (9, [.ref ys, .ref yk, .ref yo, .ref yt, .int mk0, .ref yfa, .ref yfe, .int mL, .int mS, .int mM, .ref yro, .ref yhe, .ref ygr, .int mF, .int mC, .int mY, .ref yta, .int (nI (mz)), .int (nI (mf)), .int (nI (mt)), .int mv, .int mw, .ref ywa, .ref ybi, .ref ysi, .ref ynu, .ref ymo])), (ybi, .inl (cI, 4, .inl f_26)), (ysi, .inl (cI, 4, .inl (upd sq 0 0))), (ynu, .inl (cJ, 160, .inr (.inl nb))), (yt, .inl (cI, 7, .inl mq))] H := hP
              have hD : va_D A [(h0, .inr (9, [.ref ys, .ref yk, .ref yo, .ref yt, .int mk0, .ref yfa, .ref yfe, .int mL, .int mS, .int mM, .ref yro, .ref yhe, .ref ygr, .int mF, .int mC, .int mY, .ref yta, .int (nI (mz)), .int (nI (mf)), .int (nI (mt)), .int mv, .int mw, .ref ywa, .ref ybi, .ref ysi, .ref ynu, .ref ymo])), (ybi, .inl (cI, 4, .inl f_26)), (ysi, .inl (cI, 4, .inl (upd sq 0 0))), (ynu, .inl (cJ, 160, .inr (.inl nb))), (yt, .inl (cI, 7, .inl mq))] := hD
              rw [← ef_31] at hP hD
              have hf_31 : BA 4 41 f_31 := by rw [ef_31]; exact BA.upd hsq (show 0 < 41 by omega)
              have hP : va_P D vwCl [(h0, .inr (9, [.ref ys, .ref yk, .ref yo, .ref yt, .int mk0, .ref yfa, .ref yfe, .int mL, .int mS, .int mM, .ref yro, .ref yhe, .ref ygr, .int mF, .int mC, .int mY, .ref yta, .int (nI (mz)), .int (nI (mf)), .int (nI (mt)), .int mv, .int mw, .ref ywa, .ref ybi, .ref ysi, .ref ynu, .ref ymo])), (ybi, .inl (cI, 4, .inl f_26)), (ysi, .inl (cI, 4, .inl f_31)), (ynu, .inl (cJ, 160, .inr (.inl nb))), (yt, .inl (cI, 7, .inl mq))] H := hP
              have hD : va_D A [(h0, .inr (9, [.ref ys, .ref yk, .ref yo, .ref yt, .int mk0, .ref yfa, .ref yfe, .int mL, .int mS, .int mM, .ref yro, .ref yhe, .ref ygr, .int mF, .int mC, .int mY, .ref yta, .int (nI (mz)), .int (nI (mf)), .int (nI (mt)), .int mv, .int mw, .ref ywa, .ref ybi, .ref ysi, .ref ynu, .ref ymo])), (ybi, .inl (cI, 4, .inl f_26)), (ysi, .inl (cI, 4, .inl f_31)), (ynu, .inl (cJ, 160, .inr (.inl nb))), (yt, .inl (cI, 7, .inl mq))] := hD
              refine lv_iconst (v := 0) hx hb dX9_sheet_83 (by decide) ?_
              refine lv_istore (lv' := [(4, .int 0), (0, .ref h0), (1, .int 0), (2, .int p1), (3, .int (nI (y_25)))]) hx hb dX9_sheet_84 hl (by decide) rfl (fun ls hl => ?_)
              suffices loop_86 : ∀ (n_86 : Nat) (i : Nat) (n8 : Nat → Int64) (H : Heap) (locs : List Loc) (ls : Array Slot), 40 - i < n_86 → (i ≤ 40) → (∀ j, 0 ≤ j → j < 0 + i → n8 j = 0) → (∀ j, j < 0 ∨ 40 ≤ j → n8 j = nb j) → va_P D vwCl [(h0, .inr (9, [.ref ys, .ref yk, .ref yo, .ref yt, .int mk0, .ref yfa, .ref yfe, .int mL, .int mS, .int mM, .ref yro, .ref yhe, .ref ygr, .int mF, .int mC, .int mY, .ref yta, .int (nI (mz)), .int (nI (mf)), .int (nI (mt)), .int mv, .int mw, .ref ywa, .ref ybi, .ref ysi, .ref ynu, .ref ymo])), (ybi, .inl (cI, 4, .inl f_26)), (ysi, .inl (cI, 4, .inl f_31)), (ynu, .inl (cJ, 160, .inr (.inl n8))), (yt, .inl (cI, 7, .inl mq))] H → va_D A [(h0, .inr (9, [.ref ys, .ref yk, .ref yo, .ref yt, .int mk0, .ref yfa, .ref yfe, .int mL, .int mS, .int mM, .ref yro, .ref yhe, .ref ygr, .int mF, .int mC, .int mY, .ref yta, .int (nI (mz)), .int (nI (mf)), .int (nI (mt)), .int mv, .int mw, .ref ywa, .ref ybi, .ref ysi, .ref ynu, .ref ymo])), (ybi, .inl (cI, 4, .inl f_26)), (ysi, .inl (cI, 4, .inl f_31)), (ynu, .inl (cJ, 160, .inr (.inl n8))), (yt, .inl (cI, 7, .inl mq))] → va_S A s.heap H locs → lv_has ls 5 [(4, .int (nI (i))), (0, .ref h0), (1, .int 0), (2, .int p1), (3, .int (nI (y_25)))] → W p l e ({ frames := 2, cells := 0, slots := 0, locals := 45 }) s m ([.ref h0, .int 0, .int p1, .int (nI (y_25))] : List Value).toArray below meth c H locs 0 0 (MQ below (XQi (fun (r : Int32) (u : (Nat → Int32) × (Nat → Int32) × (Nat → Int64) × (Nat → Int32)) => match u with | (bi2, sq2, nb2, mq2) => ((r = a_sheet 0 p1 (nI (y_25)))) ∧ (bi2 0 = sp_sb p1 (nI (y_25)) (bi 0)) ∧ (∀ j, j ≠ 0 → bi2 j = bi j) ∧ (sq2 0 = nI (sp_sz p1 (nI (y_25)) zq)) ∧ (∀ j, j ≠ 0 → sq2 j = sq j) ∧ (∀ j, j < 40 → nb2 (0 + j) = sp_sn p1 (nI (y_25)) (nb (0 + j))) ∧ (∀ j, j < 0 ∨ 40 ≤ j → nb2 j = nb j) ∧ (BA 4 41 sq2)) D (fun (u : (Nat → Int32) × (Nat → Int32) × (Nat → Int64) × (Nat → Int32)) => match u with | (bi2, sq2, nb2, mq2) => [(h0, .inr (9, [.ref ys, .ref yk, .ref yo, .ref yt, .int mk0, .ref yfa, .ref yfe, .int mL, .int mS, .int mM, .ref yro, .ref yhe, .ref ygr, .int mF, .int mC, .int mY, .ref yta, .int (nI (mz)), .int (nI (mf)), .int (nI (mt)), .int mv, .int mw, .ref ywa, .ref ybi, .ref ysi, .ref ynu, .ref ymo])), (ybi, .inl (cI, 4, .inl bi2)), (ysi, .inl (cI, 4, .inl sq2)), (ynu, .inl (cJ, 160, .inr (.inl nb2))), (yt, .inl (cI, 7, .inl mq2))]) A) ([.ref h0, .int 0, .int p1, .int (nI (y_25))] : List Value).toArray s 0 0 A) (F0 m 86 ls []) by
                exact loop_86 _ 0 nb _ _ _ (Nat.lt_succ_self _) (by omega) (fun j h1 h2 => absurd h1 (by omega)) (fun _ _ => rfl) hP hD hS (lv_sub hl [0, 1, 2, 3, 4] rfl)
              intro n_86
              induction n_86 with
              | zero =>
                intro i n8 H locs ls hm_86
                exact absurd hm_86 (Nat.not_lt_zero _)
              | succ n_86 ih_86 =>
                intro i n8 H locs ls hm_86 hi hf8 hg8 hP hD hS hl
                refine lv_iload hx hb dX9_sheet_86 (lv_at hl 0 rfl) ?_
                refine lv_bipush (v := 40) hx hb dX9_sheet_88 (by decide) ?_
                refine lv_icmp_ge (tgt := 112) hx hb dX9_sheet_90 (by decide) (fun c_32 => ?_) (fun c_32 => ?_)
                · skip
                  have nc_32 : 40 ≤ i := xn_le (a := 40) (b := i) (by omega) (by omega) c_32
                  refine lv_aload_n hx hb dX9_sheet_112 rfl (lv_at hl 1 rfl) ?_
                  refine xg hF kf_X9_46 hK hP 0 rfl rfl dX9_sheet_113 ?_
                  refine lv_iload_n hx hb dX9_sheet_116 rfl (lv_at hl 2 rfl) ?_
                  refine va_iald hx hb hK hP 2 0 rfl rfl (xin 0 4 (by decide) (by decide)) dX9_sheet_117 ?_
                  refine xl_i (y := f_31 0) (congrArg f_31 rfl) ?_
                  refine xl_i (y := 0) (by rw [ef_31]; exact pk_us) ?_
                  exact W.iret (v := 0) hx hb hr (fun t ht hW => ⟨⟨0, (f_26, f_31, n8, mq), rfl, ⟨p_sheet5 (by decide) (by decide) c_27 (nI_pos (by omega)) (x_le40 (by omega)), (by rw [ef_26]; exact pk_us.trans (if_pos ⟨(by first | exact Or.inl (by assumption) | exact Or.inr (Or.inl (by assumption)) | exact Or.inr (Or.inr (Or.inl (by assumption))) | exact Or.inr (Or.inr (Or.inr (by assumption)))), nI_pos (by omega), x_le40 (by omega)⟩).symm), (fun j hj => by rw [ef_26]; exact pk_un hj), (by rw [ef_31]; exact pk_us.trans (congrArg nI (sp_z0 ⟨(by first | exact Or.inl (by assumption) | exact Or.inr (Or.inl (by assumption)) | exact Or.inr (Or.inr (Or.inl (by assumption))) | exact Or.inr (Or.inr (Or.inr (by assumption)))), nI_pos (by omega), x_le40 (by omega)⟩ c_27))), (fun j hj => by rw [ef_31]; exact pk_un hj), (fun j hj => (hf8 (0 + j) (by omega) (by omega)).trans (if_pos ⟨(by first | exact Or.inl (by assumption) | exact Or.inr (Or.inl (by assumption)) | exact Or.inr (Or.inr (Or.inl (by assumption))) | exact Or.inr (Or.inr (Or.inr (by assumption)))), nI_pos (by omega), x_le40 (by omega)⟩).symm), (fun j hj => hg8 j hj), hf_31⟩, by rw [ht]; exact hP.sub [0, 1, 2, 3, 4] rfl, hD.sub [0, 1, 2, 3, 4] (by decide +kernel) rfl⟩, hS.F ht⟩) hS.2.2 dX9_sheet_118 hlk
                · skip
                  have nc_32 : i < 40 := xn_nle (a := 40) (b := i) (by omega) (by omega) c_32
                  refine lv_aload_n hx hb dX9_sheet_93 rfl (lv_at hl 1 rfl) ?_
                  refine xg hF kf_X9_49 hK hP 0 rfl rfl dX9_sheet_94 ?_
                  refine lv_bipush (v := 40) hx hb dX9_sheet_97 (by decide) ?_
                  refine lv_iload_n hx hb dX9_sheet_99 rfl (lv_at hl 2 rfl) ?_
                  refine lv_imul hx hb dX9_sheet_100 ?_
                  refine xl_i (y := 0) (by decide) ?_
                  refine lv_iload hx hb dX9_sheet_101 (lv_at hl 0 rfl) ?_
                  refine lv_iadd hx hb dX9_sheet_103 ?_
                  refine xl_i (y := nI (0 + i)) (nI_add 0 i) ?_
                  refine lv_lconst (v := 0) hx hb dX9_sheet_104 (by decide) ?_
                  refine va_last hx hb hK hP hD hS 3 1 rfl rfl (vp_in_nI (show 0 + i < 160 by omega) (by decide)) dX9_sheet_105 (fun H locs hP hD hS => ?_)
                  rw [nI_clamp (show 0 + i < 2 ^ 31 by omega)] at hP hD
                  obtain ⟨f_33, ef_33⟩ : ∃ g, g = vp_updL n8 (0 + i) 0 := ⟨_, rfl⟩
                  rw [← ef_33] at hP hD
                  have hP : va_P D vwCl [(h0, .inr (9, [.ref ys, .ref yk, .ref yo, .ref yt, .int mk0, .ref yfa, .ref yfe, .int mL, .int mS, .int mM, .ref yro, .ref yhe, .ref ygr, .int mF, .int mC, .int mY, .ref yta, .int (nI (mz)), .int (nI (mf)), .int (nI (mt)), .int mv, .int mw, .ref ywa, .ref ybi, .ref ysi, .ref ynu, .ref ymo])), (ybi, .inl (cI, 4, .inl f_26)), (ysi, .inl (cI, 4, .inl f_31)), (ynu, .inl (cJ, 160, .inr (.inl f_33))), (yt, .inl (cI, 7, .inl mq))] H := hP
                  have hD : va_D A [(h0, .inr (9, [.ref ys, .ref yk, .ref yo, .ref yt, .int mk0, .ref yfa, .ref yfe, .int mL, .int mS, .int mM, .ref yro, .ref yhe, .ref ygr, .int mF, .int mC, .int mY, .ref yta, .int (nI (mz)), .int (nI (mf)), .int (nI (mt)), .int mv, .int mw, .ref ywa, .ref ybi, .ref ysi, .ref ynu, .ref ymo])), (ybi, .inl (cI, 4, .inl f_26)), (ysi, .inl (cI, 4, .inl f_31)), (ynu, .inl (cJ, 160, .inr (.inl f_33))), (yt, .inl (cI, 7, .inl mq))] := hD
                  refine lv_iinc (v := nI (i + 1)) (lv' := [(4, .int (nI (i + 1))), (0, .ref h0), (1, .int 0), (2, .int p1), (3, .int (nI (y_25)))]) hx hb dX9_sheet_106 hl (k := 0) rfl (nI_1 (i)) (by decide) rfl (fun ls hl => ?_)
                  refine lv_goto (tgt := 86) hx hb dX9_sheet_109 (by decide) ?_
                  exact ih_86 (i + 1) f_33 _ _ _ (by omega) (by omega) (sp_fil hf8 ef_33) (sp_fio hg8 (by omega) (by omega) ef_33) (hP.sub [0, 1, 2, 3, 4] rfl) (hD.sub [0, 1, 2, 3, 4] (by decide +kernel) rfl) hS (lv_sub hl [0, 1, 2, 3, 4] rfl)
          · skip
            refine lv_aload_n hx hb dX9_sheet_54 rfl (lv_at hl 0 rfl) ?_
            refine lv_ldc (v := (-1000000001)) hx hb hown (hu _ uw648) dX9_sheet_55 ?_
            refine xc_Vi (wr := [(ybi, .inl (cI, 4, .inl bi)), (ysi, .inl (cI, 4, .inl sq)), (ynu, .inl (cJ, 160, .inr (.inl nb)))]) hF (c_X9_finds_B l D cI cJ cZ cS ta sa sv s.heap.size h0 ys yk yo yt mk0 yfa yfe mL mS mM yro yhe ygr mF mC mY yta mz mf mt mv mw ywa ybi ysi ynu ymo mq ) kv_X9_70 ⟨rfl, rfl, Nat.le_of_ble_eq_true rfl, Nat.le_of_ble_eq_true rfl⟩ ⟨Nat.le_of_ble_eq_true rfl, Nat.le_of_ble_eq_true rfl⟩ hK hN hZ hP hD hS hA [0, 4] [1, 2, 3] rfl rfl rfl rfl (by decide) 0 rfl rfl rfl rfl hl.1 rfl (Nat.le_of_ble_eq_true rfl) dX9_sheet_57 (fun r_34 u_r_34 H locs hw_r_34 hP hD hS => ?_)
            obtain ⟨mq2_35, rfl⟩ : ∃ z, z = u_r_34 := ⟨_, rfl⟩
            try dsimp only at hw_r_34
            have hP : va_P D vwCl [(ybi, .inl (cI, 4, .inl bi)), (ysi, .inl (cI, 4, .inl sq)), (ynu, .inl (cJ, 160, .inr (.inl nb))), (h0, .inr (9, [.ref ys, .ref yk, .ref yo, .ref yt, .int mk0, .ref yfa, .ref yfe, .int mL, .int mS, .int mM, .ref yro, .ref yhe, .ref ygr, .int mF, .int mC, .int mY, .ref yta, .int (nI (mz)), .int (nI (mf)), .int (nI (mt)), .int mv, .int mw, .ref ywa, .ref ybi, .ref ysi, .ref ynu, .ref ymo])), (yt, .inl (cI, 7, .inl mq2_35))] H := hP
            have hD : va_D A [(ybi, .inl (cI, 4, .inl bi)), (ysi, .inl (cI, 4, .inl sq)), (ynu, .inl (cJ, 160, .inr (.inl nb))), (h0, .inr (9, [.ref ys, .ref yk, .ref yo, .ref yt, .int mk0, .ref yfa, .ref yfe, .int mL, .int mS, .int mM, .ref yro, .ref yhe, .ref ygr, .int mF, .int mC, .int mY, .ref yta, .int (nI (mz)), .int (nI (mf)), .int (nI (mt)), .int mv, .int mw, .ref ywa, .ref ybi, .ref ysi, .ref ynu, .ref ymo])), (yt, .inl (cI, 7, .inl mq2_35))] := hD
            subst hw_r_34
            exact W.iret (v := (-1000000001)) hx hb hr (fun t ht hW => ⟨⟨(-1000000001), (bi, sq, nb, mq2_35), rfl, ⟨p_sheet4 (by decide) (by decide) (by first | exact Or.inl (by assumption) | exact Or.inr (Or.inl (by assumption)) | exact Or.inr (Or.inr (Or.inl (by assumption))) | exact Or.inr (Or.inr (Or.inr (by assumption)))) (fun h => absurd c_23 (Int32.not_le.mpr h)) (xlt c_24), (if_neg (sp_n4 (xlt c_24))).symm, (fun _ _ => rfl), (ez.trans (congrArg nI (if_neg (sp_n4 (xlt c_24))).symm)), (fun _ _ => rfl), (fun j hj => (if_neg (sp_n4 (xlt c_24))).symm), (fun _ _ => rfl), hsq⟩, by rw [ht]; exact hP.sub [3, 0, 1, 2, 4] rfl, hD.sub [3, 0, 1, 2, 4] (by decide +kernel) rfl⟩, hS.F ht⟩) hS.2.2 dX9_sheet_60 hlk
        · skip
          refine lv_aload_n hx hb dX9_sheet_40 rfl (lv_at hl 0 rfl) ?_
          refine lv_ldcw (v := (-1000000007)) hx hb hown (hu _ uw923) dX9_sheet_41 ?_
          refine xc_Vi (wr := [(ybi, .inl (cI, 4, .inl bi)), (ysi, .inl (cI, 4, .inl sq)), (ynu, .inl (cJ, 160, .inr (.inl nb)))]) hF (c_X9_finds_S l D cI cJ cZ cS ta sa sv s.heap.size h0 ys yk yo yt mk0 yfa yfe mL mS mM yro yhe ygr mF mC mY yta mz mf mt mv mw ywa ybi ysi ynu ymo mq ) kv_X9_70 ⟨rfl, rfl, Nat.le_of_ble_eq_true rfl, Nat.le_of_ble_eq_true rfl⟩ ⟨Nat.le_of_ble_eq_true rfl, Nat.le_of_ble_eq_true rfl⟩ hK hN hZ hP hD hS hA [0, 4] [1, 2, 3] rfl rfl rfl rfl (by decide) 0 rfl rfl rfl rfl hl.1 rfl (Nat.le_of_ble_eq_true rfl) dX9_sheet_44 (fun r_36 u_r_36 H locs hw_r_36 hP hD hS => ?_)
          obtain ⟨mq2_37, rfl⟩ : ∃ z, z = u_r_36 := ⟨_, rfl⟩
          try dsimp only at hw_r_36
          have hP : va_P D vwCl [(ybi, .inl (cI, 4, .inl bi)), (ysi, .inl (cI, 4, .inl sq)), (ynu, .inl (cJ, 160, .inr (.inl nb))), (h0, .inr (9, [.ref ys, .ref yk, .ref yo, .ref yt, .int mk0, .ref yfa, .ref yfe, .int mL, .int mS, .int mM, .ref yro, .ref yhe, .ref ygr, .int mF, .int mC, .int mY, .ref yta, .int (nI (mz)), .int (nI (mf)), .int (nI (mt)), .int mv, .int mw, .ref ywa, .ref ybi, .ref ysi, .ref ynu, .ref ymo])), (yt, .inl (cI, 7, .inl mq2_37))] H := hP
          have hD : va_D A [(ybi, .inl (cI, 4, .inl bi)), (ysi, .inl (cI, 4, .inl sq)), (ynu, .inl (cJ, 160, .inr (.inl nb))), (h0, .inr (9, [.ref ys, .ref yk, .ref yo, .ref yt, .int mk0, .ref yfa, .ref yfe, .int mL, .int mS, .int mM, .ref yro, .ref yhe, .ref ygr, .int mF, .int mC, .int mY, .ref yta, .int (nI (mz)), .int (nI (mf)), .int (nI (mt)), .int mv, .int mw, .ref ywa, .ref ybi, .ref ysi, .ref ynu, .ref ymo])), (yt, .inl (cI, 7, .inl mq2_37))] := hD
          subst hw_r_36
          exact W.iret (v := (-1000000007)) hx hb hr (fun t ht hW => ⟨⟨(-1000000007), (bi, sq, nb, mq2_37), rfl, ⟨p_sheet3 (by decide) (by decide) (by first | exact Or.inl (by assumption) | exact Or.inr (Or.inl (by assumption)) | exact Or.inr (Or.inr (Or.inl (by assumption))) | exact Or.inr (Or.inr (Or.inr (by assumption)))) (xlt c_23), (if_neg (sp_n3 (xlt c_23))).symm, (fun _ _ => rfl), (ez.trans (congrArg nI (if_neg (sp_n3 (xlt c_23))).symm)), (fun _ _ => rfl), (fun j hj => (if_neg (sp_n3 (xlt c_23))).symm), (fun _ _ => rfl), hsq⟩, by rw [ht]; exact hP.sub [3, 0, 1, 2, 4] rfl, hD.sub [3, 0, 1, 2, 4] (by decide +kernel) rfl⟩, hS.F ht⟩) hS.2.2 dX9_sheet_47 hlk
      · skip
        refine lv_iload_n hx hb dX9_sheet_17 rfl (lv_at hl 2 rfl) ?_
        refine lv_bipush (v := 16) hx hb dX9_sheet_18 (by decide) ?_
        refine lv_icmp_eq (tgt := 36) hx hb dX9_sheet_20 (by decide) (fun c_38 => ?_) (fun c_38 => ?_)
        · skip
          refine lv_iload_n hx hb dX9_sheet_36 rfl (lv_at hl 3 rfl) ?_
          refine lv_if_ge (tgt := 48) hx hb dX9_sheet_37 (by decide) (fun c_39 => ?_) (fun c_39 => ?_)
          · skip
            refine lv_iload_n hx hb dX9_sheet_48 rfl (lv_at hl 3 rfl) ?_
            refine lv_bipush (v := 40) hx hb dX9_sheet_49 (by decide) ?_
            refine lv_icmp_le (tgt := 61) hx hb dX9_sheet_51 (by decide) (fun c_40 => ?_) (fun c_40 => ?_)
            · skip
              obtain ⟨y_41, hy_41, rfl⟩ := xrange2 (w := 40) (by omega) c_39 c_40
              refine lv_aload_n hx hb dX9_sheet_61 rfl (lv_at hl 0 rfl) ?_
              refine xg hF kf_X9_43 hK hP 0 rfl rfl dX9_sheet_62 ?_
              refine lv_iload_n hx hb dX9_sheet_65 rfl (lv_at hl 1 rfl) ?_
              refine lv_iload_n hx hb dX9_sheet_66 rfl (lv_at hl 2 rfl) ?_
              refine va_iast hx hb hK hP hD hS 1 0 rfl rfl (xin 0 4 (by decide) (by decide)) dX9_sheet_67 (fun H locs hP hD hS => ?_)
              obtain ⟨f_42, ef_42⟩ : ∃ g, g = upd bi 0 p1 := ⟨_, rfl⟩
              have hP : va_P D vwCl [(h0, .inr (9, [.ref ys, .ref yk, .ref yo, .ref yt, .int mk0, .ref yfa, .ref yfe, .int mL, .int mS, .int mM, .ref yro, .ref yhe, .ref ygr, .int mF, .int mC, .int mY, .ref yta, .int (nI (mz)), .int (nI (mf)), .int (nI (mt)), .int mv, .int mw, .ref ywa, .ref ybi, .ref ysi, .ref ynu, .ref ymo])), (ybi, .inl (cI, 4, .inl (upd bi 0 p1))), (ysi, .inl (cI, 4, .inl sq)), (ynu, .inl (cJ, 160, .inr (.inl nb))), (yt, .inl (cI, 7, .inl mq))] H := hP
              have hD : va_D A [(h0, .inr (9, [.ref ys, .ref yk, .ref yo, .ref yt, .int mk0, .ref yfa, .ref yfe, .int mL, .int mS, .int mM, .ref yro, .ref yhe, .ref ygr, .int mF, .int mC, .int mY, .ref yta, .int (nI (mz)), .int (nI (mf)), .int (nI (mt)), .int mv, .int mw, .ref ywa, .ref ybi, .ref ysi, .ref ynu, .ref ymo])), (ybi, .inl (cI, 4, .inl (upd bi 0 p1))), (ysi, .inl (cI, 4, .inl sq)), (ynu, .inl (cJ, 160, .inr (.inl nb))), (yt, .inl (cI, 7, .inl mq))] := hD
              rw [← ef_42] at hP hD
              have hP : va_P D vwCl [(h0, .inr (9, [.ref ys, .ref yk, .ref yo, .ref yt, .int mk0, .ref yfa, .ref yfe, .int mL, .int mS, .int mM, .ref yro, .ref yhe, .ref ygr, .int mF, .int mC, .int mY, .ref yta, .int (nI (mz)), .int (nI (mf)), .int (nI (mt)), .int mv, .int mw, .ref ywa, .ref ybi, .ref ysi, .ref ynu, .ref ymo])), (ybi, .inl (cI, 4, .inl f_42)), (ysi, .inl (cI, 4, .inl sq)), (ynu, .inl (cJ, 160, .inr (.inl nb))), (yt, .inl (cI, 7, .inl mq))] H := hP
              have hD : va_D A [(h0, .inr (9, [.ref ys, .ref yk, .ref yo, .ref yt, .int mk0, .ref yfa, .ref yfe, .int mL, .int mS, .int mM, .ref yro, .ref yhe, .ref ygr, .int mF, .int mC, .int mY, .ref yta, .int (nI (mz)), .int (nI (mf)), .int (nI (mt)), .int mv, .int mw, .ref ywa, .ref ybi, .ref ysi, .ref ynu, .ref ymo])), (ybi, .inl (cI, 4, .inl f_42)), (ysi, .inl (cI, 4, .inl sq)), (ynu, .inl (cJ, 160, .inr (.inl nb))), (yt, .inl (cI, 7, .inl mq))] := hD
              refine lv_aload_n hx hb dX9_sheet_68 rfl (lv_at hl 0 rfl) ?_
              refine xg hF kf_X9_46 hK hP 0 rfl rfl dX9_sheet_69 ?_
              refine lv_iload_n hx hb dX9_sheet_72 rfl (lv_at hl 1 rfl) ?_
              refine lv_iload_n hx hb dX9_sheet_73 rfl (lv_at hl 2 rfl) ?_
              refine lv_if_ne (tgt := 81) hx hb dX9_sheet_74 (by decide) (fun c_43 => ?_) (fun c_43 => ?_)
              · skip
                refine lv_iload_n hx hb dX9_sheet_81 rfl (lv_at hl 3 rfl) ?_
                refine va_iast hx hb hK hP hD hS 2 0 rfl rfl (xin 0 4 (by decide) (by decide)) dX9_sheet_82 (fun H locs hP hD hS => ?_)
                obtain ⟨f_44, ef_44⟩ : ∃ g, g = upd sq 0 (nI (y_41)) := ⟨_, rfl⟩
                have hP : va_P D vwCl [(h0, .inr (9, [.ref ys, .ref yk, .ref yo, .ref yt, .int mk0, .ref yfa, .ref yfe, .int mL, .int mS, .int mM, .ref yro, .ref yhe, .ref ygr, .int mF, .int mC, .int mY, .ref yta, .int (nI (mz)), .int (nI (mf)), .int (nI (mt)), .int mv, .int mw, .ref ywa, .ref ybi, .ref ysi, .ref ynu, .ref ymo])), (ybi, .inl (cI, 4, .inl f_42)), (ysi, .inl (cI, 4, .inl (upd sq 0 (nI (y_41))))), (ynu, .inl (cJ, 160, .inr (.inl nb))), (yt, .inl (cI, 7, .inl mq))] H := hP
                have hD : va_D A [(h0, .inr (9, [.ref ys, .ref yk, .ref yo, .ref yt, .int mk0, .ref yfa, .ref yfe, .int mL, .int mS, .int mM, .ref yro, .ref yhe, .ref ygr, .int mF, .int mC, .int mY, .ref yta, .int (nI (mz)), .int (nI (mf)), .int (nI (mt)), .int mv, .int mw, .ref ywa, .ref ybi, .ref ysi, .ref ynu, .ref ymo])), (ybi, .inl (cI, 4, .inl f_42)), (ysi, .inl (cI, 4, .inl (upd sq 0 (nI (y_41))))), (ynu, .inl (cJ, 160, .inr (.inl nb))), (yt, .inl (cI, 7, .inl mq))] := hD
                rw [← ef_44] at hP hD
                have hf_44 : BA 4 41 f_44 := by rw [ef_44]; exact BA.upd hsq (show y_41 < 41 by omega)
                have hP : va_P D vwCl [(h0, .inr (9, [.ref ys, .ref yk, .ref yo, .ref yt, .int mk0, .ref yfa, .ref yfe, .int mL, .int mS, .int mM, .ref yro, .ref yhe, .ref ygr, .int mF, .int mC, .int mY, .ref yta, .int (nI (mz)), .int (nI (mf)), .int (nI (mt)), .int mv, .int mw, .ref ywa, .ref ybi, .ref ysi, .ref ynu, .ref ymo])), (ybi, .inl (cI, 4, .inl f_42)), (ysi, .inl (cI, 4, .inl f_44)), (ynu, .inl (cJ, 160, .inr (.inl nb))), (yt, .inl (cI, 7, .inl mq))] H := hP
                have hD : va_D A [(h0, .inr (9, [.ref ys, .ref yk, .ref yo, .ref yt, .int mk0, .ref yfa, .ref yfe, .int mL, .int mS, .int mM, .ref yro, .ref yhe, .ref ygr, .int mF, .int mC, .int mY, .ref yta, .int (nI (mz)), .int (nI (mf)), .int (nI (mt)), .int mv, .int mw, .ref ywa, .ref ybi, .ref ysi, .ref ynu, .ref ymo])), (ybi, .inl (cI, 4, .inl f_42)), (ysi, .inl (cI, 4, .inl f_44)), (ynu, .inl (cJ, 160, .inr (.inl nb))), (yt, .inl (cI, 7, .inl mq))] := hD
                refine lv_iconst (v := 0) hx hb dX9_sheet_83 (by decide) ?_
                refine lv_istore (lv' := [(4, .int 0), (0, .ref h0), (1, .int 0), (2, .int p1), (3, .int (nI (y_41)))]) hx hb dX9_sheet_84 hl (by decide) rfl (fun ls hl => ?_)
                suffices loop_86 : ∀ (n_86 : Nat) (i : Nat) (n8 : Nat → Int64) (H : Heap) (locs : List Loc) (ls : Array Slot), 40 - i < n_86 → (i ≤ 40) → (∀ j, 0 ≤ j → j < 0 + i → n8 j = 0) → (∀ j, j < 0 ∨ 40 ≤ j → n8 j = nb j) → va_P D vwCl [(h0, .inr (9, [.ref ys, .ref yk, .ref yo, .ref yt, .int mk0, .ref yfa, .ref yfe, .int mL, .int mS, .int mM, .ref yro, .ref yhe, .ref ygr, .int mF, .int mC, .int mY, .ref yta, .int (nI (mz)), .int (nI (mf)), .int (nI (mt)), .int mv, .int mw, .ref ywa, .ref ybi, .ref ysi, .ref ynu, .ref ymo])), (ybi, .inl (cI, 4, .inl f_42)), (ysi, .inl (cI, 4, .inl f_44)), (ynu, .inl (cJ, 160, .inr (.inl n8))), (yt, .inl (cI, 7, .inl mq))] H → va_D A [(h0, .inr (9, [.ref ys, .ref yk, .ref yo, .ref yt, .int mk0, .ref yfa, .ref yfe, .int mL, .int mS, .int mM, .ref yro, .ref yhe, .ref ygr, .int mF, .int mC, .int mY, .ref yta, .int (nI (mz)), .int (nI (mf)), .int (nI (mt)), .int mv, .int mw, .ref ywa, .ref ybi, .ref ysi, .ref ynu, .ref ymo])), (ybi, .inl (cI, 4, .inl f_42)), (ysi, .inl (cI, 4, .inl f_44)), (ynu, .inl (cJ, 160, .inr (.inl n8))), (yt, .inl (cI, 7, .inl mq))] → va_S A s.heap H locs → lv_has ls 5 [(4, .int (nI (i))), (0, .ref h0), (1, .int 0), (2, .int p1), (3, .int (nI (y_41)))] → W p l e ({ frames := 2, cells := 0, slots := 0, locals := 45 }) s m ([.ref h0, .int 0, .int p1, .int (nI (y_41))] : List Value).toArray below meth c H locs 0 0 (MQ below (XQi (fun (r : Int32) (u : (Nat → Int32) × (Nat → Int32) × (Nat → Int64) × (Nat → Int32)) => match u with | (bi2, sq2, nb2, mq2) => ((r = a_sheet 0 p1 (nI (y_41)))) ∧ (bi2 0 = sp_sb p1 (nI (y_41)) (bi 0)) ∧ (∀ j, j ≠ 0 → bi2 j = bi j) ∧ (sq2 0 = nI (sp_sz p1 (nI (y_41)) zq)) ∧ (∀ j, j ≠ 0 → sq2 j = sq j) ∧ (∀ j, j < 40 → nb2 (0 + j) = sp_sn p1 (nI (y_41)) (nb (0 + j))) ∧ (∀ j, j < 0 ∨ 40 ≤ j → nb2 j = nb j) ∧ (BA 4 41 sq2)) D (fun (u : (Nat → Int32) × (Nat → Int32) × (Nat → Int64) × (Nat → Int32)) => match u with | (bi2, sq2, nb2, mq2) => [(h0, .inr (9, [.ref ys, .ref yk, .ref yo, .ref yt, .int mk0, .ref yfa, .ref yfe, .int mL, .int mS, .int mM, .ref yro, .ref yhe, .ref ygr, .int mF, .int mC, .int mY, .ref yta, .int (nI (mz)), .int (nI (mf)), .int (nI (mt)), .int mv, .int mw, .ref ywa, .ref ybi, .ref ysi, .ref ynu, .ref ymo])), (ybi, .inl (cI, 4, .inl bi2)), (ysi, .inl (cI, 4, .inl sq2)), (ynu, .inl (cJ, 160, .inr (.inl nb2))), (yt, .inl (cI, 7, .inl mq2))]) A) ([.ref h0, .int 0, .int p1, .int (nI (y_41))] : List Value).toArray s 0 0 A) (F0 m 86 ls []) by
                  exact loop_86 _ 0 nb _ _ _ (Nat.lt_succ_self _) (by omega) (fun j h1 h2 => absurd h1 (by omega)) (fun _ _ => rfl) hP hD hS (lv_sub hl [0, 1, 2, 3, 4] rfl)
                intro n_86
                induction n_86 with
                | zero =>
                  intro i n8 H locs ls hm_86
                  exact absurd hm_86 (Nat.not_lt_zero _)
                | succ n_86 ih_86 =>
                  intro i n8 H locs ls hm_86 hi hf8 hg8 hP hD hS hl
                  refine lv_iload hx hb dX9_sheet_86 (lv_at hl 0 rfl) ?_
                  refine lv_bipush (v := 40) hx hb dX9_sheet_88 (by decide) ?_
                  refine lv_icmp_ge (tgt := 112) hx hb dX9_sheet_90 (by decide) (fun c_45 => ?_) (fun c_45 => ?_)
                  · skip
                    have nc_45 : 40 ≤ i := xn_le (a := 40) (b := i) (by omega) (by omega) c_45
                    refine lv_aload_n hx hb dX9_sheet_112 rfl (lv_at hl 1 rfl) ?_
                    refine xg hF kf_X9_46 hK hP 0 rfl rfl dX9_sheet_113 ?_
                    refine lv_iload_n hx hb dX9_sheet_116 rfl (lv_at hl 2 rfl) ?_
                    refine va_iald hx hb hK hP 2 0 rfl rfl (xin 0 4 (by decide) (by decide)) dX9_sheet_117 ?_
                    refine xl_i (y := f_44 0) (congrArg f_44 rfl) ?_
                    refine xl_i (y := nI (y_41)) (by rw [ef_44]; exact pk_us) ?_
                    exact W.iret (v := nI (y_41)) hx hb hr (fun t ht hW => ⟨⟨nI (y_41), (f_42, f_44, n8, mq), rfl, ⟨p_sheet6 (by decide) (by decide) (by first | exact Or.inl (by assumption) | exact Or.inr (Or.inl (by assumption)) | exact Or.inr (Or.inr (Or.inl (by assumption))) | exact Or.inr (Or.inr (Or.inr (by assumption)))) (nI_pos (by omega)) (x_le40 (by omega)) (by assumption), (by rw [ef_42]; exact pk_us.trans (if_pos ⟨(by first | exact Or.inl (by assumption) | exact Or.inr (Or.inl (by assumption)) | exact Or.inr (Or.inr (Or.inl (by assumption))) | exact Or.inr (Or.inr (Or.inr (by assumption)))), nI_pos (by omega), x_le40 (by omega)⟩).symm), (fun j hj => by rw [ef_42]; exact pk_un hj), (by rw [ef_44]; exact pk_us.trans (congrArg nI (sp_z1 ⟨(by first | exact Or.inl (by assumption) | exact Or.inr (Or.inl (by assumption)) | exact Or.inr (Or.inr (Or.inl (by assumption))) | exact Or.inr (Or.inr (Or.inr (by assumption)))), nI_pos (by omega), x_le40 (by omega)⟩ (by assumption) (by omega)))), (fun j hj => by rw [ef_44]; exact pk_un hj), (fun j hj => (hf8 (0 + j) (by omega) (by omega)).trans (if_pos ⟨(by first | exact Or.inl (by assumption) | exact Or.inr (Or.inl (by assumption)) | exact Or.inr (Or.inr (Or.inl (by assumption))) | exact Or.inr (Or.inr (Or.inr (by assumption)))), nI_pos (by omega), x_le40 (by omega)⟩).symm), (fun j hj => hg8 j hj), hf_44⟩, by rw [ht]; exact hP.sub [0, 1, 2, 3, 4] rfl, hD.sub [0, 1, 2, 3, 4] (by decide +kernel) rfl⟩, hS.F ht⟩) hS.2.2 dX9_sheet_118 hlk
                  · skip
                    have nc_45 : i < 40 := xn_nle (a := 40) (b := i) (by omega) (by omega) c_45
                    refine lv_aload_n hx hb dX9_sheet_93 rfl (lv_at hl 1 rfl) ?_
                    refine xg hF kf_X9_49 hK hP 0 rfl rfl dX9_sheet_94 ?_
                    refine lv_bipush (v := 40) hx hb dX9_sheet_97 (by decide) ?_
                    refine lv_iload_n hx hb dX9_sheet_99 rfl (lv_at hl 2 rfl) ?_
                    refine lv_imul hx hb dX9_sheet_100 ?_
                    refine xl_i (y := 0) (by decide) ?_
                    refine lv_iload hx hb dX9_sheet_101 (lv_at hl 0 rfl) ?_
                    refine lv_iadd hx hb dX9_sheet_103 ?_
                    refine xl_i (y := nI (0 + i)) (nI_add 0 i) ?_
                    refine lv_lconst (v := 0) hx hb dX9_sheet_104 (by decide) ?_
                    refine va_last hx hb hK hP hD hS 3 1 rfl rfl (vp_in_nI (show 0 + i < 160 by omega) (by decide)) dX9_sheet_105 (fun H locs hP hD hS => ?_)
                    rw [nI_clamp (show 0 + i < 2 ^ 31 by omega)] at hP hD
                    obtain ⟨f_46, ef_46⟩ : ∃ g, g = vp_updL n8 (0 + i) 0 := ⟨_, rfl⟩
                    rw [← ef_46] at hP hD
                    have hP : va_P D vwCl [(h0, .inr (9, [.ref ys, .ref yk, .ref yo, .ref yt, .int mk0, .ref yfa, .ref yfe, .int mL, .int mS, .int mM, .ref yro, .ref yhe, .ref ygr, .int mF, .int mC, .int mY, .ref yta, .int (nI (mz)), .int (nI (mf)), .int (nI (mt)), .int mv, .int mw, .ref ywa, .ref ybi, .ref ysi, .ref ynu, .ref ymo])), (ybi, .inl (cI, 4, .inl f_42)), (ysi, .inl (cI, 4, .inl f_44)), (ynu, .inl (cJ, 160, .inr (.inl f_46))), (yt, .inl (cI, 7, .inl mq))] H := hP
                    have hD : va_D A [(h0, .inr (9, [.ref ys, .ref yk, .ref yo, .ref yt, .int mk0, .ref yfa, .ref yfe, .int mL, .int mS, .int mM, .ref yro, .ref yhe, .ref ygr, .int mF, .int mC, .int mY, .ref yta, .int (nI (mz)), .int (nI (mf)), .int (nI (mt)), .int mv, .int mw, .ref ywa, .ref ybi, .ref ysi, .ref ynu, .ref ymo])), (ybi, .inl (cI, 4, .inl f_42)), (ysi, .inl (cI, 4, .inl f_44)), (ynu, .inl (cJ, 160, .inr (.inl f_46))), (yt, .inl (cI, 7, .inl mq))] := hD
                    refine lv_iinc (v := nI (i + 1)) (lv' := [(4, .int (nI (i + 1))), (0, .ref h0), (1, .int 0), (2, .int p1), (3, .int (nI (y_41)))]) hx hb dX9_sheet_106 hl (k := 0) rfl (nI_1 (i)) (by decide) rfl (fun ls hl => ?_)
                    refine lv_goto (tgt := 86) hx hb dX9_sheet_109 (by decide) ?_
                    exact ih_86 (i + 1) f_46 _ _ _ (by omega) (by omega) (sp_fil hf8 ef_46) (sp_fio hg8 (by omega) (by omega) ef_46) (hP.sub [0, 1, 2, 3, 4] rfl) (hD.sub [0, 1, 2, 3, 4] (by decide +kernel) rfl) hS (lv_sub hl [0, 1, 2, 3, 4] rfl)
              · skip
                refine lv_iconst (v := 0) hx hb dX9_sheet_77 (by decide) ?_
                refine lv_goto (tgt := 82) hx hb dX9_sheet_78 (by decide) ?_
                refine va_iast hx hb hK hP hD hS 2 0 rfl rfl (xin 0 4 (by decide) (by decide)) dX9_sheet_82 (fun H locs hP hD hS => ?_)
                obtain ⟨f_47, ef_47⟩ : ∃ g, g = upd sq 0 0 := ⟨_, rfl⟩
                have hP : va_P D vwCl [(h0, .inr (9, [.ref ys, .ref yk, .ref yo, .ref yt, .int mk0, .ref yfa, .ref yfe, .int mL, .int mS, .int mM, .ref yro, .ref yhe, .ref ygr, .int mF, .int mC, .int mY, .ref yta, .int (nI (mz)), .int (nI (mf)), .int (nI (mt)), .int mv, .int mw, .ref ywa, .ref ybi, .ref ysi, .ref ynu, .ref ymo])), (ybi, .inl (cI, 4, .inl f_42)), (ysi, .inl (cI, 4, .inl (upd sq 0 0))), (ynu, .inl (cJ, 160, .inr (.inl nb))), (yt, .inl (cI, 7, .inl mq))] H := hP
                have hD : va_D A [(h0, .inr (9, [.ref ys, .ref yk, .ref yo, .ref yt, .int mk0, .ref yfa, .ref yfe, .int mL, .int mS, .int mM, .ref yro, .ref yhe, .ref ygr, .int mF, .int mC, .int mY, .ref yta, .int (nI (mz)), .int (nI (mf)), .int (nI (mt)), .int mv, .int mw, .ref ywa, .ref ybi, .ref ysi, .ref ynu, .ref ymo])), (ybi, .inl (cI, 4, .inl f_42)), (ysi, .inl (cI, 4, .inl (upd sq 0 0))), (ynu, .inl (cJ, 160, .inr (.inl nb))), (yt, .inl (cI, 7, .inl mq))] := hD
                rw [← ef_47] at hP hD
                have hf_47 : BA 4 41 f_47 := by rw [ef_47]; exact BA.upd hsq (show 0 < 41 by omega)
                have hP : va_P D vwCl [(h0, .inr (9, [.ref ys, .ref yk, .ref yo, .ref yt, .int mk0, .ref yfa, .ref yfe, .int mL, .int mS, .int mM, .ref yro, .ref yhe, .ref ygr, .int mF, .int mC, .int mY, .ref yta, .int (nI (mz)), .int (nI (mf)), .int (nI (mt)), .int mv, .int mw, .ref ywa, .ref ybi, .ref ysi, .ref ynu, .ref ymo])), (ybi, .inl (cI, 4, .inl f_42)), (ysi, .inl (cI, 4, .inl f_47)), (ynu, .inl (cJ, 160, .inr (.inl nb))), (yt, .inl (cI, 7, .inl mq))] H := hP
                have hD : va_D A [(h0, .inr (9, [.ref ys, .ref yk, .ref yo, .ref yt, .int mk0, .ref yfa, .ref yfe, .int mL, .int mS, .int mM, .ref yro, .ref yhe, .ref ygr, .int mF, .int mC, .int mY, .ref yta, .int (nI (mz)), .int (nI (mf)), .int (nI (mt)), .int mv, .int mw, .ref ywa, .ref ybi, .ref ysi, .ref ynu, .ref ymo])), (ybi, .inl (cI, 4, .inl f_42)), (ysi, .inl (cI, 4, .inl f_47)), (ynu, .inl (cJ, 160, .inr (.inl nb))), (yt, .inl (cI, 7, .inl mq))] := hD
                refine lv_iconst (v := 0) hx hb dX9_sheet_83 (by decide) ?_
                refine lv_istore (lv' := [(4, .int 0), (0, .ref h0), (1, .int 0), (2, .int p1), (3, .int (nI (y_41)))]) hx hb dX9_sheet_84 hl (by decide) rfl (fun ls hl => ?_)
                suffices loop_86 : ∀ (n_86 : Nat) (i : Nat) (n8 : Nat → Int64) (H : Heap) (locs : List Loc) (ls : Array Slot), 40 - i < n_86 → (i ≤ 40) → (∀ j, 0 ≤ j → j < 0 + i → n8 j = 0) → (∀ j, j < 0 ∨ 40 ≤ j → n8 j = nb j) → va_P D vwCl [(h0, .inr (9, [.ref ys, .ref yk, .ref yo, .ref yt, .int mk0, .ref yfa, .ref yfe, .int mL, .int mS, .int mM, .ref yro, .ref yhe, .ref ygr, .int mF, .int mC, .int mY, .ref yta, .int (nI (mz)), .int (nI (mf)), .int (nI (mt)), .int mv, .int mw, .ref ywa, .ref ybi, .ref ysi, .ref ynu, .ref ymo])), (ybi, .inl (cI, 4, .inl f_42)), (ysi, .inl (cI, 4, .inl f_47)), (ynu, .inl (cJ, 160, .inr (.inl n8))), (yt, .inl (cI, 7, .inl mq))] H → va_D A [(h0, .inr (9, [.ref ys, .ref yk, .ref yo, .ref yt, .int mk0, .ref yfa, .ref yfe, .int mL, .int mS, .int mM, .ref yro, .ref yhe, .ref ygr, .int mF, .int mC, .int mY, .ref yta, .int (nI (mz)), .int (nI (mf)), .int (nI (mt)), .int mv, .int mw, .ref ywa, .ref ybi, .ref ysi, .ref ynu, .ref ymo])), (ybi, .inl (cI, 4, .inl f_42)), (ysi, .inl (cI, 4, .inl f_47)), (ynu, .inl (cJ, 160, .inr (.inl n8))), (yt, .inl (cI, 7, .inl mq))] → va_S A s.heap H locs → lv_has ls 5 [(4, .int (nI (i))), (0, .ref h0), (1, .int 0), (2, .int p1), (3, .int (nI (y_41)))] → W p l e ({ frames := 2, cells := 0, slots := 0, locals := 45 }) s m ([.ref h0, .int 0, .int p1, .int (nI (y_41))] : List Value).toArray below meth c H locs 0 0 (MQ below (XQi (fun (r : Int32) (u : (Nat → Int32) × (Nat → Int32) × (Nat → Int64) × (Nat → Int32)) => match u with | (bi2, sq2, nb2, mq2) => ((r = a_sheet 0 p1 (nI (y_41)))) ∧ (bi2 0 = sp_sb p1 (nI (y_41)) (bi 0)) ∧ (∀ j, j ≠ 0 → bi2 j = bi j) ∧ (sq2 0 = nI (sp_sz p1 (nI (y_41)) zq)) ∧ (∀ j, j ≠ 0 → sq2 j = sq j) ∧ (∀ j, j < 40 → nb2 (0 + j) = sp_sn p1 (nI (y_41)) (nb (0 + j))) ∧ (∀ j, j < 0 ∨ 40 ≤ j → nb2 j = nb j) ∧ (BA 4 41 sq2)) D (fun (u : (Nat → Int32) × (Nat → Int32) × (Nat → Int64) × (Nat → Int32)) => match u with | (bi2, sq2, nb2, mq2) => [(h0, .inr (9, [.ref ys, .ref yk, .ref yo, .ref yt, .int mk0, .ref yfa, .ref yfe, .int mL, .int mS, .int mM, .ref yro, .ref yhe, .ref ygr, .int mF, .int mC, .int mY, .ref yta, .int (nI (mz)), .int (nI (mf)), .int (nI (mt)), .int mv, .int mw, .ref ywa, .ref ybi, .ref ysi, .ref ynu, .ref ymo])), (ybi, .inl (cI, 4, .inl bi2)), (ysi, .inl (cI, 4, .inl sq2)), (ynu, .inl (cJ, 160, .inr (.inl nb2))), (yt, .inl (cI, 7, .inl mq2))]) A) ([.ref h0, .int 0, .int p1, .int (nI (y_41))] : List Value).toArray s 0 0 A) (F0 m 86 ls []) by
                  exact loop_86 _ 0 nb _ _ _ (Nat.lt_succ_self _) (by omega) (fun j h1 h2 => absurd h1 (by omega)) (fun _ _ => rfl) hP hD hS (lv_sub hl [0, 1, 2, 3, 4] rfl)
                intro n_86
                induction n_86 with
                | zero =>
                  intro i n8 H locs ls hm_86
                  exact absurd hm_86 (Nat.not_lt_zero _)
                | succ n_86 ih_86 =>
                  intro i n8 H locs ls hm_86 hi hf8 hg8 hP hD hS hl
                  refine lv_iload hx hb dX9_sheet_86 (lv_at hl 0 rfl) ?_
                  refine lv_bipush (v := 40) hx hb dX9_sheet_88 (by decide) ?_
                  refine lv_icmp_ge (tgt := 112) hx hb dX9_sheet_90 (by decide) (fun c_48 => ?_) (fun c_48 => ?_)
                  · skip
                    have nc_48 : 40 ≤ i := xn_le (a := 40) (b := i) (by omega) (by omega) c_48
                    refine lv_aload_n hx hb dX9_sheet_112 rfl (lv_at hl 1 rfl) ?_
                    refine xg hF kf_X9_46 hK hP 0 rfl rfl dX9_sheet_113 ?_
                    refine lv_iload_n hx hb dX9_sheet_116 rfl (lv_at hl 2 rfl) ?_
                    refine va_iald hx hb hK hP 2 0 rfl rfl (xin 0 4 (by decide) (by decide)) dX9_sheet_117 ?_
                    refine xl_i (y := f_47 0) (congrArg f_47 rfl) ?_
                    refine xl_i (y := 0) (by rw [ef_47]; exact pk_us) ?_
                    exact W.iret (v := 0) hx hb hr (fun t ht hW => ⟨⟨0, (f_42, f_47, n8, mq), rfl, ⟨p_sheet5 (by decide) (by decide) c_43 (nI_pos (by omega)) (x_le40 (by omega)), (by rw [ef_42]; exact pk_us.trans (if_pos ⟨(by first | exact Or.inl (by assumption) | exact Or.inr (Or.inl (by assumption)) | exact Or.inr (Or.inr (Or.inl (by assumption))) | exact Or.inr (Or.inr (Or.inr (by assumption)))), nI_pos (by omega), x_le40 (by omega)⟩).symm), (fun j hj => by rw [ef_42]; exact pk_un hj), (by rw [ef_47]; exact pk_us.trans (congrArg nI (sp_z0 ⟨(by first | exact Or.inl (by assumption) | exact Or.inr (Or.inl (by assumption)) | exact Or.inr (Or.inr (Or.inl (by assumption))) | exact Or.inr (Or.inr (Or.inr (by assumption)))), nI_pos (by omega), x_le40 (by omega)⟩ c_43))), (fun j hj => by rw [ef_47]; exact pk_un hj), (fun j hj => (hf8 (0 + j) (by omega) (by omega)).trans (if_pos ⟨(by first | exact Or.inl (by assumption) | exact Or.inr (Or.inl (by assumption)) | exact Or.inr (Or.inr (Or.inl (by assumption))) | exact Or.inr (Or.inr (Or.inr (by assumption)))), nI_pos (by omega), x_le40 (by omega)⟩).symm), (fun j hj => hg8 j hj), hf_47⟩, by rw [ht]; exact hP.sub [0, 1, 2, 3, 4] rfl, hD.sub [0, 1, 2, 3, 4] (by decide +kernel) rfl⟩, hS.F ht⟩) hS.2.2 dX9_sheet_118 hlk
                  · skip
                    have nc_48 : i < 40 := xn_nle (a := 40) (b := i) (by omega) (by omega) c_48
                    refine lv_aload_n hx hb dX9_sheet_93 rfl (lv_at hl 1 rfl) ?_
                    refine xg hF kf_X9_49 hK hP 0 rfl rfl dX9_sheet_94 ?_
                    refine lv_bipush (v := 40) hx hb dX9_sheet_97 (by decide) ?_
                    refine lv_iload_n hx hb dX9_sheet_99 rfl (lv_at hl 2 rfl) ?_
                    refine lv_imul hx hb dX9_sheet_100 ?_
                    refine xl_i (y := 0) (by decide) ?_
                    refine lv_iload hx hb dX9_sheet_101 (lv_at hl 0 rfl) ?_
                    refine lv_iadd hx hb dX9_sheet_103 ?_
                    refine xl_i (y := nI (0 + i)) (nI_add 0 i) ?_
                    refine lv_lconst (v := 0) hx hb dX9_sheet_104 (by decide) ?_
                    refine va_last hx hb hK hP hD hS 3 1 rfl rfl (vp_in_nI (show 0 + i < 160 by omega) (by decide)) dX9_sheet_105 (fun H locs hP hD hS => ?_)
                    rw [nI_clamp (show 0 + i < 2 ^ 31 by omega)] at hP hD
                    obtain ⟨f_49, ef_49⟩ : ∃ g, g = vp_updL n8 (0 + i) 0 := ⟨_, rfl⟩
                    rw [← ef_49] at hP hD
                    have hP : va_P D vwCl [(h0, .inr (9, [.ref ys, .ref yk, .ref yo, .ref yt, .int mk0, .ref yfa, .ref yfe, .int mL, .int mS, .int mM, .ref yro, .ref yhe, .ref ygr, .int mF, .int mC, .int mY, .ref yta, .int (nI (mz)), .int (nI (mf)), .int (nI (mt)), .int mv, .int mw, .ref ywa, .ref ybi, .ref ysi, .ref ynu, .ref ymo])), (ybi, .inl (cI, 4, .inl f_42)), (ysi, .inl (cI, 4, .inl f_47)), (ynu, .inl (cJ, 160, .inr (.inl f_49))), (yt, .inl (cI, 7, .inl mq))] H := hP
                    have hD : va_D A [(h0, .inr (9, [.ref ys, .ref yk, .ref yo, .ref yt, .int mk0, .ref yfa, .ref yfe, .int mL, .int mS, .int mM, .ref yro, .ref yhe, .ref ygr, .int mF, .int mC, .int mY, .ref yta, .int (nI (mz)), .int (nI (mf)), .int (nI (mt)), .int mv, .int mw, .ref ywa, .ref ybi, .ref ysi, .ref ynu, .ref ymo])), (ybi, .inl (cI, 4, .inl f_42)), (ysi, .inl (cI, 4, .inl f_47)), (ynu, .inl (cJ, 160, .inr (.inl f_49))), (yt, .inl (cI, 7, .inl mq))] := hD
                    refine lv_iinc (v := nI (i + 1)) (lv' := [(4, .int (nI (i + 1))), (0, .ref h0), (1, .int 0), (2, .int p1), (3, .int (nI (y_41)))]) hx hb dX9_sheet_106 hl (k := 0) rfl (nI_1 (i)) (by decide) rfl (fun ls hl => ?_)
                    refine lv_goto (tgt := 86) hx hb dX9_sheet_109 (by decide) ?_
                    exact ih_86 (i + 1) f_49 _ _ _ (by omega) (by omega) (sp_fil hf8 ef_49) (sp_fio hg8 (by omega) (by omega) ef_49) (hP.sub [0, 1, 2, 3, 4] rfl) (hD.sub [0, 1, 2, 3, 4] (by decide +kernel) rfl) hS (lv_sub hl [0, 1, 2, 3, 4] rfl)
            · skip
              refine lv_aload_n hx hb dX9_sheet_54 rfl (lv_at hl 0 rfl) ?_
              refine lv_ldc (v := (-1000000001)) hx hb hown (hu _ uw648) dX9_sheet_55 ?_
              refine xc_Vi (wr := [(ybi, .inl (cI, 4, .inl bi)), (ysi, .inl (cI, 4, .inl sq)), (ynu, .inl (cJ, 160, .inr (.inl nb)))]) hF (c_X9_finds_B l D cI cJ cZ cS ta sa sv s.heap.size h0 ys yk yo yt mk0 yfa yfe mL mS mM yro yhe ygr mF mC mY yta mz mf mt mv mw ywa ybi ysi ynu ymo mq ) kv_X9_70 ⟨rfl, rfl, Nat.le_of_ble_eq_true rfl, Nat.le_of_ble_eq_true rfl⟩ ⟨Nat.le_of_ble_eq_true rfl, Nat.le_of_ble_eq_true rfl⟩ hK hN hZ hP hD hS hA [0, 4] [1, 2, 3] rfl rfl rfl rfl (by decide) 0 rfl rfl rfl rfl hl.1 rfl (Nat.le_of_ble_eq_true rfl) dX9_sheet_57 (fun r_50 u_r_50 H locs hw_r_50 hP hD hS => ?_)
              obtain ⟨mq2_51, rfl⟩ : ∃ z, z = u_r_50 := ⟨_, rfl⟩
              try dsimp only at hw_r_50
              have hP : va_P D vwCl [(ybi, .inl (cI, 4, .inl bi)), (ysi, .inl (cI, 4, .inl sq)), (ynu, .inl (cJ, 160, .inr (.inl nb))), (h0, .inr (9, [.ref ys, .ref yk, .ref yo, .ref yt, .int mk0, .ref yfa, .ref yfe, .int mL, .int mS, .int mM, .ref yro, .ref yhe, .ref ygr, .int mF, .int mC, .int mY, .ref yta, .int (nI (mz)), .int (nI (mf)), .int (nI (mt)), .int mv, .int mw, .ref ywa, .ref ybi, .ref ysi, .ref ynu, .ref ymo])), (yt, .inl (cI, 7, .inl mq2_51))] H := hP
              have hD : va_D A [(ybi, .inl (cI, 4, .inl bi)), (ysi, .inl (cI, 4, .inl sq)), (ynu, .inl (cJ, 160, .inr (.inl nb))), (h0, .inr (9, [.ref ys, .ref yk, .ref yo, .ref yt, .int mk0, .ref yfa, .ref yfe, .int mL, .int mS, .int mM, .ref yro, .ref yhe, .ref ygr, .int mF, .int mC, .int mY, .ref yta, .int (nI (mz)), .int (nI (mf)), .int (nI (mt)), .int mv, .int mw, .ref ywa, .ref ybi, .ref ysi, .ref ynu, .ref ymo])), (yt, .inl (cI, 7, .inl mq2_51))] := hD
              subst hw_r_50
              exact W.iret (v := (-1000000001)) hx hb hr (fun t ht hW => ⟨⟨(-1000000001), (bi, sq, nb, mq2_51), rfl, ⟨p_sheet4 (by decide) (by decide) (by first | exact Or.inl (by assumption) | exact Or.inr (Or.inl (by assumption)) | exact Or.inr (Or.inr (Or.inl (by assumption))) | exact Or.inr (Or.inr (Or.inr (by assumption)))) (fun h => absurd c_39 (Int32.not_le.mpr h)) (xlt c_40), (if_neg (sp_n4 (xlt c_40))).symm, (fun _ _ => rfl), (ez.trans (congrArg nI (if_neg (sp_n4 (xlt c_40))).symm)), (fun _ _ => rfl), (fun j hj => (if_neg (sp_n4 (xlt c_40))).symm), (fun _ _ => rfl), hsq⟩, by rw [ht]; exact hP.sub [3, 0, 1, 2, 4] rfl, hD.sub [3, 0, 1, 2, 4] (by decide +kernel) rfl⟩, hS.F ht⟩) hS.2.2 dX9_sheet_60 hlk
          · skip
            refine lv_aload_n hx hb dX9_sheet_40 rfl (lv_at hl 0 rfl) ?_
            refine lv_ldcw (v := (-1000000007)) hx hb hown (hu _ uw923) dX9_sheet_41 ?_
            refine xc_Vi (wr := [(ybi, .inl (cI, 4, .inl bi)), (ysi, .inl (cI, 4, .inl sq)), (ynu, .inl (cJ, 160, .inr (.inl nb)))]) hF (c_X9_finds_S l D cI cJ cZ cS ta sa sv s.heap.size h0 ys yk yo yt mk0 yfa yfe mL mS mM yro yhe ygr mF mC mY yta mz mf mt mv mw ywa ybi ysi ynu ymo mq ) kv_X9_70 ⟨rfl, rfl, Nat.le_of_ble_eq_true rfl, Nat.le_of_ble_eq_true rfl⟩ ⟨Nat.le_of_ble_eq_true rfl, Nat.le_of_ble_eq_true rfl⟩ hK hN hZ hP hD hS hA [0, 4] [1, 2, 3] rfl rfl rfl rfl (by decide) 0 rfl rfl rfl rfl hl.1 rfl (Nat.le_of_ble_eq_true rfl) dX9_sheet_44 (fun r_52 u_r_52 H locs hw_r_52 hP hD hS => ?_)
            obtain ⟨mq2_53, rfl⟩ : ∃ z, z = u_r_52 := ⟨_, rfl⟩
            try dsimp only at hw_r_52
            have hP : va_P D vwCl [(ybi, .inl (cI, 4, .inl bi)), (ysi, .inl (cI, 4, .inl sq)), (ynu, .inl (cJ, 160, .inr (.inl nb))), (h0, .inr (9, [.ref ys, .ref yk, .ref yo, .ref yt, .int mk0, .ref yfa, .ref yfe, .int mL, .int mS, .int mM, .ref yro, .ref yhe, .ref ygr, .int mF, .int mC, .int mY, .ref yta, .int (nI (mz)), .int (nI (mf)), .int (nI (mt)), .int mv, .int mw, .ref ywa, .ref ybi, .ref ysi, .ref ynu, .ref ymo])), (yt, .inl (cI, 7, .inl mq2_53))] H := hP
            have hD : va_D A [(ybi, .inl (cI, 4, .inl bi)), (ysi, .inl (cI, 4, .inl sq)), (ynu, .inl (cJ, 160, .inr (.inl nb))), (h0, .inr (9, [.ref ys, .ref yk, .ref yo, .ref yt, .int mk0, .ref yfa, .ref yfe, .int mL, .int mS, .int mM, .ref yro, .ref yhe, .ref ygr, .int mF, .int mC, .int mY, .ref yta, .int (nI (mz)), .int (nI (mf)), .int (nI (mt)), .int mv, .int mw, .ref ywa, .ref ybi, .ref ysi, .ref ynu, .ref ymo])), (yt, .inl (cI, 7, .inl mq2_53))] := hD
            subst hw_r_52
            exact W.iret (v := (-1000000007)) hx hb hr (fun t ht hW => ⟨⟨(-1000000007), (bi, sq, nb, mq2_53), rfl, ⟨p_sheet3 (by decide) (by decide) (by first | exact Or.inl (by assumption) | exact Or.inr (Or.inl (by assumption)) | exact Or.inr (Or.inr (Or.inl (by assumption))) | exact Or.inr (Or.inr (Or.inr (by assumption)))) (xlt c_39), (if_neg (sp_n3 (xlt c_39))).symm, (fun _ _ => rfl), (ez.trans (congrArg nI (if_neg (sp_n3 (xlt c_39))).symm)), (fun _ _ => rfl), (fun j hj => (if_neg (sp_n3 (xlt c_39))).symm), (fun _ _ => rfl), hsq⟩, by rw [ht]; exact hP.sub [3, 0, 1, 2, 4] rfl, hD.sub [3, 0, 1, 2, 4] (by decide +kernel) rfl⟩, hS.F ht⟩) hS.2.2 dX9_sheet_47 hlk
        · skip
          refine lv_iload_n hx hb dX9_sheet_23 rfl (lv_at hl 2 rfl) ?_
          refine lv_bipush (v := 64) hx hb dX9_sheet_24 (by decide) ?_
          refine lv_icmp_eq (tgt := 36) hx hb dX9_sheet_26 (by decide) (fun c_54 => ?_) (fun c_54 => ?_)
          · skip
            refine lv_iload_n hx hb dX9_sheet_36 rfl (lv_at hl 3 rfl) ?_
            refine lv_if_ge (tgt := 48) hx hb dX9_sheet_37 (by decide) (fun c_55 => ?_) (fun c_55 => ?_)
            · skip
              refine lv_iload_n hx hb dX9_sheet_48 rfl (lv_at hl 3 rfl) ?_
              refine lv_bipush (v := 40) hx hb dX9_sheet_49 (by decide) ?_
              refine lv_icmp_le (tgt := 61) hx hb dX9_sheet_51 (by decide) (fun c_56 => ?_) (fun c_56 => ?_)
              · skip
                obtain ⟨y_57, hy_57, rfl⟩ := xrange2 (w := 40) (by omega) c_55 c_56
                refine lv_aload_n hx hb dX9_sheet_61 rfl (lv_at hl 0 rfl) ?_
                refine xg hF kf_X9_43 hK hP 0 rfl rfl dX9_sheet_62 ?_
                refine lv_iload_n hx hb dX9_sheet_65 rfl (lv_at hl 1 rfl) ?_
                refine lv_iload_n hx hb dX9_sheet_66 rfl (lv_at hl 2 rfl) ?_
                refine va_iast hx hb hK hP hD hS 1 0 rfl rfl (xin 0 4 (by decide) (by decide)) dX9_sheet_67 (fun H locs hP hD hS => ?_)
                obtain ⟨f_58, ef_58⟩ : ∃ g, g = upd bi 0 p1 := ⟨_, rfl⟩
                have hP : va_P D vwCl [(h0, .inr (9, [.ref ys, .ref yk, .ref yo, .ref yt, .int mk0, .ref yfa, .ref yfe, .int mL, .int mS, .int mM, .ref yro, .ref yhe, .ref ygr, .int mF, .int mC, .int mY, .ref yta, .int (nI (mz)), .int (nI (mf)), .int (nI (mt)), .int mv, .int mw, .ref ywa, .ref ybi, .ref ysi, .ref ynu, .ref ymo])), (ybi, .inl (cI, 4, .inl (upd bi 0 p1))), (ysi, .inl (cI, 4, .inl sq)), (ynu, .inl (cJ, 160, .inr (.inl nb))), (yt, .inl (cI, 7, .inl mq))] H := hP
                have hD : va_D A [(h0, .inr (9, [.ref ys, .ref yk, .ref yo, .ref yt, .int mk0, .ref yfa, .ref yfe, .int mL, .int mS, .int mM, .ref yro, .ref yhe, .ref ygr, .int mF, .int mC, .int mY, .ref yta, .int (nI (mz)), .int (nI (mf)), .int (nI (mt)), .int mv, .int mw, .ref ywa, .ref ybi, .ref ysi, .ref ynu, .ref ymo])), (ybi, .inl (cI, 4, .inl (upd bi 0 p1))), (ysi, .inl (cI, 4, .inl sq)), (ynu, .inl (cJ, 160, .inr (.inl nb))), (yt, .inl (cI, 7, .inl mq))] := hD
                rw [← ef_58] at hP hD
                have hP : va_P D vwCl [(h0, .inr (9, [.ref ys, .ref yk, .ref yo, .ref yt, .int mk0, .ref yfa, .ref yfe, .int mL, .int mS, .int mM, .ref yro, .ref yhe, .ref ygr, .int mF, .int mC, .int mY, .ref yta, .int (nI (mz)), .int (nI (mf)), .int (nI (mt)), .int mv, .int mw, .ref ywa, .ref ybi, .ref ysi, .ref ynu, .ref ymo])), (ybi, .inl (cI, 4, .inl f_58)), (ysi, .inl (cI, 4, .inl sq)), (ynu, .inl (cJ, 160, .inr (.inl nb))), (yt, .inl (cI, 7, .inl mq))] H := hP
                have hD : va_D A [(h0, .inr (9, [.ref ys, .ref yk, .ref yo, .ref yt, .int mk0, .ref yfa, .ref yfe, .int mL, .int mS, .int mM, .ref yro, .ref yhe, .ref ygr, .int mF, .int mC, .int mY, .ref yta, .int (nI (mz)), .int (nI (mf)), .int (nI (mt)), .int mv, .int mw, .ref ywa, .ref ybi, .ref ysi, .ref ynu, .ref ymo])), (ybi, .inl (cI, 4, .inl f_58)), (ysi, .inl (cI, 4, .inl sq)), (ynu, .inl (cJ, 160, .inr (.inl nb))), (yt, .inl (cI, 7, .inl mq))] := hD
                refine lv_aload_n hx hb dX9_sheet_68 rfl (lv_at hl 0 rfl) ?_
                refine xg hF kf_X9_46 hK hP 0 rfl rfl dX9_sheet_69 ?_
                refine lv_iload_n hx hb dX9_sheet_72 rfl (lv_at hl 1 rfl) ?_
                refine lv_iload_n hx hb dX9_sheet_73 rfl (lv_at hl 2 rfl) ?_
                refine lv_if_ne (tgt := 81) hx hb dX9_sheet_74 (by decide) (fun c_59 => ?_) (fun c_59 => ?_)
                · skip
                  refine lv_iload_n hx hb dX9_sheet_81 rfl (lv_at hl 3 rfl) ?_
                  refine va_iast hx hb hK hP hD hS 2 0 rfl rfl (xin 0 4 (by decide) (by decide)) dX9_sheet_82 (fun H locs hP hD hS => ?_)
                  obtain ⟨f_60, ef_60⟩ : ∃ g, g = upd sq 0 (nI (y_57)) := ⟨_, rfl⟩
                  have hP : va_P D vwCl [(h0, .inr (9, [.ref ys, .ref yk, .ref yo, .ref yt, .int mk0, .ref yfa, .ref yfe, .int mL, .int mS, .int mM, .ref yro, .ref yhe, .ref ygr, .int mF, .int mC, .int mY, .ref yta, .int (nI (mz)), .int (nI (mf)), .int (nI (mt)), .int mv, .int mw, .ref ywa, .ref ybi, .ref ysi, .ref ynu, .ref ymo])), (ybi, .inl (cI, 4, .inl f_58)), (ysi, .inl (cI, 4, .inl (upd sq 0 (nI (y_57))))), (ynu, .inl (cJ, 160, .inr (.inl nb))), (yt, .inl (cI, 7, .inl mq))] H := hP
                  have hD : va_D A [(h0, .inr (9, [.ref ys, .ref yk, .ref yo, .ref yt, .int mk0, .ref yfa, .ref yfe, .int mL, .int mS, .int mM, .ref yro, .ref yhe, .ref ygr, .int mF, .int mC, .int mY, .ref yta, .int (nI (mz)), .int (nI (mf)), .int (nI (mt)), .int mv, .int mw, .ref ywa, .ref ybi, .ref ysi, .ref ynu, .ref ymo])), (ybi, .inl (cI, 4, .inl f_58)), (ysi, .inl (cI, 4, .inl (upd sq 0 (nI (y_57))))), (ynu, .inl (cJ, 160, .inr (.inl nb))), (yt, .inl (cI, 7, .inl mq))] := hD
                  rw [← ef_60] at hP hD
                  have hf_60 : BA 4 41 f_60 := by rw [ef_60]; exact BA.upd hsq (show y_57 < 41 by omega)
                  have hP : va_P D vwCl [(h0, .inr (9, [.ref ys, .ref yk, .ref yo, .ref yt, .int mk0, .ref yfa, .ref yfe, .int mL, .int mS, .int mM, .ref yro, .ref yhe, .ref ygr, .int mF, .int mC, .int mY, .ref yta, .int (nI (mz)), .int (nI (mf)), .int (nI (mt)), .int mv, .int mw, .ref ywa, .ref ybi, .ref ysi, .ref ynu, .ref ymo])), (ybi, .inl (cI, 4, .inl f_58)), (ysi, .inl (cI, 4, .inl f_60)), (ynu, .inl (cJ, 160, .inr (.inl nb))), (yt, .inl (cI, 7, .inl mq))] H := hP
                  have hD : va_D A [(h0, .inr (9, [.ref ys, .ref yk, .ref yo, .ref yt, .int mk0, .ref yfa, .ref yfe, .int mL, .int mS, .int mM, .ref yro, .ref yhe, .ref ygr, .int mF, .int mC, .int mY, .ref yta, .int (nI (mz)), .int (nI (mf)), .int (nI (mt)), .int mv, .int mw, .ref ywa, .ref ybi, .ref ysi, .ref ynu, .ref ymo])), (ybi, .inl (cI, 4, .inl f_58)), (ysi, .inl (cI, 4, .inl f_60)), (ynu, .inl (cJ, 160, .inr (.inl nb))), (yt, .inl (cI, 7, .inl mq))] := hD
                  refine lv_iconst (v := 0) hx hb dX9_sheet_83 (by decide) ?_
                  refine lv_istore (lv' := [(4, .int 0), (0, .ref h0), (1, .int 0), (2, .int p1), (3, .int (nI (y_57)))]) hx hb dX9_sheet_84 hl (by decide) rfl (fun ls hl => ?_)
                  suffices loop_86 : ∀ (n_86 : Nat) (i : Nat) (n8 : Nat → Int64) (H : Heap) (locs : List Loc) (ls : Array Slot), 40 - i < n_86 → (i ≤ 40) → (∀ j, 0 ≤ j → j < 0 + i → n8 j = 0) → (∀ j, j < 0 ∨ 40 ≤ j → n8 j = nb j) → va_P D vwCl [(h0, .inr (9, [.ref ys, .ref yk, .ref yo, .ref yt, .int mk0, .ref yfa, .ref yfe, .int mL, .int mS, .int mM, .ref yro, .ref yhe, .ref ygr, .int mF, .int mC, .int mY, .ref yta, .int (nI (mz)), .int (nI (mf)), .int (nI (mt)), .int mv, .int mw, .ref ywa, .ref ybi, .ref ysi, .ref ynu, .ref ymo])), (ybi, .inl (cI, 4, .inl f_58)), (ysi, .inl (cI, 4, .inl f_60)), (ynu, .inl (cJ, 160, .inr (.inl n8))), (yt, .inl (cI, 7, .inl mq))] H → va_D A [(h0, .inr (9, [.ref ys, .ref yk, .ref yo, .ref yt, .int mk0, .ref yfa, .ref yfe, .int mL, .int mS, .int mM, .ref yro, .ref yhe, .ref ygr, .int mF, .int mC, .int mY, .ref yta, .int (nI (mz)), .int (nI (mf)), .int (nI (mt)), .int mv, .int mw, .ref ywa, .ref ybi, .ref ysi, .ref ynu, .ref ymo])), (ybi, .inl (cI, 4, .inl f_58)), (ysi, .inl (cI, 4, .inl f_60)), (ynu, .inl (cJ, 160, .inr (.inl n8))), (yt, .inl (cI, 7, .inl mq))] → va_S A s.heap H locs → lv_has ls 5 [(4, .int (nI (i))), (0, .ref h0), (1, .int 0), (2, .int p1), (3, .int (nI (y_57)))] → W p l e ({ frames := 2, cells := 0, slots := 0, locals := 45 }) s m ([.ref h0, .int 0, .int p1, .int (nI (y_57))] : List Value).toArray below meth c H locs 0 0 (MQ below (XQi (fun (r : Int32) (u : (Nat → Int32) × (Nat → Int32) × (Nat → Int64) × (Nat → Int32)) => match u with | (bi2, sq2, nb2, mq2) => ((r = a_sheet 0 p1 (nI (y_57)))) ∧ (bi2 0 = sp_sb p1 (nI (y_57)) (bi 0)) ∧ (∀ j, j ≠ 0 → bi2 j = bi j) ∧ (sq2 0 = nI (sp_sz p1 (nI (y_57)) zq)) ∧ (∀ j, j ≠ 0 → sq2 j = sq j) ∧ (∀ j, j < 40 → nb2 (0 + j) = sp_sn p1 (nI (y_57)) (nb (0 + j))) ∧ (∀ j, j < 0 ∨ 40 ≤ j → nb2 j = nb j) ∧ (BA 4 41 sq2)) D (fun (u : (Nat → Int32) × (Nat → Int32) × (Nat → Int64) × (Nat → Int32)) => match u with | (bi2, sq2, nb2, mq2) => [(h0, .inr (9, [.ref ys, .ref yk, .ref yo, .ref yt, .int mk0, .ref yfa, .ref yfe, .int mL, .int mS, .int mM, .ref yro, .ref yhe, .ref ygr, .int mF, .int mC, .int mY, .ref yta, .int (nI (mz)), .int (nI (mf)), .int (nI (mt)), .int mv, .int mw, .ref ywa, .ref ybi, .ref ysi, .ref ynu, .ref ymo])), (ybi, .inl (cI, 4, .inl bi2)), (ysi, .inl (cI, 4, .inl sq2)), (ynu, .inl (cJ, 160, .inr (.inl nb2))), (yt, .inl (cI, 7, .inl mq2))]) A) ([.ref h0, .int 0, .int p1, .int (nI (y_57))] : List Value).toArray s 0 0 A) (F0 m 86 ls []) by
                    exact loop_86 _ 0 nb _ _ _ (Nat.lt_succ_self _) (by omega) (fun j h1 h2 => absurd h1 (by omega)) (fun _ _ => rfl) hP hD hS (lv_sub hl [0, 1, 2, 3, 4] rfl)
                  intro n_86
                  induction n_86 with
                  | zero =>
                    intro i n8 H locs ls hm_86
                    exact absurd hm_86 (Nat.not_lt_zero _)
                  | succ n_86 ih_86 =>
                    intro i n8 H locs ls hm_86 hi hf8 hg8 hP hD hS hl
                    refine lv_iload hx hb dX9_sheet_86 (lv_at hl 0 rfl) ?_
                    refine lv_bipush (v := 40) hx hb dX9_sheet_88 (by decide) ?_
                    refine lv_icmp_ge (tgt := 112) hx hb dX9_sheet_90 (by decide) (fun c_61 => ?_) (fun c_61 => ?_)
                    · skip
                      have nc_61 : 40 ≤ i := xn_le (a := 40) (b := i) (by omega) (by omega) c_61
                      refine lv_aload_n hx hb dX9_sheet_112 rfl (lv_at hl 1 rfl) ?_
                      refine xg hF kf_X9_46 hK hP 0 rfl rfl dX9_sheet_113 ?_
                      refine lv_iload_n hx hb dX9_sheet_116 rfl (lv_at hl 2 rfl) ?_
                      refine va_iald hx hb hK hP 2 0 rfl rfl (xin 0 4 (by decide) (by decide)) dX9_sheet_117 ?_
                      refine xl_i (y := f_60 0) (congrArg f_60 rfl) ?_
                      refine xl_i (y := nI (y_57)) (by rw [ef_60]; exact pk_us) ?_
                      exact W.iret (v := nI (y_57)) hx hb hr (fun t ht hW => ⟨⟨nI (y_57), (f_58, f_60, n8, mq), rfl, ⟨p_sheet6 (by decide) (by decide) (by first | exact Or.inl (by assumption) | exact Or.inr (Or.inl (by assumption)) | exact Or.inr (Or.inr (Or.inl (by assumption))) | exact Or.inr (Or.inr (Or.inr (by assumption)))) (nI_pos (by omega)) (x_le40 (by omega)) (by assumption), (by rw [ef_58]; exact pk_us.trans (if_pos ⟨(by first | exact Or.inl (by assumption) | exact Or.inr (Or.inl (by assumption)) | exact Or.inr (Or.inr (Or.inl (by assumption))) | exact Or.inr (Or.inr (Or.inr (by assumption)))), nI_pos (by omega), x_le40 (by omega)⟩).symm), (fun j hj => by rw [ef_58]; exact pk_un hj), (by rw [ef_60]; exact pk_us.trans (congrArg nI (sp_z1 ⟨(by first | exact Or.inl (by assumption) | exact Or.inr (Or.inl (by assumption)) | exact Or.inr (Or.inr (Or.inl (by assumption))) | exact Or.inr (Or.inr (Or.inr (by assumption)))), nI_pos (by omega), x_le40 (by omega)⟩ (by assumption) (by omega)))), (fun j hj => by rw [ef_60]; exact pk_un hj), (fun j hj => (hf8 (0 + j) (by omega) (by omega)).trans (if_pos ⟨(by first | exact Or.inl (by assumption) | exact Or.inr (Or.inl (by assumption)) | exact Or.inr (Or.inr (Or.inl (by assumption))) | exact Or.inr (Or.inr (Or.inr (by assumption)))), nI_pos (by omega), x_le40 (by omega)⟩).symm), (fun j hj => hg8 j hj), hf_60⟩, by rw [ht]; exact hP.sub [0, 1, 2, 3, 4] rfl, hD.sub [0, 1, 2, 3, 4] (by decide +kernel) rfl⟩, hS.F ht⟩) hS.2.2 dX9_sheet_118 hlk
                    · skip
                      have nc_61 : i < 40 := xn_nle (a := 40) (b := i) (by omega) (by omega) c_61
                      refine lv_aload_n hx hb dX9_sheet_93 rfl (lv_at hl 1 rfl) ?_
                      refine xg hF kf_X9_49 hK hP 0 rfl rfl dX9_sheet_94 ?_
                      refine lv_bipush (v := 40) hx hb dX9_sheet_97 (by decide) ?_
                      refine lv_iload_n hx hb dX9_sheet_99 rfl (lv_at hl 2 rfl) ?_
                      refine lv_imul hx hb dX9_sheet_100 ?_
                      refine xl_i (y := 0) (by decide) ?_
                      refine lv_iload hx hb dX9_sheet_101 (lv_at hl 0 rfl) ?_
                      refine lv_iadd hx hb dX9_sheet_103 ?_
                      refine xl_i (y := nI (0 + i)) (nI_add 0 i) ?_
                      refine lv_lconst (v := 0) hx hb dX9_sheet_104 (by decide) ?_
                      refine va_last hx hb hK hP hD hS 3 1 rfl rfl (vp_in_nI (show 0 + i < 160 by omega) (by decide)) dX9_sheet_105 (fun H locs hP hD hS => ?_)
                      rw [nI_clamp (show 0 + i < 2 ^ 31 by omega)] at hP hD
                      obtain ⟨f_62, ef_62⟩ : ∃ g, g = vp_updL n8 (0 + i) 0 := ⟨_, rfl⟩
                      rw [← ef_62] at hP hD
                      have hP : va_P D vwCl [(h0, .inr (9, [.ref ys, .ref yk, .ref yo, .ref yt, .int mk0, .ref yfa, .ref yfe, .int mL, .int mS, .int mM, .ref yro, .ref yhe, .ref ygr, .int mF, .int mC, .int mY, .ref yta, .int (nI (mz)), .int (nI (mf)), .int (nI (mt)), .int mv, .int mw, .ref ywa, .ref ybi, .ref ysi, .ref ynu, .ref ymo])), (ybi, .inl (cI, 4, .inl f_58)), (ysi, .inl (cI, 4, .inl f_60)), (ynu, .inl (cJ, 160, .inr (.inl f_62))), (yt, .inl (cI, 7, .inl mq))] H := hP
                      have hD : va_D A [(h0, .inr (9, [.ref ys, .ref yk, .ref yo, .ref yt, .int mk0, .ref yfa, .ref yfe, .int mL, .int mS, .int mM, .ref yro, .ref yhe, .ref ygr, .int mF, .int mC, .int mY, .ref yta, .int (nI (mz)), .int (nI (mf)), .int (nI (mt)), .int mv, .int mw, .ref ywa, .ref ybi, .ref ysi, .ref ynu, .ref ymo])), (ybi, .inl (cI, 4, .inl f_58)), (ysi, .inl (cI, 4, .inl f_60)), (ynu, .inl (cJ, 160, .inr (.inl f_62))), (yt, .inl (cI, 7, .inl mq))] := hD
                      refine lv_iinc (v := nI (i + 1)) (lv' := [(4, .int (nI (i + 1))), (0, .ref h0), (1, .int 0), (2, .int p1), (3, .int (nI (y_57)))]) hx hb dX9_sheet_106 hl (k := 0) rfl (nI_1 (i)) (by decide) rfl (fun ls hl => ?_)
                      refine lv_goto (tgt := 86) hx hb dX9_sheet_109 (by decide) ?_
                      exact ih_86 (i + 1) f_62 _ _ _ (by omega) (by omega) (sp_fil hf8 ef_62) (sp_fio hg8 (by omega) (by omega) ef_62) (hP.sub [0, 1, 2, 3, 4] rfl) (hD.sub [0, 1, 2, 3, 4] (by decide +kernel) rfl) hS (lv_sub hl [0, 1, 2, 3, 4] rfl)
                · skip
                  refine lv_iconst (v := 0) hx hb dX9_sheet_77 (by decide) ?_
                  refine lv_goto (tgt := 82) hx hb dX9_sheet_78 (by decide) ?_
                  refine va_iast hx hb hK hP hD hS 2 0 rfl rfl (xin 0 4 (by decide) (by decide)) dX9_sheet_82 (fun H locs hP hD hS => ?_)
                  obtain ⟨f_63, ef_63⟩ : ∃ g, g = upd sq 0 0 := ⟨_, rfl⟩
                  have hP : va_P D vwCl [(h0, .inr (9, [.ref ys, .ref yk, .ref yo, .ref yt, .int mk0, .ref yfa, .ref yfe, .int mL, .int mS, .int mM, .ref yro, .ref yhe, .ref ygr, .int mF, .int mC, .int mY, .ref yta, .int (nI (mz)), .int (nI (mf)), .int (nI (mt)), .int mv, .int mw, .ref ywa, .ref ybi, .ref ysi, .ref ynu, .ref ymo])), (ybi, .inl (cI, 4, .inl f_58)), (ysi, .inl (cI, 4, .inl (upd sq 0 0))), (ynu, .inl (cJ, 160, .inr (.inl nb))), (yt, .inl (cI, 7, .inl mq))] H := hP
                  have hD : va_D A [(h0, .inr (9, [.ref ys, .ref yk, .ref yo, .ref yt, .int mk0, .ref yfa, .ref yfe, .int mL, .int mS, .int mM, .ref yro, .ref yhe, .ref ygr, .int mF, .int mC, .int mY, .ref yta, .int (nI (mz)), .int (nI (mf)), .int (nI (mt)), .int mv, .int mw, .ref ywa, .ref ybi, .ref ysi, .ref ynu, .ref ymo])), (ybi, .inl (cI, 4, .inl f_58)), (ysi, .inl (cI, 4, .inl (upd sq 0 0))), (ynu, .inl (cJ, 160, .inr (.inl nb))), (yt, .inl (cI, 7, .inl mq))] := hD
                  rw [← ef_63] at hP hD
                  have hf_63 : BA 4 41 f_63 := by rw [ef_63]; exact BA.upd hsq (show 0 < 41 by omega)
                  have hP : va_P D vwCl [(h0, .inr (9, [.ref ys, .ref yk, .ref yo, .ref yt, .int mk0, .ref yfa, .ref yfe, .int mL, .int mS, .int mM, .ref yro, .ref yhe, .ref ygr, .int mF, .int mC, .int mY, .ref yta, .int (nI (mz)), .int (nI (mf)), .int (nI (mt)), .int mv, .int mw, .ref ywa, .ref ybi, .ref ysi, .ref ynu, .ref ymo])), (ybi, .inl (cI, 4, .inl f_58)), (ysi, .inl (cI, 4, .inl f_63)), (ynu, .inl (cJ, 160, .inr (.inl nb))), (yt, .inl (cI, 7, .inl mq))] H := hP
                  have hD : va_D A [(h0, .inr (9, [.ref ys, .ref yk, .ref yo, .ref yt, .int mk0, .ref yfa, .ref yfe, .int mL, .int mS, .int mM, .ref yro, .ref yhe, .ref ygr, .int mF, .int mC, .int mY, .ref yta, .int (nI (mz)), .int (nI (mf)), .int (nI (mt)), .int mv, .int mw, .ref ywa, .ref ybi, .ref ysi, .ref ynu, .ref ymo])), (ybi, .inl (cI, 4, .inl f_58)), (ysi, .inl (cI, 4, .inl f_63)), (ynu, .inl (cJ, 160, .inr (.inl nb))), (yt, .inl (cI, 7, .inl mq))] := hD
                  refine lv_iconst (v := 0) hx hb dX9_sheet_83 (by decide) ?_
                  refine lv_istore (lv' := [(4, .int 0), (0, .ref h0), (1, .int 0), (2, .int p1), (3, .int (nI (y_57)))]) hx hb dX9_sheet_84 hl (by decide) rfl (fun ls hl => ?_)
                  suffices loop_86 : ∀ (n_86 : Nat) (i : Nat) (n8 : Nat → Int64) (H : Heap) (locs : List Loc) (ls : Array Slot), 40 - i < n_86 → (i ≤ 40) → (∀ j, 0 ≤ j → j < 0 + i → n8 j = 0) → (∀ j, j < 0 ∨ 40 ≤ j → n8 j = nb j) → va_P D vwCl [(h0, .inr (9, [.ref ys, .ref yk, .ref yo, .ref yt, .int mk0, .ref yfa, .ref yfe, .int mL, .int mS, .int mM, .ref yro, .ref yhe, .ref ygr, .int mF, .int mC, .int mY, .ref yta, .int (nI (mz)), .int (nI (mf)), .int (nI (mt)), .int mv, .int mw, .ref ywa, .ref ybi, .ref ysi, .ref ynu, .ref ymo])), (ybi, .inl (cI, 4, .inl f_58)), (ysi, .inl (cI, 4, .inl f_63)), (ynu, .inl (cJ, 160, .inr (.inl n8))), (yt, .inl (cI, 7, .inl mq))] H → va_D A [(h0, .inr (9, [.ref ys, .ref yk, .ref yo, .ref yt, .int mk0, .ref yfa, .ref yfe, .int mL, .int mS, .int mM, .ref yro, .ref yhe, .ref ygr, .int mF, .int mC, .int mY, .ref yta, .int (nI (mz)), .int (nI (mf)), .int (nI (mt)), .int mv, .int mw, .ref ywa, .ref ybi, .ref ysi, .ref ynu, .ref ymo])), (ybi, .inl (cI, 4, .inl f_58)), (ysi, .inl (cI, 4, .inl f_63)), (ynu, .inl (cJ, 160, .inr (.inl n8))), (yt, .inl (cI, 7, .inl mq))] → va_S A s.heap H locs → lv_has ls 5 [(4, .int (nI (i))), (0, .ref h0), (1, .int 0), (2, .int p1), (3, .int (nI (y_57)))] → W p l e ({ frames := 2, cells := 0, slots := 0, locals := 45 }) s m ([.ref h0, .int 0, .int p1, .int (nI (y_57))] : List Value).toArray below meth c H locs 0 0 (MQ below (XQi (fun (r : Int32) (u : (Nat → Int32) × (Nat → Int32) × (Nat → Int64) × (Nat → Int32)) => match u with | (bi2, sq2, nb2, mq2) => ((r = a_sheet 0 p1 (nI (y_57)))) ∧ (bi2 0 = sp_sb p1 (nI (y_57)) (bi 0)) ∧ (∀ j, j ≠ 0 → bi2 j = bi j) ∧ (sq2 0 = nI (sp_sz p1 (nI (y_57)) zq)) ∧ (∀ j, j ≠ 0 → sq2 j = sq j) ∧ (∀ j, j < 40 → nb2 (0 + j) = sp_sn p1 (nI (y_57)) (nb (0 + j))) ∧ (∀ j, j < 0 ∨ 40 ≤ j → nb2 j = nb j) ∧ (BA 4 41 sq2)) D (fun (u : (Nat → Int32) × (Nat → Int32) × (Nat → Int64) × (Nat → Int32)) => match u with | (bi2, sq2, nb2, mq2) => [(h0, .inr (9, [.ref ys, .ref yk, .ref yo, .ref yt, .int mk0, .ref yfa, .ref yfe, .int mL, .int mS, .int mM, .ref yro, .ref yhe, .ref ygr, .int mF, .int mC, .int mY, .ref yta, .int (nI (mz)), .int (nI (mf)), .int (nI (mt)), .int mv, .int mw, .ref ywa, .ref ybi, .ref ysi, .ref ynu, .ref ymo])), (ybi, .inl (cI, 4, .inl bi2)), (ysi, .inl (cI, 4, .inl sq2)), (ynu, .inl (cJ, 160, .inr (.inl nb2))), (yt, .inl (cI, 7, .inl mq2))]) A) ([.ref h0, .int 0, .int p1, .int (nI (y_57))] : List Value).toArray s 0 0 A) (F0 m 86 ls []) by
                    exact loop_86 _ 0 nb _ _ _ (Nat.lt_succ_self _) (by omega) (fun j h1 h2 => absurd h1 (by omega)) (fun _ _ => rfl) hP hD hS (lv_sub hl [0, 1, 2, 3, 4] rfl)
                  intro n_86
                  induction n_86 with
                  | zero =>
                    intro i n8 H locs ls hm_86
                    exact absurd hm_86 (Nat.not_lt_zero _)
                  | succ n_86 ih_86 =>
                    intro i n8 H locs ls hm_86 hi hf8 hg8 hP hD hS hl
                    refine lv_iload hx hb dX9_sheet_86 (lv_at hl 0 rfl) ?_
                    refine lv_bipush (v := 40) hx hb dX9_sheet_88 (by decide) ?_
                    refine lv_icmp_ge (tgt := 112) hx hb dX9_sheet_90 (by decide) (fun c_64 => ?_) (fun c_64 => ?_)
                    · skip
                      have nc_64 : 40 ≤ i := xn_le (a := 40) (b := i) (by omega) (by omega) c_64
                      refine lv_aload_n hx hb dX9_sheet_112 rfl (lv_at hl 1 rfl) ?_
                      refine xg hF kf_X9_46 hK hP 0 rfl rfl dX9_sheet_113 ?_
                      refine lv_iload_n hx hb dX9_sheet_116 rfl (lv_at hl 2 rfl) ?_
                      refine va_iald hx hb hK hP 2 0 rfl rfl (xin 0 4 (by decide) (by decide)) dX9_sheet_117 ?_
                      refine xl_i (y := f_63 0) (congrArg f_63 rfl) ?_
                      refine xl_i (y := 0) (by rw [ef_63]; exact pk_us) ?_
                      exact W.iret (v := 0) hx hb hr (fun t ht hW => ⟨⟨0, (f_58, f_63, n8, mq), rfl, ⟨p_sheet5 (by decide) (by decide) c_59 (nI_pos (by omega)) (x_le40 (by omega)), (by rw [ef_58]; exact pk_us.trans (if_pos ⟨(by first | exact Or.inl (by assumption) | exact Or.inr (Or.inl (by assumption)) | exact Or.inr (Or.inr (Or.inl (by assumption))) | exact Or.inr (Or.inr (Or.inr (by assumption)))), nI_pos (by omega), x_le40 (by omega)⟩).symm), (fun j hj => by rw [ef_58]; exact pk_un hj), (by rw [ef_63]; exact pk_us.trans (congrArg nI (sp_z0 ⟨(by first | exact Or.inl (by assumption) | exact Or.inr (Or.inl (by assumption)) | exact Or.inr (Or.inr (Or.inl (by assumption))) | exact Or.inr (Or.inr (Or.inr (by assumption)))), nI_pos (by omega), x_le40 (by omega)⟩ c_59))), (fun j hj => by rw [ef_63]; exact pk_un hj), (fun j hj => (hf8 (0 + j) (by omega) (by omega)).trans (if_pos ⟨(by first | exact Or.inl (by assumption) | exact Or.inr (Or.inl (by assumption)) | exact Or.inr (Or.inr (Or.inl (by assumption))) | exact Or.inr (Or.inr (Or.inr (by assumption)))), nI_pos (by omega), x_le40 (by omega)⟩).symm), (fun j hj => hg8 j hj), hf_63⟩, by rw [ht]; exact hP.sub [0, 1, 2, 3, 4] rfl, hD.sub [0, 1, 2, 3, 4] (by decide +kernel) rfl⟩, hS.F ht⟩) hS.2.2 dX9_sheet_118 hlk
                    · skip
                      have nc_64 : i < 40 := xn_nle (a := 40) (b := i) (by omega) (by omega) c_64
                      refine lv_aload_n hx hb dX9_sheet_93 rfl (lv_at hl 1 rfl) ?_
                      refine xg hF kf_X9_49 hK hP 0 rfl rfl dX9_sheet_94 ?_
                      refine lv_bipush (v := 40) hx hb dX9_sheet_97 (by decide) ?_
                      refine lv_iload_n hx hb dX9_sheet_99 rfl (lv_at hl 2 rfl) ?_
                      refine lv_imul hx hb dX9_sheet_100 ?_
                      refine xl_i (y := 0) (by decide) ?_
                      refine lv_iload hx hb dX9_sheet_101 (lv_at hl 0 rfl) ?_
                      refine lv_iadd hx hb dX9_sheet_103 ?_
                      refine xl_i (y := nI (0 + i)) (nI_add 0 i) ?_
                      refine lv_lconst (v := 0) hx hb dX9_sheet_104 (by decide) ?_
                      refine va_last hx hb hK hP hD hS 3 1 rfl rfl (vp_in_nI (show 0 + i < 160 by omega) (by decide)) dX9_sheet_105 (fun H locs hP hD hS => ?_)
                      rw [nI_clamp (show 0 + i < 2 ^ 31 by omega)] at hP hD
                      obtain ⟨f_65, ef_65⟩ : ∃ g, g = vp_updL n8 (0 + i) 0 := ⟨_, rfl⟩
                      rw [← ef_65] at hP hD
                      have hP : va_P D vwCl [(h0, .inr (9, [.ref ys, .ref yk, .ref yo, .ref yt, .int mk0, .ref yfa, .ref yfe, .int mL, .int mS, .int mM, .ref yro, .ref yhe, .ref ygr, .int mF, .int mC, .int mY, .ref yta, .int (nI (mz)), .int (nI (mf)), .int (nI (mt)), .int mv, .int mw, .ref ywa, .ref ybi, .ref ysi, .ref ynu, .ref ymo])), (ybi, .inl (cI, 4, .inl f_58)), (ysi, .inl (cI, 4, .inl f_63)), (ynu, .inl (cJ, 160, .inr (.inl f_65))), (yt, .inl (cI, 7, .inl mq))] H := hP
                      have hD : va_D A [(h0, .inr (9, [.ref ys, .ref yk, .ref yo, .ref yt, .int mk0, .ref yfa, .ref yfe, .int mL, .int mS, .int mM, .ref yro, .ref yhe, .ref ygr, .int mF, .int mC, .int mY, .ref yta, .int (nI (mz)), .int (nI (mf)), .int (nI (mt)), .int mv, .int mw, .ref ywa, .ref ybi, .ref ysi, .ref ynu, .ref ymo])), (ybi, .inl (cI, 4, .inl f_58)), (ysi, .inl (cI, 4, .inl f_63)), (ynu, .inl (cJ, 160, .inr (.inl f_65))), (yt, .inl (cI, 7, .inl mq))] := hD
                      refine lv_iinc (v := nI (i + 1)) (lv' := [(4, .int (nI (i + 1))), (0, .ref h0), (1, .int 0), (2, .int p1), (3, .int (nI (y_57)))]) hx hb dX9_sheet_106 hl (k := 0) rfl (nI_1 (i)) (by decide) rfl (fun ls hl => ?_)
                      refine lv_goto (tgt := 86) hx hb dX9_sheet_109 (by decide) ?_
                      exact ih_86 (i + 1) f_65 _ _ _ (by omega) (by omega) (sp_fil hf8 ef_65) (sp_fio hg8 (by omega) (by omega) ef_65) (hP.sub [0, 1, 2, 3, 4] rfl) (hD.sub [0, 1, 2, 3, 4] (by decide +kernel) rfl) hS (lv_sub hl [0, 1, 2, 3, 4] rfl)
              · skip
                refine lv_aload_n hx hb dX9_sheet_54 rfl (lv_at hl 0 rfl) ?_
                refine lv_ldc (v := (-1000000001)) hx hb hown (hu _ uw648) dX9_sheet_55 ?_
                refine xc_Vi (wr := [(ybi, .inl (cI, 4, .inl bi)), (ysi, .inl (cI, 4, .inl sq)), (ynu, .inl (cJ, 160, .inr (.inl nb)))]) hF (c_X9_finds_B l D cI cJ cZ cS ta sa sv s.heap.size h0 ys yk yo yt mk0 yfa yfe mL mS mM yro yhe ygr mF mC mY yta mz mf mt mv mw ywa ybi ysi ynu ymo mq ) kv_X9_70 ⟨rfl, rfl, Nat.le_of_ble_eq_true rfl, Nat.le_of_ble_eq_true rfl⟩ ⟨Nat.le_of_ble_eq_true rfl, Nat.le_of_ble_eq_true rfl⟩ hK hN hZ hP hD hS hA [0, 4] [1, 2, 3] rfl rfl rfl rfl (by decide) 0 rfl rfl rfl rfl hl.1 rfl (Nat.le_of_ble_eq_true rfl) dX9_sheet_57 (fun r_66 u_r_66 H locs hw_r_66 hP hD hS => ?_)
                obtain ⟨mq2_67, rfl⟩ : ∃ z, z = u_r_66 := ⟨_, rfl⟩
                try dsimp only at hw_r_66
                have hP : va_P D vwCl [(ybi, .inl (cI, 4, .inl bi)), (ysi, .inl (cI, 4, .inl sq)), (ynu, .inl (cJ, 160, .inr (.inl nb))), (h0, .inr (9, [.ref ys, .ref yk, .ref yo, .ref yt, .int mk0, .ref yfa, .ref yfe, .int mL, .int mS, .int mM, .ref yro, .ref yhe, .ref ygr, .int mF, .int mC, .int mY, .ref yta, .int (nI (mz)), .int (nI (mf)), .int (nI (mt)), .int mv, .int mw, .ref ywa, .ref ybi, .ref ysi, .ref ynu, .ref ymo])), (yt, .inl (cI, 7, .inl mq2_67))] H := hP
                have hD : va_D A [(ybi, .inl (cI, 4, .inl bi)), (ysi, .inl (cI, 4, .inl sq)), (ynu, .inl (cJ, 160, .inr (.inl nb))), (h0, .inr (9, [.ref ys, .ref yk, .ref yo, .ref yt, .int mk0, .ref yfa, .ref yfe, .int mL, .int mS, .int mM, .ref yro, .ref yhe, .ref ygr, .int mF, .int mC, .int mY, .ref yta, .int (nI (mz)), .int (nI (mf)), .int (nI (mt)), .int mv, .int mw, .ref ywa, .ref ybi, .ref ysi, .ref ynu, .ref ymo])), (yt, .inl (cI, 7, .inl mq2_67))] := hD
                subst hw_r_66
                exact W.iret (v := (-1000000001)) hx hb hr (fun t ht hW => ⟨⟨(-1000000001), (bi, sq, nb, mq2_67), rfl, ⟨p_sheet4 (by decide) (by decide) (by first | exact Or.inl (by assumption) | exact Or.inr (Or.inl (by assumption)) | exact Or.inr (Or.inr (Or.inl (by assumption))) | exact Or.inr (Or.inr (Or.inr (by assumption)))) (fun h => absurd c_55 (Int32.not_le.mpr h)) (xlt c_56), (if_neg (sp_n4 (xlt c_56))).symm, (fun _ _ => rfl), (ez.trans (congrArg nI (if_neg (sp_n4 (xlt c_56))).symm)), (fun _ _ => rfl), (fun j hj => (if_neg (sp_n4 (xlt c_56))).symm), (fun _ _ => rfl), hsq⟩, by rw [ht]; exact hP.sub [3, 0, 1, 2, 4] rfl, hD.sub [3, 0, 1, 2, 4] (by decide +kernel) rfl⟩, hS.F ht⟩) hS.2.2 dX9_sheet_60 hlk
            · skip
              refine lv_aload_n hx hb dX9_sheet_40 rfl (lv_at hl 0 rfl) ?_
              refine lv_ldcw (v := (-1000000007)) hx hb hown (hu _ uw923) dX9_sheet_41 ?_
              refine xc_Vi (wr := [(ybi, .inl (cI, 4, .inl bi)), (ysi, .inl (cI, 4, .inl sq)), (ynu, .inl (cJ, 160, .inr (.inl nb)))]) hF (c_X9_finds_S l D cI cJ cZ cS ta sa sv s.heap.size h0 ys yk yo yt mk0 yfa yfe mL mS mM yro yhe ygr mF mC mY yta mz mf mt mv mw ywa ybi ysi ynu ymo mq ) kv_X9_70 ⟨rfl, rfl, Nat.le_of_ble_eq_true rfl, Nat.le_of_ble_eq_true rfl⟩ ⟨Nat.le_of_ble_eq_true rfl, Nat.le_of_ble_eq_true rfl⟩ hK hN hZ hP hD hS hA [0, 4] [1, 2, 3] rfl rfl rfl rfl (by decide) 0 rfl rfl rfl rfl hl.1 rfl (Nat.le_of_ble_eq_true rfl) dX9_sheet_44 (fun r_68 u_r_68 H locs hw_r_68 hP hD hS => ?_)
              obtain ⟨mq2_69, rfl⟩ : ∃ z, z = u_r_68 := ⟨_, rfl⟩
              try dsimp only at hw_r_68
              have hP : va_P D vwCl [(ybi, .inl (cI, 4, .inl bi)), (ysi, .inl (cI, 4, .inl sq)), (ynu, .inl (cJ, 160, .inr (.inl nb))), (h0, .inr (9, [.ref ys, .ref yk, .ref yo, .ref yt, .int mk0, .ref yfa, .ref yfe, .int mL, .int mS, .int mM, .ref yro, .ref yhe, .ref ygr, .int mF, .int mC, .int mY, .ref yta, .int (nI (mz)), .int (nI (mf)), .int (nI (mt)), .int mv, .int mw, .ref ywa, .ref ybi, .ref ysi, .ref ynu, .ref ymo])), (yt, .inl (cI, 7, .inl mq2_69))] H := hP
              have hD : va_D A [(ybi, .inl (cI, 4, .inl bi)), (ysi, .inl (cI, 4, .inl sq)), (ynu, .inl (cJ, 160, .inr (.inl nb))), (h0, .inr (9, [.ref ys, .ref yk, .ref yo, .ref yt, .int mk0, .ref yfa, .ref yfe, .int mL, .int mS, .int mM, .ref yro, .ref yhe, .ref ygr, .int mF, .int mC, .int mY, .ref yta, .int (nI (mz)), .int (nI (mf)), .int (nI (mt)), .int mv, .int mw, .ref ywa, .ref ybi, .ref ysi, .ref ynu, .ref ymo])), (yt, .inl (cI, 7, .inl mq2_69))] := hD
              subst hw_r_68
              exact W.iret (v := (-1000000007)) hx hb hr (fun t ht hW => ⟨⟨(-1000000007), (bi, sq, nb, mq2_69), rfl, ⟨p_sheet3 (by decide) (by decide) (by first | exact Or.inl (by assumption) | exact Or.inr (Or.inl (by assumption)) | exact Or.inr (Or.inr (Or.inl (by assumption))) | exact Or.inr (Or.inr (Or.inr (by assumption)))) (xlt c_55), (if_neg (sp_n3 (xlt c_55))).symm, (fun _ _ => rfl), (ez.trans (congrArg nI (if_neg (sp_n3 (xlt c_55))).symm)), (fun _ _ => rfl), (fun j hj => (if_neg (sp_n3 (xlt c_55))).symm), (fun _ _ => rfl), hsq⟩, by rw [ht]; exact hP.sub [3, 0, 1, 2, 4] rfl, hD.sub [3, 0, 1, 2, 4] (by decide +kernel) rfl⟩, hS.F ht⟩) hS.2.2 dX9_sheet_47 hlk
          · skip
            refine lv_aload_n hx hb dX9_sheet_29 rfl (lv_at hl 0 rfl) ?_
            refine lv_ldc (v := (-1000000001)) hx hb hown (hu _ uw648) dX9_sheet_30 ?_
            refine xc_Vi (wr := [(ybi, .inl (cI, 4, .inl bi)), (ysi, .inl (cI, 4, .inl sq)), (ynu, .inl (cJ, 160, .inr (.inl nb)))]) hF (c_X9_finds_B l D cI cJ cZ cS ta sa sv s.heap.size h0 ys yk yo yt mk0 yfa yfe mL mS mM yro yhe ygr mF mC mY yta mz mf mt mv mw ywa ybi ysi ynu ymo mq ) kv_X9_70 ⟨rfl, rfl, Nat.le_of_ble_eq_true rfl, Nat.le_of_ble_eq_true rfl⟩ ⟨Nat.le_of_ble_eq_true rfl, Nat.le_of_ble_eq_true rfl⟩ hK hN hZ hP hD hS hA [0, 4] [1, 2, 3] rfl rfl rfl rfl (by decide) 0 rfl rfl rfl rfl hl.1 rfl (Nat.le_of_ble_eq_true rfl) dX9_sheet_32 (fun r_70 u_r_70 H locs hw_r_70 hP hD hS => ?_)
            obtain ⟨mq2_71, rfl⟩ : ∃ z, z = u_r_70 := ⟨_, rfl⟩
            try dsimp only at hw_r_70
            have hP : va_P D vwCl [(ybi, .inl (cI, 4, .inl bi)), (ysi, .inl (cI, 4, .inl sq)), (ynu, .inl (cJ, 160, .inr (.inl nb))), (h0, .inr (9, [.ref ys, .ref yk, .ref yo, .ref yt, .int mk0, .ref yfa, .ref yfe, .int mL, .int mS, .int mM, .ref yro, .ref yhe, .ref ygr, .int mF, .int mC, .int mY, .ref yta, .int (nI (mz)), .int (nI (mf)), .int (nI (mt)), .int mv, .int mw, .ref ywa, .ref ybi, .ref ysi, .ref ynu, .ref ymo])), (yt, .inl (cI, 7, .inl mq2_71))] H := hP
            have hD : va_D A [(ybi, .inl (cI, 4, .inl bi)), (ysi, .inl (cI, 4, .inl sq)), (ynu, .inl (cJ, 160, .inr (.inl nb))), (h0, .inr (9, [.ref ys, .ref yk, .ref yo, .ref yt, .int mk0, .ref yfa, .ref yfe, .int mL, .int mS, .int mM, .ref yro, .ref yhe, .ref ygr, .int mF, .int mC, .int mY, .ref yta, .int (nI (mz)), .int (nI (mf)), .int (nI (mt)), .int mv, .int mw, .ref ywa, .ref ybi, .ref ysi, .ref ynu, .ref ymo])), (yt, .inl (cI, 7, .inl mq2_71))] := hD
            subst hw_r_70
            exact W.iret (v := (-1000000001)) hx hb hr (fun t ht hW => ⟨⟨(-1000000001), (bi, sq, nb, mq2_71), rfl, ⟨p_sheet2 (by decide) (by decide) c_6 c_22 c_38 c_54, (if_neg (sp_n2 c_6 c_22 c_38 c_54)).symm, (fun _ _ => rfl), (ez.trans (congrArg nI (if_neg (sp_n2 c_6 c_22 c_38 c_54)).symm)), (fun _ _ => rfl), (fun j hj => (if_neg (sp_n2 c_6 c_22 c_38 c_54)).symm), (fun _ _ => rfl), hsq⟩, by rw [ht]; exact hP.sub [3, 0, 1, 2, 4] rfl, hD.sub [3, 0, 1, 2, 4] (by decide +kernel) rfl⟩, hS.F ht⟩) hS.2.2 dX9_sheet_35 hlk
  · exact absurd h_4 (by decide)
set_option maxHeartbeats 4000000 in
set_option maxRecDepth 100000 in
theorem c_X9_write_0 (l : Launch) (D : va_G) (cI cJ cZ cS : ClassId) (ta : Nat) (sa sv : Nat → Nat) (sz : Nat) (h0 : Nat) (ys : Nat) (yk : Nat) (yo : Nat) (yt : Nat) (mk0 : Int32) (yfa : Nat) (yfe : Nat) (mL : Int32) (mS : Int32) (mM : Int32) (yro : Nat) (yhe : Nat) (ygr : Nat) (mF : Int32) (mC : Int32) (mY : Int32) (yta : Nat) (mz : Nat) (mf : Nat) (mt : Nat) (mv : Int32) (mw : Int32) (ywa : Nat) (ybi : Nat) (ysi : Nat) (ynu : Nat) (ymo : Nat) (bi : Nat → Int32) (sq : Nat → Int32) (nb : Nat → Int64) (mq : Nat → Int32) (p1 : Int32) (p2 : Int64) (zq : Nat) (ez : sq 0 = nI zq) (hzq : zq ≤ 40) (hsq : BA 4 41 sq) : Met l yX9_write (Cond.code yX9_write cX9_write 8 (some .long) :: wsU) ({ frames := 3, cells := 0, slots := 0, locals := 66 }) (va_Pc [.ref h0, .int 0, .int p1, .long p2] (XW D (xT cI cJ cZ cS) ta sa sv [(h0, .inr (9, [.ref ys, .ref yk, .ref yo, .ref yt, .int mk0, .ref yfa, .ref yfe, .int mL, .int mS, .int mM, .ref yro, .ref yhe, .ref ygr, .int mF, .int mC, .int mY, .ref yta, .int (nI (mz)), .int (nI (mf)), .int (nI (mt)), .int mv, .int mw, .ref ywa, .ref ybi, .ref ysi, .ref ynu, .ref ymo])), (ybi, .inl (cI, 4, .inl bi)), (ysi, .inl (cI, 4, .inl sq)), (ynu, .inl (cJ, 160, .inr (.inl nb))), (yt, .inl (cI, 7, .inl mq))] sz)) (XQl (fun (r : Int64) (u : (Nat → Int64) × (Nat → Int32)) => match u with | (nb2, mq2) => ((r = sp_wr (bi 0) zq p1 (nb (0 + p1.toNatClampNeg)))) ∧ (∀ j, j < 40 → nb2 (0 + j) = sp_wn (bi 0) zq p1 p2 j (nb (0 + j))) ∧ (∀ j, j < 0 ∨ 40 ≤ j → nb2 j = nb j)) D (fun (u : (Nat → Int64) × (Nat → Int32)) => match u with | (nb2, mq2) => [(h0, .inr (9, [.ref ys, .ref yk, .ref yo, .ref yt, .int mk0, .ref yfa, .ref yfe, .int mL, .int mS, .int mM, .ref yro, .ref yhe, .ref ygr, .int mF, .int mC, .int mY, .ref yta, .int (nI (mz)), .int (nI (mf)), .int (nI (mt)), .int mv, .int mw, .ref ywa, .ref ybi, .ref ysi, .ref ynu, .ref ymo])), (ybi, .inl (cI, 4, .inl bi)), (ysi, .inl (cI, 4, .inl sq)), (ynu, .inl (cJ, 160, .inr (.inl nb2))), (yt, .inl (cI, 7, .inl mq2))]) (va_A [(h0, .inr (9, [.ref ys, .ref yk, .ref yo, .ref yt, .int mk0, .ref yfa, .ref yfe, .int mL, .int mS, .int mM, .ref yro, .ref yhe, .ref ygr, .int mF, .int mC, .int mY, .ref yta, .int (nI (mz)), .int (nI (mf)), .int (nI (mt)), .int mv, .int mw, .ref ywa, .ref ybi, .ref ysi, .ref ynu, .ref ymo])), (ybi, .inl (cI, 4, .inl bi)), (ysi, .inl (cI, 4, .inl sq)), (ynu, .inl (cJ, 160, .inr (.inl nb))), (yt, .inl (cI, 7, .inl mq))] sz)) 0 0 (va_A [(h0, .inr (9, [.ref ys, .ref yk, .ref yo, .ref yt, .int mk0, .ref yfa, .ref yfe, .int mL, .int mS, .int mM, .ref yro, .ref yhe, .ref ygr, .int mF, .int mC, .int mY, .ref yta, .int (nI (mz)), .int (nI (mf)), .int (nI (mt)), .int mv, .int mw, .ref ywa, .ref ybi, .ref ysi, .ref ynu, .ref ymo])), (ybi, .inl (cI, 4, .inl bi)), (ysi, .inl (cI, 4, .inl sq)), (ynu, .inl (cJ, 160, .inr (.inl nb))), (yt, .inl (cI, 7, .inl mq))] sz) := by
  refine xh (QA := fun A => XQl (fun (r : Int64) (u : (Nat → Int64) × (Nat → Int32)) => match u with | (nb2, mq2) => ((r = sp_wr (bi 0) zq p1 (nb (0 + p1.toNatClampNeg)))) ∧ (∀ j, j < 40 → nb2 (0 + j) = sp_wn (bi 0) zq p1 p2 j (nb (0 + j))) ∧ (∀ j, j < 0 ∨ 40 ≤ j → nb2 j = nb j)) D (fun (u : (Nat → Int64) × (Nat → Int32)) => match u with | (nb2, mq2) => [(h0, .inr (9, [.ref ys, .ref yk, .ref yo, .ref yt, .int mk0, .ref yfa, .ref yfe, .int mL, .int mS, .int mM, .ref yro, .ref yhe, .ref ygr, .int mF, .int mC, .int mY, .ref yta, .int (nI (mz)), .int (nI (mf)), .int (nI (mt)), .int mv, .int mw, .ref ywa, .ref ybi, .ref ysi, .ref ynu, .ref ymo])), (ybi, .inl (cI, 4, .inl bi)), (ysi, .inl (cI, 4, .inl sq)), (ynu, .inl (cJ, 160, .inr (.inl nb2))), (yt, .inl (cI, 7, .inl mq2))]) A) (fr := fun A => A) (by decide) (Nat.le_of_ble_eq_true rfl) ?_
  intro p e s m below meth c ls A hF hr hlk hin hsz hP hK hD hN hZ hA hS hl
  have hF : CallFix p m c cX9_write 8 s _ _ RX9 := hF
  have hx := hF.1
  have hb := hF.2.1
  have hml := hF.2.2.1
  have hown := hF.2.2.2.1
  have hu : ∀ w ∈ wsU, w.before _ s = true := fun w h => hF.2.2.2.2 w (List.mem_cons_of_mem _ h)
  have hl : lv_has ls 8 [(0, .ref h0), (1, .int 0), (2, .int p1), (3, .long p2)] := hl
  refine lv_aload_n hx hb dX9_write_0 rfl (lv_at hl 0 rfl) ?_
  refine lv_iload_n hx hb dX9_write_1 rfl (lv_at hl 1 rfl) ?_
  refine xc_Vr hF (c_X9_wrong_0 l D cI cJ cZ cS ta sa sv s.heap.size h0 ys yk yo yt mk0 yfa yfe mL mS mM yro yhe ygr mF mC mY yta mz mf mt mv mw ywa ybi ysi ynu ymo bi ) kv_X9_310 ⟨rfl, rfl, Nat.le_of_ble_eq_true rfl, Nat.le_of_ble_eq_true rfl⟩ ⟨Nat.le_of_ble_eq_true rfl, Nat.le_of_ble_eq_true rfl⟩ hK hN hZ hP hD hS hA [0, 1] rfl rfl 0 rfl rfl rfl rfl hl.1 rfl (Nat.le_of_ble_eq_true rfl) dX9_write_2 (fun r_1 hw_r_1 => ?_)
  rcases hw_r_1 with ⟨rfl, h_2⟩ | ⟨rfl, h_3⟩
  · skip
    refine lv_istore (lv' := [(5, .int (-1000000006)), (0, .ref h0), (1, .int 0), (2, .int p1), (3, .long p2)]) hx hb dX9_write_5 hl (by decide) rfl (fun ls hl => ?_)
    refine lv_iload hx hb dX9_write_7 (lv_at hl 0 rfl) ?_
    refine lv_if_eq (tgt := 20) hx hb dX9_write_9 (by decide) (fun c_4 => absurd c_4 (by decide)) (fun c_4 => ?_)
    refine lv_aload_n hx hb dX9_write_12 rfl (lv_at hl 1 rfl) ?_
    refine lv_iload hx hb dX9_write_13 (lv_at hl 0 rfl) ?_
    refine xc_Vi (wr := [(ybi, .inl (cI, 4, .inl bi)), (ysi, .inl (cI, 4, .inl sq)), (ynu, .inl (cJ, 160, .inr (.inl nb)))]) hF (c_X9_finds_M l D cI cJ cZ cS ta sa sv s.heap.size h0 ys yk yo yt mk0 yfa yfe mL mS mM yro yhe ygr mF mC mY yta mz mf mt mv mw ywa ybi ysi ynu ymo mq ) kv_X9_70 ⟨rfl, rfl, Nat.le_of_ble_eq_true rfl, Nat.le_of_ble_eq_true rfl⟩ ⟨Nat.le_of_ble_eq_true rfl, Nat.le_of_ble_eq_true rfl⟩ hK hN hZ hP hD hS hA [0, 4] [1, 2, 3] rfl rfl rfl rfl (by decide) 0 rfl rfl rfl rfl hl.1 rfl (Nat.le_of_ble_eq_true rfl) dX9_write_15 (fun r_5 u_r_5 H locs hw_r_5 hP hD hS => ?_)
    obtain ⟨mq2_6, rfl⟩ : ∃ z, z = u_r_5 := ⟨_, rfl⟩
    try dsimp only at hw_r_5
    have hP : va_P D vwCl [(ybi, .inl (cI, 4, .inl bi)), (ysi, .inl (cI, 4, .inl sq)), (ynu, .inl (cJ, 160, .inr (.inl nb))), (h0, .inr (9, [.ref ys, .ref yk, .ref yo, .ref yt, .int mk0, .ref yfa, .ref yfe, .int mL, .int mS, .int mM, .ref yro, .ref yhe, .ref ygr, .int mF, .int mC, .int mY, .ref yta, .int (nI (mz)), .int (nI (mf)), .int (nI (mt)), .int mv, .int mw, .ref ywa, .ref ybi, .ref ysi, .ref ynu, .ref ymo])), (yt, .inl (cI, 7, .inl mq2_6))] H := hP
    have hD : va_D A [(ybi, .inl (cI, 4, .inl bi)), (ysi, .inl (cI, 4, .inl sq)), (ynu, .inl (cJ, 160, .inr (.inl nb))), (h0, .inr (9, [.ref ys, .ref yk, .ref yo, .ref yt, .int mk0, .ref yfa, .ref yfe, .int mL, .int mS, .int mM, .ref yro, .ref yhe, .ref ygr, .int mF, .int mC, .int mY, .ref yta, .int (nI (mz)), .int (nI (mf)), .int (nI (mt)), .int mv, .int mw, .ref ywa, .ref ybi, .ref ysi, .ref ynu, .ref ymo])), (yt, .inl (cI, 7, .inl mq2_6))] := hD
    subst hw_r_5
    refine lv_i2l (v := (-1000000006)) hx hb dX9_write_18 (by decide) ?_
    exact W.lret (v := (-1000000006)) hx hb hr (fun t ht hW => ⟨⟨(-1000000006), (nb, mq2_6), rfl, ⟨(sp_wr1 h_2), (fun j _ => sp_w1 h_2), (fun _ _ => rfl)⟩, by rw [ht]; exact hP.sub [3, 0, 1, 2, 4] rfl, hD.sub [3, 0, 1, 2, 4] (by decide +kernel) rfl⟩, hS.F ht⟩) hS.2.2 dX9_write_19 hlk
  · skip
    refine lv_istore (lv' := [(5, .int 0), (0, .ref h0), (1, .int 0), (2, .int p1), (3, .long p2)]) hx hb dX9_write_5 hl (by decide) rfl (fun ls hl => ?_)
    refine lv_iload hx hb dX9_write_7 (lv_at hl 0 rfl) ?_
    refine lv_if_eq (tgt := 20) hx hb dX9_write_9 (by decide) (fun c_7 => ?_) (fun c_7 => absurd (by decide) c_7)
    refine lv_iload_n hx hb dX9_write_20 rfl (lv_at hl 3 rfl) ?_
    refine lv_i2l (v := p1.toInt64) hx hb dX9_write_21 rfl ?_
    refine lv_lconst (v := 0) hx hb dX9_write_22 (by decide) ?_
    refine xl_l (y := (0 : Int32).toInt64) (by decide) ?_
    refine lv_aload_n hx hb dX9_write_23 rfl (lv_at hl 1 rfl) ?_
    refine xg hF kf_X9_46 hK hP 0 rfl rfl dX9_write_24 ?_
    refine lv_iload_n hx hb dX9_write_27 rfl (lv_at hl 2 rfl) ?_
    refine va_iald hx hb hK hP 2 0 rfl rfl (xin 0 4 (by decide) (by decide)) dX9_write_28 ?_
    refine xl_i (y := sq 0) (congrArg sq rfl) ?_
    refine xl_i (y := nI (zq)) ez ?_
    refine lv_iconst (v := 1) hx hb dX9_write_29 (by decide) ?_
    refine lv_isub hx hb dX9_write_30 ?_
    refine lv_topi (fun x_8 ex_8 => ?_)
    refine lv_i2l (v := x_8.toInt64) hx hb dX9_write_31 rfl ?_
    refine xc_Sr hF (c_X9_in l D cI cJ cZ cS ta sa sv s.heap.size p1 0 x_8 ) ks_X9_57 ⟨rfl, rfl, Nat.le_of_ble_eq_true rfl, Nat.le_of_ble_eq_true rfl⟩ ⟨Nat.le_of_ble_eq_true rfl, Nat.le_of_ble_eq_true rfl⟩ hK hN hZ hP hD hS hA [] rfl rfl rfl hl.1 rfl (Nat.le_of_ble_eq_true rfl) dX9_write_32 (fun r_9 hw_r_9 => ?_)
    rcases hw_r_9 with ⟨rfl, h_10, h_11⟩ | ⟨rfl, h_12⟩
    · skip
      refine lv_if_ne (tgt := 46) hx hb dX9_write_35 (by decide) (fun c_13 => ?_) (fun c_13 => absurd c_13 (by decide))
      obtain ⟨y_14, hy_14, rfl⟩ := x_pl3 (by omega) ex_8 h_10 h_11
      refine lv_aload_n hx hb dX9_write_46 rfl (lv_at hl 1 rfl) ?_
      refine xg hF kf_X9_49 hK hP 0 rfl rfl dX9_write_47 ?_
      refine lv_bipush (v := 40) hx hb dX9_write_50 (by decide) ?_
      refine lv_iload_n hx hb dX9_write_52 rfl (lv_at hl 2 rfl) ?_
      refine lv_imul hx hb dX9_write_53 ?_
      refine xl_i (y := 0) (by decide) ?_
      refine lv_iload_n hx hb dX9_write_54 rfl (lv_at hl 3 rfl) ?_
      refine lv_iadd hx hb dX9_write_55 ?_
      refine xl_i (y := nI (0 + y_14)) (nI_add 0 y_14) ?_
      refine va_lald hx hb hK hP 3 1 rfl rfl (vp_in_nI (show 0 + y_14 < 160 by omega) (by decide)) dX9_write_56 ?_
      refine xl_l (y := nb (0 + y_14)) (congrArg nb (nI_clamp (show 0 + y_14 < 2 ^ 31 by omega))) ?_
      refine lv_lstore (lv' := [(6, .long (nb (0 + y_14))), (5, .int 0), (0, .ref h0), (1, .int 0), (2, .int (nI (y_14))), (3, .long p2)]) hx hb dX9_write_57 hl (by decide) rfl (fun ls hl => ?_)
      refine lv_aload_n hx hb dX9_write_59 rfl (lv_at hl 2 rfl) ?_
      refine xg hF kf_X9_49 hK hP 0 rfl rfl dX9_write_60 ?_
      refine lv_bipush (v := 40) hx hb dX9_write_63 (by decide) ?_
      refine lv_iload_n hx hb dX9_write_65 rfl (lv_at hl 3 rfl) ?_
      refine lv_imul hx hb dX9_write_66 ?_
      refine xl_i (y := 0) (by decide) ?_
      refine lv_iload_n hx hb dX9_write_67 rfl (lv_at hl 4 rfl) ?_
      refine lv_iadd hx hb dX9_write_68 ?_
      refine xl_i (y := nI (0 + y_14)) (nI_add 0 y_14) ?_
      refine lv_aload_n hx hb dX9_write_69 rfl (lv_at hl 2 rfl) ?_
      refine xg hF kf_X9_43 hK hP 0 rfl rfl dX9_write_70 ?_
      refine lv_iload_n hx hb dX9_write_73 rfl (lv_at hl 3 rfl) ?_
      refine va_iald hx hb hK hP 1 0 rfl rfl (xin 0 4 (by decide) (by decide)) dX9_write_74 ?_
      refine xl_i (y := bi 0) (congrArg bi rfl) ?_
      refine lv_lload_n hx hb dX9_write_75 rfl (lv_at hl 5 rfl) ?_
      refine xc_Srl hF (c_X9_narrowed l D cI cJ cZ cS ta sa sv s.heap.size (bi 0) p2 ) ks_X9_313 ⟨rfl, rfl, Nat.le_of_ble_eq_true rfl, Nat.le_of_ble_eq_true rfl⟩ ⟨Nat.le_of_ble_eq_true rfl, Nat.le_of_ble_eq_true rfl⟩ hK hN hZ hP hD hS hA [] rfl rfl rfl hl.1 rfl (Nat.le_of_ble_eq_true rfl) dX9_write_76 (fun r_15 hw_r_15 => ?_)
      subst hw_r_15
      refine va_last hx hb hK hP hD hS 3 1 rfl rfl (vp_in_nI (show 0 + y_14 < 160 by omega) (by decide)) dX9_write_79 (fun H locs hP hD hS => ?_)
      rw [nI_clamp (show 0 + y_14 < 2 ^ 31 by omega)] at hP hD
      obtain ⟨f_16, ef_16⟩ : ∃ g, g = vp_updL nb (0 + y_14) (sp_low (bi 0) p2) := ⟨_, rfl⟩
      rw [← ef_16] at hP hD
      have hP : va_P D vwCl [(h0, .inr (9, [.ref ys, .ref yk, .ref yo, .ref yt, .int mk0, .ref yfa, .ref yfe, .int mL, .int mS, .int mM, .ref yro, .ref yhe, .ref ygr, .int mF, .int mC, .int mY, .ref yta, .int (nI (mz)), .int (nI (mf)), .int (nI (mt)), .int mv, .int mw, .ref ywa, .ref ybi, .ref ysi, .ref ynu, .ref ymo])), (ybi, .inl (cI, 4, .inl bi)), (ysi, .inl (cI, 4, .inl sq)), (ynu, .inl (cJ, 160, .inr (.inl f_16))), (yt, .inl (cI, 7, .inl mq))] H := hP
      have hD : va_D A [(h0, .inr (9, [.ref ys, .ref yk, .ref yo, .ref yt, .int mk0, .ref yfa, .ref yfe, .int mL, .int mS, .int mM, .ref yro, .ref yhe, .ref ygr, .int mF, .int mC, .int mY, .ref yta, .int (nI (mz)), .int (nI (mf)), .int (nI (mt)), .int mv, .int mw, .ref ywa, .ref ybi, .ref ysi, .ref ynu, .ref ymo])), (ybi, .inl (cI, 4, .inl bi)), (ysi, .inl (cI, 4, .inl sq)), (ynu, .inl (cJ, 160, .inr (.inl f_16))), (yt, .inl (cI, 7, .inl mq))] := hD
      refine lv_lload hx hb dX9_write_80 (lv_at hl 0 rfl) ?_
      exact W.lret (v := nb (0 + y_14)) hx hb hr (fun t ht hW => ⟨⟨nb (0 + y_14), (f_16, mq), rfl, ⟨(sp_wr3 (f := fun j => nb (0 + j)) h_3 (by omega) (by omega)), (fun j _ => sp_w3 (K := 0) h_3 (by omega) (by omega) ef_16), (fun j hj => by rw [ef_16]; exact pk_uLn (by omega))⟩, by rw [ht]; exact hP.sub [0, 1, 2, 3, 4] rfl, hD.sub [0, 1, 2, 3, 4] (by decide +kernel) rfl⟩, hS.F ht⟩) hS.2.2 dX9_write_82 hlk
    · skip
      refine lv_if_ne (tgt := 46) hx hb dX9_write_35 (by decide) (fun c_17 => absurd (by decide) c_17) (fun c_17 => ?_)
      refine lv_aload_n hx hb dX9_write_38 rfl (lv_at hl 1 rfl) ?_
      refine lv_ldc (v := (-1000000001)) hx hb hown (hu _ uw648) dX9_write_39 ?_
      refine xc_Vi (wr := [(ybi, .inl (cI, 4, .inl bi)), (ysi, .inl (cI, 4, .inl sq)), (ynu, .inl (cJ, 160, .inr (.inl nb)))]) hF (c_X9_finds_B l D cI cJ cZ cS ta sa sv s.heap.size h0 ys yk yo yt mk0 yfa yfe mL mS mM yro yhe ygr mF mC mY yta mz mf mt mv mw ywa ybi ysi ynu ymo mq ) kv_X9_70 ⟨rfl, rfl, Nat.le_of_ble_eq_true rfl, Nat.le_of_ble_eq_true rfl⟩ ⟨Nat.le_of_ble_eq_true rfl, Nat.le_of_ble_eq_true rfl⟩ hK hN hZ hP hD hS hA [0, 4] [1, 2, 3] rfl rfl rfl rfl (by decide) 0 rfl rfl rfl rfl hl.1 rfl (Nat.le_of_ble_eq_true rfl) dX9_write_41 (fun r_18 u_r_18 H locs hw_r_18 hP hD hS => ?_)
      obtain ⟨mq2_19, rfl⟩ : ∃ z, z = u_r_18 := ⟨_, rfl⟩
      try dsimp only at hw_r_18
      have hP : va_P D vwCl [(ybi, .inl (cI, 4, .inl bi)), (ysi, .inl (cI, 4, .inl sq)), (ynu, .inl (cJ, 160, .inr (.inl nb))), (h0, .inr (9, [.ref ys, .ref yk, .ref yo, .ref yt, .int mk0, .ref yfa, .ref yfe, .int mL, .int mS, .int mM, .ref yro, .ref yhe, .ref ygr, .int mF, .int mC, .int mY, .ref yta, .int (nI (mz)), .int (nI (mf)), .int (nI (mt)), .int mv, .int mw, .ref ywa, .ref ybi, .ref ysi, .ref ynu, .ref ymo])), (yt, .inl (cI, 7, .inl mq2_19))] H := hP
      have hD : va_D A [(ybi, .inl (cI, 4, .inl bi)), (ysi, .inl (cI, 4, .inl sq)), (ynu, .inl (cJ, 160, .inr (.inl nb))), (h0, .inr (9, [.ref ys, .ref yk, .ref yo, .ref yt, .int mk0, .ref yfa, .ref yfe, .int mL, .int mS, .int mM, .ref yro, .ref yhe, .ref ygr, .int mF, .int mC, .int mY, .ref yta, .int (nI (mz)), .int (nI (mf)), .int (nI (mt)), .int mv, .int mw, .ref ywa, .ref ybi, .ref ysi, .ref ynu, .ref ymo])), (yt, .inl (cI, 7, .inl mq2_19))] := hD
      subst hw_r_18
      refine lv_i2l (v := (-1000000001)) hx hb dX9_write_44 (by decide) ?_
      exact W.lret (v := (-1000000001)) hx hb hr (fun t ht hW => ⟨⟨(-1000000001), (nb, mq2_19), rfl, ⟨(sp_wr2 h_3 (sp_w5 hzq ex_8 h_12)), (fun j _ => sp_w2 (sp_w5 hzq ex_8 h_12)), (fun _ _ => rfl)⟩, by rw [ht]; exact hP.sub [3, 0, 1, 2, 4] rfl, hD.sub [3, 0, 1, 2, 4] (by decide +kernel) rfl⟩, hS.F ht⟩) hS.2.2 dX9_write_45 hlk
set_option maxHeartbeats 4000000 in
set_option maxRecDepth 100000 in
theorem c_X9_wrong_1 (l : Launch) (D : va_G) (cI cJ cZ cS : ClassId) (ta : Nat) (sa sv : Nat → Nat) (sz : Nat) (h0 : Nat) (ys : Nat) (yk : Nat) (yo : Nat) (yt : Nat) (mk0 : Int32) (yfa : Nat) (yfe : Nat) (mL : Int32) (mS : Int32) (mM : Int32) (yro : Nat) (yhe : Nat) (ygr : Nat) (mF : Int32) (mC : Int32) (mY : Int32) (yta : Nat) (mz : Nat) (mf : Nat) (mt : Nat) (mv : Int32) (mw : Int32) (ywa : Nat) (ybi : Nat) (ysi : Nat) (ynu : Nat) (ymo : Nat) (bi : Nat → Int32) : Met l yX9_wrong (Cond.code yX9_wrong cX9_wrong 2 (some .int) :: wsU) ({ frames := 2, cells := 0, slots := 0, locals := 45 }) (va_Pc [.ref h0, .int 1] (XW D (xT cI cJ cZ cS) ta sa sv [(h0, .inr (9, [.ref ys, .ref yk, .ref yo, .ref yt, .int mk0, .ref yfa, .ref yfe, .int mL, .int mS, .int mM, .ref yro, .ref yhe, .ref ygr, .int mF, .int mC, .int mY, .ref yta, .int (nI (mz)), .int (nI (mf)), .int (nI (mt)), .int mv, .int mw, .ref ywa, .ref ybi, .ref ysi, .ref ynu, .ref ymo])), (ybi, .inl (cI, 4, .inl bi))] sz)) (vp_Si (fun r : Int32 => (r = (-1000000006) ∧ (bi 1 = 0)) ∨ (r = 0 ∧ (¬ bi 1 = 0)))) 0 0 (fun _ => False) := by
  refine xh (QA := fun _ => vp_Si (fun r : Int32 => (r = (-1000000006) ∧ (bi 1 = 0)) ∨ (r = 0 ∧ (¬ bi 1 = 0)))) (fr := fun _ _ => False) (by decide) (Nat.le_of_ble_eq_true rfl) ?_
  intro p e s m below meth c ls A hF hr hlk hin hsz hP hK hD hN hZ hA hS hl
  have hF : CallFix p m c cX9_wrong 2 s _ _ RX9 := hF
  have hx := hF.1
  have hb := hF.2.1
  have hml := hF.2.2.1
  have hown := hF.2.2.2.1
  have hu : ∀ w ∈ wsU, w.before _ s = true := fun w h => hF.2.2.2.2 w (List.mem_cons_of_mem _ h)
  have hl : lv_has ls 2 [(0, .ref h0), (1, .int 1)] := hl
  refine lv_iload_n hx hb dX9_wrong_0 rfl (lv_at hl 1 rfl) ?_
  refine xc_Sr hF (c_X9_isOne l D cI cJ cZ cS ta sa sv s.heap.size 1 ) ks_X9_305 ⟨rfl, rfl, Nat.le_of_ble_eq_true rfl, Nat.le_of_ble_eq_true rfl⟩ ⟨Nat.le_of_ble_eq_true rfl, Nat.le_of_ble_eq_true rfl⟩ hK hN hZ hP hD hS hA [] rfl rfl rfl hl.1 rfl (Nat.le_of_ble_eq_true rfl) dX9_wrong_1 (fun r_1 hw_r_1 => ?_)
  rcases hw_r_1 with ⟨rfl, h_2, h_3⟩ | ⟨rfl, h_4⟩
  · skip
    refine lv_if_ne (tgt := 12) hx hb dX9_wrong_4 (by decide) (fun c_5 => ?_) (fun c_5 => absurd c_5 (by decide))
    refine lv_aload_n hx hb dX9_wrong_12 rfl (lv_at hl 0 rfl) ?_
    refine xg hF kf_X9_43 hK hP 0 rfl rfl dX9_wrong_13 ?_
    refine lv_iload_n hx hb dX9_wrong_16 rfl (lv_at hl 1 rfl) ?_
    refine va_iald hx hb hK hP 1 0 rfl rfl (xin 1 4 (by decide) (by decide)) dX9_wrong_17 ?_
    refine xl_i (y := bi 1) (congrArg bi rfl) ?_
    refine lv_if_ne (tgt := 27) hx hb dX9_wrong_18 (by decide) (fun c_6 => ?_) (fun c_6 => ?_)
    · skip
      refine lv_iconst (v := 0) hx hb dX9_wrong_27 (by decide) ?_
      exact W.iret (v := 0) hx hb hr (fun t ht hW => ⟨0, rfl, (by first | exact Or.inr (⟨rfl, (by first | assumption | omega | exact Or.inl (by first | assumption | omega) | exact Or.inr (by first | assumption | omega))⟩)), ht⟩) (fun q h => by cases h) dX9_wrong_28 hlk
    · skip
      refine lv_ldcw (v := (-1000000006)) hx hb hown (hu _ uw910) dX9_wrong_21 ?_
      refine lv_goto (tgt := 28) hx hb dX9_wrong_24 (by decide) ?_
      exact W.iret (v := (-1000000006)) hx hb hr (fun t ht hW => ⟨(-1000000006), rfl, (by first | exact Or.inl ⟨rfl, (by first | assumption | omega | exact Or.inl (by first | assumption | omega) | exact Or.inr (by first | assumption | omega))⟩), ht⟩) (fun q h => by cases h) dX9_wrong_28 hlk
  · exact absurd h_4 (by decide)
set_option maxHeartbeats 4000000 in
set_option maxRecDepth 100000 in
theorem c_X9_sheet_1 (l : Launch) (D : va_G) (cI cJ cZ cS : ClassId) (ta : Nat) (sa sv : Nat → Nat) (sz : Nat) (h0 : Nat) (ys : Nat) (yk : Nat) (yo : Nat) (yt : Nat) (mk0 : Int32) (yfa : Nat) (yfe : Nat) (mL : Int32) (mS : Int32) (mM : Int32) (yro : Nat) (yhe : Nat) (ygr : Nat) (mF : Int32) (mC : Int32) (mY : Int32) (yta : Nat) (mz : Nat) (mf : Nat) (mt : Nat) (mv : Int32) (mw : Int32) (ywa : Nat) (ybi : Nat) (ysi : Nat) (ynu : Nat) (ymo : Nat) (bi : Nat → Int32) (sq : Nat → Int32) (nb : Nat → Int64) (mq : Nat → Int32) (p1 : Int32) (p2 : Int32) (zq : Nat) (ez : sq 1 = nI zq) (hzq : zq ≤ 40) (hsq : BA 4 41 sq) : Met l yX9_sheet (Cond.code yX9_sheet cX9_sheet 5 (some .int) :: wsU) ({ frames := 2, cells := 0, slots := 0, locals := 45 }) (va_Pc [.ref h0, .int 1, .int p1, .int p2] (XW D (xT cI cJ cZ cS) ta sa sv [(h0, .inr (9, [.ref ys, .ref yk, .ref yo, .ref yt, .int mk0, .ref yfa, .ref yfe, .int mL, .int mS, .int mM, .ref yro, .ref yhe, .ref ygr, .int mF, .int mC, .int mY, .ref yta, .int (nI (mz)), .int (nI (mf)), .int (nI (mt)), .int mv, .int mw, .ref ywa, .ref ybi, .ref ysi, .ref ynu, .ref ymo])), (ybi, .inl (cI, 4, .inl bi)), (ysi, .inl (cI, 4, .inl sq)), (ynu, .inl (cJ, 160, .inr (.inl nb))), (yt, .inl (cI, 7, .inl mq))] sz)) (XQi (fun (r : Int32) (u : (Nat → Int32) × (Nat → Int32) × (Nat → Int64) × (Nat → Int32)) => match u with | (bi2, sq2, nb2, mq2) => ((r = a_sheet 1 p1 p2)) ∧ (bi2 1 = sp_sb p1 p2 (bi 1)) ∧ (∀ j, j ≠ 1 → bi2 j = bi j) ∧ (sq2 1 = nI (sp_sz p1 p2 zq)) ∧ (∀ j, j ≠ 1 → sq2 j = sq j) ∧ (∀ j, j < 40 → nb2 (40 + j) = sp_sn p1 p2 (nb (40 + j))) ∧ (∀ j, j < 40 ∨ 80 ≤ j → nb2 j = nb j) ∧ (BA 4 41 sq2)) D (fun (u : (Nat → Int32) × (Nat → Int32) × (Nat → Int64) × (Nat → Int32)) => match u with | (bi2, sq2, nb2, mq2) => [(h0, .inr (9, [.ref ys, .ref yk, .ref yo, .ref yt, .int mk0, .ref yfa, .ref yfe, .int mL, .int mS, .int mM, .ref yro, .ref yhe, .ref ygr, .int mF, .int mC, .int mY, .ref yta, .int (nI (mz)), .int (nI (mf)), .int (nI (mt)), .int mv, .int mw, .ref ywa, .ref ybi, .ref ysi, .ref ynu, .ref ymo])), (ybi, .inl (cI, 4, .inl bi2)), (ysi, .inl (cI, 4, .inl sq2)), (ynu, .inl (cJ, 160, .inr (.inl nb2))), (yt, .inl (cI, 7, .inl mq2))]) (va_A [(h0, .inr (9, [.ref ys, .ref yk, .ref yo, .ref yt, .int mk0, .ref yfa, .ref yfe, .int mL, .int mS, .int mM, .ref yro, .ref yhe, .ref ygr, .int mF, .int mC, .int mY, .ref yta, .int (nI (mz)), .int (nI (mf)), .int (nI (mt)), .int mv, .int mw, .ref ywa, .ref ybi, .ref ysi, .ref ynu, .ref ymo])), (ybi, .inl (cI, 4, .inl bi)), (ysi, .inl (cI, 4, .inl sq)), (ynu, .inl (cJ, 160, .inr (.inl nb))), (yt, .inl (cI, 7, .inl mq))] sz)) 0 0 (va_A [(h0, .inr (9, [.ref ys, .ref yk, .ref yo, .ref yt, .int mk0, .ref yfa, .ref yfe, .int mL, .int mS, .int mM, .ref yro, .ref yhe, .ref ygr, .int mF, .int mC, .int mY, .ref yta, .int (nI (mz)), .int (nI (mf)), .int (nI (mt)), .int mv, .int mw, .ref ywa, .ref ybi, .ref ysi, .ref ynu, .ref ymo])), (ybi, .inl (cI, 4, .inl bi)), (ysi, .inl (cI, 4, .inl sq)), (ynu, .inl (cJ, 160, .inr (.inl nb))), (yt, .inl (cI, 7, .inl mq))] sz) := by
  refine xh (QA := fun A => XQi (fun (r : Int32) (u : (Nat → Int32) × (Nat → Int32) × (Nat → Int64) × (Nat → Int32)) => match u with | (bi2, sq2, nb2, mq2) => ((r = a_sheet 1 p1 p2)) ∧ (bi2 1 = sp_sb p1 p2 (bi 1)) ∧ (∀ j, j ≠ 1 → bi2 j = bi j) ∧ (sq2 1 = nI (sp_sz p1 p2 zq)) ∧ (∀ j, j ≠ 1 → sq2 j = sq j) ∧ (∀ j, j < 40 → nb2 (40 + j) = sp_sn p1 p2 (nb (40 + j))) ∧ (∀ j, j < 40 ∨ 80 ≤ j → nb2 j = nb j) ∧ (BA 4 41 sq2)) D (fun (u : (Nat → Int32) × (Nat → Int32) × (Nat → Int64) × (Nat → Int32)) => match u with | (bi2, sq2, nb2, mq2) => [(h0, .inr (9, [.ref ys, .ref yk, .ref yo, .ref yt, .int mk0, .ref yfa, .ref yfe, .int mL, .int mS, .int mM, .ref yro, .ref yhe, .ref ygr, .int mF, .int mC, .int mY, .ref yta, .int (nI (mz)), .int (nI (mf)), .int (nI (mt)), .int mv, .int mw, .ref ywa, .ref ybi, .ref ysi, .ref ynu, .ref ymo])), (ybi, .inl (cI, 4, .inl bi2)), (ysi, .inl (cI, 4, .inl sq2)), (ynu, .inl (cJ, 160, .inr (.inl nb2))), (yt, .inl (cI, 7, .inl mq2))]) A) (fr := fun A => A) (by decide) (Nat.le_of_ble_eq_true rfl) ?_
  intro p e s m below meth c ls A hF hr hlk hin hsz hP hK hD hN hZ hA hS hl
  have hF : CallFix p m c cX9_sheet 5 s _ _ RX9 := hF
  have hx := hF.1
  have hb := hF.2.1
  have hml := hF.2.2.1
  have hown := hF.2.2.2.1
  have hu : ∀ w ∈ wsU, w.before _ s = true := fun w h => hF.2.2.2.2 w (List.mem_cons_of_mem _ h)
  have hl : lv_has ls 5 [(0, .ref h0), (1, .int 1), (2, .int p1), (3, .int p2)] := hl
  refine lv_iload_n hx hb dX9_sheet_0 rfl (lv_at hl 1 rfl) ?_
  refine xc_Sr hF (c_X9_isOne l D cI cJ cZ cS ta sa sv s.heap.size 1 ) ks_X9_305 ⟨rfl, rfl, Nat.le_of_ble_eq_true rfl, Nat.le_of_ble_eq_true rfl⟩ ⟨Nat.le_of_ble_eq_true rfl, Nat.le_of_ble_eq_true rfl⟩ hK hN hZ hP hD hS hA [] rfl rfl rfl hl.1 rfl (Nat.le_of_ble_eq_true rfl) dX9_sheet_1 (fun r_1 hw_r_1 => ?_)
  rcases hw_r_1 with ⟨rfl, h_2, h_3⟩ | ⟨rfl, h_4⟩
  · skip
    refine lv_if_eq (tgt := 29) hx hb dX9_sheet_4 (by decide) (fun c_5 => absurd c_5 (by decide)) (fun c_5 => ?_)
    refine lv_iload_n hx hb dX9_sheet_7 rfl (lv_at hl 2 rfl) ?_
    refine lv_if_eq (tgt := 36) hx hb dX9_sheet_8 (by decide) (fun c_6 => ?_) (fun c_6 => ?_)
    · skip
      refine lv_iload_n hx hb dX9_sheet_36 rfl (lv_at hl 3 rfl) ?_
      refine lv_if_ge (tgt := 48) hx hb dX9_sheet_37 (by decide) (fun c_7 => ?_) (fun c_7 => ?_)
      · skip
        refine lv_iload_n hx hb dX9_sheet_48 rfl (lv_at hl 3 rfl) ?_
        refine lv_bipush (v := 40) hx hb dX9_sheet_49 (by decide) ?_
        refine lv_icmp_le (tgt := 61) hx hb dX9_sheet_51 (by decide) (fun c_8 => ?_) (fun c_8 => ?_)
        · skip
          obtain ⟨y_9, hy_9, rfl⟩ := xrange2 (w := 40) (by omega) c_7 c_8
          refine lv_aload_n hx hb dX9_sheet_61 rfl (lv_at hl 0 rfl) ?_
          refine xg hF kf_X9_43 hK hP 0 rfl rfl dX9_sheet_62 ?_
          refine lv_iload_n hx hb dX9_sheet_65 rfl (lv_at hl 1 rfl) ?_
          refine lv_iload_n hx hb dX9_sheet_66 rfl (lv_at hl 2 rfl) ?_
          refine va_iast hx hb hK hP hD hS 1 0 rfl rfl (xin 1 4 (by decide) (by decide)) dX9_sheet_67 (fun H locs hP hD hS => ?_)
          obtain ⟨f_10, ef_10⟩ : ∃ g, g = upd bi 1 p1 := ⟨_, rfl⟩
          have hP : va_P D vwCl [(h0, .inr (9, [.ref ys, .ref yk, .ref yo, .ref yt, .int mk0, .ref yfa, .ref yfe, .int mL, .int mS, .int mM, .ref yro, .ref yhe, .ref ygr, .int mF, .int mC, .int mY, .ref yta, .int (nI (mz)), .int (nI (mf)), .int (nI (mt)), .int mv, .int mw, .ref ywa, .ref ybi, .ref ysi, .ref ynu, .ref ymo])), (ybi, .inl (cI, 4, .inl (upd bi 1 p1))), (ysi, .inl (cI, 4, .inl sq)), (ynu, .inl (cJ, 160, .inr (.inl nb))), (yt, .inl (cI, 7, .inl mq))] H := hP
          have hD : va_D A [(h0, .inr (9, [.ref ys, .ref yk, .ref yo, .ref yt, .int mk0, .ref yfa, .ref yfe, .int mL, .int mS, .int mM, .ref yro, .ref yhe, .ref ygr, .int mF, .int mC, .int mY, .ref yta, .int (nI (mz)), .int (nI (mf)), .int (nI (mt)), .int mv, .int mw, .ref ywa, .ref ybi, .ref ysi, .ref ynu, .ref ymo])), (ybi, .inl (cI, 4, .inl (upd bi 1 p1))), (ysi, .inl (cI, 4, .inl sq)), (ynu, .inl (cJ, 160, .inr (.inl nb))), (yt, .inl (cI, 7, .inl mq))] := hD
          rw [← ef_10] at hP hD
          have hP : va_P D vwCl [(h0, .inr (9, [.ref ys, .ref yk, .ref yo, .ref yt, .int mk0, .ref yfa, .ref yfe, .int mL, .int mS, .int mM, .ref yro, .ref yhe, .ref ygr, .int mF, .int mC, .int mY, .ref yta, .int (nI (mz)), .int (nI (mf)), .int (nI (mt)), .int mv, .int mw, .ref ywa, .ref ybi, .ref ysi, .ref ynu, .ref ymo])), (ybi, .inl (cI, 4, .inl f_10)), (ysi, .inl (cI, 4, .inl sq)), (ynu, .inl (cJ, 160, .inr (.inl nb))), (yt, .inl (cI, 7, .inl mq))] H := hP
          have hD : va_D A [(h0, .inr (9, [.ref ys, .ref yk, .ref yo, .ref yt, .int mk0, .ref yfa, .ref yfe, .int mL, .int mS, .int mM, .ref yro, .ref yhe, .ref ygr, .int mF, .int mC, .int mY, .ref yta, .int (nI (mz)), .int (nI (mf)), .int (nI (mt)), .int mv, .int mw, .ref ywa, .ref ybi, .ref ysi, .ref ynu, .ref ymo])), (ybi, .inl (cI, 4, .inl f_10)), (ysi, .inl (cI, 4, .inl sq)), (ynu, .inl (cJ, 160, .inr (.inl nb))), (yt, .inl (cI, 7, .inl mq))] := hD
          refine lv_aload_n hx hb dX9_sheet_68 rfl (lv_at hl 0 rfl) ?_
          refine xg hF kf_X9_46 hK hP 0 rfl rfl dX9_sheet_69 ?_
          refine lv_iload_n hx hb dX9_sheet_72 rfl (lv_at hl 1 rfl) ?_
          refine lv_iload_n hx hb dX9_sheet_73 rfl (lv_at hl 2 rfl) ?_
          refine lv_if_ne (tgt := 81) hx hb dX9_sheet_74 (by decide) (fun c_11 => ?_) (fun c_11 => ?_)
          · skip
            refine lv_iload_n hx hb dX9_sheet_81 rfl (lv_at hl 3 rfl) ?_
            refine va_iast hx hb hK hP hD hS 2 0 rfl rfl (xin 1 4 (by decide) (by decide)) dX9_sheet_82 (fun H locs hP hD hS => ?_)
            obtain ⟨f_12, ef_12⟩ : ∃ g, g = upd sq 1 (nI (y_9)) := ⟨_, rfl⟩
            have hP : va_P D vwCl [(h0, .inr (9, [.ref ys, .ref yk, .ref yo, .ref yt, .int mk0, .ref yfa, .ref yfe, .int mL, .int mS, .int mM, .ref yro, .ref yhe, .ref ygr, .int mF, .int mC, .int mY, .ref yta, .int (nI (mz)), .int (nI (mf)), .int (nI (mt)), .int mv, .int mw, .ref ywa, .ref ybi, .ref ysi, .ref ynu, .ref ymo])), (ybi, .inl (cI, 4, .inl f_10)), (ysi, .inl (cI, 4, .inl (upd sq 1 (nI (y_9))))), (ynu, .inl (cJ, 160, .inr (.inl nb))), (yt, .inl (cI, 7, .inl mq))] H := hP
            have hD : va_D A [(h0, .inr (9, [.ref ys, .ref yk, .ref yo, .ref yt, .int mk0, .ref yfa, .ref yfe, .int mL, .int mS, .int mM, .ref yro, .ref yhe, .ref ygr, .int mF, .int mC, .int mY, .ref yta, .int (nI (mz)), .int (nI (mf)), .int (nI (mt)), .int mv, .int mw, .ref ywa, .ref ybi, .ref ysi, .ref ynu, .ref ymo])), (ybi, .inl (cI, 4, .inl f_10)), (ysi, .inl (cI, 4, .inl (upd sq 1 (nI (y_9))))), (ynu, .inl (cJ, 160, .inr (.inl nb))), (yt, .inl (cI, 7, .inl mq))] := hD
            rw [← ef_12] at hP hD
            have hf_12 : BA 4 41 f_12 := by rw [ef_12]; exact BA.upd hsq (show y_9 < 41 by omega)
            have hP : va_P D vwCl [(h0, .inr (9, [.ref ys, .ref yk, .ref yo, .ref yt, .int mk0, .ref yfa, .ref yfe, .int mL, .int mS, .int mM, .ref yro, .ref yhe, .ref ygr, .int mF, .int mC, .int mY, .ref yta, .int (nI (mz)), .int (nI (mf)), .int (nI (mt)), .int mv, .int mw, .ref ywa, .ref ybi, .ref ysi, .ref ynu, .ref ymo])), (ybi, .inl (cI, 4, .inl f_10)), (ysi, .inl (cI, 4, .inl f_12)), (ynu, .inl (cJ, 160, .inr (.inl nb))), (yt, .inl (cI, 7, .inl mq))] H := hP
            have hD : va_D A [(h0, .inr (9, [.ref ys, .ref yk, .ref yo, .ref yt, .int mk0, .ref yfa, .ref yfe, .int mL, .int mS, .int mM, .ref yro, .ref yhe, .ref ygr, .int mF, .int mC, .int mY, .ref yta, .int (nI (mz)), .int (nI (mf)), .int (nI (mt)), .int mv, .int mw, .ref ywa, .ref ybi, .ref ysi, .ref ynu, .ref ymo])), (ybi, .inl (cI, 4, .inl f_10)), (ysi, .inl (cI, 4, .inl f_12)), (ynu, .inl (cJ, 160, .inr (.inl nb))), (yt, .inl (cI, 7, .inl mq))] := hD
            refine lv_iconst (v := 0) hx hb dX9_sheet_83 (by decide) ?_
            refine lv_istore (lv' := [(4, .int 0), (0, .ref h0), (1, .int 1), (2, .int p1), (3, .int (nI (y_9)))]) hx hb dX9_sheet_84 hl (by decide) rfl (fun ls hl => ?_)
            suffices loop_86 : ∀ (n_86 : Nat) (i : Nat) (n8 : Nat → Int64) (H : Heap) (locs : List Loc) (ls : Array Slot), 40 - i < n_86 → (i ≤ 40) → (∀ j, 40 ≤ j → j < 40 + i → n8 j = 0) → (∀ j, j < 40 ∨ 80 ≤ j → n8 j = nb j) → va_P D vwCl [(h0, .inr (9, [.ref ys, .ref yk, .ref yo, .ref yt, .int mk0, .ref yfa, .ref yfe, .int mL, .int mS, .int mM, .ref yro, .ref yhe, .ref ygr, .int mF, .int mC, .int mY, .ref yta, .int (nI (mz)), .int (nI (mf)), .int (nI (mt)), .int mv, .int mw, .ref ywa, .ref ybi, .ref ysi, .ref ynu, .ref ymo])), (ybi, .inl (cI, 4, .inl f_10)), (ysi, .inl (cI, 4, .inl f_12)), (ynu, .inl (cJ, 160, .inr (.inl n8))), (yt, .inl (cI, 7, .inl mq))] H → va_D A [(h0, .inr (9, [.ref ys, .ref yk, .ref yo, .ref yt, .int mk0, .ref yfa, .ref yfe, .int mL, .int mS, .int mM, .ref yro, .ref yhe, .ref ygr, .int mF, .int mC, .int mY, .ref yta, .int (nI (mz)), .int (nI (mf)), .int (nI (mt)), .int mv, .int mw, .ref ywa, .ref ybi, .ref ysi, .ref ynu, .ref ymo])), (ybi, .inl (cI, 4, .inl f_10)), (ysi, .inl (cI, 4, .inl f_12)), (ynu, .inl (cJ, 160, .inr (.inl n8))), (yt, .inl (cI, 7, .inl mq))] → va_S A s.heap H locs → lv_has ls 5 [(4, .int (nI (i))), (0, .ref h0), (1, .int 1), (2, .int p1), (3, .int (nI (y_9)))] → W p l e ({ frames := 2, cells := 0, slots := 0, locals := 45 }) s m ([.ref h0, .int 1, .int p1, .int (nI (y_9))] : List Value).toArray below meth c H locs 0 0 (MQ below (XQi (fun (r : Int32) (u : (Nat → Int32) × (Nat → Int32) × (Nat → Int64) × (Nat → Int32)) => match u with | (bi2, sq2, nb2, mq2) => ((r = a_sheet 1 p1 (nI (y_9)))) ∧ (bi2 1 = sp_sb p1 (nI (y_9)) (bi 1)) ∧ (∀ j, j ≠ 1 → bi2 j = bi j) ∧ (sq2 1 = nI (sp_sz p1 (nI (y_9)) zq)) ∧ (∀ j, j ≠ 1 → sq2 j = sq j) ∧ (∀ j, j < 40 → nb2 (40 + j) = sp_sn p1 (nI (y_9)) (nb (40 + j))) ∧ (∀ j, j < 40 ∨ 80 ≤ j → nb2 j = nb j) ∧ (BA 4 41 sq2)) D (fun (u : (Nat → Int32) × (Nat → Int32) × (Nat → Int64) × (Nat → Int32)) => match u with | (bi2, sq2, nb2, mq2) => [(h0, .inr (9, [.ref ys, .ref yk, .ref yo, .ref yt, .int mk0, .ref yfa, .ref yfe, .int mL, .int mS, .int mM, .ref yro, .ref yhe, .ref ygr, .int mF, .int mC, .int mY, .ref yta, .int (nI (mz)), .int (nI (mf)), .int (nI (mt)), .int mv, .int mw, .ref ywa, .ref ybi, .ref ysi, .ref ynu, .ref ymo])), (ybi, .inl (cI, 4, .inl bi2)), (ysi, .inl (cI, 4, .inl sq2)), (ynu, .inl (cJ, 160, .inr (.inl nb2))), (yt, .inl (cI, 7, .inl mq2))]) A) ([.ref h0, .int 1, .int p1, .int (nI (y_9))] : List Value).toArray s 0 0 A) (F0 m 86 ls []) by
              exact loop_86 _ 0 nb _ _ _ (Nat.lt_succ_self _) (by omega) (fun j h1 h2 => absurd h1 (by omega)) (fun _ _ => rfl) hP hD hS (lv_sub hl [0, 1, 2, 3, 4] rfl)
            intro n_86
            induction n_86 with
            | zero =>
              intro i n8 H locs ls hm_86
              exact absurd hm_86 (Nat.not_lt_zero _)
            | succ n_86 ih_86 =>
              intro i n8 H locs ls hm_86 hi hf8 hg8 hP hD hS hl
              refine lv_iload hx hb dX9_sheet_86 (lv_at hl 0 rfl) ?_
              refine lv_bipush (v := 40) hx hb dX9_sheet_88 (by decide) ?_
              refine lv_icmp_ge (tgt := 112) hx hb dX9_sheet_90 (by decide) (fun c_13 => ?_) (fun c_13 => ?_)
              · skip
                have nc_13 : 40 ≤ i := xn_le (a := 40) (b := i) (by omega) (by omega) c_13
                refine lv_aload_n hx hb dX9_sheet_112 rfl (lv_at hl 1 rfl) ?_
                refine xg hF kf_X9_46 hK hP 0 rfl rfl dX9_sheet_113 ?_
                refine lv_iload_n hx hb dX9_sheet_116 rfl (lv_at hl 2 rfl) ?_
                refine va_iald hx hb hK hP 2 0 rfl rfl (xin 1 4 (by decide) (by decide)) dX9_sheet_117 ?_
                refine xl_i (y := f_12 1) (congrArg f_12 rfl) ?_
                refine xl_i (y := nI (y_9)) (by rw [ef_12]; exact pk_us) ?_
                exact W.iret (v := nI (y_9)) hx hb hr (fun t ht hW => ⟨⟨nI (y_9), (f_10, f_12, n8, mq), rfl, ⟨p_sheet6 (by decide) (by decide) (by first | exact Or.inl (by assumption) | exact Or.inr (Or.inl (by assumption)) | exact Or.inr (Or.inr (Or.inl (by assumption))) | exact Or.inr (Or.inr (Or.inr (by assumption)))) (nI_pos (by omega)) (x_le40 (by omega)) (by assumption), (by rw [ef_10]; exact pk_us.trans (if_pos ⟨(by first | exact Or.inl (by assumption) | exact Or.inr (Or.inl (by assumption)) | exact Or.inr (Or.inr (Or.inl (by assumption))) | exact Or.inr (Or.inr (Or.inr (by assumption)))), nI_pos (by omega), x_le40 (by omega)⟩).symm), (fun j hj => by rw [ef_10]; exact pk_un hj), (by rw [ef_12]; exact pk_us.trans (congrArg nI (sp_z1 ⟨(by first | exact Or.inl (by assumption) | exact Or.inr (Or.inl (by assumption)) | exact Or.inr (Or.inr (Or.inl (by assumption))) | exact Or.inr (Or.inr (Or.inr (by assumption)))), nI_pos (by omega), x_le40 (by omega)⟩ (by assumption) (by omega)))), (fun j hj => by rw [ef_12]; exact pk_un hj), (fun j hj => (hf8 (40 + j) (by omega) (by omega)).trans (if_pos ⟨(by first | exact Or.inl (by assumption) | exact Or.inr (Or.inl (by assumption)) | exact Or.inr (Or.inr (Or.inl (by assumption))) | exact Or.inr (Or.inr (Or.inr (by assumption)))), nI_pos (by omega), x_le40 (by omega)⟩).symm), (fun j hj => hg8 j hj), hf_12⟩, by rw [ht]; exact hP.sub [0, 1, 2, 3, 4] rfl, hD.sub [0, 1, 2, 3, 4] (by decide +kernel) rfl⟩, hS.F ht⟩) hS.2.2 dX9_sheet_118 hlk
              · skip
                have nc_13 : i < 40 := xn_nle (a := 40) (b := i) (by omega) (by omega) c_13
                refine lv_aload_n hx hb dX9_sheet_93 rfl (lv_at hl 1 rfl) ?_
                refine xg hF kf_X9_49 hK hP 0 rfl rfl dX9_sheet_94 ?_
                refine lv_bipush (v := 40) hx hb dX9_sheet_97 (by decide) ?_
                refine lv_iload_n hx hb dX9_sheet_99 rfl (lv_at hl 2 rfl) ?_
                refine lv_imul hx hb dX9_sheet_100 ?_
                refine xl_i (y := 40) (by decide) ?_
                refine lv_iload hx hb dX9_sheet_101 (lv_at hl 0 rfl) ?_
                refine lv_iadd hx hb dX9_sheet_103 ?_
                refine xl_i (y := nI (40 + i)) (nI_add 40 i) ?_
                refine lv_lconst (v := 0) hx hb dX9_sheet_104 (by decide) ?_
                refine va_last hx hb hK hP hD hS 3 1 rfl rfl (vp_in_nI (show 40 + i < 160 by omega) (by decide)) dX9_sheet_105 (fun H locs hP hD hS => ?_)
                rw [nI_clamp (show 40 + i < 2 ^ 31 by omega)] at hP hD
                obtain ⟨f_14, ef_14⟩ : ∃ g, g = vp_updL n8 (40 + i) 0 := ⟨_, rfl⟩
                rw [← ef_14] at hP hD
                have hP : va_P D vwCl [(h0, .inr (9, [.ref ys, .ref yk, .ref yo, .ref yt, .int mk0, .ref yfa, .ref yfe, .int mL, .int mS, .int mM, .ref yro, .ref yhe, .ref ygr, .int mF, .int mC, .int mY, .ref yta, .int (nI (mz)), .int (nI (mf)), .int (nI (mt)), .int mv, .int mw, .ref ywa, .ref ybi, .ref ysi, .ref ynu, .ref ymo])), (ybi, .inl (cI, 4, .inl f_10)), (ysi, .inl (cI, 4, .inl f_12)), (ynu, .inl (cJ, 160, .inr (.inl f_14))), (yt, .inl (cI, 7, .inl mq))] H := hP
                have hD : va_D A [(h0, .inr (9, [.ref ys, .ref yk, .ref yo, .ref yt, .int mk0, .ref yfa, .ref yfe, .int mL, .int mS, .int mM, .ref yro, .ref yhe, .ref ygr, .int mF, .int mC, .int mY, .ref yta, .int (nI (mz)), .int (nI (mf)), .int (nI (mt)), .int mv, .int mw, .ref ywa, .ref ybi, .ref ysi, .ref ynu, .ref ymo])), (ybi, .inl (cI, 4, .inl f_10)), (ysi, .inl (cI, 4, .inl f_12)), (ynu, .inl (cJ, 160, .inr (.inl f_14))), (yt, .inl (cI, 7, .inl mq))] := hD
                refine lv_iinc (v := nI (i + 1)) (lv' := [(4, .int (nI (i + 1))), (0, .ref h0), (1, .int 1), (2, .int p1), (3, .int (nI (y_9)))]) hx hb dX9_sheet_106 hl (k := 0) rfl (nI_1 (i)) (by decide) rfl (fun ls hl => ?_)
                refine lv_goto (tgt := 86) hx hb dX9_sheet_109 (by decide) ?_
                exact ih_86 (i + 1) f_14 _ _ _ (by omega) (by omega) (sp_fil hf8 ef_14) (sp_fio hg8 (by omega) (by omega) ef_14) (hP.sub [0, 1, 2, 3, 4] rfl) (hD.sub [0, 1, 2, 3, 4] (by decide +kernel) rfl) hS (lv_sub hl [0, 1, 2, 3, 4] rfl)
          · skip
            refine lv_iconst (v := 0) hx hb dX9_sheet_77 (by decide) ?_
            refine lv_goto (tgt := 82) hx hb dX9_sheet_78 (by decide) ?_
            refine va_iast hx hb hK hP hD hS 2 0 rfl rfl (xin 1 4 (by decide) (by decide)) dX9_sheet_82 (fun H locs hP hD hS => ?_)
            obtain ⟨f_15, ef_15⟩ : ∃ g, g = upd sq 1 0 := ⟨_, rfl⟩
            have hP : va_P D vwCl [(h0, .inr (9, [.ref ys, .ref yk, .ref yo, .ref yt, .int mk0, .ref yfa, .ref yfe, .int mL, .int mS, .int mM, .ref yro, .ref yhe, .ref ygr, .int mF, .int mC, .int mY, .ref yta, .int (nI (mz)), .int (nI (mf)), .int (nI (mt)), .int mv, .int mw, .ref ywa, .ref ybi, .ref ysi, .ref ynu, .ref ymo])), (ybi, .inl (cI, 4, .inl f_10)), (ysi, .inl (cI, 4, .inl (upd sq 1 0))), (ynu, .inl (cJ, 160, .inr (.inl nb))), (yt, .inl (cI, 7, .inl mq))] H := hP
            have hD : va_D A [(h0, .inr (9, [.ref ys, .ref yk, .ref yo, .ref yt, .int mk0, .ref yfa, .ref yfe, .int mL, .int mS, .int mM, .ref yro, .ref yhe, .ref ygr, .int mF, .int mC, .int mY, .ref yta, .int (nI (mz)), .int (nI (mf)), .int (nI (mt)), .int mv, .int mw, .ref ywa, .ref ybi, .ref ysi, .ref ynu, .ref ymo])), (ybi, .inl (cI, 4, .inl f_10)), (ysi, .inl (cI, 4, .inl (upd sq 1 0))), (ynu, .inl (cJ, 160, .inr (.inl nb))), (yt, .inl (cI, 7, .inl mq))] := hD
            rw [← ef_15] at hP hD
            have hf_15 : BA 4 41 f_15 := by rw [ef_15]; exact BA.upd hsq (show 0 < 41 by omega)
            have hP : va_P D vwCl [(h0, .inr (9, [.ref ys, .ref yk, .ref yo, .ref yt, .int mk0, .ref yfa, .ref yfe, .int mL, .int mS, .int mM, .ref yro, .ref yhe, .ref ygr, .int mF, .int mC, .int mY, .ref yta, .int (nI (mz)), .int (nI (mf)), .int (nI (mt)), .int mv, .int mw, .ref ywa, .ref ybi, .ref ysi, .ref ynu, .ref ymo])), (ybi, .inl (cI, 4, .inl f_10)), (ysi, .inl (cI, 4, .inl f_15)), (ynu, .inl (cJ, 160, .inr (.inl nb))), (yt, .inl (cI, 7, .inl mq))] H := hP
            have hD : va_D A [(h0, .inr (9, [.ref ys, .ref yk, .ref yo, .ref yt, .int mk0, .ref yfa, .ref yfe, .int mL, .int mS, .int mM, .ref yro, .ref yhe, .ref ygr, .int mF, .int mC, .int mY, .ref yta, .int (nI (mz)), .int (nI (mf)), .int (nI (mt)), .int mv, .int mw, .ref ywa, .ref ybi, .ref ysi, .ref ynu, .ref ymo])), (ybi, .inl (cI, 4, .inl f_10)), (ysi, .inl (cI, 4, .inl f_15)), (ynu, .inl (cJ, 160, .inr (.inl nb))), (yt, .inl (cI, 7, .inl mq))] := hD
            refine lv_iconst (v := 0) hx hb dX9_sheet_83 (by decide) ?_
            refine lv_istore (lv' := [(4, .int 0), (0, .ref h0), (1, .int 1), (2, .int p1), (3, .int (nI (y_9)))]) hx hb dX9_sheet_84 hl (by decide) rfl (fun ls hl => ?_)
            suffices loop_86 : ∀ (n_86 : Nat) (i : Nat) (n8 : Nat → Int64) (H : Heap) (locs : List Loc) (ls : Array Slot), 40 - i < n_86 → (i ≤ 40) → (∀ j, 40 ≤ j → j < 40 + i → n8 j = 0) → (∀ j, j < 40 ∨ 80 ≤ j → n8 j = nb j) → va_P D vwCl [(h0, .inr (9, [.ref ys, .ref yk, .ref yo, .ref yt, .int mk0, .ref yfa, .ref yfe, .int mL, .int mS, .int mM, .ref yro, .ref yhe, .ref ygr, .int mF, .int mC, .int mY, .ref yta, .int (nI (mz)), .int (nI (mf)), .int (nI (mt)), .int mv, .int mw, .ref ywa, .ref ybi, .ref ysi, .ref ynu, .ref ymo])), (ybi, .inl (cI, 4, .inl f_10)), (ysi, .inl (cI, 4, .inl f_15)), (ynu, .inl (cJ, 160, .inr (.inl n8))), (yt, .inl (cI, 7, .inl mq))] H → va_D A [(h0, .inr (9, [.ref ys, .ref yk, .ref yo, .ref yt, .int mk0, .ref yfa, .ref yfe, .int mL, .int mS, .int mM, .ref yro, .ref yhe, .ref ygr, .int mF, .int mC, .int mY, .ref yta, .int (nI (mz)), .int (nI (mf)), .int (nI (mt)), .int mv, .int mw, .ref ywa, .ref ybi, .ref ysi, .ref ynu, .ref ymo])), (ybi, .inl (cI, 4, .inl f_10)), (ysi, .inl (cI, 4, .inl f_15)), (ynu, .inl (cJ, 160, .inr (.inl n8))), (yt, .inl (cI, 7, .inl mq))] → va_S A s.heap H locs → lv_has ls 5 [(4, .int (nI (i))), (0, .ref h0), (1, .int 1), (2, .int p1), (3, .int (nI (y_9)))] → W p l e ({ frames := 2, cells := 0, slots := 0, locals := 45 }) s m ([.ref h0, .int 1, .int p1, .int (nI (y_9))] : List Value).toArray below meth c H locs 0 0 (MQ below (XQi (fun (r : Int32) (u : (Nat → Int32) × (Nat → Int32) × (Nat → Int64) × (Nat → Int32)) => match u with | (bi2, sq2, nb2, mq2) => ((r = a_sheet 1 p1 (nI (y_9)))) ∧ (bi2 1 = sp_sb p1 (nI (y_9)) (bi 1)) ∧ (∀ j, j ≠ 1 → bi2 j = bi j) ∧ (sq2 1 = nI (sp_sz p1 (nI (y_9)) zq)) ∧ (∀ j, j ≠ 1 → sq2 j = sq j) ∧ (∀ j, j < 40 → nb2 (40 + j) = sp_sn p1 (nI (y_9)) (nb (40 + j))) ∧ (∀ j, j < 40 ∨ 80 ≤ j → nb2 j = nb j) ∧ (BA 4 41 sq2)) D (fun (u : (Nat → Int32) × (Nat → Int32) × (Nat → Int64) × (Nat → Int32)) => match u with | (bi2, sq2, nb2, mq2) => [(h0, .inr (9, [.ref ys, .ref yk, .ref yo, .ref yt, .int mk0, .ref yfa, .ref yfe, .int mL, .int mS, .int mM, .ref yro, .ref yhe, .ref ygr, .int mF, .int mC, .int mY, .ref yta, .int (nI (mz)), .int (nI (mf)), .int (nI (mt)), .int mv, .int mw, .ref ywa, .ref ybi, .ref ysi, .ref ynu, .ref ymo])), (ybi, .inl (cI, 4, .inl bi2)), (ysi, .inl (cI, 4, .inl sq2)), (ynu, .inl (cJ, 160, .inr (.inl nb2))), (yt, .inl (cI, 7, .inl mq2))]) A) ([.ref h0, .int 1, .int p1, .int (nI (y_9))] : List Value).toArray s 0 0 A) (F0 m 86 ls []) by
              exact loop_86 _ 0 nb _ _ _ (Nat.lt_succ_self _) (by omega) (fun j h1 h2 => absurd h1 (by omega)) (fun _ _ => rfl) hP hD hS (lv_sub hl [0, 1, 2, 3, 4] rfl)
            intro n_86
            induction n_86 with
            | zero =>
              intro i n8 H locs ls hm_86
              exact absurd hm_86 (Nat.not_lt_zero _)
            | succ n_86 ih_86 =>
              intro i n8 H locs ls hm_86 hi hf8 hg8 hP hD hS hl
              refine lv_iload hx hb dX9_sheet_86 (lv_at hl 0 rfl) ?_
              refine lv_bipush (v := 40) hx hb dX9_sheet_88 (by decide) ?_
              refine lv_icmp_ge (tgt := 112) hx hb dX9_sheet_90 (by decide) (fun c_16 => ?_) (fun c_16 => ?_)
              · skip
                have nc_16 : 40 ≤ i := xn_le (a := 40) (b := i) (by omega) (by omega) c_16
                refine lv_aload_n hx hb dX9_sheet_112 rfl (lv_at hl 1 rfl) ?_
                refine xg hF kf_X9_46 hK hP 0 rfl rfl dX9_sheet_113 ?_
                refine lv_iload_n hx hb dX9_sheet_116 rfl (lv_at hl 2 rfl) ?_
                refine va_iald hx hb hK hP 2 0 rfl rfl (xin 1 4 (by decide) (by decide)) dX9_sheet_117 ?_
                refine xl_i (y := f_15 1) (congrArg f_15 rfl) ?_
                refine xl_i (y := 0) (by rw [ef_15]; exact pk_us) ?_
                exact W.iret (v := 0) hx hb hr (fun t ht hW => ⟨⟨0, (f_10, f_15, n8, mq), rfl, ⟨p_sheet5 (by decide) (by decide) c_11 (nI_pos (by omega)) (x_le40 (by omega)), (by rw [ef_10]; exact pk_us.trans (if_pos ⟨(by first | exact Or.inl (by assumption) | exact Or.inr (Or.inl (by assumption)) | exact Or.inr (Or.inr (Or.inl (by assumption))) | exact Or.inr (Or.inr (Or.inr (by assumption)))), nI_pos (by omega), x_le40 (by omega)⟩).symm), (fun j hj => by rw [ef_10]; exact pk_un hj), (by rw [ef_15]; exact pk_us.trans (congrArg nI (sp_z0 ⟨(by first | exact Or.inl (by assumption) | exact Or.inr (Or.inl (by assumption)) | exact Or.inr (Or.inr (Or.inl (by assumption))) | exact Or.inr (Or.inr (Or.inr (by assumption)))), nI_pos (by omega), x_le40 (by omega)⟩ c_11))), (fun j hj => by rw [ef_15]; exact pk_un hj), (fun j hj => (hf8 (40 + j) (by omega) (by omega)).trans (if_pos ⟨(by first | exact Or.inl (by assumption) | exact Or.inr (Or.inl (by assumption)) | exact Or.inr (Or.inr (Or.inl (by assumption))) | exact Or.inr (Or.inr (Or.inr (by assumption)))), nI_pos (by omega), x_le40 (by omega)⟩).symm), (fun j hj => hg8 j hj), hf_15⟩, by rw [ht]; exact hP.sub [0, 1, 2, 3, 4] rfl, hD.sub [0, 1, 2, 3, 4] (by decide +kernel) rfl⟩, hS.F ht⟩) hS.2.2 dX9_sheet_118 hlk
              · skip
                have nc_16 : i < 40 := xn_nle (a := 40) (b := i) (by omega) (by omega) c_16
                refine lv_aload_n hx hb dX9_sheet_93 rfl (lv_at hl 1 rfl) ?_
                refine xg hF kf_X9_49 hK hP 0 rfl rfl dX9_sheet_94 ?_
                refine lv_bipush (v := 40) hx hb dX9_sheet_97 (by decide) ?_
                refine lv_iload_n hx hb dX9_sheet_99 rfl (lv_at hl 2 rfl) ?_
                refine lv_imul hx hb dX9_sheet_100 ?_
                refine xl_i (y := 40) (by decide) ?_
                refine lv_iload hx hb dX9_sheet_101 (lv_at hl 0 rfl) ?_
                refine lv_iadd hx hb dX9_sheet_103 ?_
                refine xl_i (y := nI (40 + i)) (nI_add 40 i) ?_
                refine lv_lconst (v := 0) hx hb dX9_sheet_104 (by decide) ?_
                refine va_last hx hb hK hP hD hS 3 1 rfl rfl (vp_in_nI (show 40 + i < 160 by omega) (by decide)) dX9_sheet_105 (fun H locs hP hD hS => ?_)
                rw [nI_clamp (show 40 + i < 2 ^ 31 by omega)] at hP hD
                obtain ⟨f_17, ef_17⟩ : ∃ g, g = vp_updL n8 (40 + i) 0 := ⟨_, rfl⟩
                rw [← ef_17] at hP hD
                have hP : va_P D vwCl [(h0, .inr (9, [.ref ys, .ref yk, .ref yo, .ref yt, .int mk0, .ref yfa, .ref yfe, .int mL, .int mS, .int mM, .ref yro, .ref yhe, .ref ygr, .int mF, .int mC, .int mY, .ref yta, .int (nI (mz)), .int (nI (mf)), .int (nI (mt)), .int mv, .int mw, .ref ywa, .ref ybi, .ref ysi, .ref ynu, .ref ymo])), (ybi, .inl (cI, 4, .inl f_10)), (ysi, .inl (cI, 4, .inl f_15)), (ynu, .inl (cJ, 160, .inr (.inl f_17))), (yt, .inl (cI, 7, .inl mq))] H := hP
                have hD : va_D A [(h0, .inr (9, [.ref ys, .ref yk, .ref yo, .ref yt, .int mk0, .ref yfa, .ref yfe, .int mL, .int mS, .int mM, .ref yro, .ref yhe, .ref ygr, .int mF, .int mC, .int mY, .ref yta, .int (nI (mz)), .int (nI (mf)), .int (nI (mt)), .int mv, .int mw, .ref ywa, .ref ybi, .ref ysi, .ref ynu, .ref ymo])), (ybi, .inl (cI, 4, .inl f_10)), (ysi, .inl (cI, 4, .inl f_15)), (ynu, .inl (cJ, 160, .inr (.inl f_17))), (yt, .inl (cI, 7, .inl mq))] := hD
                refine lv_iinc (v := nI (i + 1)) (lv' := [(4, .int (nI (i + 1))), (0, .ref h0), (1, .int 1), (2, .int p1), (3, .int (nI (y_9)))]) hx hb dX9_sheet_106 hl (k := 0) rfl (nI_1 (i)) (by decide) rfl (fun ls hl => ?_)
                refine lv_goto (tgt := 86) hx hb dX9_sheet_109 (by decide) ?_
                exact ih_86 (i + 1) f_17 _ _ _ (by omega) (by omega) (sp_fil hf8 ef_17) (sp_fio hg8 (by omega) (by omega) ef_17) (hP.sub [0, 1, 2, 3, 4] rfl) (hD.sub [0, 1, 2, 3, 4] (by decide +kernel) rfl) hS (lv_sub hl [0, 1, 2, 3, 4] rfl)
        · skip
          refine lv_aload_n hx hb dX9_sheet_54 rfl (lv_at hl 0 rfl) ?_
          refine lv_ldc (v := (-1000000001)) hx hb hown (hu _ uw648) dX9_sheet_55 ?_
          refine xc_Vi (wr := [(ybi, .inl (cI, 4, .inl bi)), (ysi, .inl (cI, 4, .inl sq)), (ynu, .inl (cJ, 160, .inr (.inl nb)))]) hF (c_X9_finds_B l D cI cJ cZ cS ta sa sv s.heap.size h0 ys yk yo yt mk0 yfa yfe mL mS mM yro yhe ygr mF mC mY yta mz mf mt mv mw ywa ybi ysi ynu ymo mq ) kv_X9_70 ⟨rfl, rfl, Nat.le_of_ble_eq_true rfl, Nat.le_of_ble_eq_true rfl⟩ ⟨Nat.le_of_ble_eq_true rfl, Nat.le_of_ble_eq_true rfl⟩ hK hN hZ hP hD hS hA [0, 4] [1, 2, 3] rfl rfl rfl rfl (by decide) 0 rfl rfl rfl rfl hl.1 rfl (Nat.le_of_ble_eq_true rfl) dX9_sheet_57 (fun r_18 u_r_18 H locs hw_r_18 hP hD hS => ?_)
          obtain ⟨mq2_19, rfl⟩ : ∃ z, z = u_r_18 := ⟨_, rfl⟩
          try dsimp only at hw_r_18
          have hP : va_P D vwCl [(ybi, .inl (cI, 4, .inl bi)), (ysi, .inl (cI, 4, .inl sq)), (ynu, .inl (cJ, 160, .inr (.inl nb))), (h0, .inr (9, [.ref ys, .ref yk, .ref yo, .ref yt, .int mk0, .ref yfa, .ref yfe, .int mL, .int mS, .int mM, .ref yro, .ref yhe, .ref ygr, .int mF, .int mC, .int mY, .ref yta, .int (nI (mz)), .int (nI (mf)), .int (nI (mt)), .int mv, .int mw, .ref ywa, .ref ybi, .ref ysi, .ref ynu, .ref ymo])), (yt, .inl (cI, 7, .inl mq2_19))] H := hP
          have hD : va_D A [(ybi, .inl (cI, 4, .inl bi)), (ysi, .inl (cI, 4, .inl sq)), (ynu, .inl (cJ, 160, .inr (.inl nb))), (h0, .inr (9, [.ref ys, .ref yk, .ref yo, .ref yt, .int mk0, .ref yfa, .ref yfe, .int mL, .int mS, .int mM, .ref yro, .ref yhe, .ref ygr, .int mF, .int mC, .int mY, .ref yta, .int (nI (mz)), .int (nI (mf)), .int (nI (mt)), .int mv, .int mw, .ref ywa, .ref ybi, .ref ysi, .ref ynu, .ref ymo])), (yt, .inl (cI, 7, .inl mq2_19))] := hD
          subst hw_r_18
          exact W.iret (v := (-1000000001)) hx hb hr (fun t ht hW => ⟨⟨(-1000000001), (bi, sq, nb, mq2_19), rfl, ⟨p_sheet4 (by decide) (by decide) (by first | exact Or.inl (by assumption) | exact Or.inr (Or.inl (by assumption)) | exact Or.inr (Or.inr (Or.inl (by assumption))) | exact Or.inr (Or.inr (Or.inr (by assumption)))) (fun h => absurd c_7 (Int32.not_le.mpr h)) (xlt c_8), (if_neg (sp_n4 (xlt c_8))).symm, (fun _ _ => rfl), (ez.trans (congrArg nI (if_neg (sp_n4 (xlt c_8))).symm)), (fun _ _ => rfl), (fun j hj => (if_neg (sp_n4 (xlt c_8))).symm), (fun _ _ => rfl), hsq⟩, by rw [ht]; exact hP.sub [3, 0, 1, 2, 4] rfl, hD.sub [3, 0, 1, 2, 4] (by decide +kernel) rfl⟩, hS.F ht⟩) hS.2.2 dX9_sheet_60 hlk
      · skip
        refine lv_aload_n hx hb dX9_sheet_40 rfl (lv_at hl 0 rfl) ?_
        refine lv_ldcw (v := (-1000000007)) hx hb hown (hu _ uw923) dX9_sheet_41 ?_
        refine xc_Vi (wr := [(ybi, .inl (cI, 4, .inl bi)), (ysi, .inl (cI, 4, .inl sq)), (ynu, .inl (cJ, 160, .inr (.inl nb)))]) hF (c_X9_finds_S l D cI cJ cZ cS ta sa sv s.heap.size h0 ys yk yo yt mk0 yfa yfe mL mS mM yro yhe ygr mF mC mY yta mz mf mt mv mw ywa ybi ysi ynu ymo mq ) kv_X9_70 ⟨rfl, rfl, Nat.le_of_ble_eq_true rfl, Nat.le_of_ble_eq_true rfl⟩ ⟨Nat.le_of_ble_eq_true rfl, Nat.le_of_ble_eq_true rfl⟩ hK hN hZ hP hD hS hA [0, 4] [1, 2, 3] rfl rfl rfl rfl (by decide) 0 rfl rfl rfl rfl hl.1 rfl (Nat.le_of_ble_eq_true rfl) dX9_sheet_44 (fun r_20 u_r_20 H locs hw_r_20 hP hD hS => ?_)
        obtain ⟨mq2_21, rfl⟩ : ∃ z, z = u_r_20 := ⟨_, rfl⟩
        try dsimp only at hw_r_20
        have hP : va_P D vwCl [(ybi, .inl (cI, 4, .inl bi)), (ysi, .inl (cI, 4, .inl sq)), (ynu, .inl (cJ, 160, .inr (.inl nb))), (h0, .inr (9, [.ref ys, .ref yk, .ref yo, .ref yt, .int mk0, .ref yfa, .ref yfe, .int mL, .int mS, .int mM, .ref yro, .ref yhe, .ref ygr, .int mF, .int mC, .int mY, .ref yta, .int (nI (mz)), .int (nI (mf)), .int (nI (mt)), .int mv, .int mw, .ref ywa, .ref ybi, .ref ysi, .ref ynu, .ref ymo])), (yt, .inl (cI, 7, .inl mq2_21))] H := hP
        have hD : va_D A [(ybi, .inl (cI, 4, .inl bi)), (ysi, .inl (cI, 4, .inl sq)), (ynu, .inl (cJ, 160, .inr (.inl nb))), (h0, .inr (9, [.ref ys, .ref yk, .ref yo, .ref yt, .int mk0, .ref yfa, .ref yfe, .int mL, .int mS, .int mM, .ref yro, .ref yhe, .ref ygr, .int mF, .int mC, .int mY, .ref yta, .int (nI (mz)), .int (nI (mf)), .int (nI (mt)), .int mv, .int mw, .ref ywa, .ref ybi, .ref ysi, .ref ynu, .ref ymo])), (yt, .inl (cI, 7, .inl mq2_21))] := hD
        subst hw_r_20
        exact W.iret (v := (-1000000007)) hx hb hr (fun t ht hW => ⟨⟨(-1000000007), (bi, sq, nb, mq2_21), rfl, ⟨p_sheet3 (by decide) (by decide) (by first | exact Or.inl (by assumption) | exact Or.inr (Or.inl (by assumption)) | exact Or.inr (Or.inr (Or.inl (by assumption))) | exact Or.inr (Or.inr (Or.inr (by assumption)))) (xlt c_7), (if_neg (sp_n3 (xlt c_7))).symm, (fun _ _ => rfl), (ez.trans (congrArg nI (if_neg (sp_n3 (xlt c_7))).symm)), (fun _ _ => rfl), (fun j hj => (if_neg (sp_n3 (xlt c_7))).symm), (fun _ _ => rfl), hsq⟩, by rw [ht]; exact hP.sub [3, 0, 1, 2, 4] rfl, hD.sub [3, 0, 1, 2, 4] (by decide +kernel) rfl⟩, hS.F ht⟩) hS.2.2 dX9_sheet_47 hlk
    · skip
      refine lv_iload_n hx hb dX9_sheet_11 rfl (lv_at hl 2 rfl) ?_
      refine lv_bipush (v := 8) hx hb dX9_sheet_12 (by decide) ?_
      refine lv_icmp_eq (tgt := 36) hx hb dX9_sheet_14 (by decide) (fun c_22 => ?_) (fun c_22 => ?_)
      · skip
        refine lv_iload_n hx hb dX9_sheet_36 rfl (lv_at hl 3 rfl) ?_
        refine lv_if_ge (tgt := 48) hx hb dX9_sheet_37 (by decide) (fun c_23 => ?_) (fun c_23 => ?_)
        · skip
          refine lv_iload_n hx hb dX9_sheet_48 rfl (lv_at hl 3 rfl) ?_
          refine lv_bipush (v := 40) hx hb dX9_sheet_49 (by decide) ?_
          refine lv_icmp_le (tgt := 61) hx hb dX9_sheet_51 (by decide) (fun c_24 => ?_) (fun c_24 => ?_)
          · skip
            obtain ⟨y_25, hy_25, rfl⟩ := xrange2 (w := 40) (by omega) c_23 c_24
            refine lv_aload_n hx hb dX9_sheet_61 rfl (lv_at hl 0 rfl) ?_
            refine xg hF kf_X9_43 hK hP 0 rfl rfl dX9_sheet_62 ?_
            refine lv_iload_n hx hb dX9_sheet_65 rfl (lv_at hl 1 rfl) ?_
            refine lv_iload_n hx hb dX9_sheet_66 rfl (lv_at hl 2 rfl) ?_
            refine va_iast hx hb hK hP hD hS 1 0 rfl rfl (xin 1 4 (by decide) (by decide)) dX9_sheet_67 (fun H locs hP hD hS => ?_)
            obtain ⟨f_26, ef_26⟩ : ∃ g, g = upd bi 1 p1 := ⟨_, rfl⟩
            have hP : va_P D vwCl [(h0, .inr (9, [.ref ys, .ref yk, .ref yo, .ref yt, .int mk0, .ref yfa, .ref yfe, .int mL, .int mS, .int mM, .ref yro, .ref yhe, .ref ygr, .int mF, .int mC, .int mY, .ref yta, .int (nI (mz)), .int (nI (mf)), .int (nI (mt)), .int mv, .int mw, .ref ywa, .ref ybi, .ref ysi, .ref ynu, .ref ymo])), (ybi, .inl (cI, 4, .inl (upd bi 1 p1))), (ysi, .inl (cI, 4, .inl sq)), (ynu, .inl (cJ, 160, .inr (.inl nb))), (yt, .inl (cI, 7, .inl mq))] H := hP
            have hD : va_D A [(h0, .inr (9, [.ref ys, .ref yk, .ref yo, .ref yt, .int mk0, .ref yfa, .ref yfe, .int mL, .int mS, .int mM, .ref yro, .ref yhe, .ref ygr, .int mF, .int mC, .int mY, .ref yta, .int (nI (mz)), .int (nI (mf)), .int (nI (mt)), .int mv, .int mw, .ref ywa, .ref ybi, .ref ysi, .ref ynu, .ref ymo])), (ybi, .inl (cI, 4, .inl (upd bi 1 p1))), (ysi, .inl (cI, 4, .inl sq)), (ynu, .inl (cJ, 160, .inr (.inl nb))), (yt, .inl (cI, 7, .inl mq))] := hD
            rw [← ef_26] at hP hD
            have hP : va_P D vwCl [(h0, .inr (9, [.ref ys, .ref yk, .ref yo, .ref yt, .int mk0, .ref yfa, .ref yfe, .int mL, .int mS, .int mM, .ref yro, .ref yhe, .ref ygr, .int mF, .int mC, .int mY, .ref yta, .int (nI (mz)), .int (nI (mf)), .int (nI (mt)), .int mv, .int mw, .ref ywa, .ref ybi, .ref ysi, .ref ynu, .ref ymo])), (ybi, .inl (cI, 4, .inl f_26)), (ysi, .inl (cI, 4, .inl sq)), (ynu, .inl (cJ, 160, .inr (.inl nb))), (yt, .inl (cI, 7, .inl mq))] H := hP
            have hD : va_D A [(h0, .inr (9, [.ref ys, .ref yk, .ref yo, .ref yt, .int mk0, .ref yfa, .ref yfe, .int mL, .int mS, .int mM, .ref yro, .ref yhe, .ref ygr, .int mF, .int mC, .int mY, .ref yta, .int (nI (mz)), .int (nI (mf)), .int (nI (mt)), .int mv, .int mw, .ref ywa, .ref ybi, .ref ysi, .ref ynu, .ref ymo])), (ybi, .inl (cI, 4, .inl f_26)), (ysi, .inl (cI, 4, .inl sq)), (ynu, .inl (cJ, 160, .inr (.inl nb))), (yt, .inl (cI, 7, .inl mq))] := hD
            refine lv_aload_n hx hb dX9_sheet_68 rfl (lv_at hl 0 rfl) ?_
            refine xg hF kf_X9_46 hK hP 0 rfl rfl dX9_sheet_69 ?_
            refine lv_iload_n hx hb dX9_sheet_72 rfl (lv_at hl 1 rfl) ?_
            refine lv_iload_n hx hb dX9_sheet_73 rfl (lv_at hl 2 rfl) ?_
            refine lv_if_ne (tgt := 81) hx hb dX9_sheet_74 (by decide) (fun c_27 => ?_) (fun c_27 => ?_)
            · skip
              refine lv_iload_n hx hb dX9_sheet_81 rfl (lv_at hl 3 rfl) ?_
              refine va_iast hx hb hK hP hD hS 2 0 rfl rfl (xin 1 4 (by decide) (by decide)) dX9_sheet_82 (fun H locs hP hD hS => ?_)
              obtain ⟨f_28, ef_28⟩ : ∃ g, g = upd sq 1 (nI (y_25)) := ⟨_, rfl⟩
              have hP : va_P D vwCl [(h0, .inr (9, [.ref ys, .ref yk, .ref yo, .ref yt, .int mk0, .ref yfa, .ref yfe, .int mL, .int mS, .int mM, .ref yro, .ref yhe, .ref ygr, .int mF, .int mC, .int mY, .ref yta, .int (nI (mz)), .int (nI (mf)), .int (nI (mt)), .int mv, .int mw, .ref ywa, .ref ybi, .ref ysi, .ref ynu, .ref ymo])), (ybi, .inl (cI, 4, .inl f_26)), (ysi, .inl (cI, 4, .inl (upd sq 1 (nI (y_25))))), (ynu, .inl (cJ, 160, .inr (.inl nb))), (yt, .inl (cI, 7, .inl mq))] H := hP
              have hD : va_D A [(h0, .inr (9, [.ref ys, .ref yk, .ref yo, .ref yt, .int mk0, .ref yfa, .ref yfe, .int mL, .int mS, .int mM, .ref yro, .ref yhe, .ref ygr, .int mF, .int mC, .int mY, .ref yta, .int (nI (mz)), .int (nI (mf)), .int (nI (mt)), .int mv, .int mw, .ref ywa, .ref ybi, .ref ysi, .ref ynu, .ref ymo])), (ybi, .inl (cI, 4, .inl f_26)), (ysi, .inl (cI, 4, .inl (upd sq 1 (nI (y_25))))), (ynu, .inl (cJ, 160, .inr (.inl nb))), (yt, .inl (cI, 7, .inl mq))] := hD
              rw [← ef_28] at hP hD
              have hf_28 : BA 4 41 f_28 := by rw [ef_28]; exact BA.upd hsq (show y_25 < 41 by omega)
              have hP : va_P D vwCl [(h0, .inr (9, [.ref ys, .ref yk, .ref yo, .ref yt, .int mk0, .ref yfa, .ref yfe, .int mL, .int mS, .int mM, .ref yro, .ref yhe, .ref ygr, .int mF, .int mC, .int mY, .ref yta, .int (nI (mz)), .int (nI (mf)), .int (nI (mt)), .int mv, .int mw, .ref ywa, .ref ybi, .ref ysi, .ref ynu, .ref ymo])), (ybi, .inl (cI, 4, .inl f_26)), (ysi, .inl (cI, 4, .inl f_28)), (ynu, .inl (cJ, 160, .inr (.inl nb))), (yt, .inl (cI, 7, .inl mq))] H := hP
              have hD : va_D A [(h0, .inr (9, [.ref ys, .ref yk, .ref yo, .ref yt, .int mk0, .ref yfa, .ref yfe, .int mL, .int mS, .int mM, .ref yro, .ref yhe, .ref ygr, .int mF, .int mC, .int mY, .ref yta, .int (nI (mz)), .int (nI (mf)), .int (nI (mt)), .int mv, .int mw, .ref ywa, .ref ybi, .ref ysi, .ref ynu, .ref ymo])), (ybi, .inl (cI, 4, .inl f_26)), (ysi, .inl (cI, 4, .inl f_28)), (ynu, .inl (cJ, 160, .inr (.inl nb))), (yt, .inl (cI, 7, .inl mq))] := hD
              refine lv_iconst (v := 0) hx hb dX9_sheet_83 (by decide) ?_
              refine lv_istore (lv' := [(4, .int 0), (0, .ref h0), (1, .int 1), (2, .int p1), (3, .int (nI (y_25)))]) hx hb dX9_sheet_84 hl (by decide) rfl (fun ls hl => ?_)
              suffices loop_86 : ∀ (n_86 : Nat) (i : Nat) (n8 : Nat → Int64) (H : Heap) (locs : List Loc) (ls : Array Slot), 40 - i < n_86 → (i ≤ 40) → (∀ j, 40 ≤ j → j < 40 + i → n8 j = 0) → (∀ j, j < 40 ∨ 80 ≤ j → n8 j = nb j) → va_P D vwCl [(h0, .inr (9, [.ref ys, .ref yk, .ref yo, .ref yt, .int mk0, .ref yfa, .ref yfe, .int mL, .int mS, .int mM, .ref yro, .ref yhe, .ref ygr, .int mF, .int mC, .int mY, .ref yta, .int (nI (mz)), .int (nI (mf)), .int (nI (mt)), .int mv, .int mw, .ref ywa, .ref ybi, .ref ysi, .ref ynu, .ref ymo])), (ybi, .inl (cI, 4, .inl f_26)), (ysi, .inl (cI, 4, .inl f_28)), (ynu, .inl (cJ, 160, .inr (.inl n8))), (yt, .inl (cI, 7, .inl mq))] H → va_D A [(h0, .inr (9, [.ref ys, .ref yk, .ref yo, .ref yt, .int mk0, .ref yfa, .ref yfe, .int mL, .int mS, .int mM, .ref yro, .ref yhe, .ref ygr, .int mF, .int mC, .int mY, .ref yta, .int (nI (mz)), .int (nI (mf)), .int (nI (mt)), .int mv, .int mw, .ref ywa, .ref ybi, .ref ysi, .ref ynu, .ref ymo])), (ybi, .inl (cI, 4, .inl f_26)), (ysi, .inl (cI, 4, .inl f_28)), (ynu, .inl (cJ, 160, .inr (.inl n8))), (yt, .inl (cI, 7, .inl mq))] → va_S A s.heap H locs → lv_has ls 5 [(4, .int (nI (i))), (0, .ref h0), (1, .int 1), (2, .int p1), (3, .int (nI (y_25)))] → W p l e ({ frames := 2, cells := 0, slots := 0, locals := 45 }) s m ([.ref h0, .int 1, .int p1, .int (nI (y_25))] : List Value).toArray below meth c H locs 0 0 (MQ below (XQi (fun (r : Int32) (u : (Nat → Int32) × (Nat → Int32) × (Nat → Int64) × (Nat → Int32)) => match u with | (bi2, sq2, nb2, mq2) => ((r = a_sheet 1 p1 (nI (y_25)))) ∧ (bi2 1 = sp_sb p1 (nI (y_25)) (bi 1)) ∧ (∀ j, j ≠ 1 → bi2 j = bi j) ∧ (sq2 1 = nI (sp_sz p1 (nI (y_25)) zq)) ∧ (∀ j, j ≠ 1 → sq2 j = sq j) ∧ (∀ j, j < 40 → nb2 (40 + j) = sp_sn p1 (nI (y_25)) (nb (40 + j))) ∧ (∀ j, j < 40 ∨ 80 ≤ j → nb2 j = nb j) ∧ (BA 4 41 sq2)) D (fun (u : (Nat → Int32) × (Nat → Int32) × (Nat → Int64) × (Nat → Int32)) => match u with | (bi2, sq2, nb2, mq2) => [(h0, .inr (9, [.ref ys, .ref yk, .ref yo, .ref yt, .int mk0, .ref yfa, .ref yfe, .int mL, .int mS, .int mM, .ref yro, .ref yhe, .ref ygr, .int mF, .int mC, .int mY, .ref yta, .int (nI (mz)), .int (nI (mf)), .int (nI (mt)), .int mv, .int mw, .ref ywa, .ref ybi, .ref ysi, .ref ynu, .ref ymo])), (ybi, .inl (cI, 4, .inl bi2)), (ysi, .inl (cI, 4, .inl sq2)), (ynu, .inl (cJ, 160, .inr (.inl nb2))), (yt, .inl (cI, 7, .inl mq2))]) A) ([.ref h0, .int 1, .int p1, .int (nI (y_25))] : List Value).toArray s 0 0 A) (F0 m 86 ls []) by
                exact loop_86 _ 0 nb _ _ _ (Nat.lt_succ_self _) (by omega) (fun j h1 h2 => absurd h1 (by omega)) (fun _ _ => rfl) hP hD hS (lv_sub hl [0, 1, 2, 3, 4] rfl)
              intro n_86
              induction n_86 with
              | zero =>
                intro i n8 H locs ls hm_86
                exact absurd hm_86 (Nat.not_lt_zero _)
              | succ n_86 ih_86 =>
                intro i n8 H locs ls hm_86 hi hf8 hg8 hP hD hS hl
                refine lv_iload hx hb dX9_sheet_86 (lv_at hl 0 rfl) ?_
                refine lv_bipush (v := 40) hx hb dX9_sheet_88 (by decide) ?_
                refine lv_icmp_ge (tgt := 112) hx hb dX9_sheet_90 (by decide) (fun c_29 => ?_) (fun c_29 => ?_)
                · skip
                  have nc_29 : 40 ≤ i := xn_le (a := 40) (b := i) (by omega) (by omega) c_29
                  refine lv_aload_n hx hb dX9_sheet_112 rfl (lv_at hl 1 rfl) ?_
                  refine xg hF kf_X9_46 hK hP 0 rfl rfl dX9_sheet_113 ?_
                  refine lv_iload_n hx hb dX9_sheet_116 rfl (lv_at hl 2 rfl) ?_
                  refine va_iald hx hb hK hP 2 0 rfl rfl (xin 1 4 (by decide) (by decide)) dX9_sheet_117 ?_
                  refine xl_i (y := f_28 1) (congrArg f_28 rfl) ?_
                  refine xl_i (y := nI (y_25)) (by rw [ef_28]; exact pk_us) ?_
                  exact W.iret (v := nI (y_25)) hx hb hr (fun t ht hW => ⟨⟨nI (y_25), (f_26, f_28, n8, mq), rfl, ⟨p_sheet6 (by decide) (by decide) (by first | exact Or.inl (by assumption) | exact Or.inr (Or.inl (by assumption)) | exact Or.inr (Or.inr (Or.inl (by assumption))) | exact Or.inr (Or.inr (Or.inr (by assumption)))) (nI_pos (by omega)) (x_le40 (by omega)) (by assumption), (by rw [ef_26]; exact pk_us.trans (if_pos ⟨(by first | exact Or.inl (by assumption) | exact Or.inr (Or.inl (by assumption)) | exact Or.inr (Or.inr (Or.inl (by assumption))) | exact Or.inr (Or.inr (Or.inr (by assumption)))), nI_pos (by omega), x_le40 (by omega)⟩).symm), (fun j hj => by rw [ef_26]; exact pk_un hj), (by rw [ef_28]; exact pk_us.trans (congrArg nI (sp_z1 ⟨(by first | exact Or.inl (by assumption) | exact Or.inr (Or.inl (by assumption)) | exact Or.inr (Or.inr (Or.inl (by assumption))) | exact Or.inr (Or.inr (Or.inr (by assumption)))), nI_pos (by omega), x_le40 (by omega)⟩ (by assumption) (by omega)))), (fun j hj => by rw [ef_28]; exact pk_un hj), (fun j hj => (hf8 (40 + j) (by omega) (by omega)).trans (if_pos ⟨(by first | exact Or.inl (by assumption) | exact Or.inr (Or.inl (by assumption)) | exact Or.inr (Or.inr (Or.inl (by assumption))) | exact Or.inr (Or.inr (Or.inr (by assumption)))), nI_pos (by omega), x_le40 (by omega)⟩).symm), (fun j hj => hg8 j hj), hf_28⟩, by rw [ht]; exact hP.sub [0, 1, 2, 3, 4] rfl, hD.sub [0, 1, 2, 3, 4] (by decide +kernel) rfl⟩, hS.F ht⟩) hS.2.2 dX9_sheet_118 hlk
                · skip
                  have nc_29 : i < 40 := xn_nle (a := 40) (b := i) (by omega) (by omega) c_29
                  refine lv_aload_n hx hb dX9_sheet_93 rfl (lv_at hl 1 rfl) ?_
                  refine xg hF kf_X9_49 hK hP 0 rfl rfl dX9_sheet_94 ?_
                  refine lv_bipush (v := 40) hx hb dX9_sheet_97 (by decide) ?_
                  refine lv_iload_n hx hb dX9_sheet_99 rfl (lv_at hl 2 rfl) ?_
                  refine lv_imul hx hb dX9_sheet_100 ?_
                  refine xl_i (y := 40) (by decide) ?_
                  refine lv_iload hx hb dX9_sheet_101 (lv_at hl 0 rfl) ?_
                  refine lv_iadd hx hb dX9_sheet_103 ?_
                  refine xl_i (y := nI (40 + i)) (nI_add 40 i) ?_
                  refine lv_lconst (v := 0) hx hb dX9_sheet_104 (by decide) ?_
                  refine va_last hx hb hK hP hD hS 3 1 rfl rfl (vp_in_nI (show 40 + i < 160 by omega) (by decide)) dX9_sheet_105 (fun H locs hP hD hS => ?_)
                  rw [nI_clamp (show 40 + i < 2 ^ 31 by omega)] at hP hD
                  obtain ⟨f_30, ef_30⟩ : ∃ g, g = vp_updL n8 (40 + i) 0 := ⟨_, rfl⟩
                  rw [← ef_30] at hP hD
                  have hP : va_P D vwCl [(h0, .inr (9, [.ref ys, .ref yk, .ref yo, .ref yt, .int mk0, .ref yfa, .ref yfe, .int mL, .int mS, .int mM, .ref yro, .ref yhe, .ref ygr, .int mF, .int mC, .int mY, .ref yta, .int (nI (mz)), .int (nI (mf)), .int (nI (mt)), .int mv, .int mw, .ref ywa, .ref ybi, .ref ysi, .ref ynu, .ref ymo])), (ybi, .inl (cI, 4, .inl f_26)), (ysi, .inl (cI, 4, .inl f_28)), (ynu, .inl (cJ, 160, .inr (.inl f_30))), (yt, .inl (cI, 7, .inl mq))] H := hP
                  have hD : va_D A [(h0, .inr (9, [.ref ys, .ref yk, .ref yo, .ref yt, .int mk0, .ref yfa, .ref yfe, .int mL, .int mS, .int mM, .ref yro, .ref yhe, .ref ygr, .int mF, .int mC, .int mY, .ref yta, .int (nI (mz)), .int (nI (mf)), .int (nI (mt)), .int mv, .int mw, .ref ywa, .ref ybi, .ref ysi, .ref ynu, .ref ymo])), (ybi, .inl (cI, 4, .inl f_26)), (ysi, .inl (cI, 4, .inl f_28)), (ynu, .inl (cJ, 160, .inr (.inl f_30))), (yt, .inl (cI, 7, .inl mq))] := hD
                  refine lv_iinc (v := nI (i + 1)) (lv' := [(4, .int (nI (i + 1))), (0, .ref h0), (1, .int 1), (2, .int p1), (3, .int (nI (y_25)))]) hx hb dX9_sheet_106 hl (k := 0) rfl (nI_1 (i)) (by decide) rfl (fun ls hl => ?_)
                  refine lv_goto (tgt := 86) hx hb dX9_sheet_109 (by decide) ?_
                  exact ih_86 (i + 1) f_30 _ _ _ (by omega) (by omega) (sp_fil hf8 ef_30) (sp_fio hg8 (by omega) (by omega) ef_30) (hP.sub [0, 1, 2, 3, 4] rfl) (hD.sub [0, 1, 2, 3, 4] (by decide +kernel) rfl) hS (lv_sub hl [0, 1, 2, 3, 4] rfl)
            · skip
              refine lv_iconst (v := 0) hx hb dX9_sheet_77 (by decide) ?_
              refine lv_goto (tgt := 82) hx hb dX9_sheet_78 (by decide) ?_
              refine va_iast hx hb hK hP hD hS 2 0 rfl rfl (xin 1 4 (by decide) (by decide)) dX9_sheet_82 (fun H locs hP hD hS => ?_)
              obtain ⟨f_31, ef_31⟩ : ∃ g, g = upd sq 1 0 := ⟨_, rfl⟩
              have hP : va_P D vwCl [(h0, .inr (9, [.ref ys, .ref yk, .ref yo, .ref yt, .int mk0, .ref yfa, .ref yfe, .int mL, .int mS, .int mM, .ref yro, .ref yhe, .ref ygr, .int mF, .int mC, .int mY, .ref yta, .int (nI (mz)), .int (nI (mf)), .int (nI (mt)), .int mv, .int mw, .ref ywa, .ref ybi, .ref ysi, .ref ynu, .ref ymo])), (ybi, .inl (cI, 4, .inl f_26)), (ysi, .inl (cI, 4, .inl (upd sq 1 0))), (ynu, .inl (cJ, 160, .inr (.inl nb))), (yt, .inl (cI, 7, .inl mq))] H := hP
              have hD : va_D A [(h0, .inr (9, [.ref ys, .ref yk, .ref yo, .ref yt, .int mk0, .ref yfa, .ref yfe, .int mL, .int mS, .int mM, .ref yro, .ref yhe, .ref ygr, .int mF, .int mC, .int mY, .ref yta, .int (nI (mz)), .int (nI (mf)), .int (nI (mt)), .int mv, .int mw, .ref ywa, .ref ybi, .ref ysi, .ref ynu, .ref ymo])), (ybi, .inl (cI, 4, .inl f_26)), (ysi, .inl (cI, 4, .inl (upd sq 1 0))), (ynu, .inl (cJ, 160, .inr (.inl nb))), (yt, .inl (cI, 7, .inl mq))] := hD
              rw [← ef_31] at hP hD
              have hf_31 : BA 4 41 f_31 := by rw [ef_31]; exact BA.upd hsq (show 0 < 41 by omega)
              have hP : va_P D vwCl [(h0, .inr (9, [.ref ys, .ref yk, .ref yo, .ref yt, .int mk0, .ref yfa, .ref yfe, .int mL, .int mS, .int mM, .ref yro, .ref yhe, .ref ygr, .int mF, .int mC, .int mY, .ref yta, .int (nI (mz)), .int (nI (mf)), .int (nI (mt)), .int mv, .int mw, .ref ywa, .ref ybi, .ref ysi, .ref ynu, .ref ymo])), (ybi, .inl (cI, 4, .inl f_26)), (ysi, .inl (cI, 4, .inl f_31)), (ynu, .inl (cJ, 160, .inr (.inl nb))), (yt, .inl (cI, 7, .inl mq))] H := hP
              have hD : va_D A [(h0, .inr (9, [.ref ys, .ref yk, .ref yo, .ref yt, .int mk0, .ref yfa, .ref yfe, .int mL, .int mS, .int mM, .ref yro, .ref yhe, .ref ygr, .int mF, .int mC, .int mY, .ref yta, .int (nI (mz)), .int (nI (mf)), .int (nI (mt)), .int mv, .int mw, .ref ywa, .ref ybi, .ref ysi, .ref ynu, .ref ymo])), (ybi, .inl (cI, 4, .inl f_26)), (ysi, .inl (cI, 4, .inl f_31)), (ynu, .inl (cJ, 160, .inr (.inl nb))), (yt, .inl (cI, 7, .inl mq))] := hD
              refine lv_iconst (v := 0) hx hb dX9_sheet_83 (by decide) ?_
              refine lv_istore (lv' := [(4, .int 0), (0, .ref h0), (1, .int 1), (2, .int p1), (3, .int (nI (y_25)))]) hx hb dX9_sheet_84 hl (by decide) rfl (fun ls hl => ?_)
              suffices loop_86 : ∀ (n_86 : Nat) (i : Nat) (n8 : Nat → Int64) (H : Heap) (locs : List Loc) (ls : Array Slot), 40 - i < n_86 → (i ≤ 40) → (∀ j, 40 ≤ j → j < 40 + i → n8 j = 0) → (∀ j, j < 40 ∨ 80 ≤ j → n8 j = nb j) → va_P D vwCl [(h0, .inr (9, [.ref ys, .ref yk, .ref yo, .ref yt, .int mk0, .ref yfa, .ref yfe, .int mL, .int mS, .int mM, .ref yro, .ref yhe, .ref ygr, .int mF, .int mC, .int mY, .ref yta, .int (nI (mz)), .int (nI (mf)), .int (nI (mt)), .int mv, .int mw, .ref ywa, .ref ybi, .ref ysi, .ref ynu, .ref ymo])), (ybi, .inl (cI, 4, .inl f_26)), (ysi, .inl (cI, 4, .inl f_31)), (ynu, .inl (cJ, 160, .inr (.inl n8))), (yt, .inl (cI, 7, .inl mq))] H → va_D A [(h0, .inr (9, [.ref ys, .ref yk, .ref yo, .ref yt, .int mk0, .ref yfa, .ref yfe, .int mL, .int mS, .int mM, .ref yro, .ref yhe, .ref ygr, .int mF, .int mC, .int mY, .ref yta, .int (nI (mz)), .int (nI (mf)), .int (nI (mt)), .int mv, .int mw, .ref ywa, .ref ybi, .ref ysi, .ref ynu, .ref ymo])), (ybi, .inl (cI, 4, .inl f_26)), (ysi, .inl (cI, 4, .inl f_31)), (ynu, .inl (cJ, 160, .inr (.inl n8))), (yt, .inl (cI, 7, .inl mq))] → va_S A s.heap H locs → lv_has ls 5 [(4, .int (nI (i))), (0, .ref h0), (1, .int 1), (2, .int p1), (3, .int (nI (y_25)))] → W p l e ({ frames := 2, cells := 0, slots := 0, locals := 45 }) s m ([.ref h0, .int 1, .int p1, .int (nI (y_25))] : List Value).toArray below meth c H locs 0 0 (MQ below (XQi (fun (r : Int32) (u : (Nat → Int32) × (Nat → Int32) × (Nat → Int64) × (Nat → Int32)) => match u with | (bi2, sq2, nb2, mq2) => ((r = a_sheet 1 p1 (nI (y_25)))) ∧ (bi2 1 = sp_sb p1 (nI (y_25)) (bi 1)) ∧ (∀ j, j ≠ 1 → bi2 j = bi j) ∧ (sq2 1 = nI (sp_sz p1 (nI (y_25)) zq)) ∧ (∀ j, j ≠ 1 → sq2 j = sq j) ∧ (∀ j, j < 40 → nb2 (40 + j) = sp_sn p1 (nI (y_25)) (nb (40 + j))) ∧ (∀ j, j < 40 ∨ 80 ≤ j → nb2 j = nb j) ∧ (BA 4 41 sq2)) D (fun (u : (Nat → Int32) × (Nat → Int32) × (Nat → Int64) × (Nat → Int32)) => match u with | (bi2, sq2, nb2, mq2) => [(h0, .inr (9, [.ref ys, .ref yk, .ref yo, .ref yt, .int mk0, .ref yfa, .ref yfe, .int mL, .int mS, .int mM, .ref yro, .ref yhe, .ref ygr, .int mF, .int mC, .int mY, .ref yta, .int (nI (mz)), .int (nI (mf)), .int (nI (mt)), .int mv, .int mw, .ref ywa, .ref ybi, .ref ysi, .ref ynu, .ref ymo])), (ybi, .inl (cI, 4, .inl bi2)), (ysi, .inl (cI, 4, .inl sq2)), (ynu, .inl (cJ, 160, .inr (.inl nb2))), (yt, .inl (cI, 7, .inl mq2))]) A) ([.ref h0, .int 1, .int p1, .int (nI (y_25))] : List Value).toArray s 0 0 A) (F0 m 86 ls []) by
                exact loop_86 _ 0 nb _ _ _ (Nat.lt_succ_self _) (by omega) (fun j h1 h2 => absurd h1 (by omega)) (fun _ _ => rfl) hP hD hS (lv_sub hl [0, 1, 2, 3, 4] rfl)
              intro n_86
              induction n_86 with
              | zero =>
                intro i n8 H locs ls hm_86
                exact absurd hm_86 (Nat.not_lt_zero _)
              | succ n_86 ih_86 =>
                intro i n8 H locs ls hm_86 hi hf8 hg8 hP hD hS hl
                refine lv_iload hx hb dX9_sheet_86 (lv_at hl 0 rfl) ?_
                refine lv_bipush (v := 40) hx hb dX9_sheet_88 (by decide) ?_
                refine lv_icmp_ge (tgt := 112) hx hb dX9_sheet_90 (by decide) (fun c_32 => ?_) (fun c_32 => ?_)
                · skip
                  have nc_32 : 40 ≤ i := xn_le (a := 40) (b := i) (by omega) (by omega) c_32
                  refine lv_aload_n hx hb dX9_sheet_112 rfl (lv_at hl 1 rfl) ?_
                  refine xg hF kf_X9_46 hK hP 0 rfl rfl dX9_sheet_113 ?_
                  refine lv_iload_n hx hb dX9_sheet_116 rfl (lv_at hl 2 rfl) ?_
                  refine va_iald hx hb hK hP 2 0 rfl rfl (xin 1 4 (by decide) (by decide)) dX9_sheet_117 ?_
                  refine xl_i (y := f_31 1) (congrArg f_31 rfl) ?_
                  refine xl_i (y := 0) (by rw [ef_31]; exact pk_us) ?_
                  exact W.iret (v := 0) hx hb hr (fun t ht hW => ⟨⟨0, (f_26, f_31, n8, mq), rfl, ⟨p_sheet5 (by decide) (by decide) c_27 (nI_pos (by omega)) (x_le40 (by omega)), (by rw [ef_26]; exact pk_us.trans (if_pos ⟨(by first | exact Or.inl (by assumption) | exact Or.inr (Or.inl (by assumption)) | exact Or.inr (Or.inr (Or.inl (by assumption))) | exact Or.inr (Or.inr (Or.inr (by assumption)))), nI_pos (by omega), x_le40 (by omega)⟩).symm), (fun j hj => by rw [ef_26]; exact pk_un hj), (by rw [ef_31]; exact pk_us.trans (congrArg nI (sp_z0 ⟨(by first | exact Or.inl (by assumption) | exact Or.inr (Or.inl (by assumption)) | exact Or.inr (Or.inr (Or.inl (by assumption))) | exact Or.inr (Or.inr (Or.inr (by assumption)))), nI_pos (by omega), x_le40 (by omega)⟩ c_27))), (fun j hj => by rw [ef_31]; exact pk_un hj), (fun j hj => (hf8 (40 + j) (by omega) (by omega)).trans (if_pos ⟨(by first | exact Or.inl (by assumption) | exact Or.inr (Or.inl (by assumption)) | exact Or.inr (Or.inr (Or.inl (by assumption))) | exact Or.inr (Or.inr (Or.inr (by assumption)))), nI_pos (by omega), x_le40 (by omega)⟩).symm), (fun j hj => hg8 j hj), hf_31⟩, by rw [ht]; exact hP.sub [0, 1, 2, 3, 4] rfl, hD.sub [0, 1, 2, 3, 4] (by decide +kernel) rfl⟩, hS.F ht⟩) hS.2.2 dX9_sheet_118 hlk
                · skip
                  have nc_32 : i < 40 := xn_nle (a := 40) (b := i) (by omega) (by omega) c_32
                  refine lv_aload_n hx hb dX9_sheet_93 rfl (lv_at hl 1 rfl) ?_
                  refine xg hF kf_X9_49 hK hP 0 rfl rfl dX9_sheet_94 ?_
                  refine lv_bipush (v := 40) hx hb dX9_sheet_97 (by decide) ?_
                  refine lv_iload_n hx hb dX9_sheet_99 rfl (lv_at hl 2 rfl) ?_
                  refine lv_imul hx hb dX9_sheet_100 ?_
                  refine xl_i (y := 40) (by decide) ?_
                  refine lv_iload hx hb dX9_sheet_101 (lv_at hl 0 rfl) ?_
                  refine lv_iadd hx hb dX9_sheet_103 ?_
                  refine xl_i (y := nI (40 + i)) (nI_add 40 i) ?_
                  refine lv_lconst (v := 0) hx hb dX9_sheet_104 (by decide) ?_
                  refine va_last hx hb hK hP hD hS 3 1 rfl rfl (vp_in_nI (show 40 + i < 160 by omega) (by decide)) dX9_sheet_105 (fun H locs hP hD hS => ?_)
                  rw [nI_clamp (show 40 + i < 2 ^ 31 by omega)] at hP hD
                  obtain ⟨f_33, ef_33⟩ : ∃ g, g = vp_updL n8 (40 + i) 0 := ⟨_, rfl⟩
                  rw [← ef_33] at hP hD
                  have hP : va_P D vwCl [(h0, .inr (9, [.ref ys, .ref yk, .ref yo, .ref yt, .int mk0, .ref yfa, .ref yfe, .int mL, .int mS, .int mM, .ref yro, .ref yhe, .ref ygr, .int mF, .int mC, .int mY, .ref yta, .int (nI (mz)), .int (nI (mf)), .int (nI (mt)), .int mv, .int mw, .ref ywa, .ref ybi, .ref ysi, .ref ynu, .ref ymo])), (ybi, .inl (cI, 4, .inl f_26)), (ysi, .inl (cI, 4, .inl f_31)), (ynu, .inl (cJ, 160, .inr (.inl f_33))), (yt, .inl (cI, 7, .inl mq))] H := hP
                  have hD : va_D A [(h0, .inr (9, [.ref ys, .ref yk, .ref yo, .ref yt, .int mk0, .ref yfa, .ref yfe, .int mL, .int mS, .int mM, .ref yro, .ref yhe, .ref ygr, .int mF, .int mC, .int mY, .ref yta, .int (nI (mz)), .int (nI (mf)), .int (nI (mt)), .int mv, .int mw, .ref ywa, .ref ybi, .ref ysi, .ref ynu, .ref ymo])), (ybi, .inl (cI, 4, .inl f_26)), (ysi, .inl (cI, 4, .inl f_31)), (ynu, .inl (cJ, 160, .inr (.inl f_33))), (yt, .inl (cI, 7, .inl mq))] := hD
                  refine lv_iinc (v := nI (i + 1)) (lv' := [(4, .int (nI (i + 1))), (0, .ref h0), (1, .int 1), (2, .int p1), (3, .int (nI (y_25)))]) hx hb dX9_sheet_106 hl (k := 0) rfl (nI_1 (i)) (by decide) rfl (fun ls hl => ?_)
                  refine lv_goto (tgt := 86) hx hb dX9_sheet_109 (by decide) ?_
                  exact ih_86 (i + 1) f_33 _ _ _ (by omega) (by omega) (sp_fil hf8 ef_33) (sp_fio hg8 (by omega) (by omega) ef_33) (hP.sub [0, 1, 2, 3, 4] rfl) (hD.sub [0, 1, 2, 3, 4] (by decide +kernel) rfl) hS (lv_sub hl [0, 1, 2, 3, 4] rfl)
          · skip
            refine lv_aload_n hx hb dX9_sheet_54 rfl (lv_at hl 0 rfl) ?_
            refine lv_ldc (v := (-1000000001)) hx hb hown (hu _ uw648) dX9_sheet_55 ?_
            refine xc_Vi (wr := [(ybi, .inl (cI, 4, .inl bi)), (ysi, .inl (cI, 4, .inl sq)), (ynu, .inl (cJ, 160, .inr (.inl nb)))]) hF (c_X9_finds_B l D cI cJ cZ cS ta sa sv s.heap.size h0 ys yk yo yt mk0 yfa yfe mL mS mM yro yhe ygr mF mC mY yta mz mf mt mv mw ywa ybi ysi ynu ymo mq ) kv_X9_70 ⟨rfl, rfl, Nat.le_of_ble_eq_true rfl, Nat.le_of_ble_eq_true rfl⟩ ⟨Nat.le_of_ble_eq_true rfl, Nat.le_of_ble_eq_true rfl⟩ hK hN hZ hP hD hS hA [0, 4] [1, 2, 3] rfl rfl rfl rfl (by decide) 0 rfl rfl rfl rfl hl.1 rfl (Nat.le_of_ble_eq_true rfl) dX9_sheet_57 (fun r_34 u_r_34 H locs hw_r_34 hP hD hS => ?_)
            obtain ⟨mq2_35, rfl⟩ : ∃ z, z = u_r_34 := ⟨_, rfl⟩
            try dsimp only at hw_r_34
            have hP : va_P D vwCl [(ybi, .inl (cI, 4, .inl bi)), (ysi, .inl (cI, 4, .inl sq)), (ynu, .inl (cJ, 160, .inr (.inl nb))), (h0, .inr (9, [.ref ys, .ref yk, .ref yo, .ref yt, .int mk0, .ref yfa, .ref yfe, .int mL, .int mS, .int mM, .ref yro, .ref yhe, .ref ygr, .int mF, .int mC, .int mY, .ref yta, .int (nI (mz)), .int (nI (mf)), .int (nI (mt)), .int mv, .int mw, .ref ywa, .ref ybi, .ref ysi, .ref ynu, .ref ymo])), (yt, .inl (cI, 7, .inl mq2_35))] H := hP
            have hD : va_D A [(ybi, .inl (cI, 4, .inl bi)), (ysi, .inl (cI, 4, .inl sq)), (ynu, .inl (cJ, 160, .inr (.inl nb))), (h0, .inr (9, [.ref ys, .ref yk, .ref yo, .ref yt, .int mk0, .ref yfa, .ref yfe, .int mL, .int mS, .int mM, .ref yro, .ref yhe, .ref ygr, .int mF, .int mC, .int mY, .ref yta, .int (nI (mz)), .int (nI (mf)), .int (nI (mt)), .int mv, .int mw, .ref ywa, .ref ybi, .ref ysi, .ref ynu, .ref ymo])), (yt, .inl (cI, 7, .inl mq2_35))] := hD
            subst hw_r_34
            exact W.iret (v := (-1000000001)) hx hb hr (fun t ht hW => ⟨⟨(-1000000001), (bi, sq, nb, mq2_35), rfl, ⟨p_sheet4 (by decide) (by decide) (by first | exact Or.inl (by assumption) | exact Or.inr (Or.inl (by assumption)) | exact Or.inr (Or.inr (Or.inl (by assumption))) | exact Or.inr (Or.inr (Or.inr (by assumption)))) (fun h => absurd c_23 (Int32.not_le.mpr h)) (xlt c_24), (if_neg (sp_n4 (xlt c_24))).symm, (fun _ _ => rfl), (ez.trans (congrArg nI (if_neg (sp_n4 (xlt c_24))).symm)), (fun _ _ => rfl), (fun j hj => (if_neg (sp_n4 (xlt c_24))).symm), (fun _ _ => rfl), hsq⟩, by rw [ht]; exact hP.sub [3, 0, 1, 2, 4] rfl, hD.sub [3, 0, 1, 2, 4] (by decide +kernel) rfl⟩, hS.F ht⟩) hS.2.2 dX9_sheet_60 hlk
        · skip
          refine lv_aload_n hx hb dX9_sheet_40 rfl (lv_at hl 0 rfl) ?_
          refine lv_ldcw (v := (-1000000007)) hx hb hown (hu _ uw923) dX9_sheet_41 ?_
          refine xc_Vi (wr := [(ybi, .inl (cI, 4, .inl bi)), (ysi, .inl (cI, 4, .inl sq)), (ynu, .inl (cJ, 160, .inr (.inl nb)))]) hF (c_X9_finds_S l D cI cJ cZ cS ta sa sv s.heap.size h0 ys yk yo yt mk0 yfa yfe mL mS mM yro yhe ygr mF mC mY yta mz mf mt mv mw ywa ybi ysi ynu ymo mq ) kv_X9_70 ⟨rfl, rfl, Nat.le_of_ble_eq_true rfl, Nat.le_of_ble_eq_true rfl⟩ ⟨Nat.le_of_ble_eq_true rfl, Nat.le_of_ble_eq_true rfl⟩ hK hN hZ hP hD hS hA [0, 4] [1, 2, 3] rfl rfl rfl rfl (by decide) 0 rfl rfl rfl rfl hl.1 rfl (Nat.le_of_ble_eq_true rfl) dX9_sheet_44 (fun r_36 u_r_36 H locs hw_r_36 hP hD hS => ?_)
          obtain ⟨mq2_37, rfl⟩ : ∃ z, z = u_r_36 := ⟨_, rfl⟩
          try dsimp only at hw_r_36
          have hP : va_P D vwCl [(ybi, .inl (cI, 4, .inl bi)), (ysi, .inl (cI, 4, .inl sq)), (ynu, .inl (cJ, 160, .inr (.inl nb))), (h0, .inr (9, [.ref ys, .ref yk, .ref yo, .ref yt, .int mk0, .ref yfa, .ref yfe, .int mL, .int mS, .int mM, .ref yro, .ref yhe, .ref ygr, .int mF, .int mC, .int mY, .ref yta, .int (nI (mz)), .int (nI (mf)), .int (nI (mt)), .int mv, .int mw, .ref ywa, .ref ybi, .ref ysi, .ref ynu, .ref ymo])), (yt, .inl (cI, 7, .inl mq2_37))] H := hP
          have hD : va_D A [(ybi, .inl (cI, 4, .inl bi)), (ysi, .inl (cI, 4, .inl sq)), (ynu, .inl (cJ, 160, .inr (.inl nb))), (h0, .inr (9, [.ref ys, .ref yk, .ref yo, .ref yt, .int mk0, .ref yfa, .ref yfe, .int mL, .int mS, .int mM, .ref yro, .ref yhe, .ref ygr, .int mF, .int mC, .int mY, .ref yta, .int (nI (mz)), .int (nI (mf)), .int (nI (mt)), .int mv, .int mw, .ref ywa, .ref ybi, .ref ysi, .ref ynu, .ref ymo])), (yt, .inl (cI, 7, .inl mq2_37))] := hD
          subst hw_r_36
          exact W.iret (v := (-1000000007)) hx hb hr (fun t ht hW => ⟨⟨(-1000000007), (bi, sq, nb, mq2_37), rfl, ⟨p_sheet3 (by decide) (by decide) (by first | exact Or.inl (by assumption) | exact Or.inr (Or.inl (by assumption)) | exact Or.inr (Or.inr (Or.inl (by assumption))) | exact Or.inr (Or.inr (Or.inr (by assumption)))) (xlt c_23), (if_neg (sp_n3 (xlt c_23))).symm, (fun _ _ => rfl), (ez.trans (congrArg nI (if_neg (sp_n3 (xlt c_23))).symm)), (fun _ _ => rfl), (fun j hj => (if_neg (sp_n3 (xlt c_23))).symm), (fun _ _ => rfl), hsq⟩, by rw [ht]; exact hP.sub [3, 0, 1, 2, 4] rfl, hD.sub [3, 0, 1, 2, 4] (by decide +kernel) rfl⟩, hS.F ht⟩) hS.2.2 dX9_sheet_47 hlk
      · skip
        refine lv_iload_n hx hb dX9_sheet_17 rfl (lv_at hl 2 rfl) ?_
        refine lv_bipush (v := 16) hx hb dX9_sheet_18 (by decide) ?_
        refine lv_icmp_eq (tgt := 36) hx hb dX9_sheet_20 (by decide) (fun c_38 => ?_) (fun c_38 => ?_)
        · skip
          refine lv_iload_n hx hb dX9_sheet_36 rfl (lv_at hl 3 rfl) ?_
          refine lv_if_ge (tgt := 48) hx hb dX9_sheet_37 (by decide) (fun c_39 => ?_) (fun c_39 => ?_)
          · skip
            refine lv_iload_n hx hb dX9_sheet_48 rfl (lv_at hl 3 rfl) ?_
            refine lv_bipush (v := 40) hx hb dX9_sheet_49 (by decide) ?_
            refine lv_icmp_le (tgt := 61) hx hb dX9_sheet_51 (by decide) (fun c_40 => ?_) (fun c_40 => ?_)
            · skip
              obtain ⟨y_41, hy_41, rfl⟩ := xrange2 (w := 40) (by omega) c_39 c_40
              refine lv_aload_n hx hb dX9_sheet_61 rfl (lv_at hl 0 rfl) ?_
              refine xg hF kf_X9_43 hK hP 0 rfl rfl dX9_sheet_62 ?_
              refine lv_iload_n hx hb dX9_sheet_65 rfl (lv_at hl 1 rfl) ?_
              refine lv_iload_n hx hb dX9_sheet_66 rfl (lv_at hl 2 rfl) ?_
              refine va_iast hx hb hK hP hD hS 1 0 rfl rfl (xin 1 4 (by decide) (by decide)) dX9_sheet_67 (fun H locs hP hD hS => ?_)
              obtain ⟨f_42, ef_42⟩ : ∃ g, g = upd bi 1 p1 := ⟨_, rfl⟩
              have hP : va_P D vwCl [(h0, .inr (9, [.ref ys, .ref yk, .ref yo, .ref yt, .int mk0, .ref yfa, .ref yfe, .int mL, .int mS, .int mM, .ref yro, .ref yhe, .ref ygr, .int mF, .int mC, .int mY, .ref yta, .int (nI (mz)), .int (nI (mf)), .int (nI (mt)), .int mv, .int mw, .ref ywa, .ref ybi, .ref ysi, .ref ynu, .ref ymo])), (ybi, .inl (cI, 4, .inl (upd bi 1 p1))), (ysi, .inl (cI, 4, .inl sq)), (ynu, .inl (cJ, 160, .inr (.inl nb))), (yt, .inl (cI, 7, .inl mq))] H := hP
              have hD : va_D A [(h0, .inr (9, [.ref ys, .ref yk, .ref yo, .ref yt, .int mk0, .ref yfa, .ref yfe, .int mL, .int mS, .int mM, .ref yro, .ref yhe, .ref ygr, .int mF, .int mC, .int mY, .ref yta, .int (nI (mz)), .int (nI (mf)), .int (nI (mt)), .int mv, .int mw, .ref ywa, .ref ybi, .ref ysi, .ref ynu, .ref ymo])), (ybi, .inl (cI, 4, .inl (upd bi 1 p1))), (ysi, .inl (cI, 4, .inl sq)), (ynu, .inl (cJ, 160, .inr (.inl nb))), (yt, .inl (cI, 7, .inl mq))] := hD
              rw [← ef_42] at hP hD
              have hP : va_P D vwCl [(h0, .inr (9, [.ref ys, .ref yk, .ref yo, .ref yt, .int mk0, .ref yfa, .ref yfe, .int mL, .int mS, .int mM, .ref yro, .ref yhe, .ref ygr, .int mF, .int mC, .int mY, .ref yta, .int (nI (mz)), .int (nI (mf)), .int (nI (mt)), .int mv, .int mw, .ref ywa, .ref ybi, .ref ysi, .ref ynu, .ref ymo])), (ybi, .inl (cI, 4, .inl f_42)), (ysi, .inl (cI, 4, .inl sq)), (ynu, .inl (cJ, 160, .inr (.inl nb))), (yt, .inl (cI, 7, .inl mq))] H := hP
              have hD : va_D A [(h0, .inr (9, [.ref ys, .ref yk, .ref yo, .ref yt, .int mk0, .ref yfa, .ref yfe, .int mL, .int mS, .int mM, .ref yro, .ref yhe, .ref ygr, .int mF, .int mC, .int mY, .ref yta, .int (nI (mz)), .int (nI (mf)), .int (nI (mt)), .int mv, .int mw, .ref ywa, .ref ybi, .ref ysi, .ref ynu, .ref ymo])), (ybi, .inl (cI, 4, .inl f_42)), (ysi, .inl (cI, 4, .inl sq)), (ynu, .inl (cJ, 160, .inr (.inl nb))), (yt, .inl (cI, 7, .inl mq))] := hD
              refine lv_aload_n hx hb dX9_sheet_68 rfl (lv_at hl 0 rfl) ?_
              refine xg hF kf_X9_46 hK hP 0 rfl rfl dX9_sheet_69 ?_
              refine lv_iload_n hx hb dX9_sheet_72 rfl (lv_at hl 1 rfl) ?_
              refine lv_iload_n hx hb dX9_sheet_73 rfl (lv_at hl 2 rfl) ?_
              refine lv_if_ne (tgt := 81) hx hb dX9_sheet_74 (by decide) (fun c_43 => ?_) (fun c_43 => ?_)
              · skip
                refine lv_iload_n hx hb dX9_sheet_81 rfl (lv_at hl 3 rfl) ?_
                refine va_iast hx hb hK hP hD hS 2 0 rfl rfl (xin 1 4 (by decide) (by decide)) dX9_sheet_82 (fun H locs hP hD hS => ?_)
                obtain ⟨f_44, ef_44⟩ : ∃ g, g = upd sq 1 (nI (y_41)) := ⟨_, rfl⟩
                have hP : va_P D vwCl [(h0, .inr (9, [.ref ys, .ref yk, .ref yo, .ref yt, .int mk0, .ref yfa, .ref yfe, .int mL, .int mS, .int mM, .ref yro, .ref yhe, .ref ygr, .int mF, .int mC, .int mY, .ref yta, .int (nI (mz)), .int (nI (mf)), .int (nI (mt)), .int mv, .int mw, .ref ywa, .ref ybi, .ref ysi, .ref ynu, .ref ymo])), (ybi, .inl (cI, 4, .inl f_42)), (ysi, .inl (cI, 4, .inl (upd sq 1 (nI (y_41))))), (ynu, .inl (cJ, 160, .inr (.inl nb))), (yt, .inl (cI, 7, .inl mq))] H := hP
                have hD : va_D A [(h0, .inr (9, [.ref ys, .ref yk, .ref yo, .ref yt, .int mk0, .ref yfa, .ref yfe, .int mL, .int mS, .int mM, .ref yro, .ref yhe, .ref ygr, .int mF, .int mC, .int mY, .ref yta, .int (nI (mz)), .int (nI (mf)), .int (nI (mt)), .int mv, .int mw, .ref ywa, .ref ybi, .ref ysi, .ref ynu, .ref ymo])), (ybi, .inl (cI, 4, .inl f_42)), (ysi, .inl (cI, 4, .inl (upd sq 1 (nI (y_41))))), (ynu, .inl (cJ, 160, .inr (.inl nb))), (yt, .inl (cI, 7, .inl mq))] := hD
                rw [← ef_44] at hP hD
                have hf_44 : BA 4 41 f_44 := by rw [ef_44]; exact BA.upd hsq (show y_41 < 41 by omega)
                have hP : va_P D vwCl [(h0, .inr (9, [.ref ys, .ref yk, .ref yo, .ref yt, .int mk0, .ref yfa, .ref yfe, .int mL, .int mS, .int mM, .ref yro, .ref yhe, .ref ygr, .int mF, .int mC, .int mY, .ref yta, .int (nI (mz)), .int (nI (mf)), .int (nI (mt)), .int mv, .int mw, .ref ywa, .ref ybi, .ref ysi, .ref ynu, .ref ymo])), (ybi, .inl (cI, 4, .inl f_42)), (ysi, .inl (cI, 4, .inl f_44)), (ynu, .inl (cJ, 160, .inr (.inl nb))), (yt, .inl (cI, 7, .inl mq))] H := hP
                have hD : va_D A [(h0, .inr (9, [.ref ys, .ref yk, .ref yo, .ref yt, .int mk0, .ref yfa, .ref yfe, .int mL, .int mS, .int mM, .ref yro, .ref yhe, .ref ygr, .int mF, .int mC, .int mY, .ref yta, .int (nI (mz)), .int (nI (mf)), .int (nI (mt)), .int mv, .int mw, .ref ywa, .ref ybi, .ref ysi, .ref ynu, .ref ymo])), (ybi, .inl (cI, 4, .inl f_42)), (ysi, .inl (cI, 4, .inl f_44)), (ynu, .inl (cJ, 160, .inr (.inl nb))), (yt, .inl (cI, 7, .inl mq))] := hD
                refine lv_iconst (v := 0) hx hb dX9_sheet_83 (by decide) ?_
                refine lv_istore (lv' := [(4, .int 0), (0, .ref h0), (1, .int 1), (2, .int p1), (3, .int (nI (y_41)))]) hx hb dX9_sheet_84 hl (by decide) rfl (fun ls hl => ?_)
                suffices loop_86 : ∀ (n_86 : Nat) (i : Nat) (n8 : Nat → Int64) (H : Heap) (locs : List Loc) (ls : Array Slot), 40 - i < n_86 → (i ≤ 40) → (∀ j, 40 ≤ j → j < 40 + i → n8 j = 0) → (∀ j, j < 40 ∨ 80 ≤ j → n8 j = nb j) → va_P D vwCl [(h0, .inr (9, [.ref ys, .ref yk, .ref yo, .ref yt, .int mk0, .ref yfa, .ref yfe, .int mL, .int mS, .int mM, .ref yro, .ref yhe, .ref ygr, .int mF, .int mC, .int mY, .ref yta, .int (nI (mz)), .int (nI (mf)), .int (nI (mt)), .int mv, .int mw, .ref ywa, .ref ybi, .ref ysi, .ref ynu, .ref ymo])), (ybi, .inl (cI, 4, .inl f_42)), (ysi, .inl (cI, 4, .inl f_44)), (ynu, .inl (cJ, 160, .inr (.inl n8))), (yt, .inl (cI, 7, .inl mq))] H → va_D A [(h0, .inr (9, [.ref ys, .ref yk, .ref yo, .ref yt, .int mk0, .ref yfa, .ref yfe, .int mL, .int mS, .int mM, .ref yro, .ref yhe, .ref ygr, .int mF, .int mC, .int mY, .ref yta, .int (nI (mz)), .int (nI (mf)), .int (nI (mt)), .int mv, .int mw, .ref ywa, .ref ybi, .ref ysi, .ref ynu, .ref ymo])), (ybi, .inl (cI, 4, .inl f_42)), (ysi, .inl (cI, 4, .inl f_44)), (ynu, .inl (cJ, 160, .inr (.inl n8))), (yt, .inl (cI, 7, .inl mq))] → va_S A s.heap H locs → lv_has ls 5 [(4, .int (nI (i))), (0, .ref h0), (1, .int 1), (2, .int p1), (3, .int (nI (y_41)))] → W p l e ({ frames := 2, cells := 0, slots := 0, locals := 45 }) s m ([.ref h0, .int 1, .int p1, .int (nI (y_41))] : List Value).toArray below meth c H locs 0 0 (MQ below (XQi (fun (r : Int32) (u : (Nat → Int32) × (Nat → Int32) × (Nat → Int64) × (Nat → Int32)) => match u with | (bi2, sq2, nb2, mq2) => ((r = a_sheet 1 p1 (nI (y_41)))) ∧ (bi2 1 = sp_sb p1 (nI (y_41)) (bi 1)) ∧ (∀ j, j ≠ 1 → bi2 j = bi j) ∧ (sq2 1 = nI (sp_sz p1 (nI (y_41)) zq)) ∧ (∀ j, j ≠ 1 → sq2 j = sq j) ∧ (∀ j, j < 40 → nb2 (40 + j) = sp_sn p1 (nI (y_41)) (nb (40 + j))) ∧ (∀ j, j < 40 ∨ 80 ≤ j → nb2 j = nb j) ∧ (BA 4 41 sq2)) D (fun (u : (Nat → Int32) × (Nat → Int32) × (Nat → Int64) × (Nat → Int32)) => match u with | (bi2, sq2, nb2, mq2) => [(h0, .inr (9, [.ref ys, .ref yk, .ref yo, .ref yt, .int mk0, .ref yfa, .ref yfe, .int mL, .int mS, .int mM, .ref yro, .ref yhe, .ref ygr, .int mF, .int mC, .int mY, .ref yta, .int (nI (mz)), .int (nI (mf)), .int (nI (mt)), .int mv, .int mw, .ref ywa, .ref ybi, .ref ysi, .ref ynu, .ref ymo])), (ybi, .inl (cI, 4, .inl bi2)), (ysi, .inl (cI, 4, .inl sq2)), (ynu, .inl (cJ, 160, .inr (.inl nb2))), (yt, .inl (cI, 7, .inl mq2))]) A) ([.ref h0, .int 1, .int p1, .int (nI (y_41))] : List Value).toArray s 0 0 A) (F0 m 86 ls []) by
                  exact loop_86 _ 0 nb _ _ _ (Nat.lt_succ_self _) (by omega) (fun j h1 h2 => absurd h1 (by omega)) (fun _ _ => rfl) hP hD hS (lv_sub hl [0, 1, 2, 3, 4] rfl)
                intro n_86
                induction n_86 with
                | zero =>
                  intro i n8 H locs ls hm_86
                  exact absurd hm_86 (Nat.not_lt_zero _)
                | succ n_86 ih_86 =>
                  intro i n8 H locs ls hm_86 hi hf8 hg8 hP hD hS hl
                  refine lv_iload hx hb dX9_sheet_86 (lv_at hl 0 rfl) ?_
                  refine lv_bipush (v := 40) hx hb dX9_sheet_88 (by decide) ?_
                  refine lv_icmp_ge (tgt := 112) hx hb dX9_sheet_90 (by decide) (fun c_45 => ?_) (fun c_45 => ?_)
                  · skip
                    have nc_45 : 40 ≤ i := xn_le (a := 40) (b := i) (by omega) (by omega) c_45
                    refine lv_aload_n hx hb dX9_sheet_112 rfl (lv_at hl 1 rfl) ?_
                    refine xg hF kf_X9_46 hK hP 0 rfl rfl dX9_sheet_113 ?_
                    refine lv_iload_n hx hb dX9_sheet_116 rfl (lv_at hl 2 rfl) ?_
                    refine va_iald hx hb hK hP 2 0 rfl rfl (xin 1 4 (by decide) (by decide)) dX9_sheet_117 ?_
                    refine xl_i (y := f_44 1) (congrArg f_44 rfl) ?_
                    refine xl_i (y := nI (y_41)) (by rw [ef_44]; exact pk_us) ?_
                    exact W.iret (v := nI (y_41)) hx hb hr (fun t ht hW => ⟨⟨nI (y_41), (f_42, f_44, n8, mq), rfl, ⟨p_sheet6 (by decide) (by decide) (by first | exact Or.inl (by assumption) | exact Or.inr (Or.inl (by assumption)) | exact Or.inr (Or.inr (Or.inl (by assumption))) | exact Or.inr (Or.inr (Or.inr (by assumption)))) (nI_pos (by omega)) (x_le40 (by omega)) (by assumption), (by rw [ef_42]; exact pk_us.trans (if_pos ⟨(by first | exact Or.inl (by assumption) | exact Or.inr (Or.inl (by assumption)) | exact Or.inr (Or.inr (Or.inl (by assumption))) | exact Or.inr (Or.inr (Or.inr (by assumption)))), nI_pos (by omega), x_le40 (by omega)⟩).symm), (fun j hj => by rw [ef_42]; exact pk_un hj), (by rw [ef_44]; exact pk_us.trans (congrArg nI (sp_z1 ⟨(by first | exact Or.inl (by assumption) | exact Or.inr (Or.inl (by assumption)) | exact Or.inr (Or.inr (Or.inl (by assumption))) | exact Or.inr (Or.inr (Or.inr (by assumption)))), nI_pos (by omega), x_le40 (by omega)⟩ (by assumption) (by omega)))), (fun j hj => by rw [ef_44]; exact pk_un hj), (fun j hj => (hf8 (40 + j) (by omega) (by omega)).trans (if_pos ⟨(by first | exact Or.inl (by assumption) | exact Or.inr (Or.inl (by assumption)) | exact Or.inr (Or.inr (Or.inl (by assumption))) | exact Or.inr (Or.inr (Or.inr (by assumption)))), nI_pos (by omega), x_le40 (by omega)⟩).symm), (fun j hj => hg8 j hj), hf_44⟩, by rw [ht]; exact hP.sub [0, 1, 2, 3, 4] rfl, hD.sub [0, 1, 2, 3, 4] (by decide +kernel) rfl⟩, hS.F ht⟩) hS.2.2 dX9_sheet_118 hlk
                  · skip
                    have nc_45 : i < 40 := xn_nle (a := 40) (b := i) (by omega) (by omega) c_45
                    refine lv_aload_n hx hb dX9_sheet_93 rfl (lv_at hl 1 rfl) ?_
                    refine xg hF kf_X9_49 hK hP 0 rfl rfl dX9_sheet_94 ?_
                    refine lv_bipush (v := 40) hx hb dX9_sheet_97 (by decide) ?_
                    refine lv_iload_n hx hb dX9_sheet_99 rfl (lv_at hl 2 rfl) ?_
                    refine lv_imul hx hb dX9_sheet_100 ?_
                    refine xl_i (y := 40) (by decide) ?_
                    refine lv_iload hx hb dX9_sheet_101 (lv_at hl 0 rfl) ?_
                    refine lv_iadd hx hb dX9_sheet_103 ?_
                    refine xl_i (y := nI (40 + i)) (nI_add 40 i) ?_
                    refine lv_lconst (v := 0) hx hb dX9_sheet_104 (by decide) ?_
                    refine va_last hx hb hK hP hD hS 3 1 rfl rfl (vp_in_nI (show 40 + i < 160 by omega) (by decide)) dX9_sheet_105 (fun H locs hP hD hS => ?_)
                    rw [nI_clamp (show 40 + i < 2 ^ 31 by omega)] at hP hD
                    obtain ⟨f_46, ef_46⟩ : ∃ g, g = vp_updL n8 (40 + i) 0 := ⟨_, rfl⟩
                    rw [← ef_46] at hP hD
                    have hP : va_P D vwCl [(h0, .inr (9, [.ref ys, .ref yk, .ref yo, .ref yt, .int mk0, .ref yfa, .ref yfe, .int mL, .int mS, .int mM, .ref yro, .ref yhe, .ref ygr, .int mF, .int mC, .int mY, .ref yta, .int (nI (mz)), .int (nI (mf)), .int (nI (mt)), .int mv, .int mw, .ref ywa, .ref ybi, .ref ysi, .ref ynu, .ref ymo])), (ybi, .inl (cI, 4, .inl f_42)), (ysi, .inl (cI, 4, .inl f_44)), (ynu, .inl (cJ, 160, .inr (.inl f_46))), (yt, .inl (cI, 7, .inl mq))] H := hP
                    have hD : va_D A [(h0, .inr (9, [.ref ys, .ref yk, .ref yo, .ref yt, .int mk0, .ref yfa, .ref yfe, .int mL, .int mS, .int mM, .ref yro, .ref yhe, .ref ygr, .int mF, .int mC, .int mY, .ref yta, .int (nI (mz)), .int (nI (mf)), .int (nI (mt)), .int mv, .int mw, .ref ywa, .ref ybi, .ref ysi, .ref ynu, .ref ymo])), (ybi, .inl (cI, 4, .inl f_42)), (ysi, .inl (cI, 4, .inl f_44)), (ynu, .inl (cJ, 160, .inr (.inl f_46))), (yt, .inl (cI, 7, .inl mq))] := hD
                    refine lv_iinc (v := nI (i + 1)) (lv' := [(4, .int (nI (i + 1))), (0, .ref h0), (1, .int 1), (2, .int p1), (3, .int (nI (y_41)))]) hx hb dX9_sheet_106 hl (k := 0) rfl (nI_1 (i)) (by decide) rfl (fun ls hl => ?_)
                    refine lv_goto (tgt := 86) hx hb dX9_sheet_109 (by decide) ?_
                    exact ih_86 (i + 1) f_46 _ _ _ (by omega) (by omega) (sp_fil hf8 ef_46) (sp_fio hg8 (by omega) (by omega) ef_46) (hP.sub [0, 1, 2, 3, 4] rfl) (hD.sub [0, 1, 2, 3, 4] (by decide +kernel) rfl) hS (lv_sub hl [0, 1, 2, 3, 4] rfl)
              · skip
                refine lv_iconst (v := 0) hx hb dX9_sheet_77 (by decide) ?_
                refine lv_goto (tgt := 82) hx hb dX9_sheet_78 (by decide) ?_
                refine va_iast hx hb hK hP hD hS 2 0 rfl rfl (xin 1 4 (by decide) (by decide)) dX9_sheet_82 (fun H locs hP hD hS => ?_)
                obtain ⟨f_47, ef_47⟩ : ∃ g, g = upd sq 1 0 := ⟨_, rfl⟩
                have hP : va_P D vwCl [(h0, .inr (9, [.ref ys, .ref yk, .ref yo, .ref yt, .int mk0, .ref yfa, .ref yfe, .int mL, .int mS, .int mM, .ref yro, .ref yhe, .ref ygr, .int mF, .int mC, .int mY, .ref yta, .int (nI (mz)), .int (nI (mf)), .int (nI (mt)), .int mv, .int mw, .ref ywa, .ref ybi, .ref ysi, .ref ynu, .ref ymo])), (ybi, .inl (cI, 4, .inl f_42)), (ysi, .inl (cI, 4, .inl (upd sq 1 0))), (ynu, .inl (cJ, 160, .inr (.inl nb))), (yt, .inl (cI, 7, .inl mq))] H := hP
                have hD : va_D A [(h0, .inr (9, [.ref ys, .ref yk, .ref yo, .ref yt, .int mk0, .ref yfa, .ref yfe, .int mL, .int mS, .int mM, .ref yro, .ref yhe, .ref ygr, .int mF, .int mC, .int mY, .ref yta, .int (nI (mz)), .int (nI (mf)), .int (nI (mt)), .int mv, .int mw, .ref ywa, .ref ybi, .ref ysi, .ref ynu, .ref ymo])), (ybi, .inl (cI, 4, .inl f_42)), (ysi, .inl (cI, 4, .inl (upd sq 1 0))), (ynu, .inl (cJ, 160, .inr (.inl nb))), (yt, .inl (cI, 7, .inl mq))] := hD
                rw [← ef_47] at hP hD
                have hf_47 : BA 4 41 f_47 := by rw [ef_47]; exact BA.upd hsq (show 0 < 41 by omega)
                have hP : va_P D vwCl [(h0, .inr (9, [.ref ys, .ref yk, .ref yo, .ref yt, .int mk0, .ref yfa, .ref yfe, .int mL, .int mS, .int mM, .ref yro, .ref yhe, .ref ygr, .int mF, .int mC, .int mY, .ref yta, .int (nI (mz)), .int (nI (mf)), .int (nI (mt)), .int mv, .int mw, .ref ywa, .ref ybi, .ref ysi, .ref ynu, .ref ymo])), (ybi, .inl (cI, 4, .inl f_42)), (ysi, .inl (cI, 4, .inl f_47)), (ynu, .inl (cJ, 160, .inr (.inl nb))), (yt, .inl (cI, 7, .inl mq))] H := hP
                have hD : va_D A [(h0, .inr (9, [.ref ys, .ref yk, .ref yo, .ref yt, .int mk0, .ref yfa, .ref yfe, .int mL, .int mS, .int mM, .ref yro, .ref yhe, .ref ygr, .int mF, .int mC, .int mY, .ref yta, .int (nI (mz)), .int (nI (mf)), .int (nI (mt)), .int mv, .int mw, .ref ywa, .ref ybi, .ref ysi, .ref ynu, .ref ymo])), (ybi, .inl (cI, 4, .inl f_42)), (ysi, .inl (cI, 4, .inl f_47)), (ynu, .inl (cJ, 160, .inr (.inl nb))), (yt, .inl (cI, 7, .inl mq))] := hD
                refine lv_iconst (v := 0) hx hb dX9_sheet_83 (by decide) ?_
                refine lv_istore (lv' := [(4, .int 0), (0, .ref h0), (1, .int 1), (2, .int p1), (3, .int (nI (y_41)))]) hx hb dX9_sheet_84 hl (by decide) rfl (fun ls hl => ?_)
                suffices loop_86 : ∀ (n_86 : Nat) (i : Nat) (n8 : Nat → Int64) (H : Heap) (locs : List Loc) (ls : Array Slot), 40 - i < n_86 → (i ≤ 40) → (∀ j, 40 ≤ j → j < 40 + i → n8 j = 0) → (∀ j, j < 40 ∨ 80 ≤ j → n8 j = nb j) → va_P D vwCl [(h0, .inr (9, [.ref ys, .ref yk, .ref yo, .ref yt, .int mk0, .ref yfa, .ref yfe, .int mL, .int mS, .int mM, .ref yro, .ref yhe, .ref ygr, .int mF, .int mC, .int mY, .ref yta, .int (nI (mz)), .int (nI (mf)), .int (nI (mt)), .int mv, .int mw, .ref ywa, .ref ybi, .ref ysi, .ref ynu, .ref ymo])), (ybi, .inl (cI, 4, .inl f_42)), (ysi, .inl (cI, 4, .inl f_47)), (ynu, .inl (cJ, 160, .inr (.inl n8))), (yt, .inl (cI, 7, .inl mq))] H → va_D A [(h0, .inr (9, [.ref ys, .ref yk, .ref yo, .ref yt, .int mk0, .ref yfa, .ref yfe, .int mL, .int mS, .int mM, .ref yro, .ref yhe, .ref ygr, .int mF, .int mC, .int mY, .ref yta, .int (nI (mz)), .int (nI (mf)), .int (nI (mt)), .int mv, .int mw, .ref ywa, .ref ybi, .ref ysi, .ref ynu, .ref ymo])), (ybi, .inl (cI, 4, .inl f_42)), (ysi, .inl (cI, 4, .inl f_47)), (ynu, .inl (cJ, 160, .inr (.inl n8))), (yt, .inl (cI, 7, .inl mq))] → va_S A s.heap H locs → lv_has ls 5 [(4, .int (nI (i))), (0, .ref h0), (1, .int 1), (2, .int p1), (3, .int (nI (y_41)))] → W p l e ({ frames := 2, cells := 0, slots := 0, locals := 45 }) s m ([.ref h0, .int 1, .int p1, .int (nI (y_41))] : List Value).toArray below meth c H locs 0 0 (MQ below (XQi (fun (r : Int32) (u : (Nat → Int32) × (Nat → Int32) × (Nat → Int64) × (Nat → Int32)) => match u with | (bi2, sq2, nb2, mq2) => ((r = a_sheet 1 p1 (nI (y_41)))) ∧ (bi2 1 = sp_sb p1 (nI (y_41)) (bi 1)) ∧ (∀ j, j ≠ 1 → bi2 j = bi j) ∧ (sq2 1 = nI (sp_sz p1 (nI (y_41)) zq)) ∧ (∀ j, j ≠ 1 → sq2 j = sq j) ∧ (∀ j, j < 40 → nb2 (40 + j) = sp_sn p1 (nI (y_41)) (nb (40 + j))) ∧ (∀ j, j < 40 ∨ 80 ≤ j → nb2 j = nb j) ∧ (BA 4 41 sq2)) D (fun (u : (Nat → Int32) × (Nat → Int32) × (Nat → Int64) × (Nat → Int32)) => match u with | (bi2, sq2, nb2, mq2) => [(h0, .inr (9, [.ref ys, .ref yk, .ref yo, .ref yt, .int mk0, .ref yfa, .ref yfe, .int mL, .int mS, .int mM, .ref yro, .ref yhe, .ref ygr, .int mF, .int mC, .int mY, .ref yta, .int (nI (mz)), .int (nI (mf)), .int (nI (mt)), .int mv, .int mw, .ref ywa, .ref ybi, .ref ysi, .ref ynu, .ref ymo])), (ybi, .inl (cI, 4, .inl bi2)), (ysi, .inl (cI, 4, .inl sq2)), (ynu, .inl (cJ, 160, .inr (.inl nb2))), (yt, .inl (cI, 7, .inl mq2))]) A) ([.ref h0, .int 1, .int p1, .int (nI (y_41))] : List Value).toArray s 0 0 A) (F0 m 86 ls []) by
                  exact loop_86 _ 0 nb _ _ _ (Nat.lt_succ_self _) (by omega) (fun j h1 h2 => absurd h1 (by omega)) (fun _ _ => rfl) hP hD hS (lv_sub hl [0, 1, 2, 3, 4] rfl)
                intro n_86
                induction n_86 with
                | zero =>
                  intro i n8 H locs ls hm_86
                  exact absurd hm_86 (Nat.not_lt_zero _)
                | succ n_86 ih_86 =>
                  intro i n8 H locs ls hm_86 hi hf8 hg8 hP hD hS hl
                  refine lv_iload hx hb dX9_sheet_86 (lv_at hl 0 rfl) ?_
                  refine lv_bipush (v := 40) hx hb dX9_sheet_88 (by decide) ?_
                  refine lv_icmp_ge (tgt := 112) hx hb dX9_sheet_90 (by decide) (fun c_48 => ?_) (fun c_48 => ?_)
                  · skip
                    have nc_48 : 40 ≤ i := xn_le (a := 40) (b := i) (by omega) (by omega) c_48
                    refine lv_aload_n hx hb dX9_sheet_112 rfl (lv_at hl 1 rfl) ?_
                    refine xg hF kf_X9_46 hK hP 0 rfl rfl dX9_sheet_113 ?_
                    refine lv_iload_n hx hb dX9_sheet_116 rfl (lv_at hl 2 rfl) ?_
                    refine va_iald hx hb hK hP 2 0 rfl rfl (xin 1 4 (by decide) (by decide)) dX9_sheet_117 ?_
                    refine xl_i (y := f_47 1) (congrArg f_47 rfl) ?_
                    refine xl_i (y := 0) (by rw [ef_47]; exact pk_us) ?_
                    exact W.iret (v := 0) hx hb hr (fun t ht hW => ⟨⟨0, (f_42, f_47, n8, mq), rfl, ⟨p_sheet5 (by decide) (by decide) c_43 (nI_pos (by omega)) (x_le40 (by omega)), (by rw [ef_42]; exact pk_us.trans (if_pos ⟨(by first | exact Or.inl (by assumption) | exact Or.inr (Or.inl (by assumption)) | exact Or.inr (Or.inr (Or.inl (by assumption))) | exact Or.inr (Or.inr (Or.inr (by assumption)))), nI_pos (by omega), x_le40 (by omega)⟩).symm), (fun j hj => by rw [ef_42]; exact pk_un hj), (by rw [ef_47]; exact pk_us.trans (congrArg nI (sp_z0 ⟨(by first | exact Or.inl (by assumption) | exact Or.inr (Or.inl (by assumption)) | exact Or.inr (Or.inr (Or.inl (by assumption))) | exact Or.inr (Or.inr (Or.inr (by assumption)))), nI_pos (by omega), x_le40 (by omega)⟩ c_43))), (fun j hj => by rw [ef_47]; exact pk_un hj), (fun j hj => (hf8 (40 + j) (by omega) (by omega)).trans (if_pos ⟨(by first | exact Or.inl (by assumption) | exact Or.inr (Or.inl (by assumption)) | exact Or.inr (Or.inr (Or.inl (by assumption))) | exact Or.inr (Or.inr (Or.inr (by assumption)))), nI_pos (by omega), x_le40 (by omega)⟩).symm), (fun j hj => hg8 j hj), hf_47⟩, by rw [ht]; exact hP.sub [0, 1, 2, 3, 4] rfl, hD.sub [0, 1, 2, 3, 4] (by decide +kernel) rfl⟩, hS.F ht⟩) hS.2.2 dX9_sheet_118 hlk
                  · skip
                    have nc_48 : i < 40 := xn_nle (a := 40) (b := i) (by omega) (by omega) c_48
                    refine lv_aload_n hx hb dX9_sheet_93 rfl (lv_at hl 1 rfl) ?_
                    refine xg hF kf_X9_49 hK hP 0 rfl rfl dX9_sheet_94 ?_
                    refine lv_bipush (v := 40) hx hb dX9_sheet_97 (by decide) ?_
                    refine lv_iload_n hx hb dX9_sheet_99 rfl (lv_at hl 2 rfl) ?_
                    refine lv_imul hx hb dX9_sheet_100 ?_
                    refine xl_i (y := 40) (by decide) ?_
                    refine lv_iload hx hb dX9_sheet_101 (lv_at hl 0 rfl) ?_
                    refine lv_iadd hx hb dX9_sheet_103 ?_
                    refine xl_i (y := nI (40 + i)) (nI_add 40 i) ?_
                    refine lv_lconst (v := 0) hx hb dX9_sheet_104 (by decide) ?_
                    refine va_last hx hb hK hP hD hS 3 1 rfl rfl (vp_in_nI (show 40 + i < 160 by omega) (by decide)) dX9_sheet_105 (fun H locs hP hD hS => ?_)
                    rw [nI_clamp (show 40 + i < 2 ^ 31 by omega)] at hP hD
                    obtain ⟨f_49, ef_49⟩ : ∃ g, g = vp_updL n8 (40 + i) 0 := ⟨_, rfl⟩
                    rw [← ef_49] at hP hD
                    have hP : va_P D vwCl [(h0, .inr (9, [.ref ys, .ref yk, .ref yo, .ref yt, .int mk0, .ref yfa, .ref yfe, .int mL, .int mS, .int mM, .ref yro, .ref yhe, .ref ygr, .int mF, .int mC, .int mY, .ref yta, .int (nI (mz)), .int (nI (mf)), .int (nI (mt)), .int mv, .int mw, .ref ywa, .ref ybi, .ref ysi, .ref ynu, .ref ymo])), (ybi, .inl (cI, 4, .inl f_42)), (ysi, .inl (cI, 4, .inl f_47)), (ynu, .inl (cJ, 160, .inr (.inl f_49))), (yt, .inl (cI, 7, .inl mq))] H := hP
                    have hD : va_D A [(h0, .inr (9, [.ref ys, .ref yk, .ref yo, .ref yt, .int mk0, .ref yfa, .ref yfe, .int mL, .int mS, .int mM, .ref yro, .ref yhe, .ref ygr, .int mF, .int mC, .int mY, .ref yta, .int (nI (mz)), .int (nI (mf)), .int (nI (mt)), .int mv, .int mw, .ref ywa, .ref ybi, .ref ysi, .ref ynu, .ref ymo])), (ybi, .inl (cI, 4, .inl f_42)), (ysi, .inl (cI, 4, .inl f_47)), (ynu, .inl (cJ, 160, .inr (.inl f_49))), (yt, .inl (cI, 7, .inl mq))] := hD
                    refine lv_iinc (v := nI (i + 1)) (lv' := [(4, .int (nI (i + 1))), (0, .ref h0), (1, .int 1), (2, .int p1), (3, .int (nI (y_41)))]) hx hb dX9_sheet_106 hl (k := 0) rfl (nI_1 (i)) (by decide) rfl (fun ls hl => ?_)
                    refine lv_goto (tgt := 86) hx hb dX9_sheet_109 (by decide) ?_
                    exact ih_86 (i + 1) f_49 _ _ _ (by omega) (by omega) (sp_fil hf8 ef_49) (sp_fio hg8 (by omega) (by omega) ef_49) (hP.sub [0, 1, 2, 3, 4] rfl) (hD.sub [0, 1, 2, 3, 4] (by decide +kernel) rfl) hS (lv_sub hl [0, 1, 2, 3, 4] rfl)
            · skip
              refine lv_aload_n hx hb dX9_sheet_54 rfl (lv_at hl 0 rfl) ?_
              refine lv_ldc (v := (-1000000001)) hx hb hown (hu _ uw648) dX9_sheet_55 ?_
              refine xc_Vi (wr := [(ybi, .inl (cI, 4, .inl bi)), (ysi, .inl (cI, 4, .inl sq)), (ynu, .inl (cJ, 160, .inr (.inl nb)))]) hF (c_X9_finds_B l D cI cJ cZ cS ta sa sv s.heap.size h0 ys yk yo yt mk0 yfa yfe mL mS mM yro yhe ygr mF mC mY yta mz mf mt mv mw ywa ybi ysi ynu ymo mq ) kv_X9_70 ⟨rfl, rfl, Nat.le_of_ble_eq_true rfl, Nat.le_of_ble_eq_true rfl⟩ ⟨Nat.le_of_ble_eq_true rfl, Nat.le_of_ble_eq_true rfl⟩ hK hN hZ hP hD hS hA [0, 4] [1, 2, 3] rfl rfl rfl rfl (by decide) 0 rfl rfl rfl rfl hl.1 rfl (Nat.le_of_ble_eq_true rfl) dX9_sheet_57 (fun r_50 u_r_50 H locs hw_r_50 hP hD hS => ?_)
              obtain ⟨mq2_51, rfl⟩ : ∃ z, z = u_r_50 := ⟨_, rfl⟩
              try dsimp only at hw_r_50
              have hP : va_P D vwCl [(ybi, .inl (cI, 4, .inl bi)), (ysi, .inl (cI, 4, .inl sq)), (ynu, .inl (cJ, 160, .inr (.inl nb))), (h0, .inr (9, [.ref ys, .ref yk, .ref yo, .ref yt, .int mk0, .ref yfa, .ref yfe, .int mL, .int mS, .int mM, .ref yro, .ref yhe, .ref ygr, .int mF, .int mC, .int mY, .ref yta, .int (nI (mz)), .int (nI (mf)), .int (nI (mt)), .int mv, .int mw, .ref ywa, .ref ybi, .ref ysi, .ref ynu, .ref ymo])), (yt, .inl (cI, 7, .inl mq2_51))] H := hP
              have hD : va_D A [(ybi, .inl (cI, 4, .inl bi)), (ysi, .inl (cI, 4, .inl sq)), (ynu, .inl (cJ, 160, .inr (.inl nb))), (h0, .inr (9, [.ref ys, .ref yk, .ref yo, .ref yt, .int mk0, .ref yfa, .ref yfe, .int mL, .int mS, .int mM, .ref yro, .ref yhe, .ref ygr, .int mF, .int mC, .int mY, .ref yta, .int (nI (mz)), .int (nI (mf)), .int (nI (mt)), .int mv, .int mw, .ref ywa, .ref ybi, .ref ysi, .ref ynu, .ref ymo])), (yt, .inl (cI, 7, .inl mq2_51))] := hD
              subst hw_r_50
              exact W.iret (v := (-1000000001)) hx hb hr (fun t ht hW => ⟨⟨(-1000000001), (bi, sq, nb, mq2_51), rfl, ⟨p_sheet4 (by decide) (by decide) (by first | exact Or.inl (by assumption) | exact Or.inr (Or.inl (by assumption)) | exact Or.inr (Or.inr (Or.inl (by assumption))) | exact Or.inr (Or.inr (Or.inr (by assumption)))) (fun h => absurd c_39 (Int32.not_le.mpr h)) (xlt c_40), (if_neg (sp_n4 (xlt c_40))).symm, (fun _ _ => rfl), (ez.trans (congrArg nI (if_neg (sp_n4 (xlt c_40))).symm)), (fun _ _ => rfl), (fun j hj => (if_neg (sp_n4 (xlt c_40))).symm), (fun _ _ => rfl), hsq⟩, by rw [ht]; exact hP.sub [3, 0, 1, 2, 4] rfl, hD.sub [3, 0, 1, 2, 4] (by decide +kernel) rfl⟩, hS.F ht⟩) hS.2.2 dX9_sheet_60 hlk
          · skip
            refine lv_aload_n hx hb dX9_sheet_40 rfl (lv_at hl 0 rfl) ?_
            refine lv_ldcw (v := (-1000000007)) hx hb hown (hu _ uw923) dX9_sheet_41 ?_
            refine xc_Vi (wr := [(ybi, .inl (cI, 4, .inl bi)), (ysi, .inl (cI, 4, .inl sq)), (ynu, .inl (cJ, 160, .inr (.inl nb)))]) hF (c_X9_finds_S l D cI cJ cZ cS ta sa sv s.heap.size h0 ys yk yo yt mk0 yfa yfe mL mS mM yro yhe ygr mF mC mY yta mz mf mt mv mw ywa ybi ysi ynu ymo mq ) kv_X9_70 ⟨rfl, rfl, Nat.le_of_ble_eq_true rfl, Nat.le_of_ble_eq_true rfl⟩ ⟨Nat.le_of_ble_eq_true rfl, Nat.le_of_ble_eq_true rfl⟩ hK hN hZ hP hD hS hA [0, 4] [1, 2, 3] rfl rfl rfl rfl (by decide) 0 rfl rfl rfl rfl hl.1 rfl (Nat.le_of_ble_eq_true rfl) dX9_sheet_44 (fun r_52 u_r_52 H locs hw_r_52 hP hD hS => ?_)
            obtain ⟨mq2_53, rfl⟩ : ∃ z, z = u_r_52 := ⟨_, rfl⟩
            try dsimp only at hw_r_52
            have hP : va_P D vwCl [(ybi, .inl (cI, 4, .inl bi)), (ysi, .inl (cI, 4, .inl sq)), (ynu, .inl (cJ, 160, .inr (.inl nb))), (h0, .inr (9, [.ref ys, .ref yk, .ref yo, .ref yt, .int mk0, .ref yfa, .ref yfe, .int mL, .int mS, .int mM, .ref yro, .ref yhe, .ref ygr, .int mF, .int mC, .int mY, .ref yta, .int (nI (mz)), .int (nI (mf)), .int (nI (mt)), .int mv, .int mw, .ref ywa, .ref ybi, .ref ysi, .ref ynu, .ref ymo])), (yt, .inl (cI, 7, .inl mq2_53))] H := hP
            have hD : va_D A [(ybi, .inl (cI, 4, .inl bi)), (ysi, .inl (cI, 4, .inl sq)), (ynu, .inl (cJ, 160, .inr (.inl nb))), (h0, .inr (9, [.ref ys, .ref yk, .ref yo, .ref yt, .int mk0, .ref yfa, .ref yfe, .int mL, .int mS, .int mM, .ref yro, .ref yhe, .ref ygr, .int mF, .int mC, .int mY, .ref yta, .int (nI (mz)), .int (nI (mf)), .int (nI (mt)), .int mv, .int mw, .ref ywa, .ref ybi, .ref ysi, .ref ynu, .ref ymo])), (yt, .inl (cI, 7, .inl mq2_53))] := hD
            subst hw_r_52
            exact W.iret (v := (-1000000007)) hx hb hr (fun t ht hW => ⟨⟨(-1000000007), (bi, sq, nb, mq2_53), rfl, ⟨p_sheet3 (by decide) (by decide) (by first | exact Or.inl (by assumption) | exact Or.inr (Or.inl (by assumption)) | exact Or.inr (Or.inr (Or.inl (by assumption))) | exact Or.inr (Or.inr (Or.inr (by assumption)))) (xlt c_39), (if_neg (sp_n3 (xlt c_39))).symm, (fun _ _ => rfl), (ez.trans (congrArg nI (if_neg (sp_n3 (xlt c_39))).symm)), (fun _ _ => rfl), (fun j hj => (if_neg (sp_n3 (xlt c_39))).symm), (fun _ _ => rfl), hsq⟩, by rw [ht]; exact hP.sub [3, 0, 1, 2, 4] rfl, hD.sub [3, 0, 1, 2, 4] (by decide +kernel) rfl⟩, hS.F ht⟩) hS.2.2 dX9_sheet_47 hlk
        · skip
          refine lv_iload_n hx hb dX9_sheet_23 rfl (lv_at hl 2 rfl) ?_
          refine lv_bipush (v := 64) hx hb dX9_sheet_24 (by decide) ?_
          refine lv_icmp_eq (tgt := 36) hx hb dX9_sheet_26 (by decide) (fun c_54 => ?_) (fun c_54 => ?_)
          · skip
            refine lv_iload_n hx hb dX9_sheet_36 rfl (lv_at hl 3 rfl) ?_
            refine lv_if_ge (tgt := 48) hx hb dX9_sheet_37 (by decide) (fun c_55 => ?_) (fun c_55 => ?_)
            · skip
              refine lv_iload_n hx hb dX9_sheet_48 rfl (lv_at hl 3 rfl) ?_
              refine lv_bipush (v := 40) hx hb dX9_sheet_49 (by decide) ?_
              refine lv_icmp_le (tgt := 61) hx hb dX9_sheet_51 (by decide) (fun c_56 => ?_) (fun c_56 => ?_)
              · skip
                obtain ⟨y_57, hy_57, rfl⟩ := xrange2 (w := 40) (by omega) c_55 c_56
                refine lv_aload_n hx hb dX9_sheet_61 rfl (lv_at hl 0 rfl) ?_
                refine xg hF kf_X9_43 hK hP 0 rfl rfl dX9_sheet_62 ?_
                refine lv_iload_n hx hb dX9_sheet_65 rfl (lv_at hl 1 rfl) ?_
                refine lv_iload_n hx hb dX9_sheet_66 rfl (lv_at hl 2 rfl) ?_
                refine va_iast hx hb hK hP hD hS 1 0 rfl rfl (xin 1 4 (by decide) (by decide)) dX9_sheet_67 (fun H locs hP hD hS => ?_)
                obtain ⟨f_58, ef_58⟩ : ∃ g, g = upd bi 1 p1 := ⟨_, rfl⟩
                have hP : va_P D vwCl [(h0, .inr (9, [.ref ys, .ref yk, .ref yo, .ref yt, .int mk0, .ref yfa, .ref yfe, .int mL, .int mS, .int mM, .ref yro, .ref yhe, .ref ygr, .int mF, .int mC, .int mY, .ref yta, .int (nI (mz)), .int (nI (mf)), .int (nI (mt)), .int mv, .int mw, .ref ywa, .ref ybi, .ref ysi, .ref ynu, .ref ymo])), (ybi, .inl (cI, 4, .inl (upd bi 1 p1))), (ysi, .inl (cI, 4, .inl sq)), (ynu, .inl (cJ, 160, .inr (.inl nb))), (yt, .inl (cI, 7, .inl mq))] H := hP
                have hD : va_D A [(h0, .inr (9, [.ref ys, .ref yk, .ref yo, .ref yt, .int mk0, .ref yfa, .ref yfe, .int mL, .int mS, .int mM, .ref yro, .ref yhe, .ref ygr, .int mF, .int mC, .int mY, .ref yta, .int (nI (mz)), .int (nI (mf)), .int (nI (mt)), .int mv, .int mw, .ref ywa, .ref ybi, .ref ysi, .ref ynu, .ref ymo])), (ybi, .inl (cI, 4, .inl (upd bi 1 p1))), (ysi, .inl (cI, 4, .inl sq)), (ynu, .inl (cJ, 160, .inr (.inl nb))), (yt, .inl (cI, 7, .inl mq))] := hD
                rw [← ef_58] at hP hD
                have hP : va_P D vwCl [(h0, .inr (9, [.ref ys, .ref yk, .ref yo, .ref yt, .int mk0, .ref yfa, .ref yfe, .int mL, .int mS, .int mM, .ref yro, .ref yhe, .ref ygr, .int mF, .int mC, .int mY, .ref yta, .int (nI (mz)), .int (nI (mf)), .int (nI (mt)), .int mv, .int mw, .ref ywa, .ref ybi, .ref ysi, .ref ynu, .ref ymo])), (ybi, .inl (cI, 4, .inl f_58)), (ysi, .inl (cI, 4, .inl sq)), (ynu, .inl (cJ, 160, .inr (.inl nb))), (yt, .inl (cI, 7, .inl mq))] H := hP
                have hD : va_D A [(h0, .inr (9, [.ref ys, .ref yk, .ref yo, .ref yt, .int mk0, .ref yfa, .ref yfe, .int mL, .int mS, .int mM, .ref yro, .ref yhe, .ref ygr, .int mF, .int mC, .int mY, .ref yta, .int (nI (mz)), .int (nI (mf)), .int (nI (mt)), .int mv, .int mw, .ref ywa, .ref ybi, .ref ysi, .ref ynu, .ref ymo])), (ybi, .inl (cI, 4, .inl f_58)), (ysi, .inl (cI, 4, .inl sq)), (ynu, .inl (cJ, 160, .inr (.inl nb))), (yt, .inl (cI, 7, .inl mq))] := hD
                refine lv_aload_n hx hb dX9_sheet_68 rfl (lv_at hl 0 rfl) ?_
                refine xg hF kf_X9_46 hK hP 0 rfl rfl dX9_sheet_69 ?_
                refine lv_iload_n hx hb dX9_sheet_72 rfl (lv_at hl 1 rfl) ?_
                refine lv_iload_n hx hb dX9_sheet_73 rfl (lv_at hl 2 rfl) ?_
                refine lv_if_ne (tgt := 81) hx hb dX9_sheet_74 (by decide) (fun c_59 => ?_) (fun c_59 => ?_)
                · skip
                  refine lv_iload_n hx hb dX9_sheet_81 rfl (lv_at hl 3 rfl) ?_
                  refine va_iast hx hb hK hP hD hS 2 0 rfl rfl (xin 1 4 (by decide) (by decide)) dX9_sheet_82 (fun H locs hP hD hS => ?_)
                  obtain ⟨f_60, ef_60⟩ : ∃ g, g = upd sq 1 (nI (y_57)) := ⟨_, rfl⟩
                  have hP : va_P D vwCl [(h0, .inr (9, [.ref ys, .ref yk, .ref yo, .ref yt, .int mk0, .ref yfa, .ref yfe, .int mL, .int mS, .int mM, .ref yro, .ref yhe, .ref ygr, .int mF, .int mC, .int mY, .ref yta, .int (nI (mz)), .int (nI (mf)), .int (nI (mt)), .int mv, .int mw, .ref ywa, .ref ybi, .ref ysi, .ref ynu, .ref ymo])), (ybi, .inl (cI, 4, .inl f_58)), (ysi, .inl (cI, 4, .inl (upd sq 1 (nI (y_57))))), (ynu, .inl (cJ, 160, .inr (.inl nb))), (yt, .inl (cI, 7, .inl mq))] H := hP
                  have hD : va_D A [(h0, .inr (9, [.ref ys, .ref yk, .ref yo, .ref yt, .int mk0, .ref yfa, .ref yfe, .int mL, .int mS, .int mM, .ref yro, .ref yhe, .ref ygr, .int mF, .int mC, .int mY, .ref yta, .int (nI (mz)), .int (nI (mf)), .int (nI (mt)), .int mv, .int mw, .ref ywa, .ref ybi, .ref ysi, .ref ynu, .ref ymo])), (ybi, .inl (cI, 4, .inl f_58)), (ysi, .inl (cI, 4, .inl (upd sq 1 (nI (y_57))))), (ynu, .inl (cJ, 160, .inr (.inl nb))), (yt, .inl (cI, 7, .inl mq))] := hD
                  rw [← ef_60] at hP hD
                  have hf_60 : BA 4 41 f_60 := by rw [ef_60]; exact BA.upd hsq (show y_57 < 41 by omega)
                  have hP : va_P D vwCl [(h0, .inr (9, [.ref ys, .ref yk, .ref yo, .ref yt, .int mk0, .ref yfa, .ref yfe, .int mL, .int mS, .int mM, .ref yro, .ref yhe, .ref ygr, .int mF, .int mC, .int mY, .ref yta, .int (nI (mz)), .int (nI (mf)), .int (nI (mt)), .int mv, .int mw, .ref ywa, .ref ybi, .ref ysi, .ref ynu, .ref ymo])), (ybi, .inl (cI, 4, .inl f_58)), (ysi, .inl (cI, 4, .inl f_60)), (ynu, .inl (cJ, 160, .inr (.inl nb))), (yt, .inl (cI, 7, .inl mq))] H := hP
                  have hD : va_D A [(h0, .inr (9, [.ref ys, .ref yk, .ref yo, .ref yt, .int mk0, .ref yfa, .ref yfe, .int mL, .int mS, .int mM, .ref yro, .ref yhe, .ref ygr, .int mF, .int mC, .int mY, .ref yta, .int (nI (mz)), .int (nI (mf)), .int (nI (mt)), .int mv, .int mw, .ref ywa, .ref ybi, .ref ysi, .ref ynu, .ref ymo])), (ybi, .inl (cI, 4, .inl f_58)), (ysi, .inl (cI, 4, .inl f_60)), (ynu, .inl (cJ, 160, .inr (.inl nb))), (yt, .inl (cI, 7, .inl mq))] := hD
                  refine lv_iconst (v := 0) hx hb dX9_sheet_83 (by decide) ?_
                  refine lv_istore (lv' := [(4, .int 0), (0, .ref h0), (1, .int 1), (2, .int p1), (3, .int (nI (y_57)))]) hx hb dX9_sheet_84 hl (by decide) rfl (fun ls hl => ?_)
                  suffices loop_86 : ∀ (n_86 : Nat) (i : Nat) (n8 : Nat → Int64) (H : Heap) (locs : List Loc) (ls : Array Slot), 40 - i < n_86 → (i ≤ 40) → (∀ j, 40 ≤ j → j < 40 + i → n8 j = 0) → (∀ j, j < 40 ∨ 80 ≤ j → n8 j = nb j) → va_P D vwCl [(h0, .inr (9, [.ref ys, .ref yk, .ref yo, .ref yt, .int mk0, .ref yfa, .ref yfe, .int mL, .int mS, .int mM, .ref yro, .ref yhe, .ref ygr, .int mF, .int mC, .int mY, .ref yta, .int (nI (mz)), .int (nI (mf)), .int (nI (mt)), .int mv, .int mw, .ref ywa, .ref ybi, .ref ysi, .ref ynu, .ref ymo])), (ybi, .inl (cI, 4, .inl f_58)), (ysi, .inl (cI, 4, .inl f_60)), (ynu, .inl (cJ, 160, .inr (.inl n8))), (yt, .inl (cI, 7, .inl mq))] H → va_D A [(h0, .inr (9, [.ref ys, .ref yk, .ref yo, .ref yt, .int mk0, .ref yfa, .ref yfe, .int mL, .int mS, .int mM, .ref yro, .ref yhe, .ref ygr, .int mF, .int mC, .int mY, .ref yta, .int (nI (mz)), .int (nI (mf)), .int (nI (mt)), .int mv, .int mw, .ref ywa, .ref ybi, .ref ysi, .ref ynu, .ref ymo])), (ybi, .inl (cI, 4, .inl f_58)), (ysi, .inl (cI, 4, .inl f_60)), (ynu, .inl (cJ, 160, .inr (.inl n8))), (yt, .inl (cI, 7, .inl mq))] → va_S A s.heap H locs → lv_has ls 5 [(4, .int (nI (i))), (0, .ref h0), (1, .int 1), (2, .int p1), (3, .int (nI (y_57)))] → W p l e ({ frames := 2, cells := 0, slots := 0, locals := 45 }) s m ([.ref h0, .int 1, .int p1, .int (nI (y_57))] : List Value).toArray below meth c H locs 0 0 (MQ below (XQi (fun (r : Int32) (u : (Nat → Int32) × (Nat → Int32) × (Nat → Int64) × (Nat → Int32)) => match u with | (bi2, sq2, nb2, mq2) => ((r = a_sheet 1 p1 (nI (y_57)))) ∧ (bi2 1 = sp_sb p1 (nI (y_57)) (bi 1)) ∧ (∀ j, j ≠ 1 → bi2 j = bi j) ∧ (sq2 1 = nI (sp_sz p1 (nI (y_57)) zq)) ∧ (∀ j, j ≠ 1 → sq2 j = sq j) ∧ (∀ j, j < 40 → nb2 (40 + j) = sp_sn p1 (nI (y_57)) (nb (40 + j))) ∧ (∀ j, j < 40 ∨ 80 ≤ j → nb2 j = nb j) ∧ (BA 4 41 sq2)) D (fun (u : (Nat → Int32) × (Nat → Int32) × (Nat → Int64) × (Nat → Int32)) => match u with | (bi2, sq2, nb2, mq2) => [(h0, .inr (9, [.ref ys, .ref yk, .ref yo, .ref yt, .int mk0, .ref yfa, .ref yfe, .int mL, .int mS, .int mM, .ref yro, .ref yhe, .ref ygr, .int mF, .int mC, .int mY, .ref yta, .int (nI (mz)), .int (nI (mf)), .int (nI (mt)), .int mv, .int mw, .ref ywa, .ref ybi, .ref ysi, .ref ynu, .ref ymo])), (ybi, .inl (cI, 4, .inl bi2)), (ysi, .inl (cI, 4, .inl sq2)), (ynu, .inl (cJ, 160, .inr (.inl nb2))), (yt, .inl (cI, 7, .inl mq2))]) A) ([.ref h0, .int 1, .int p1, .int (nI (y_57))] : List Value).toArray s 0 0 A) (F0 m 86 ls []) by
                    exact loop_86 _ 0 nb _ _ _ (Nat.lt_succ_self _) (by omega) (fun j h1 h2 => absurd h1 (by omega)) (fun _ _ => rfl) hP hD hS (lv_sub hl [0, 1, 2, 3, 4] rfl)
                  intro n_86
                  induction n_86 with
                  | zero =>
                    intro i n8 H locs ls hm_86
                    exact absurd hm_86 (Nat.not_lt_zero _)
                  | succ n_86 ih_86 =>
                    intro i n8 H locs ls hm_86 hi hf8 hg8 hP hD hS hl
                    refine lv_iload hx hb dX9_sheet_86 (lv_at hl 0 rfl) ?_
                    refine lv_bipush (v := 40) hx hb dX9_sheet_88 (by decide) ?_
                    refine lv_icmp_ge (tgt := 112) hx hb dX9_sheet_90 (by decide) (fun c_61 => ?_) (fun c_61 => ?_)
                    · skip
                      have nc_61 : 40 ≤ i := xn_le (a := 40) (b := i) (by omega) (by omega) c_61
                      refine lv_aload_n hx hb dX9_sheet_112 rfl (lv_at hl 1 rfl) ?_
                      refine xg hF kf_X9_46 hK hP 0 rfl rfl dX9_sheet_113 ?_
                      refine lv_iload_n hx hb dX9_sheet_116 rfl (lv_at hl 2 rfl) ?_
                      refine va_iald hx hb hK hP 2 0 rfl rfl (xin 1 4 (by decide) (by decide)) dX9_sheet_117 ?_
                      refine xl_i (y := f_60 1) (congrArg f_60 rfl) ?_
                      refine xl_i (y := nI (y_57)) (by rw [ef_60]; exact pk_us) ?_
                      exact W.iret (v := nI (y_57)) hx hb hr (fun t ht hW => ⟨⟨nI (y_57), (f_58, f_60, n8, mq), rfl, ⟨p_sheet6 (by decide) (by decide) (by first | exact Or.inl (by assumption) | exact Or.inr (Or.inl (by assumption)) | exact Or.inr (Or.inr (Or.inl (by assumption))) | exact Or.inr (Or.inr (Or.inr (by assumption)))) (nI_pos (by omega)) (x_le40 (by omega)) (by assumption), (by rw [ef_58]; exact pk_us.trans (if_pos ⟨(by first | exact Or.inl (by assumption) | exact Or.inr (Or.inl (by assumption)) | exact Or.inr (Or.inr (Or.inl (by assumption))) | exact Or.inr (Or.inr (Or.inr (by assumption)))), nI_pos (by omega), x_le40 (by omega)⟩).symm), (fun j hj => by rw [ef_58]; exact pk_un hj), (by rw [ef_60]; exact pk_us.trans (congrArg nI (sp_z1 ⟨(by first | exact Or.inl (by assumption) | exact Or.inr (Or.inl (by assumption)) | exact Or.inr (Or.inr (Or.inl (by assumption))) | exact Or.inr (Or.inr (Or.inr (by assumption)))), nI_pos (by omega), x_le40 (by omega)⟩ (by assumption) (by omega)))), (fun j hj => by rw [ef_60]; exact pk_un hj), (fun j hj => (hf8 (40 + j) (by omega) (by omega)).trans (if_pos ⟨(by first | exact Or.inl (by assumption) | exact Or.inr (Or.inl (by assumption)) | exact Or.inr (Or.inr (Or.inl (by assumption))) | exact Or.inr (Or.inr (Or.inr (by assumption)))), nI_pos (by omega), x_le40 (by omega)⟩).symm), (fun j hj => hg8 j hj), hf_60⟩, by rw [ht]; exact hP.sub [0, 1, 2, 3, 4] rfl, hD.sub [0, 1, 2, 3, 4] (by decide +kernel) rfl⟩, hS.F ht⟩) hS.2.2 dX9_sheet_118 hlk
                    · skip
                      have nc_61 : i < 40 := xn_nle (a := 40) (b := i) (by omega) (by omega) c_61
                      refine lv_aload_n hx hb dX9_sheet_93 rfl (lv_at hl 1 rfl) ?_
                      refine xg hF kf_X9_49 hK hP 0 rfl rfl dX9_sheet_94 ?_
                      refine lv_bipush (v := 40) hx hb dX9_sheet_97 (by decide) ?_
                      refine lv_iload_n hx hb dX9_sheet_99 rfl (lv_at hl 2 rfl) ?_
                      refine lv_imul hx hb dX9_sheet_100 ?_
                      refine xl_i (y := 40) (by decide) ?_
                      refine lv_iload hx hb dX9_sheet_101 (lv_at hl 0 rfl) ?_
                      refine lv_iadd hx hb dX9_sheet_103 ?_
                      refine xl_i (y := nI (40 + i)) (nI_add 40 i) ?_
                      refine lv_lconst (v := 0) hx hb dX9_sheet_104 (by decide) ?_
                      refine va_last hx hb hK hP hD hS 3 1 rfl rfl (vp_in_nI (show 40 + i < 160 by omega) (by decide)) dX9_sheet_105 (fun H locs hP hD hS => ?_)
                      rw [nI_clamp (show 40 + i < 2 ^ 31 by omega)] at hP hD
                      obtain ⟨f_62, ef_62⟩ : ∃ g, g = vp_updL n8 (40 + i) 0 := ⟨_, rfl⟩
                      rw [← ef_62] at hP hD
                      have hP : va_P D vwCl [(h0, .inr (9, [.ref ys, .ref yk, .ref yo, .ref yt, .int mk0, .ref yfa, .ref yfe, .int mL, .int mS, .int mM, .ref yro, .ref yhe, .ref ygr, .int mF, .int mC, .int mY, .ref yta, .int (nI (mz)), .int (nI (mf)), .int (nI (mt)), .int mv, .int mw, .ref ywa, .ref ybi, .ref ysi, .ref ynu, .ref ymo])), (ybi, .inl (cI, 4, .inl f_58)), (ysi, .inl (cI, 4, .inl f_60)), (ynu, .inl (cJ, 160, .inr (.inl f_62))), (yt, .inl (cI, 7, .inl mq))] H := hP
                      have hD : va_D A [(h0, .inr (9, [.ref ys, .ref yk, .ref yo, .ref yt, .int mk0, .ref yfa, .ref yfe, .int mL, .int mS, .int mM, .ref yro, .ref yhe, .ref ygr, .int mF, .int mC, .int mY, .ref yta, .int (nI (mz)), .int (nI (mf)), .int (nI (mt)), .int mv, .int mw, .ref ywa, .ref ybi, .ref ysi, .ref ynu, .ref ymo])), (ybi, .inl (cI, 4, .inl f_58)), (ysi, .inl (cI, 4, .inl f_60)), (ynu, .inl (cJ, 160, .inr (.inl f_62))), (yt, .inl (cI, 7, .inl mq))] := hD
                      refine lv_iinc (v := nI (i + 1)) (lv' := [(4, .int (nI (i + 1))), (0, .ref h0), (1, .int 1), (2, .int p1), (3, .int (nI (y_57)))]) hx hb dX9_sheet_106 hl (k := 0) rfl (nI_1 (i)) (by decide) rfl (fun ls hl => ?_)
                      refine lv_goto (tgt := 86) hx hb dX9_sheet_109 (by decide) ?_
                      exact ih_86 (i + 1) f_62 _ _ _ (by omega) (by omega) (sp_fil hf8 ef_62) (sp_fio hg8 (by omega) (by omega) ef_62) (hP.sub [0, 1, 2, 3, 4] rfl) (hD.sub [0, 1, 2, 3, 4] (by decide +kernel) rfl) hS (lv_sub hl [0, 1, 2, 3, 4] rfl)
                · skip
                  refine lv_iconst (v := 0) hx hb dX9_sheet_77 (by decide) ?_
                  refine lv_goto (tgt := 82) hx hb dX9_sheet_78 (by decide) ?_
                  refine va_iast hx hb hK hP hD hS 2 0 rfl rfl (xin 1 4 (by decide) (by decide)) dX9_sheet_82 (fun H locs hP hD hS => ?_)
                  obtain ⟨f_63, ef_63⟩ : ∃ g, g = upd sq 1 0 := ⟨_, rfl⟩
                  have hP : va_P D vwCl [(h0, .inr (9, [.ref ys, .ref yk, .ref yo, .ref yt, .int mk0, .ref yfa, .ref yfe, .int mL, .int mS, .int mM, .ref yro, .ref yhe, .ref ygr, .int mF, .int mC, .int mY, .ref yta, .int (nI (mz)), .int (nI (mf)), .int (nI (mt)), .int mv, .int mw, .ref ywa, .ref ybi, .ref ysi, .ref ynu, .ref ymo])), (ybi, .inl (cI, 4, .inl f_58)), (ysi, .inl (cI, 4, .inl (upd sq 1 0))), (ynu, .inl (cJ, 160, .inr (.inl nb))), (yt, .inl (cI, 7, .inl mq))] H := hP
                  have hD : va_D A [(h0, .inr (9, [.ref ys, .ref yk, .ref yo, .ref yt, .int mk0, .ref yfa, .ref yfe, .int mL, .int mS, .int mM, .ref yro, .ref yhe, .ref ygr, .int mF, .int mC, .int mY, .ref yta, .int (nI (mz)), .int (nI (mf)), .int (nI (mt)), .int mv, .int mw, .ref ywa, .ref ybi, .ref ysi, .ref ynu, .ref ymo])), (ybi, .inl (cI, 4, .inl f_58)), (ysi, .inl (cI, 4, .inl (upd sq 1 0))), (ynu, .inl (cJ, 160, .inr (.inl nb))), (yt, .inl (cI, 7, .inl mq))] := hD
                  rw [← ef_63] at hP hD
                  have hf_63 : BA 4 41 f_63 := by rw [ef_63]; exact BA.upd hsq (show 0 < 41 by omega)
                  have hP : va_P D vwCl [(h0, .inr (9, [.ref ys, .ref yk, .ref yo, .ref yt, .int mk0, .ref yfa, .ref yfe, .int mL, .int mS, .int mM, .ref yro, .ref yhe, .ref ygr, .int mF, .int mC, .int mY, .ref yta, .int (nI (mz)), .int (nI (mf)), .int (nI (mt)), .int mv, .int mw, .ref ywa, .ref ybi, .ref ysi, .ref ynu, .ref ymo])), (ybi, .inl (cI, 4, .inl f_58)), (ysi, .inl (cI, 4, .inl f_63)), (ynu, .inl (cJ, 160, .inr (.inl nb))), (yt, .inl (cI, 7, .inl mq))] H := hP
                  have hD : va_D A [(h0, .inr (9, [.ref ys, .ref yk, .ref yo, .ref yt, .int mk0, .ref yfa, .ref yfe, .int mL, .int mS, .int mM, .ref yro, .ref yhe, .ref ygr, .int mF, .int mC, .int mY, .ref yta, .int (nI (mz)), .int (nI (mf)), .int (nI (mt)), .int mv, .int mw, .ref ywa, .ref ybi, .ref ysi, .ref ynu, .ref ymo])), (ybi, .inl (cI, 4, .inl f_58)), (ysi, .inl (cI, 4, .inl f_63)), (ynu, .inl (cJ, 160, .inr (.inl nb))), (yt, .inl (cI, 7, .inl mq))] := hD
                  refine lv_iconst (v := 0) hx hb dX9_sheet_83 (by decide) ?_
                  refine lv_istore (lv' := [(4, .int 0), (0, .ref h0), (1, .int 1), (2, .int p1), (3, .int (nI (y_57)))]) hx hb dX9_sheet_84 hl (by decide) rfl (fun ls hl => ?_)
                  suffices loop_86 : ∀ (n_86 : Nat) (i : Nat) (n8 : Nat → Int64) (H : Heap) (locs : List Loc) (ls : Array Slot), 40 - i < n_86 → (i ≤ 40) → (∀ j, 40 ≤ j → j < 40 + i → n8 j = 0) → (∀ j, j < 40 ∨ 80 ≤ j → n8 j = nb j) → va_P D vwCl [(h0, .inr (9, [.ref ys, .ref yk, .ref yo, .ref yt, .int mk0, .ref yfa, .ref yfe, .int mL, .int mS, .int mM, .ref yro, .ref yhe, .ref ygr, .int mF, .int mC, .int mY, .ref yta, .int (nI (mz)), .int (nI (mf)), .int (nI (mt)), .int mv, .int mw, .ref ywa, .ref ybi, .ref ysi, .ref ynu, .ref ymo])), (ybi, .inl (cI, 4, .inl f_58)), (ysi, .inl (cI, 4, .inl f_63)), (ynu, .inl (cJ, 160, .inr (.inl n8))), (yt, .inl (cI, 7, .inl mq))] H → va_D A [(h0, .inr (9, [.ref ys, .ref yk, .ref yo, .ref yt, .int mk0, .ref yfa, .ref yfe, .int mL, .int mS, .int mM, .ref yro, .ref yhe, .ref ygr, .int mF, .int mC, .int mY, .ref yta, .int (nI (mz)), .int (nI (mf)), .int (nI (mt)), .int mv, .int mw, .ref ywa, .ref ybi, .ref ysi, .ref ynu, .ref ymo])), (ybi, .inl (cI, 4, .inl f_58)), (ysi, .inl (cI, 4, .inl f_63)), (ynu, .inl (cJ, 160, .inr (.inl n8))), (yt, .inl (cI, 7, .inl mq))] → va_S A s.heap H locs → lv_has ls 5 [(4, .int (nI (i))), (0, .ref h0), (1, .int 1), (2, .int p1), (3, .int (nI (y_57)))] → W p l e ({ frames := 2, cells := 0, slots := 0, locals := 45 }) s m ([.ref h0, .int 1, .int p1, .int (nI (y_57))] : List Value).toArray below meth c H locs 0 0 (MQ below (XQi (fun (r : Int32) (u : (Nat → Int32) × (Nat → Int32) × (Nat → Int64) × (Nat → Int32)) => match u with | (bi2, sq2, nb2, mq2) => ((r = a_sheet 1 p1 (nI (y_57)))) ∧ (bi2 1 = sp_sb p1 (nI (y_57)) (bi 1)) ∧ (∀ j, j ≠ 1 → bi2 j = bi j) ∧ (sq2 1 = nI (sp_sz p1 (nI (y_57)) zq)) ∧ (∀ j, j ≠ 1 → sq2 j = sq j) ∧ (∀ j, j < 40 → nb2 (40 + j) = sp_sn p1 (nI (y_57)) (nb (40 + j))) ∧ (∀ j, j < 40 ∨ 80 ≤ j → nb2 j = nb j) ∧ (BA 4 41 sq2)) D (fun (u : (Nat → Int32) × (Nat → Int32) × (Nat → Int64) × (Nat → Int32)) => match u with | (bi2, sq2, nb2, mq2) => [(h0, .inr (9, [.ref ys, .ref yk, .ref yo, .ref yt, .int mk0, .ref yfa, .ref yfe, .int mL, .int mS, .int mM, .ref yro, .ref yhe, .ref ygr, .int mF, .int mC, .int mY, .ref yta, .int (nI (mz)), .int (nI (mf)), .int (nI (mt)), .int mv, .int mw, .ref ywa, .ref ybi, .ref ysi, .ref ynu, .ref ymo])), (ybi, .inl (cI, 4, .inl bi2)), (ysi, .inl (cI, 4, .inl sq2)), (ynu, .inl (cJ, 160, .inr (.inl nb2))), (yt, .inl (cI, 7, .inl mq2))]) A) ([.ref h0, .int 1, .int p1, .int (nI (y_57))] : List Value).toArray s 0 0 A) (F0 m 86 ls []) by
                    exact loop_86 _ 0 nb _ _ _ (Nat.lt_succ_self _) (by omega) (fun j h1 h2 => absurd h1 (by omega)) (fun _ _ => rfl) hP hD hS (lv_sub hl [0, 1, 2, 3, 4] rfl)
                  intro n_86
                  induction n_86 with
                  | zero =>
                    intro i n8 H locs ls hm_86
                    exact absurd hm_86 (Nat.not_lt_zero _)
                  | succ n_86 ih_86 =>
                    intro i n8 H locs ls hm_86 hi hf8 hg8 hP hD hS hl
                    refine lv_iload hx hb dX9_sheet_86 (lv_at hl 0 rfl) ?_
                    refine lv_bipush (v := 40) hx hb dX9_sheet_88 (by decide) ?_
                    refine lv_icmp_ge (tgt := 112) hx hb dX9_sheet_90 (by decide) (fun c_64 => ?_) (fun c_64 => ?_)
                    · skip
                      have nc_64 : 40 ≤ i := xn_le (a := 40) (b := i) (by omega) (by omega) c_64
                      refine lv_aload_n hx hb dX9_sheet_112 rfl (lv_at hl 1 rfl) ?_
                      refine xg hF kf_X9_46 hK hP 0 rfl rfl dX9_sheet_113 ?_
                      refine lv_iload_n hx hb dX9_sheet_116 rfl (lv_at hl 2 rfl) ?_
                      refine va_iald hx hb hK hP 2 0 rfl rfl (xin 1 4 (by decide) (by decide)) dX9_sheet_117 ?_
                      refine xl_i (y := f_63 1) (congrArg f_63 rfl) ?_
                      refine xl_i (y := 0) (by rw [ef_63]; exact pk_us) ?_
                      exact W.iret (v := 0) hx hb hr (fun t ht hW => ⟨⟨0, (f_58, f_63, n8, mq), rfl, ⟨p_sheet5 (by decide) (by decide) c_59 (nI_pos (by omega)) (x_le40 (by omega)), (by rw [ef_58]; exact pk_us.trans (if_pos ⟨(by first | exact Or.inl (by assumption) | exact Or.inr (Or.inl (by assumption)) | exact Or.inr (Or.inr (Or.inl (by assumption))) | exact Or.inr (Or.inr (Or.inr (by assumption)))), nI_pos (by omega), x_le40 (by omega)⟩).symm), (fun j hj => by rw [ef_58]; exact pk_un hj), (by rw [ef_63]; exact pk_us.trans (congrArg nI (sp_z0 ⟨(by first | exact Or.inl (by assumption) | exact Or.inr (Or.inl (by assumption)) | exact Or.inr (Or.inr (Or.inl (by assumption))) | exact Or.inr (Or.inr (Or.inr (by assumption)))), nI_pos (by omega), x_le40 (by omega)⟩ c_59))), (fun j hj => by rw [ef_63]; exact pk_un hj), (fun j hj => (hf8 (40 + j) (by omega) (by omega)).trans (if_pos ⟨(by first | exact Or.inl (by assumption) | exact Or.inr (Or.inl (by assumption)) | exact Or.inr (Or.inr (Or.inl (by assumption))) | exact Or.inr (Or.inr (Or.inr (by assumption)))), nI_pos (by omega), x_le40 (by omega)⟩).symm), (fun j hj => hg8 j hj), hf_63⟩, by rw [ht]; exact hP.sub [0, 1, 2, 3, 4] rfl, hD.sub [0, 1, 2, 3, 4] (by decide +kernel) rfl⟩, hS.F ht⟩) hS.2.2 dX9_sheet_118 hlk
                    · skip
                      have nc_64 : i < 40 := xn_nle (a := 40) (b := i) (by omega) (by omega) c_64
                      refine lv_aload_n hx hb dX9_sheet_93 rfl (lv_at hl 1 rfl) ?_
                      refine xg hF kf_X9_49 hK hP 0 rfl rfl dX9_sheet_94 ?_
                      refine lv_bipush (v := 40) hx hb dX9_sheet_97 (by decide) ?_
                      refine lv_iload_n hx hb dX9_sheet_99 rfl (lv_at hl 2 rfl) ?_
                      refine lv_imul hx hb dX9_sheet_100 ?_
                      refine xl_i (y := 40) (by decide) ?_
                      refine lv_iload hx hb dX9_sheet_101 (lv_at hl 0 rfl) ?_
                      refine lv_iadd hx hb dX9_sheet_103 ?_
                      refine xl_i (y := nI (40 + i)) (nI_add 40 i) ?_
                      refine lv_lconst (v := 0) hx hb dX9_sheet_104 (by decide) ?_
                      refine va_last hx hb hK hP hD hS 3 1 rfl rfl (vp_in_nI (show 40 + i < 160 by omega) (by decide)) dX9_sheet_105 (fun H locs hP hD hS => ?_)
                      rw [nI_clamp (show 40 + i < 2 ^ 31 by omega)] at hP hD
                      obtain ⟨f_65, ef_65⟩ : ∃ g, g = vp_updL n8 (40 + i) 0 := ⟨_, rfl⟩
                      rw [← ef_65] at hP hD
                      have hP : va_P D vwCl [(h0, .inr (9, [.ref ys, .ref yk, .ref yo, .ref yt, .int mk0, .ref yfa, .ref yfe, .int mL, .int mS, .int mM, .ref yro, .ref yhe, .ref ygr, .int mF, .int mC, .int mY, .ref yta, .int (nI (mz)), .int (nI (mf)), .int (nI (mt)), .int mv, .int mw, .ref ywa, .ref ybi, .ref ysi, .ref ynu, .ref ymo])), (ybi, .inl (cI, 4, .inl f_58)), (ysi, .inl (cI, 4, .inl f_63)), (ynu, .inl (cJ, 160, .inr (.inl f_65))), (yt, .inl (cI, 7, .inl mq))] H := hP
                      have hD : va_D A [(h0, .inr (9, [.ref ys, .ref yk, .ref yo, .ref yt, .int mk0, .ref yfa, .ref yfe, .int mL, .int mS, .int mM, .ref yro, .ref yhe, .ref ygr, .int mF, .int mC, .int mY, .ref yta, .int (nI (mz)), .int (nI (mf)), .int (nI (mt)), .int mv, .int mw, .ref ywa, .ref ybi, .ref ysi, .ref ynu, .ref ymo])), (ybi, .inl (cI, 4, .inl f_58)), (ysi, .inl (cI, 4, .inl f_63)), (ynu, .inl (cJ, 160, .inr (.inl f_65))), (yt, .inl (cI, 7, .inl mq))] := hD
                      refine lv_iinc (v := nI (i + 1)) (lv' := [(4, .int (nI (i + 1))), (0, .ref h0), (1, .int 1), (2, .int p1), (3, .int (nI (y_57)))]) hx hb dX9_sheet_106 hl (k := 0) rfl (nI_1 (i)) (by decide) rfl (fun ls hl => ?_)
                      refine lv_goto (tgt := 86) hx hb dX9_sheet_109 (by decide) ?_
                      exact ih_86 (i + 1) f_65 _ _ _ (by omega) (by omega) (sp_fil hf8 ef_65) (sp_fio hg8 (by omega) (by omega) ef_65) (hP.sub [0, 1, 2, 3, 4] rfl) (hD.sub [0, 1, 2, 3, 4] (by decide +kernel) rfl) hS (lv_sub hl [0, 1, 2, 3, 4] rfl)
              · skip
                refine lv_aload_n hx hb dX9_sheet_54 rfl (lv_at hl 0 rfl) ?_
                refine lv_ldc (v := (-1000000001)) hx hb hown (hu _ uw648) dX9_sheet_55 ?_
                refine xc_Vi (wr := [(ybi, .inl (cI, 4, .inl bi)), (ysi, .inl (cI, 4, .inl sq)), (ynu, .inl (cJ, 160, .inr (.inl nb)))]) hF (c_X9_finds_B l D cI cJ cZ cS ta sa sv s.heap.size h0 ys yk yo yt mk0 yfa yfe mL mS mM yro yhe ygr mF mC mY yta mz mf mt mv mw ywa ybi ysi ynu ymo mq ) kv_X9_70 ⟨rfl, rfl, Nat.le_of_ble_eq_true rfl, Nat.le_of_ble_eq_true rfl⟩ ⟨Nat.le_of_ble_eq_true rfl, Nat.le_of_ble_eq_true rfl⟩ hK hN hZ hP hD hS hA [0, 4] [1, 2, 3] rfl rfl rfl rfl (by decide) 0 rfl rfl rfl rfl hl.1 rfl (Nat.le_of_ble_eq_true rfl) dX9_sheet_57 (fun r_66 u_r_66 H locs hw_r_66 hP hD hS => ?_)
                obtain ⟨mq2_67, rfl⟩ : ∃ z, z = u_r_66 := ⟨_, rfl⟩
                try dsimp only at hw_r_66
                have hP : va_P D vwCl [(ybi, .inl (cI, 4, .inl bi)), (ysi, .inl (cI, 4, .inl sq)), (ynu, .inl (cJ, 160, .inr (.inl nb))), (h0, .inr (9, [.ref ys, .ref yk, .ref yo, .ref yt, .int mk0, .ref yfa, .ref yfe, .int mL, .int mS, .int mM, .ref yro, .ref yhe, .ref ygr, .int mF, .int mC, .int mY, .ref yta, .int (nI (mz)), .int (nI (mf)), .int (nI (mt)), .int mv, .int mw, .ref ywa, .ref ybi, .ref ysi, .ref ynu, .ref ymo])), (yt, .inl (cI, 7, .inl mq2_67))] H := hP
                have hD : va_D A [(ybi, .inl (cI, 4, .inl bi)), (ysi, .inl (cI, 4, .inl sq)), (ynu, .inl (cJ, 160, .inr (.inl nb))), (h0, .inr (9, [.ref ys, .ref yk, .ref yo, .ref yt, .int mk0, .ref yfa, .ref yfe, .int mL, .int mS, .int mM, .ref yro, .ref yhe, .ref ygr, .int mF, .int mC, .int mY, .ref yta, .int (nI (mz)), .int (nI (mf)), .int (nI (mt)), .int mv, .int mw, .ref ywa, .ref ybi, .ref ysi, .ref ynu, .ref ymo])), (yt, .inl (cI, 7, .inl mq2_67))] := hD
                subst hw_r_66
                exact W.iret (v := (-1000000001)) hx hb hr (fun t ht hW => ⟨⟨(-1000000001), (bi, sq, nb, mq2_67), rfl, ⟨p_sheet4 (by decide) (by decide) (by first | exact Or.inl (by assumption) | exact Or.inr (Or.inl (by assumption)) | exact Or.inr (Or.inr (Or.inl (by assumption))) | exact Or.inr (Or.inr (Or.inr (by assumption)))) (fun h => absurd c_55 (Int32.not_le.mpr h)) (xlt c_56), (if_neg (sp_n4 (xlt c_56))).symm, (fun _ _ => rfl), (ez.trans (congrArg nI (if_neg (sp_n4 (xlt c_56))).symm)), (fun _ _ => rfl), (fun j hj => (if_neg (sp_n4 (xlt c_56))).symm), (fun _ _ => rfl), hsq⟩, by rw [ht]; exact hP.sub [3, 0, 1, 2, 4] rfl, hD.sub [3, 0, 1, 2, 4] (by decide +kernel) rfl⟩, hS.F ht⟩) hS.2.2 dX9_sheet_60 hlk
            · skip
              refine lv_aload_n hx hb dX9_sheet_40 rfl (lv_at hl 0 rfl) ?_
              refine lv_ldcw (v := (-1000000007)) hx hb hown (hu _ uw923) dX9_sheet_41 ?_
              refine xc_Vi (wr := [(ybi, .inl (cI, 4, .inl bi)), (ysi, .inl (cI, 4, .inl sq)), (ynu, .inl (cJ, 160, .inr (.inl nb)))]) hF (c_X9_finds_S l D cI cJ cZ cS ta sa sv s.heap.size h0 ys yk yo yt mk0 yfa yfe mL mS mM yro yhe ygr mF mC mY yta mz mf mt mv mw ywa ybi ysi ynu ymo mq ) kv_X9_70 ⟨rfl, rfl, Nat.le_of_ble_eq_true rfl, Nat.le_of_ble_eq_true rfl⟩ ⟨Nat.le_of_ble_eq_true rfl, Nat.le_of_ble_eq_true rfl⟩ hK hN hZ hP hD hS hA [0, 4] [1, 2, 3] rfl rfl rfl rfl (by decide) 0 rfl rfl rfl rfl hl.1 rfl (Nat.le_of_ble_eq_true rfl) dX9_sheet_44 (fun r_68 u_r_68 H locs hw_r_68 hP hD hS => ?_)
              obtain ⟨mq2_69, rfl⟩ : ∃ z, z = u_r_68 := ⟨_, rfl⟩
              try dsimp only at hw_r_68
              have hP : va_P D vwCl [(ybi, .inl (cI, 4, .inl bi)), (ysi, .inl (cI, 4, .inl sq)), (ynu, .inl (cJ, 160, .inr (.inl nb))), (h0, .inr (9, [.ref ys, .ref yk, .ref yo, .ref yt, .int mk0, .ref yfa, .ref yfe, .int mL, .int mS, .int mM, .ref yro, .ref yhe, .ref ygr, .int mF, .int mC, .int mY, .ref yta, .int (nI (mz)), .int (nI (mf)), .int (nI (mt)), .int mv, .int mw, .ref ywa, .ref ybi, .ref ysi, .ref ynu, .ref ymo])), (yt, .inl (cI, 7, .inl mq2_69))] H := hP
              have hD : va_D A [(ybi, .inl (cI, 4, .inl bi)), (ysi, .inl (cI, 4, .inl sq)), (ynu, .inl (cJ, 160, .inr (.inl nb))), (h0, .inr (9, [.ref ys, .ref yk, .ref yo, .ref yt, .int mk0, .ref yfa, .ref yfe, .int mL, .int mS, .int mM, .ref yro, .ref yhe, .ref ygr, .int mF, .int mC, .int mY, .ref yta, .int (nI (mz)), .int (nI (mf)), .int (nI (mt)), .int mv, .int mw, .ref ywa, .ref ybi, .ref ysi, .ref ynu, .ref ymo])), (yt, .inl (cI, 7, .inl mq2_69))] := hD
              subst hw_r_68
              exact W.iret (v := (-1000000007)) hx hb hr (fun t ht hW => ⟨⟨(-1000000007), (bi, sq, nb, mq2_69), rfl, ⟨p_sheet3 (by decide) (by decide) (by first | exact Or.inl (by assumption) | exact Or.inr (Or.inl (by assumption)) | exact Or.inr (Or.inr (Or.inl (by assumption))) | exact Or.inr (Or.inr (Or.inr (by assumption)))) (xlt c_55), (if_neg (sp_n3 (xlt c_55))).symm, (fun _ _ => rfl), (ez.trans (congrArg nI (if_neg (sp_n3 (xlt c_55))).symm)), (fun _ _ => rfl), (fun j hj => (if_neg (sp_n3 (xlt c_55))).symm), (fun _ _ => rfl), hsq⟩, by rw [ht]; exact hP.sub [3, 0, 1, 2, 4] rfl, hD.sub [3, 0, 1, 2, 4] (by decide +kernel) rfl⟩, hS.F ht⟩) hS.2.2 dX9_sheet_47 hlk
          · skip
            refine lv_aload_n hx hb dX9_sheet_29 rfl (lv_at hl 0 rfl) ?_
            refine lv_ldc (v := (-1000000001)) hx hb hown (hu _ uw648) dX9_sheet_30 ?_
            refine xc_Vi (wr := [(ybi, .inl (cI, 4, .inl bi)), (ysi, .inl (cI, 4, .inl sq)), (ynu, .inl (cJ, 160, .inr (.inl nb)))]) hF (c_X9_finds_B l D cI cJ cZ cS ta sa sv s.heap.size h0 ys yk yo yt mk0 yfa yfe mL mS mM yro yhe ygr mF mC mY yta mz mf mt mv mw ywa ybi ysi ynu ymo mq ) kv_X9_70 ⟨rfl, rfl, Nat.le_of_ble_eq_true rfl, Nat.le_of_ble_eq_true rfl⟩ ⟨Nat.le_of_ble_eq_true rfl, Nat.le_of_ble_eq_true rfl⟩ hK hN hZ hP hD hS hA [0, 4] [1, 2, 3] rfl rfl rfl rfl (by decide) 0 rfl rfl rfl rfl hl.1 rfl (Nat.le_of_ble_eq_true rfl) dX9_sheet_32 (fun r_70 u_r_70 H locs hw_r_70 hP hD hS => ?_)
            obtain ⟨mq2_71, rfl⟩ : ∃ z, z = u_r_70 := ⟨_, rfl⟩
            try dsimp only at hw_r_70
            have hP : va_P D vwCl [(ybi, .inl (cI, 4, .inl bi)), (ysi, .inl (cI, 4, .inl sq)), (ynu, .inl (cJ, 160, .inr (.inl nb))), (h0, .inr (9, [.ref ys, .ref yk, .ref yo, .ref yt, .int mk0, .ref yfa, .ref yfe, .int mL, .int mS, .int mM, .ref yro, .ref yhe, .ref ygr, .int mF, .int mC, .int mY, .ref yta, .int (nI (mz)), .int (nI (mf)), .int (nI (mt)), .int mv, .int mw, .ref ywa, .ref ybi, .ref ysi, .ref ynu, .ref ymo])), (yt, .inl (cI, 7, .inl mq2_71))] H := hP
            have hD : va_D A [(ybi, .inl (cI, 4, .inl bi)), (ysi, .inl (cI, 4, .inl sq)), (ynu, .inl (cJ, 160, .inr (.inl nb))), (h0, .inr (9, [.ref ys, .ref yk, .ref yo, .ref yt, .int mk0, .ref yfa, .ref yfe, .int mL, .int mS, .int mM, .ref yro, .ref yhe, .ref ygr, .int mF, .int mC, .int mY, .ref yta, .int (nI (mz)), .int (nI (mf)), .int (nI (mt)), .int mv, .int mw, .ref ywa, .ref ybi, .ref ysi, .ref ynu, .ref ymo])), (yt, .inl (cI, 7, .inl mq2_71))] := hD
            subst hw_r_70
            exact W.iret (v := (-1000000001)) hx hb hr (fun t ht hW => ⟨⟨(-1000000001), (bi, sq, nb, mq2_71), rfl, ⟨p_sheet2 (by decide) (by decide) c_6 c_22 c_38 c_54, (if_neg (sp_n2 c_6 c_22 c_38 c_54)).symm, (fun _ _ => rfl), (ez.trans (congrArg nI (if_neg (sp_n2 c_6 c_22 c_38 c_54)).symm)), (fun _ _ => rfl), (fun j hj => (if_neg (sp_n2 c_6 c_22 c_38 c_54)).symm), (fun _ _ => rfl), hsq⟩, by rw [ht]; exact hP.sub [3, 0, 1, 2, 4] rfl, hD.sub [3, 0, 1, 2, 4] (by decide +kernel) rfl⟩, hS.F ht⟩) hS.2.2 dX9_sheet_35 hlk
  · exact absurd h_4 (by decide)
set_option maxHeartbeats 4000000 in
set_option maxRecDepth 100000 in
theorem c_X9_write_1 (l : Launch) (D : va_G) (cI cJ cZ cS : ClassId) (ta : Nat) (sa sv : Nat → Nat) (sz : Nat) (h0 : Nat) (ys : Nat) (yk : Nat) (yo : Nat) (yt : Nat) (mk0 : Int32) (yfa : Nat) (yfe : Nat) (mL : Int32) (mS : Int32) (mM : Int32) (yro : Nat) (yhe : Nat) (ygr : Nat) (mF : Int32) (mC : Int32) (mY : Int32) (yta : Nat) (mz : Nat) (mf : Nat) (mt : Nat) (mv : Int32) (mw : Int32) (ywa : Nat) (ybi : Nat) (ysi : Nat) (ynu : Nat) (ymo : Nat) (bi : Nat → Int32) (sq : Nat → Int32) (nb : Nat → Int64) (mq : Nat → Int32) (p1 : Int32) (p2 : Int64) (zq : Nat) (ez : sq 1 = nI zq) (hzq : zq ≤ 40) (hsq : BA 4 41 sq) : Met l yX9_write (Cond.code yX9_write cX9_write 8 (some .long) :: wsU) ({ frames := 3, cells := 0, slots := 0, locals := 66 }) (va_Pc [.ref h0, .int 1, .int p1, .long p2] (XW D (xT cI cJ cZ cS) ta sa sv [(h0, .inr (9, [.ref ys, .ref yk, .ref yo, .ref yt, .int mk0, .ref yfa, .ref yfe, .int mL, .int mS, .int mM, .ref yro, .ref yhe, .ref ygr, .int mF, .int mC, .int mY, .ref yta, .int (nI (mz)), .int (nI (mf)), .int (nI (mt)), .int mv, .int mw, .ref ywa, .ref ybi, .ref ysi, .ref ynu, .ref ymo])), (ybi, .inl (cI, 4, .inl bi)), (ysi, .inl (cI, 4, .inl sq)), (ynu, .inl (cJ, 160, .inr (.inl nb))), (yt, .inl (cI, 7, .inl mq))] sz)) (XQl (fun (r : Int64) (u : (Nat → Int64) × (Nat → Int32)) => match u with | (nb2, mq2) => ((r = sp_wr (bi 1) zq p1 (nb (40 + p1.toNatClampNeg)))) ∧ (∀ j, j < 40 → nb2 (40 + j) = sp_wn (bi 1) zq p1 p2 j (nb (40 + j))) ∧ (∀ j, j < 40 ∨ 80 ≤ j → nb2 j = nb j)) D (fun (u : (Nat → Int64) × (Nat → Int32)) => match u with | (nb2, mq2) => [(h0, .inr (9, [.ref ys, .ref yk, .ref yo, .ref yt, .int mk0, .ref yfa, .ref yfe, .int mL, .int mS, .int mM, .ref yro, .ref yhe, .ref ygr, .int mF, .int mC, .int mY, .ref yta, .int (nI (mz)), .int (nI (mf)), .int (nI (mt)), .int mv, .int mw, .ref ywa, .ref ybi, .ref ysi, .ref ynu, .ref ymo])), (ybi, .inl (cI, 4, .inl bi)), (ysi, .inl (cI, 4, .inl sq)), (ynu, .inl (cJ, 160, .inr (.inl nb2))), (yt, .inl (cI, 7, .inl mq2))]) (va_A [(h0, .inr (9, [.ref ys, .ref yk, .ref yo, .ref yt, .int mk0, .ref yfa, .ref yfe, .int mL, .int mS, .int mM, .ref yro, .ref yhe, .ref ygr, .int mF, .int mC, .int mY, .ref yta, .int (nI (mz)), .int (nI (mf)), .int (nI (mt)), .int mv, .int mw, .ref ywa, .ref ybi, .ref ysi, .ref ynu, .ref ymo])), (ybi, .inl (cI, 4, .inl bi)), (ysi, .inl (cI, 4, .inl sq)), (ynu, .inl (cJ, 160, .inr (.inl nb))), (yt, .inl (cI, 7, .inl mq))] sz)) 0 0 (va_A [(h0, .inr (9, [.ref ys, .ref yk, .ref yo, .ref yt, .int mk0, .ref yfa, .ref yfe, .int mL, .int mS, .int mM, .ref yro, .ref yhe, .ref ygr, .int mF, .int mC, .int mY, .ref yta, .int (nI (mz)), .int (nI (mf)), .int (nI (mt)), .int mv, .int mw, .ref ywa, .ref ybi, .ref ysi, .ref ynu, .ref ymo])), (ybi, .inl (cI, 4, .inl bi)), (ysi, .inl (cI, 4, .inl sq)), (ynu, .inl (cJ, 160, .inr (.inl nb))), (yt, .inl (cI, 7, .inl mq))] sz) := by
  refine xh (QA := fun A => XQl (fun (r : Int64) (u : (Nat → Int64) × (Nat → Int32)) => match u with | (nb2, mq2) => ((r = sp_wr (bi 1) zq p1 (nb (40 + p1.toNatClampNeg)))) ∧ (∀ j, j < 40 → nb2 (40 + j) = sp_wn (bi 1) zq p1 p2 j (nb (40 + j))) ∧ (∀ j, j < 40 ∨ 80 ≤ j → nb2 j = nb j)) D (fun (u : (Nat → Int64) × (Nat → Int32)) => match u with | (nb2, mq2) => [(h0, .inr (9, [.ref ys, .ref yk, .ref yo, .ref yt, .int mk0, .ref yfa, .ref yfe, .int mL, .int mS, .int mM, .ref yro, .ref yhe, .ref ygr, .int mF, .int mC, .int mY, .ref yta, .int (nI (mz)), .int (nI (mf)), .int (nI (mt)), .int mv, .int mw, .ref ywa, .ref ybi, .ref ysi, .ref ynu, .ref ymo])), (ybi, .inl (cI, 4, .inl bi)), (ysi, .inl (cI, 4, .inl sq)), (ynu, .inl (cJ, 160, .inr (.inl nb2))), (yt, .inl (cI, 7, .inl mq2))]) A) (fr := fun A => A) (by decide) (Nat.le_of_ble_eq_true rfl) ?_
  intro p e s m below meth c ls A hF hr hlk hin hsz hP hK hD hN hZ hA hS hl
  have hF : CallFix p m c cX9_write 8 s _ _ RX9 := hF
  have hx := hF.1
  have hb := hF.2.1
  have hml := hF.2.2.1
  have hown := hF.2.2.2.1
  have hu : ∀ w ∈ wsU, w.before _ s = true := fun w h => hF.2.2.2.2 w (List.mem_cons_of_mem _ h)
  have hl : lv_has ls 8 [(0, .ref h0), (1, .int 1), (2, .int p1), (3, .long p2)] := hl
  refine lv_aload_n hx hb dX9_write_0 rfl (lv_at hl 0 rfl) ?_
  refine lv_iload_n hx hb dX9_write_1 rfl (lv_at hl 1 rfl) ?_
  refine xc_Vr hF (c_X9_wrong_1 l D cI cJ cZ cS ta sa sv s.heap.size h0 ys yk yo yt mk0 yfa yfe mL mS mM yro yhe ygr mF mC mY yta mz mf mt mv mw ywa ybi ysi ynu ymo bi ) kv_X9_310 ⟨rfl, rfl, Nat.le_of_ble_eq_true rfl, Nat.le_of_ble_eq_true rfl⟩ ⟨Nat.le_of_ble_eq_true rfl, Nat.le_of_ble_eq_true rfl⟩ hK hN hZ hP hD hS hA [0, 1] rfl rfl 0 rfl rfl rfl rfl hl.1 rfl (Nat.le_of_ble_eq_true rfl) dX9_write_2 (fun r_1 hw_r_1 => ?_)
  rcases hw_r_1 with ⟨rfl, h_2⟩ | ⟨rfl, h_3⟩
  · skip
    refine lv_istore (lv' := [(5, .int (-1000000006)), (0, .ref h0), (1, .int 1), (2, .int p1), (3, .long p2)]) hx hb dX9_write_5 hl (by decide) rfl (fun ls hl => ?_)
    refine lv_iload hx hb dX9_write_7 (lv_at hl 0 rfl) ?_
    refine lv_if_eq (tgt := 20) hx hb dX9_write_9 (by decide) (fun c_4 => absurd c_4 (by decide)) (fun c_4 => ?_)
    refine lv_aload_n hx hb dX9_write_12 rfl (lv_at hl 1 rfl) ?_
    refine lv_iload hx hb dX9_write_13 (lv_at hl 0 rfl) ?_
    refine xc_Vi (wr := [(ybi, .inl (cI, 4, .inl bi)), (ysi, .inl (cI, 4, .inl sq)), (ynu, .inl (cJ, 160, .inr (.inl nb)))]) hF (c_X9_finds_M l D cI cJ cZ cS ta sa sv s.heap.size h0 ys yk yo yt mk0 yfa yfe mL mS mM yro yhe ygr mF mC mY yta mz mf mt mv mw ywa ybi ysi ynu ymo mq ) kv_X9_70 ⟨rfl, rfl, Nat.le_of_ble_eq_true rfl, Nat.le_of_ble_eq_true rfl⟩ ⟨Nat.le_of_ble_eq_true rfl, Nat.le_of_ble_eq_true rfl⟩ hK hN hZ hP hD hS hA [0, 4] [1, 2, 3] rfl rfl rfl rfl (by decide) 0 rfl rfl rfl rfl hl.1 rfl (Nat.le_of_ble_eq_true rfl) dX9_write_15 (fun r_5 u_r_5 H locs hw_r_5 hP hD hS => ?_)
    obtain ⟨mq2_6, rfl⟩ : ∃ z, z = u_r_5 := ⟨_, rfl⟩
    try dsimp only at hw_r_5
    have hP : va_P D vwCl [(ybi, .inl (cI, 4, .inl bi)), (ysi, .inl (cI, 4, .inl sq)), (ynu, .inl (cJ, 160, .inr (.inl nb))), (h0, .inr (9, [.ref ys, .ref yk, .ref yo, .ref yt, .int mk0, .ref yfa, .ref yfe, .int mL, .int mS, .int mM, .ref yro, .ref yhe, .ref ygr, .int mF, .int mC, .int mY, .ref yta, .int (nI (mz)), .int (nI (mf)), .int (nI (mt)), .int mv, .int mw, .ref ywa, .ref ybi, .ref ysi, .ref ynu, .ref ymo])), (yt, .inl (cI, 7, .inl mq2_6))] H := hP
    have hD : va_D A [(ybi, .inl (cI, 4, .inl bi)), (ysi, .inl (cI, 4, .inl sq)), (ynu, .inl (cJ, 160, .inr (.inl nb))), (h0, .inr (9, [.ref ys, .ref yk, .ref yo, .ref yt, .int mk0, .ref yfa, .ref yfe, .int mL, .int mS, .int mM, .ref yro, .ref yhe, .ref ygr, .int mF, .int mC, .int mY, .ref yta, .int (nI (mz)), .int (nI (mf)), .int (nI (mt)), .int mv, .int mw, .ref ywa, .ref ybi, .ref ysi, .ref ynu, .ref ymo])), (yt, .inl (cI, 7, .inl mq2_6))] := hD
    subst hw_r_5
    refine lv_i2l (v := (-1000000006)) hx hb dX9_write_18 (by decide) ?_
    exact W.lret (v := (-1000000006)) hx hb hr (fun t ht hW => ⟨⟨(-1000000006), (nb, mq2_6), rfl, ⟨(sp_wr1 h_2), (fun j _ => sp_w1 h_2), (fun _ _ => rfl)⟩, by rw [ht]; exact hP.sub [3, 0, 1, 2, 4] rfl, hD.sub [3, 0, 1, 2, 4] (by decide +kernel) rfl⟩, hS.F ht⟩) hS.2.2 dX9_write_19 hlk
  · skip
    refine lv_istore (lv' := [(5, .int 0), (0, .ref h0), (1, .int 1), (2, .int p1), (3, .long p2)]) hx hb dX9_write_5 hl (by decide) rfl (fun ls hl => ?_)
    refine lv_iload hx hb dX9_write_7 (lv_at hl 0 rfl) ?_
    refine lv_if_eq (tgt := 20) hx hb dX9_write_9 (by decide) (fun c_7 => ?_) (fun c_7 => absurd (by decide) c_7)
    refine lv_iload_n hx hb dX9_write_20 rfl (lv_at hl 3 rfl) ?_
    refine lv_i2l (v := p1.toInt64) hx hb dX9_write_21 rfl ?_
    refine lv_lconst (v := 0) hx hb dX9_write_22 (by decide) ?_
    refine xl_l (y := (0 : Int32).toInt64) (by decide) ?_
    refine lv_aload_n hx hb dX9_write_23 rfl (lv_at hl 1 rfl) ?_
    refine xg hF kf_X9_46 hK hP 0 rfl rfl dX9_write_24 ?_
    refine lv_iload_n hx hb dX9_write_27 rfl (lv_at hl 2 rfl) ?_
    refine va_iald hx hb hK hP 2 0 rfl rfl (xin 1 4 (by decide) (by decide)) dX9_write_28 ?_
    refine xl_i (y := sq 1) (congrArg sq rfl) ?_
    refine xl_i (y := nI (zq)) ez ?_
    refine lv_iconst (v := 1) hx hb dX9_write_29 (by decide) ?_
    refine lv_isub hx hb dX9_write_30 ?_
    refine lv_topi (fun x_8 ex_8 => ?_)
    refine lv_i2l (v := x_8.toInt64) hx hb dX9_write_31 rfl ?_
    refine xc_Sr hF (c_X9_in l D cI cJ cZ cS ta sa sv s.heap.size p1 0 x_8 ) ks_X9_57 ⟨rfl, rfl, Nat.le_of_ble_eq_true rfl, Nat.le_of_ble_eq_true rfl⟩ ⟨Nat.le_of_ble_eq_true rfl, Nat.le_of_ble_eq_true rfl⟩ hK hN hZ hP hD hS hA [] rfl rfl rfl hl.1 rfl (Nat.le_of_ble_eq_true rfl) dX9_write_32 (fun r_9 hw_r_9 => ?_)
    rcases hw_r_9 with ⟨rfl, h_10, h_11⟩ | ⟨rfl, h_12⟩
    · skip
      refine lv_if_ne (tgt := 46) hx hb dX9_write_35 (by decide) (fun c_13 => ?_) (fun c_13 => absurd c_13 (by decide))
      obtain ⟨y_14, hy_14, rfl⟩ := x_pl3 (by omega) ex_8 h_10 h_11
      refine lv_aload_n hx hb dX9_write_46 rfl (lv_at hl 1 rfl) ?_
      refine xg hF kf_X9_49 hK hP 0 rfl rfl dX9_write_47 ?_
      refine lv_bipush (v := 40) hx hb dX9_write_50 (by decide) ?_
      refine lv_iload_n hx hb dX9_write_52 rfl (lv_at hl 2 rfl) ?_
      refine lv_imul hx hb dX9_write_53 ?_
      refine xl_i (y := 40) (by decide) ?_
      refine lv_iload_n hx hb dX9_write_54 rfl (lv_at hl 3 rfl) ?_
      refine lv_iadd hx hb dX9_write_55 ?_
      refine xl_i (y := nI (40 + y_14)) (nI_add 40 y_14) ?_
      refine va_lald hx hb hK hP 3 1 rfl rfl (vp_in_nI (show 40 + y_14 < 160 by omega) (by decide)) dX9_write_56 ?_
      refine xl_l (y := nb (40 + y_14)) (congrArg nb (nI_clamp (show 40 + y_14 < 2 ^ 31 by omega))) ?_
      refine lv_lstore (lv' := [(6, .long (nb (40 + y_14))), (5, .int 0), (0, .ref h0), (1, .int 1), (2, .int (nI (y_14))), (3, .long p2)]) hx hb dX9_write_57 hl (by decide) rfl (fun ls hl => ?_)
      refine lv_aload_n hx hb dX9_write_59 rfl (lv_at hl 2 rfl) ?_
      refine xg hF kf_X9_49 hK hP 0 rfl rfl dX9_write_60 ?_
      refine lv_bipush (v := 40) hx hb dX9_write_63 (by decide) ?_
      refine lv_iload_n hx hb dX9_write_65 rfl (lv_at hl 3 rfl) ?_
      refine lv_imul hx hb dX9_write_66 ?_
      refine xl_i (y := 40) (by decide) ?_
      refine lv_iload_n hx hb dX9_write_67 rfl (lv_at hl 4 rfl) ?_
      refine lv_iadd hx hb dX9_write_68 ?_
      refine xl_i (y := nI (40 + y_14)) (nI_add 40 y_14) ?_
      refine lv_aload_n hx hb dX9_write_69 rfl (lv_at hl 2 rfl) ?_
      refine xg hF kf_X9_43 hK hP 0 rfl rfl dX9_write_70 ?_
      refine lv_iload_n hx hb dX9_write_73 rfl (lv_at hl 3 rfl) ?_
      refine va_iald hx hb hK hP 1 0 rfl rfl (xin 1 4 (by decide) (by decide)) dX9_write_74 ?_
      refine xl_i (y := bi 1) (congrArg bi rfl) ?_
      refine lv_lload_n hx hb dX9_write_75 rfl (lv_at hl 5 rfl) ?_
      refine xc_Srl hF (c_X9_narrowed l D cI cJ cZ cS ta sa sv s.heap.size (bi 1) p2 ) ks_X9_313 ⟨rfl, rfl, Nat.le_of_ble_eq_true rfl, Nat.le_of_ble_eq_true rfl⟩ ⟨Nat.le_of_ble_eq_true rfl, Nat.le_of_ble_eq_true rfl⟩ hK hN hZ hP hD hS hA [] rfl rfl rfl hl.1 rfl (Nat.le_of_ble_eq_true rfl) dX9_write_76 (fun r_15 hw_r_15 => ?_)
      subst hw_r_15
      refine va_last hx hb hK hP hD hS 3 1 rfl rfl (vp_in_nI (show 40 + y_14 < 160 by omega) (by decide)) dX9_write_79 (fun H locs hP hD hS => ?_)
      rw [nI_clamp (show 40 + y_14 < 2 ^ 31 by omega)] at hP hD
      obtain ⟨f_16, ef_16⟩ : ∃ g, g = vp_updL nb (40 + y_14) (sp_low (bi 1) p2) := ⟨_, rfl⟩
      rw [← ef_16] at hP hD
      have hP : va_P D vwCl [(h0, .inr (9, [.ref ys, .ref yk, .ref yo, .ref yt, .int mk0, .ref yfa, .ref yfe, .int mL, .int mS, .int mM, .ref yro, .ref yhe, .ref ygr, .int mF, .int mC, .int mY, .ref yta, .int (nI (mz)), .int (nI (mf)), .int (nI (mt)), .int mv, .int mw, .ref ywa, .ref ybi, .ref ysi, .ref ynu, .ref ymo])), (ybi, .inl (cI, 4, .inl bi)), (ysi, .inl (cI, 4, .inl sq)), (ynu, .inl (cJ, 160, .inr (.inl f_16))), (yt, .inl (cI, 7, .inl mq))] H := hP
      have hD : va_D A [(h0, .inr (9, [.ref ys, .ref yk, .ref yo, .ref yt, .int mk0, .ref yfa, .ref yfe, .int mL, .int mS, .int mM, .ref yro, .ref yhe, .ref ygr, .int mF, .int mC, .int mY, .ref yta, .int (nI (mz)), .int (nI (mf)), .int (nI (mt)), .int mv, .int mw, .ref ywa, .ref ybi, .ref ysi, .ref ynu, .ref ymo])), (ybi, .inl (cI, 4, .inl bi)), (ysi, .inl (cI, 4, .inl sq)), (ynu, .inl (cJ, 160, .inr (.inl f_16))), (yt, .inl (cI, 7, .inl mq))] := hD
      refine lv_lload hx hb dX9_write_80 (lv_at hl 0 rfl) ?_
      exact W.lret (v := nb (40 + y_14)) hx hb hr (fun t ht hW => ⟨⟨nb (40 + y_14), (f_16, mq), rfl, ⟨(sp_wr3 (f := fun j => nb (40 + j)) h_3 (by omega) (by omega)), (fun j _ => sp_w3 (K := 40) h_3 (by omega) (by omega) ef_16), (fun j hj => by rw [ef_16]; exact pk_uLn (by omega))⟩, by rw [ht]; exact hP.sub [0, 1, 2, 3, 4] rfl, hD.sub [0, 1, 2, 3, 4] (by decide +kernel) rfl⟩, hS.F ht⟩) hS.2.2 dX9_write_82 hlk
    · skip
      refine lv_if_ne (tgt := 46) hx hb dX9_write_35 (by decide) (fun c_17 => absurd (by decide) c_17) (fun c_17 => ?_)
      refine lv_aload_n hx hb dX9_write_38 rfl (lv_at hl 1 rfl) ?_
      refine lv_ldc (v := (-1000000001)) hx hb hown (hu _ uw648) dX9_write_39 ?_
      refine xc_Vi (wr := [(ybi, .inl (cI, 4, .inl bi)), (ysi, .inl (cI, 4, .inl sq)), (ynu, .inl (cJ, 160, .inr (.inl nb)))]) hF (c_X9_finds_B l D cI cJ cZ cS ta sa sv s.heap.size h0 ys yk yo yt mk0 yfa yfe mL mS mM yro yhe ygr mF mC mY yta mz mf mt mv mw ywa ybi ysi ynu ymo mq ) kv_X9_70 ⟨rfl, rfl, Nat.le_of_ble_eq_true rfl, Nat.le_of_ble_eq_true rfl⟩ ⟨Nat.le_of_ble_eq_true rfl, Nat.le_of_ble_eq_true rfl⟩ hK hN hZ hP hD hS hA [0, 4] [1, 2, 3] rfl rfl rfl rfl (by decide) 0 rfl rfl rfl rfl hl.1 rfl (Nat.le_of_ble_eq_true rfl) dX9_write_41 (fun r_18 u_r_18 H locs hw_r_18 hP hD hS => ?_)
      obtain ⟨mq2_19, rfl⟩ : ∃ z, z = u_r_18 := ⟨_, rfl⟩
      try dsimp only at hw_r_18
      have hP : va_P D vwCl [(ybi, .inl (cI, 4, .inl bi)), (ysi, .inl (cI, 4, .inl sq)), (ynu, .inl (cJ, 160, .inr (.inl nb))), (h0, .inr (9, [.ref ys, .ref yk, .ref yo, .ref yt, .int mk0, .ref yfa, .ref yfe, .int mL, .int mS, .int mM, .ref yro, .ref yhe, .ref ygr, .int mF, .int mC, .int mY, .ref yta, .int (nI (mz)), .int (nI (mf)), .int (nI (mt)), .int mv, .int mw, .ref ywa, .ref ybi, .ref ysi, .ref ynu, .ref ymo])), (yt, .inl (cI, 7, .inl mq2_19))] H := hP
      have hD : va_D A [(ybi, .inl (cI, 4, .inl bi)), (ysi, .inl (cI, 4, .inl sq)), (ynu, .inl (cJ, 160, .inr (.inl nb))), (h0, .inr (9, [.ref ys, .ref yk, .ref yo, .ref yt, .int mk0, .ref yfa, .ref yfe, .int mL, .int mS, .int mM, .ref yro, .ref yhe, .ref ygr, .int mF, .int mC, .int mY, .ref yta, .int (nI (mz)), .int (nI (mf)), .int (nI (mt)), .int mv, .int mw, .ref ywa, .ref ybi, .ref ysi, .ref ynu, .ref ymo])), (yt, .inl (cI, 7, .inl mq2_19))] := hD
      subst hw_r_18
      refine lv_i2l (v := (-1000000001)) hx hb dX9_write_44 (by decide) ?_
      exact W.lret (v := (-1000000001)) hx hb hr (fun t ht hW => ⟨⟨(-1000000001), (nb, mq2_19), rfl, ⟨(sp_wr2 h_3 (sp_w5 hzq ex_8 h_12)), (fun j _ => sp_w2 (sp_w5 hzq ex_8 h_12)), (fun _ _ => rfl)⟩, by rw [ht]; exact hP.sub [3, 0, 1, 2, 4] rfl, hD.sub [3, 0, 1, 2, 4] (by decide +kernel) rfl⟩, hS.F ht⟩) hS.2.2 dX9_write_45 hlk
set_option maxHeartbeats 4000000 in
set_option maxRecDepth 100000 in
theorem c_X9_wrong_2 (l : Launch) (D : va_G) (cI cJ cZ cS : ClassId) (ta : Nat) (sa sv : Nat → Nat) (sz : Nat) (h0 : Nat) (ys : Nat) (yk : Nat) (yo : Nat) (yt : Nat) (mk0 : Int32) (yfa : Nat) (yfe : Nat) (mL : Int32) (mS : Int32) (mM : Int32) (yro : Nat) (yhe : Nat) (ygr : Nat) (mF : Int32) (mC : Int32) (mY : Int32) (yta : Nat) (mz : Nat) (mf : Nat) (mt : Nat) (mv : Int32) (mw : Int32) (ywa : Nat) (ybi : Nat) (ysi : Nat) (ynu : Nat) (ymo : Nat) (bi : Nat → Int32) : Met l yX9_wrong (Cond.code yX9_wrong cX9_wrong 2 (some .int) :: wsU) ({ frames := 2, cells := 0, slots := 0, locals := 45 }) (va_Pc [.ref h0, .int 2] (XW D (xT cI cJ cZ cS) ta sa sv [(h0, .inr (9, [.ref ys, .ref yk, .ref yo, .ref yt, .int mk0, .ref yfa, .ref yfe, .int mL, .int mS, .int mM, .ref yro, .ref yhe, .ref ygr, .int mF, .int mC, .int mY, .ref yta, .int (nI (mz)), .int (nI (mf)), .int (nI (mt)), .int mv, .int mw, .ref ywa, .ref ybi, .ref ysi, .ref ynu, .ref ymo])), (ybi, .inl (cI, 4, .inl bi))] sz)) (vp_Si (fun r : Int32 => (r = (-1000000006) ∧ (bi 2 = 0)) ∨ (r = 0 ∧ (¬ bi 2 = 0)))) 0 0 (fun _ => False) := by
  refine xh (QA := fun _ => vp_Si (fun r : Int32 => (r = (-1000000006) ∧ (bi 2 = 0)) ∨ (r = 0 ∧ (¬ bi 2 = 0)))) (fr := fun _ _ => False) (by decide) (Nat.le_of_ble_eq_true rfl) ?_
  intro p e s m below meth c ls A hF hr hlk hin hsz hP hK hD hN hZ hA hS hl
  have hF : CallFix p m c cX9_wrong 2 s _ _ RX9 := hF
  have hx := hF.1
  have hb := hF.2.1
  have hml := hF.2.2.1
  have hown := hF.2.2.2.1
  have hu : ∀ w ∈ wsU, w.before _ s = true := fun w h => hF.2.2.2.2 w (List.mem_cons_of_mem _ h)
  have hl : lv_has ls 2 [(0, .ref h0), (1, .int 2)] := hl
  refine lv_iload_n hx hb dX9_wrong_0 rfl (lv_at hl 1 rfl) ?_
  refine xc_Sr hF (c_X9_isOne l D cI cJ cZ cS ta sa sv s.heap.size 2 ) ks_X9_305 ⟨rfl, rfl, Nat.le_of_ble_eq_true rfl, Nat.le_of_ble_eq_true rfl⟩ ⟨Nat.le_of_ble_eq_true rfl, Nat.le_of_ble_eq_true rfl⟩ hK hN hZ hP hD hS hA [] rfl rfl rfl hl.1 rfl (Nat.le_of_ble_eq_true rfl) dX9_wrong_1 (fun r_1 hw_r_1 => ?_)
  rcases hw_r_1 with ⟨rfl, h_2, h_3⟩ | ⟨rfl, h_4⟩
  · skip
    refine lv_if_ne (tgt := 12) hx hb dX9_wrong_4 (by decide) (fun c_5 => ?_) (fun c_5 => absurd c_5 (by decide))
    refine lv_aload_n hx hb dX9_wrong_12 rfl (lv_at hl 0 rfl) ?_
    refine xg hF kf_X9_43 hK hP 0 rfl rfl dX9_wrong_13 ?_
    refine lv_iload_n hx hb dX9_wrong_16 rfl (lv_at hl 1 rfl) ?_
    refine va_iald hx hb hK hP 1 0 rfl rfl (xin 2 4 (by decide) (by decide)) dX9_wrong_17 ?_
    refine xl_i (y := bi 2) (congrArg bi rfl) ?_
    refine lv_if_ne (tgt := 27) hx hb dX9_wrong_18 (by decide) (fun c_6 => ?_) (fun c_6 => ?_)
    · skip
      refine lv_iconst (v := 0) hx hb dX9_wrong_27 (by decide) ?_
      exact W.iret (v := 0) hx hb hr (fun t ht hW => ⟨0, rfl, (by first | exact Or.inr (⟨rfl, (by first | assumption | omega | exact Or.inl (by first | assumption | omega) | exact Or.inr (by first | assumption | omega))⟩)), ht⟩) (fun q h => by cases h) dX9_wrong_28 hlk
    · skip
      refine lv_ldcw (v := (-1000000006)) hx hb hown (hu _ uw910) dX9_wrong_21 ?_
      refine lv_goto (tgt := 28) hx hb dX9_wrong_24 (by decide) ?_
      exact W.iret (v := (-1000000006)) hx hb hr (fun t ht hW => ⟨(-1000000006), rfl, (by first | exact Or.inl ⟨rfl, (by first | assumption | omega | exact Or.inl (by first | assumption | omega) | exact Or.inr (by first | assumption | omega))⟩), ht⟩) (fun q h => by cases h) dX9_wrong_28 hlk
  · exact absurd h_4 (by decide)
set_option maxHeartbeats 4000000 in
set_option maxRecDepth 100000 in
theorem c_X9_sheet_2 (l : Launch) (D : va_G) (cI cJ cZ cS : ClassId) (ta : Nat) (sa sv : Nat → Nat) (sz : Nat) (h0 : Nat) (ys : Nat) (yk : Nat) (yo : Nat) (yt : Nat) (mk0 : Int32) (yfa : Nat) (yfe : Nat) (mL : Int32) (mS : Int32) (mM : Int32) (yro : Nat) (yhe : Nat) (ygr : Nat) (mF : Int32) (mC : Int32) (mY : Int32) (yta : Nat) (mz : Nat) (mf : Nat) (mt : Nat) (mv : Int32) (mw : Int32) (ywa : Nat) (ybi : Nat) (ysi : Nat) (ynu : Nat) (ymo : Nat) (bi : Nat → Int32) (sq : Nat → Int32) (nb : Nat → Int64) (mq : Nat → Int32) (p1 : Int32) (p2 : Int32) (zq : Nat) (ez : sq 2 = nI zq) (hzq : zq ≤ 40) (hsq : BA 4 41 sq) : Met l yX9_sheet (Cond.code yX9_sheet cX9_sheet 5 (some .int) :: wsU) ({ frames := 2, cells := 0, slots := 0, locals := 45 }) (va_Pc [.ref h0, .int 2, .int p1, .int p2] (XW D (xT cI cJ cZ cS) ta sa sv [(h0, .inr (9, [.ref ys, .ref yk, .ref yo, .ref yt, .int mk0, .ref yfa, .ref yfe, .int mL, .int mS, .int mM, .ref yro, .ref yhe, .ref ygr, .int mF, .int mC, .int mY, .ref yta, .int (nI (mz)), .int (nI (mf)), .int (nI (mt)), .int mv, .int mw, .ref ywa, .ref ybi, .ref ysi, .ref ynu, .ref ymo])), (ybi, .inl (cI, 4, .inl bi)), (ysi, .inl (cI, 4, .inl sq)), (ynu, .inl (cJ, 160, .inr (.inl nb))), (yt, .inl (cI, 7, .inl mq))] sz)) (XQi (fun (r : Int32) (u : (Nat → Int32) × (Nat → Int32) × (Nat → Int64) × (Nat → Int32)) => match u with | (bi2, sq2, nb2, mq2) => ((r = a_sheet 2 p1 p2)) ∧ (bi2 2 = sp_sb p1 p2 (bi 2)) ∧ (∀ j, j ≠ 2 → bi2 j = bi j) ∧ (sq2 2 = nI (sp_sz p1 p2 zq)) ∧ (∀ j, j ≠ 2 → sq2 j = sq j) ∧ (∀ j, j < 40 → nb2 (80 + j) = sp_sn p1 p2 (nb (80 + j))) ∧ (∀ j, j < 80 ∨ 120 ≤ j → nb2 j = nb j) ∧ (BA 4 41 sq2)) D (fun (u : (Nat → Int32) × (Nat → Int32) × (Nat → Int64) × (Nat → Int32)) => match u with | (bi2, sq2, nb2, mq2) => [(h0, .inr (9, [.ref ys, .ref yk, .ref yo, .ref yt, .int mk0, .ref yfa, .ref yfe, .int mL, .int mS, .int mM, .ref yro, .ref yhe, .ref ygr, .int mF, .int mC, .int mY, .ref yta, .int (nI (mz)), .int (nI (mf)), .int (nI (mt)), .int mv, .int mw, .ref ywa, .ref ybi, .ref ysi, .ref ynu, .ref ymo])), (ybi, .inl (cI, 4, .inl bi2)), (ysi, .inl (cI, 4, .inl sq2)), (ynu, .inl (cJ, 160, .inr (.inl nb2))), (yt, .inl (cI, 7, .inl mq2))]) (va_A [(h0, .inr (9, [.ref ys, .ref yk, .ref yo, .ref yt, .int mk0, .ref yfa, .ref yfe, .int mL, .int mS, .int mM, .ref yro, .ref yhe, .ref ygr, .int mF, .int mC, .int mY, .ref yta, .int (nI (mz)), .int (nI (mf)), .int (nI (mt)), .int mv, .int mw, .ref ywa, .ref ybi, .ref ysi, .ref ynu, .ref ymo])), (ybi, .inl (cI, 4, .inl bi)), (ysi, .inl (cI, 4, .inl sq)), (ynu, .inl (cJ, 160, .inr (.inl nb))), (yt, .inl (cI, 7, .inl mq))] sz)) 0 0 (va_A [(h0, .inr (9, [.ref ys, .ref yk, .ref yo, .ref yt, .int mk0, .ref yfa, .ref yfe, .int mL, .int mS, .int mM, .ref yro, .ref yhe, .ref ygr, .int mF, .int mC, .int mY, .ref yta, .int (nI (mz)), .int (nI (mf)), .int (nI (mt)), .int mv, .int mw, .ref ywa, .ref ybi, .ref ysi, .ref ynu, .ref ymo])), (ybi, .inl (cI, 4, .inl bi)), (ysi, .inl (cI, 4, .inl sq)), (ynu, .inl (cJ, 160, .inr (.inl nb))), (yt, .inl (cI, 7, .inl mq))] sz) := by
  refine xh (QA := fun A => XQi (fun (r : Int32) (u : (Nat → Int32) × (Nat → Int32) × (Nat → Int64) × (Nat → Int32)) => match u with | (bi2, sq2, nb2, mq2) => ((r = a_sheet 2 p1 p2)) ∧ (bi2 2 = sp_sb p1 p2 (bi 2)) ∧ (∀ j, j ≠ 2 → bi2 j = bi j) ∧ (sq2 2 = nI (sp_sz p1 p2 zq)) ∧ (∀ j, j ≠ 2 → sq2 j = sq j) ∧ (∀ j, j < 40 → nb2 (80 + j) = sp_sn p1 p2 (nb (80 + j))) ∧ (∀ j, j < 80 ∨ 120 ≤ j → nb2 j = nb j) ∧ (BA 4 41 sq2)) D (fun (u : (Nat → Int32) × (Nat → Int32) × (Nat → Int64) × (Nat → Int32)) => match u with | (bi2, sq2, nb2, mq2) => [(h0, .inr (9, [.ref ys, .ref yk, .ref yo, .ref yt, .int mk0, .ref yfa, .ref yfe, .int mL, .int mS, .int mM, .ref yro, .ref yhe, .ref ygr, .int mF, .int mC, .int mY, .ref yta, .int (nI (mz)), .int (nI (mf)), .int (nI (mt)), .int mv, .int mw, .ref ywa, .ref ybi, .ref ysi, .ref ynu, .ref ymo])), (ybi, .inl (cI, 4, .inl bi2)), (ysi, .inl (cI, 4, .inl sq2)), (ynu, .inl (cJ, 160, .inr (.inl nb2))), (yt, .inl (cI, 7, .inl mq2))]) A) (fr := fun A => A) (by decide) (Nat.le_of_ble_eq_true rfl) ?_
  intro p e s m below meth c ls A hF hr hlk hin hsz hP hK hD hN hZ hA hS hl
  have hF : CallFix p m c cX9_sheet 5 s _ _ RX9 := hF
  have hx := hF.1
  have hb := hF.2.1
  have hml := hF.2.2.1
  have hown := hF.2.2.2.1
  have hu : ∀ w ∈ wsU, w.before _ s = true := fun w h => hF.2.2.2.2 w (List.mem_cons_of_mem _ h)
  have hl : lv_has ls 5 [(0, .ref h0), (1, .int 2), (2, .int p1), (3, .int p2)] := hl
  refine lv_iload_n hx hb dX9_sheet_0 rfl (lv_at hl 1 rfl) ?_
  refine xc_Sr hF (c_X9_isOne l D cI cJ cZ cS ta sa sv s.heap.size 2 ) ks_X9_305 ⟨rfl, rfl, Nat.le_of_ble_eq_true rfl, Nat.le_of_ble_eq_true rfl⟩ ⟨Nat.le_of_ble_eq_true rfl, Nat.le_of_ble_eq_true rfl⟩ hK hN hZ hP hD hS hA [] rfl rfl rfl hl.1 rfl (Nat.le_of_ble_eq_true rfl) dX9_sheet_1 (fun r_1 hw_r_1 => ?_)
  rcases hw_r_1 with ⟨rfl, h_2, h_3⟩ | ⟨rfl, h_4⟩
  · skip
    refine lv_if_eq (tgt := 29) hx hb dX9_sheet_4 (by decide) (fun c_5 => absurd c_5 (by decide)) (fun c_5 => ?_)
    refine lv_iload_n hx hb dX9_sheet_7 rfl (lv_at hl 2 rfl) ?_
    refine lv_if_eq (tgt := 36) hx hb dX9_sheet_8 (by decide) (fun c_6 => ?_) (fun c_6 => ?_)
    · skip
      refine lv_iload_n hx hb dX9_sheet_36 rfl (lv_at hl 3 rfl) ?_
      refine lv_if_ge (tgt := 48) hx hb dX9_sheet_37 (by decide) (fun c_7 => ?_) (fun c_7 => ?_)
      · skip
        refine lv_iload_n hx hb dX9_sheet_48 rfl (lv_at hl 3 rfl) ?_
        refine lv_bipush (v := 40) hx hb dX9_sheet_49 (by decide) ?_
        refine lv_icmp_le (tgt := 61) hx hb dX9_sheet_51 (by decide) (fun c_8 => ?_) (fun c_8 => ?_)
        · skip
          obtain ⟨y_9, hy_9, rfl⟩ := xrange2 (w := 40) (by omega) c_7 c_8
          refine lv_aload_n hx hb dX9_sheet_61 rfl (lv_at hl 0 rfl) ?_
          refine xg hF kf_X9_43 hK hP 0 rfl rfl dX9_sheet_62 ?_
          refine lv_iload_n hx hb dX9_sheet_65 rfl (lv_at hl 1 rfl) ?_
          refine lv_iload_n hx hb dX9_sheet_66 rfl (lv_at hl 2 rfl) ?_
          refine va_iast hx hb hK hP hD hS 1 0 rfl rfl (xin 2 4 (by decide) (by decide)) dX9_sheet_67 (fun H locs hP hD hS => ?_)
          obtain ⟨f_10, ef_10⟩ : ∃ g, g = upd bi 2 p1 := ⟨_, rfl⟩
          have hP : va_P D vwCl [(h0, .inr (9, [.ref ys, .ref yk, .ref yo, .ref yt, .int mk0, .ref yfa, .ref yfe, .int mL, .int mS, .int mM, .ref yro, .ref yhe, .ref ygr, .int mF, .int mC, .int mY, .ref yta, .int (nI (mz)), .int (nI (mf)), .int (nI (mt)), .int mv, .int mw, .ref ywa, .ref ybi, .ref ysi, .ref ynu, .ref ymo])), (ybi, .inl (cI, 4, .inl (upd bi 2 p1))), (ysi, .inl (cI, 4, .inl sq)), (ynu, .inl (cJ, 160, .inr (.inl nb))), (yt, .inl (cI, 7, .inl mq))] H := hP
          have hD : va_D A [(h0, .inr (9, [.ref ys, .ref yk, .ref yo, .ref yt, .int mk0, .ref yfa, .ref yfe, .int mL, .int mS, .int mM, .ref yro, .ref yhe, .ref ygr, .int mF, .int mC, .int mY, .ref yta, .int (nI (mz)), .int (nI (mf)), .int (nI (mt)), .int mv, .int mw, .ref ywa, .ref ybi, .ref ysi, .ref ynu, .ref ymo])), (ybi, .inl (cI, 4, .inl (upd bi 2 p1))), (ysi, .inl (cI, 4, .inl sq)), (ynu, .inl (cJ, 160, .inr (.inl nb))), (yt, .inl (cI, 7, .inl mq))] := hD
          rw [← ef_10] at hP hD
          have hP : va_P D vwCl [(h0, .inr (9, [.ref ys, .ref yk, .ref yo, .ref yt, .int mk0, .ref yfa, .ref yfe, .int mL, .int mS, .int mM, .ref yro, .ref yhe, .ref ygr, .int mF, .int mC, .int mY, .ref yta, .int (nI (mz)), .int (nI (mf)), .int (nI (mt)), .int mv, .int mw, .ref ywa, .ref ybi, .ref ysi, .ref ynu, .ref ymo])), (ybi, .inl (cI, 4, .inl f_10)), (ysi, .inl (cI, 4, .inl sq)), (ynu, .inl (cJ, 160, .inr (.inl nb))), (yt, .inl (cI, 7, .inl mq))] H := hP
          have hD : va_D A [(h0, .inr (9, [.ref ys, .ref yk, .ref yo, .ref yt, .int mk0, .ref yfa, .ref yfe, .int mL, .int mS, .int mM, .ref yro, .ref yhe, .ref ygr, .int mF, .int mC, .int mY, .ref yta, .int (nI (mz)), .int (nI (mf)), .int (nI (mt)), .int mv, .int mw, .ref ywa, .ref ybi, .ref ysi, .ref ynu, .ref ymo])), (ybi, .inl (cI, 4, .inl f_10)), (ysi, .inl (cI, 4, .inl sq)), (ynu, .inl (cJ, 160, .inr (.inl nb))), (yt, .inl (cI, 7, .inl mq))] := hD
          refine lv_aload_n hx hb dX9_sheet_68 rfl (lv_at hl 0 rfl) ?_
          refine xg hF kf_X9_46 hK hP 0 rfl rfl dX9_sheet_69 ?_
          refine lv_iload_n hx hb dX9_sheet_72 rfl (lv_at hl 1 rfl) ?_
          refine lv_iload_n hx hb dX9_sheet_73 rfl (lv_at hl 2 rfl) ?_
          refine lv_if_ne (tgt := 81) hx hb dX9_sheet_74 (by decide) (fun c_11 => ?_) (fun c_11 => ?_)
          · skip
            refine lv_iload_n hx hb dX9_sheet_81 rfl (lv_at hl 3 rfl) ?_
            refine va_iast hx hb hK hP hD hS 2 0 rfl rfl (xin 2 4 (by decide) (by decide)) dX9_sheet_82 (fun H locs hP hD hS => ?_)
            obtain ⟨f_12, ef_12⟩ : ∃ g, g = upd sq 2 (nI (y_9)) := ⟨_, rfl⟩
            have hP : va_P D vwCl [(h0, .inr (9, [.ref ys, .ref yk, .ref yo, .ref yt, .int mk0, .ref yfa, .ref yfe, .int mL, .int mS, .int mM, .ref yro, .ref yhe, .ref ygr, .int mF, .int mC, .int mY, .ref yta, .int (nI (mz)), .int (nI (mf)), .int (nI (mt)), .int mv, .int mw, .ref ywa, .ref ybi, .ref ysi, .ref ynu, .ref ymo])), (ybi, .inl (cI, 4, .inl f_10)), (ysi, .inl (cI, 4, .inl (upd sq 2 (nI (y_9))))), (ynu, .inl (cJ, 160, .inr (.inl nb))), (yt, .inl (cI, 7, .inl mq))] H := hP
            have hD : va_D A [(h0, .inr (9, [.ref ys, .ref yk, .ref yo, .ref yt, .int mk0, .ref yfa, .ref yfe, .int mL, .int mS, .int mM, .ref yro, .ref yhe, .ref ygr, .int mF, .int mC, .int mY, .ref yta, .int (nI (mz)), .int (nI (mf)), .int (nI (mt)), .int mv, .int mw, .ref ywa, .ref ybi, .ref ysi, .ref ynu, .ref ymo])), (ybi, .inl (cI, 4, .inl f_10)), (ysi, .inl (cI, 4, .inl (upd sq 2 (nI (y_9))))), (ynu, .inl (cJ, 160, .inr (.inl nb))), (yt, .inl (cI, 7, .inl mq))] := hD
            rw [← ef_12] at hP hD
            have hf_12 : BA 4 41 f_12 := by rw [ef_12]; exact BA.upd hsq (show y_9 < 41 by omega)
            have hP : va_P D vwCl [(h0, .inr (9, [.ref ys, .ref yk, .ref yo, .ref yt, .int mk0, .ref yfa, .ref yfe, .int mL, .int mS, .int mM, .ref yro, .ref yhe, .ref ygr, .int mF, .int mC, .int mY, .ref yta, .int (nI (mz)), .int (nI (mf)), .int (nI (mt)), .int mv, .int mw, .ref ywa, .ref ybi, .ref ysi, .ref ynu, .ref ymo])), (ybi, .inl (cI, 4, .inl f_10)), (ysi, .inl (cI, 4, .inl f_12)), (ynu, .inl (cJ, 160, .inr (.inl nb))), (yt, .inl (cI, 7, .inl mq))] H := hP
            have hD : va_D A [(h0, .inr (9, [.ref ys, .ref yk, .ref yo, .ref yt, .int mk0, .ref yfa, .ref yfe, .int mL, .int mS, .int mM, .ref yro, .ref yhe, .ref ygr, .int mF, .int mC, .int mY, .ref yta, .int (nI (mz)), .int (nI (mf)), .int (nI (mt)), .int mv, .int mw, .ref ywa, .ref ybi, .ref ysi, .ref ynu, .ref ymo])), (ybi, .inl (cI, 4, .inl f_10)), (ysi, .inl (cI, 4, .inl f_12)), (ynu, .inl (cJ, 160, .inr (.inl nb))), (yt, .inl (cI, 7, .inl mq))] := hD
            refine lv_iconst (v := 0) hx hb dX9_sheet_83 (by decide) ?_
            refine lv_istore (lv' := [(4, .int 0), (0, .ref h0), (1, .int 2), (2, .int p1), (3, .int (nI (y_9)))]) hx hb dX9_sheet_84 hl (by decide) rfl (fun ls hl => ?_)
            suffices loop_86 : ∀ (n_86 : Nat) (i : Nat) (n8 : Nat → Int64) (H : Heap) (locs : List Loc) (ls : Array Slot), 40 - i < n_86 → (i ≤ 40) → (∀ j, 80 ≤ j → j < 80 + i → n8 j = 0) → (∀ j, j < 80 ∨ 120 ≤ j → n8 j = nb j) → va_P D vwCl [(h0, .inr (9, [.ref ys, .ref yk, .ref yo, .ref yt, .int mk0, .ref yfa, .ref yfe, .int mL, .int mS, .int mM, .ref yro, .ref yhe, .ref ygr, .int mF, .int mC, .int mY, .ref yta, .int (nI (mz)), .int (nI (mf)), .int (nI (mt)), .int mv, .int mw, .ref ywa, .ref ybi, .ref ysi, .ref ynu, .ref ymo])), (ybi, .inl (cI, 4, .inl f_10)), (ysi, .inl (cI, 4, .inl f_12)), (ynu, .inl (cJ, 160, .inr (.inl n8))), (yt, .inl (cI, 7, .inl mq))] H → va_D A [(h0, .inr (9, [.ref ys, .ref yk, .ref yo, .ref yt, .int mk0, .ref yfa, .ref yfe, .int mL, .int mS, .int mM, .ref yro, .ref yhe, .ref ygr, .int mF, .int mC, .int mY, .ref yta, .int (nI (mz)), .int (nI (mf)), .int (nI (mt)), .int mv, .int mw, .ref ywa, .ref ybi, .ref ysi, .ref ynu, .ref ymo])), (ybi, .inl (cI, 4, .inl f_10)), (ysi, .inl (cI, 4, .inl f_12)), (ynu, .inl (cJ, 160, .inr (.inl n8))), (yt, .inl (cI, 7, .inl mq))] → va_S A s.heap H locs → lv_has ls 5 [(4, .int (nI (i))), (0, .ref h0), (1, .int 2), (2, .int p1), (3, .int (nI (y_9)))] → W p l e ({ frames := 2, cells := 0, slots := 0, locals := 45 }) s m ([.ref h0, .int 2, .int p1, .int (nI (y_9))] : List Value).toArray below meth c H locs 0 0 (MQ below (XQi (fun (r : Int32) (u : (Nat → Int32) × (Nat → Int32) × (Nat → Int64) × (Nat → Int32)) => match u with | (bi2, sq2, nb2, mq2) => ((r = a_sheet 2 p1 (nI (y_9)))) ∧ (bi2 2 = sp_sb p1 (nI (y_9)) (bi 2)) ∧ (∀ j, j ≠ 2 → bi2 j = bi j) ∧ (sq2 2 = nI (sp_sz p1 (nI (y_9)) zq)) ∧ (∀ j, j ≠ 2 → sq2 j = sq j) ∧ (∀ j, j < 40 → nb2 (80 + j) = sp_sn p1 (nI (y_9)) (nb (80 + j))) ∧ (∀ j, j < 80 ∨ 120 ≤ j → nb2 j = nb j) ∧ (BA 4 41 sq2)) D (fun (u : (Nat → Int32) × (Nat → Int32) × (Nat → Int64) × (Nat → Int32)) => match u with | (bi2, sq2, nb2, mq2) => [(h0, .inr (9, [.ref ys, .ref yk, .ref yo, .ref yt, .int mk0, .ref yfa, .ref yfe, .int mL, .int mS, .int mM, .ref yro, .ref yhe, .ref ygr, .int mF, .int mC, .int mY, .ref yta, .int (nI (mz)), .int (nI (mf)), .int (nI (mt)), .int mv, .int mw, .ref ywa, .ref ybi, .ref ysi, .ref ynu, .ref ymo])), (ybi, .inl (cI, 4, .inl bi2)), (ysi, .inl (cI, 4, .inl sq2)), (ynu, .inl (cJ, 160, .inr (.inl nb2))), (yt, .inl (cI, 7, .inl mq2))]) A) ([.ref h0, .int 2, .int p1, .int (nI (y_9))] : List Value).toArray s 0 0 A) (F0 m 86 ls []) by
              exact loop_86 _ 0 nb _ _ _ (Nat.lt_succ_self _) (by omega) (fun j h1 h2 => absurd h1 (by omega)) (fun _ _ => rfl) hP hD hS (lv_sub hl [0, 1, 2, 3, 4] rfl)
            intro n_86
            induction n_86 with
            | zero =>
              intro i n8 H locs ls hm_86
              exact absurd hm_86 (Nat.not_lt_zero _)
            | succ n_86 ih_86 =>
              intro i n8 H locs ls hm_86 hi hf8 hg8 hP hD hS hl
              refine lv_iload hx hb dX9_sheet_86 (lv_at hl 0 rfl) ?_
              refine lv_bipush (v := 40) hx hb dX9_sheet_88 (by decide) ?_
              refine lv_icmp_ge (tgt := 112) hx hb dX9_sheet_90 (by decide) (fun c_13 => ?_) (fun c_13 => ?_)
              · skip
                have nc_13 : 40 ≤ i := xn_le (a := 40) (b := i) (by omega) (by omega) c_13
                refine lv_aload_n hx hb dX9_sheet_112 rfl (lv_at hl 1 rfl) ?_
                refine xg hF kf_X9_46 hK hP 0 rfl rfl dX9_sheet_113 ?_
                refine lv_iload_n hx hb dX9_sheet_116 rfl (lv_at hl 2 rfl) ?_
                refine va_iald hx hb hK hP 2 0 rfl rfl (xin 2 4 (by decide) (by decide)) dX9_sheet_117 ?_
                refine xl_i (y := f_12 2) (congrArg f_12 rfl) ?_
                refine xl_i (y := nI (y_9)) (by rw [ef_12]; exact pk_us) ?_
                exact W.iret (v := nI (y_9)) hx hb hr (fun t ht hW => ⟨⟨nI (y_9), (f_10, f_12, n8, mq), rfl, ⟨p_sheet6 (by decide) (by decide) (by first | exact Or.inl (by assumption) | exact Or.inr (Or.inl (by assumption)) | exact Or.inr (Or.inr (Or.inl (by assumption))) | exact Or.inr (Or.inr (Or.inr (by assumption)))) (nI_pos (by omega)) (x_le40 (by omega)) (by assumption), (by rw [ef_10]; exact pk_us.trans (if_pos ⟨(by first | exact Or.inl (by assumption) | exact Or.inr (Or.inl (by assumption)) | exact Or.inr (Or.inr (Or.inl (by assumption))) | exact Or.inr (Or.inr (Or.inr (by assumption)))), nI_pos (by omega), x_le40 (by omega)⟩).symm), (fun j hj => by rw [ef_10]; exact pk_un hj), (by rw [ef_12]; exact pk_us.trans (congrArg nI (sp_z1 ⟨(by first | exact Or.inl (by assumption) | exact Or.inr (Or.inl (by assumption)) | exact Or.inr (Or.inr (Or.inl (by assumption))) | exact Or.inr (Or.inr (Or.inr (by assumption)))), nI_pos (by omega), x_le40 (by omega)⟩ (by assumption) (by omega)))), (fun j hj => by rw [ef_12]; exact pk_un hj), (fun j hj => (hf8 (80 + j) (by omega) (by omega)).trans (if_pos ⟨(by first | exact Or.inl (by assumption) | exact Or.inr (Or.inl (by assumption)) | exact Or.inr (Or.inr (Or.inl (by assumption))) | exact Or.inr (Or.inr (Or.inr (by assumption)))), nI_pos (by omega), x_le40 (by omega)⟩).symm), (fun j hj => hg8 j hj), hf_12⟩, by rw [ht]; exact hP.sub [0, 1, 2, 3, 4] rfl, hD.sub [0, 1, 2, 3, 4] (by decide +kernel) rfl⟩, hS.F ht⟩) hS.2.2 dX9_sheet_118 hlk
              · skip
                have nc_13 : i < 40 := xn_nle (a := 40) (b := i) (by omega) (by omega) c_13
                refine lv_aload_n hx hb dX9_sheet_93 rfl (lv_at hl 1 rfl) ?_
                refine xg hF kf_X9_49 hK hP 0 rfl rfl dX9_sheet_94 ?_
                refine lv_bipush (v := 40) hx hb dX9_sheet_97 (by decide) ?_
                refine lv_iload_n hx hb dX9_sheet_99 rfl (lv_at hl 2 rfl) ?_
                refine lv_imul hx hb dX9_sheet_100 ?_
                refine xl_i (y := 80) (by decide) ?_
                refine lv_iload hx hb dX9_sheet_101 (lv_at hl 0 rfl) ?_
                refine lv_iadd hx hb dX9_sheet_103 ?_
                refine xl_i (y := nI (80 + i)) (nI_add 80 i) ?_
                refine lv_lconst (v := 0) hx hb dX9_sheet_104 (by decide) ?_
                refine va_last hx hb hK hP hD hS 3 1 rfl rfl (vp_in_nI (show 80 + i < 160 by omega) (by decide)) dX9_sheet_105 (fun H locs hP hD hS => ?_)
                rw [nI_clamp (show 80 + i < 2 ^ 31 by omega)] at hP hD
                obtain ⟨f_14, ef_14⟩ : ∃ g, g = vp_updL n8 (80 + i) 0 := ⟨_, rfl⟩
                rw [← ef_14] at hP hD
                have hP : va_P D vwCl [(h0, .inr (9, [.ref ys, .ref yk, .ref yo, .ref yt, .int mk0, .ref yfa, .ref yfe, .int mL, .int mS, .int mM, .ref yro, .ref yhe, .ref ygr, .int mF, .int mC, .int mY, .ref yta, .int (nI (mz)), .int (nI (mf)), .int (nI (mt)), .int mv, .int mw, .ref ywa, .ref ybi, .ref ysi, .ref ynu, .ref ymo])), (ybi, .inl (cI, 4, .inl f_10)), (ysi, .inl (cI, 4, .inl f_12)), (ynu, .inl (cJ, 160, .inr (.inl f_14))), (yt, .inl (cI, 7, .inl mq))] H := hP
                have hD : va_D A [(h0, .inr (9, [.ref ys, .ref yk, .ref yo, .ref yt, .int mk0, .ref yfa, .ref yfe, .int mL, .int mS, .int mM, .ref yro, .ref yhe, .ref ygr, .int mF, .int mC, .int mY, .ref yta, .int (nI (mz)), .int (nI (mf)), .int (nI (mt)), .int mv, .int mw, .ref ywa, .ref ybi, .ref ysi, .ref ynu, .ref ymo])), (ybi, .inl (cI, 4, .inl f_10)), (ysi, .inl (cI, 4, .inl f_12)), (ynu, .inl (cJ, 160, .inr (.inl f_14))), (yt, .inl (cI, 7, .inl mq))] := hD
                refine lv_iinc (v := nI (i + 1)) (lv' := [(4, .int (nI (i + 1))), (0, .ref h0), (1, .int 2), (2, .int p1), (3, .int (nI (y_9)))]) hx hb dX9_sheet_106 hl (k := 0) rfl (nI_1 (i)) (by decide) rfl (fun ls hl => ?_)
                refine lv_goto (tgt := 86) hx hb dX9_sheet_109 (by decide) ?_
                exact ih_86 (i + 1) f_14 _ _ _ (by omega) (by omega) (sp_fil hf8 ef_14) (sp_fio hg8 (by omega) (by omega) ef_14) (hP.sub [0, 1, 2, 3, 4] rfl) (hD.sub [0, 1, 2, 3, 4] (by decide +kernel) rfl) hS (lv_sub hl [0, 1, 2, 3, 4] rfl)
          · skip
            refine lv_iconst (v := 0) hx hb dX9_sheet_77 (by decide) ?_
            refine lv_goto (tgt := 82) hx hb dX9_sheet_78 (by decide) ?_
            refine va_iast hx hb hK hP hD hS 2 0 rfl rfl (xin 2 4 (by decide) (by decide)) dX9_sheet_82 (fun H locs hP hD hS => ?_)
            obtain ⟨f_15, ef_15⟩ : ∃ g, g = upd sq 2 0 := ⟨_, rfl⟩
            have hP : va_P D vwCl [(h0, .inr (9, [.ref ys, .ref yk, .ref yo, .ref yt, .int mk0, .ref yfa, .ref yfe, .int mL, .int mS, .int mM, .ref yro, .ref yhe, .ref ygr, .int mF, .int mC, .int mY, .ref yta, .int (nI (mz)), .int (nI (mf)), .int (nI (mt)), .int mv, .int mw, .ref ywa, .ref ybi, .ref ysi, .ref ynu, .ref ymo])), (ybi, .inl (cI, 4, .inl f_10)), (ysi, .inl (cI, 4, .inl (upd sq 2 0))), (ynu, .inl (cJ, 160, .inr (.inl nb))), (yt, .inl (cI, 7, .inl mq))] H := hP
            have hD : va_D A [(h0, .inr (9, [.ref ys, .ref yk, .ref yo, .ref yt, .int mk0, .ref yfa, .ref yfe, .int mL, .int mS, .int mM, .ref yro, .ref yhe, .ref ygr, .int mF, .int mC, .int mY, .ref yta, .int (nI (mz)), .int (nI (mf)), .int (nI (mt)), .int mv, .int mw, .ref ywa, .ref ybi, .ref ysi, .ref ynu, .ref ymo])), (ybi, .inl (cI, 4, .inl f_10)), (ysi, .inl (cI, 4, .inl (upd sq 2 0))), (ynu, .inl (cJ, 160, .inr (.inl nb))), (yt, .inl (cI, 7, .inl mq))] := hD
            rw [← ef_15] at hP hD
            have hf_15 : BA 4 41 f_15 := by rw [ef_15]; exact BA.upd hsq (show 0 < 41 by omega)
            have hP : va_P D vwCl [(h0, .inr (9, [.ref ys, .ref yk, .ref yo, .ref yt, .int mk0, .ref yfa, .ref yfe, .int mL, .int mS, .int mM, .ref yro, .ref yhe, .ref ygr, .int mF, .int mC, .int mY, .ref yta, .int (nI (mz)), .int (nI (mf)), .int (nI (mt)), .int mv, .int mw, .ref ywa, .ref ybi, .ref ysi, .ref ynu, .ref ymo])), (ybi, .inl (cI, 4, .inl f_10)), (ysi, .inl (cI, 4, .inl f_15)), (ynu, .inl (cJ, 160, .inr (.inl nb))), (yt, .inl (cI, 7, .inl mq))] H := hP
            have hD : va_D A [(h0, .inr (9, [.ref ys, .ref yk, .ref yo, .ref yt, .int mk0, .ref yfa, .ref yfe, .int mL, .int mS, .int mM, .ref yro, .ref yhe, .ref ygr, .int mF, .int mC, .int mY, .ref yta, .int (nI (mz)), .int (nI (mf)), .int (nI (mt)), .int mv, .int mw, .ref ywa, .ref ybi, .ref ysi, .ref ynu, .ref ymo])), (ybi, .inl (cI, 4, .inl f_10)), (ysi, .inl (cI, 4, .inl f_15)), (ynu, .inl (cJ, 160, .inr (.inl nb))), (yt, .inl (cI, 7, .inl mq))] := hD
            refine lv_iconst (v := 0) hx hb dX9_sheet_83 (by decide) ?_
            refine lv_istore (lv' := [(4, .int 0), (0, .ref h0), (1, .int 2), (2, .int p1), (3, .int (nI (y_9)))]) hx hb dX9_sheet_84 hl (by decide) rfl (fun ls hl => ?_)
            suffices loop_86 : ∀ (n_86 : Nat) (i : Nat) (n8 : Nat → Int64) (H : Heap) (locs : List Loc) (ls : Array Slot), 40 - i < n_86 → (i ≤ 40) → (∀ j, 80 ≤ j → j < 80 + i → n8 j = 0) → (∀ j, j < 80 ∨ 120 ≤ j → n8 j = nb j) → va_P D vwCl [(h0, .inr (9, [.ref ys, .ref yk, .ref yo, .ref yt, .int mk0, .ref yfa, .ref yfe, .int mL, .int mS, .int mM, .ref yro, .ref yhe, .ref ygr, .int mF, .int mC, .int mY, .ref yta, .int (nI (mz)), .int (nI (mf)), .int (nI (mt)), .int mv, .int mw, .ref ywa, .ref ybi, .ref ysi, .ref ynu, .ref ymo])), (ybi, .inl (cI, 4, .inl f_10)), (ysi, .inl (cI, 4, .inl f_15)), (ynu, .inl (cJ, 160, .inr (.inl n8))), (yt, .inl (cI, 7, .inl mq))] H → va_D A [(h0, .inr (9, [.ref ys, .ref yk, .ref yo, .ref yt, .int mk0, .ref yfa, .ref yfe, .int mL, .int mS, .int mM, .ref yro, .ref yhe, .ref ygr, .int mF, .int mC, .int mY, .ref yta, .int (nI (mz)), .int (nI (mf)), .int (nI (mt)), .int mv, .int mw, .ref ywa, .ref ybi, .ref ysi, .ref ynu, .ref ymo])), (ybi, .inl (cI, 4, .inl f_10)), (ysi, .inl (cI, 4, .inl f_15)), (ynu, .inl (cJ, 160, .inr (.inl n8))), (yt, .inl (cI, 7, .inl mq))] → va_S A s.heap H locs → lv_has ls 5 [(4, .int (nI (i))), (0, .ref h0), (1, .int 2), (2, .int p1), (3, .int (nI (y_9)))] → W p l e ({ frames := 2, cells := 0, slots := 0, locals := 45 }) s m ([.ref h0, .int 2, .int p1, .int (nI (y_9))] : List Value).toArray below meth c H locs 0 0 (MQ below (XQi (fun (r : Int32) (u : (Nat → Int32) × (Nat → Int32) × (Nat → Int64) × (Nat → Int32)) => match u with | (bi2, sq2, nb2, mq2) => ((r = a_sheet 2 p1 (nI (y_9)))) ∧ (bi2 2 = sp_sb p1 (nI (y_9)) (bi 2)) ∧ (∀ j, j ≠ 2 → bi2 j = bi j) ∧ (sq2 2 = nI (sp_sz p1 (nI (y_9)) zq)) ∧ (∀ j, j ≠ 2 → sq2 j = sq j) ∧ (∀ j, j < 40 → nb2 (80 + j) = sp_sn p1 (nI (y_9)) (nb (80 + j))) ∧ (∀ j, j < 80 ∨ 120 ≤ j → nb2 j = nb j) ∧ (BA 4 41 sq2)) D (fun (u : (Nat → Int32) × (Nat → Int32) × (Nat → Int64) × (Nat → Int32)) => match u with | (bi2, sq2, nb2, mq2) => [(h0, .inr (9, [.ref ys, .ref yk, .ref yo, .ref yt, .int mk0, .ref yfa, .ref yfe, .int mL, .int mS, .int mM, .ref yro, .ref yhe, .ref ygr, .int mF, .int mC, .int mY, .ref yta, .int (nI (mz)), .int (nI (mf)), .int (nI (mt)), .int mv, .int mw, .ref ywa, .ref ybi, .ref ysi, .ref ynu, .ref ymo])), (ybi, .inl (cI, 4, .inl bi2)), (ysi, .inl (cI, 4, .inl sq2)), (ynu, .inl (cJ, 160, .inr (.inl nb2))), (yt, .inl (cI, 7, .inl mq2))]) A) ([.ref h0, .int 2, .int p1, .int (nI (y_9))] : List Value).toArray s 0 0 A) (F0 m 86 ls []) by
              exact loop_86 _ 0 nb _ _ _ (Nat.lt_succ_self _) (by omega) (fun j h1 h2 => absurd h1 (by omega)) (fun _ _ => rfl) hP hD hS (lv_sub hl [0, 1, 2, 3, 4] rfl)
            intro n_86
            induction n_86 with
            | zero =>
              intro i n8 H locs ls hm_86
              exact absurd hm_86 (Nat.not_lt_zero _)
            | succ n_86 ih_86 =>
              intro i n8 H locs ls hm_86 hi hf8 hg8 hP hD hS hl
              refine lv_iload hx hb dX9_sheet_86 (lv_at hl 0 rfl) ?_
              refine lv_bipush (v := 40) hx hb dX9_sheet_88 (by decide) ?_
              refine lv_icmp_ge (tgt := 112) hx hb dX9_sheet_90 (by decide) (fun c_16 => ?_) (fun c_16 => ?_)
              · skip
                have nc_16 : 40 ≤ i := xn_le (a := 40) (b := i) (by omega) (by omega) c_16
                refine lv_aload_n hx hb dX9_sheet_112 rfl (lv_at hl 1 rfl) ?_
                refine xg hF kf_X9_46 hK hP 0 rfl rfl dX9_sheet_113 ?_
                refine lv_iload_n hx hb dX9_sheet_116 rfl (lv_at hl 2 rfl) ?_
                refine va_iald hx hb hK hP 2 0 rfl rfl (xin 2 4 (by decide) (by decide)) dX9_sheet_117 ?_
                refine xl_i (y := f_15 2) (congrArg f_15 rfl) ?_
                refine xl_i (y := 0) (by rw [ef_15]; exact pk_us) ?_
                exact W.iret (v := 0) hx hb hr (fun t ht hW => ⟨⟨0, (f_10, f_15, n8, mq), rfl, ⟨p_sheet5 (by decide) (by decide) c_11 (nI_pos (by omega)) (x_le40 (by omega)), (by rw [ef_10]; exact pk_us.trans (if_pos ⟨(by first | exact Or.inl (by assumption) | exact Or.inr (Or.inl (by assumption)) | exact Or.inr (Or.inr (Or.inl (by assumption))) | exact Or.inr (Or.inr (Or.inr (by assumption)))), nI_pos (by omega), x_le40 (by omega)⟩).symm), (fun j hj => by rw [ef_10]; exact pk_un hj), (by rw [ef_15]; exact pk_us.trans (congrArg nI (sp_z0 ⟨(by first | exact Or.inl (by assumption) | exact Or.inr (Or.inl (by assumption)) | exact Or.inr (Or.inr (Or.inl (by assumption))) | exact Or.inr (Or.inr (Or.inr (by assumption)))), nI_pos (by omega), x_le40 (by omega)⟩ c_11))), (fun j hj => by rw [ef_15]; exact pk_un hj), (fun j hj => (hf8 (80 + j) (by omega) (by omega)).trans (if_pos ⟨(by first | exact Or.inl (by assumption) | exact Or.inr (Or.inl (by assumption)) | exact Or.inr (Or.inr (Or.inl (by assumption))) | exact Or.inr (Or.inr (Or.inr (by assumption)))), nI_pos (by omega), x_le40 (by omega)⟩).symm), (fun j hj => hg8 j hj), hf_15⟩, by rw [ht]; exact hP.sub [0, 1, 2, 3, 4] rfl, hD.sub [0, 1, 2, 3, 4] (by decide +kernel) rfl⟩, hS.F ht⟩) hS.2.2 dX9_sheet_118 hlk
              · skip
                have nc_16 : i < 40 := xn_nle (a := 40) (b := i) (by omega) (by omega) c_16
                refine lv_aload_n hx hb dX9_sheet_93 rfl (lv_at hl 1 rfl) ?_
                refine xg hF kf_X9_49 hK hP 0 rfl rfl dX9_sheet_94 ?_
                refine lv_bipush (v := 40) hx hb dX9_sheet_97 (by decide) ?_
                refine lv_iload_n hx hb dX9_sheet_99 rfl (lv_at hl 2 rfl) ?_
                refine lv_imul hx hb dX9_sheet_100 ?_
                refine xl_i (y := 80) (by decide) ?_
                refine lv_iload hx hb dX9_sheet_101 (lv_at hl 0 rfl) ?_
                refine lv_iadd hx hb dX9_sheet_103 ?_
                refine xl_i (y := nI (80 + i)) (nI_add 80 i) ?_
                refine lv_lconst (v := 0) hx hb dX9_sheet_104 (by decide) ?_
                refine va_last hx hb hK hP hD hS 3 1 rfl rfl (vp_in_nI (show 80 + i < 160 by omega) (by decide)) dX9_sheet_105 (fun H locs hP hD hS => ?_)
                rw [nI_clamp (show 80 + i < 2 ^ 31 by omega)] at hP hD
                obtain ⟨f_17, ef_17⟩ : ∃ g, g = vp_updL n8 (80 + i) 0 := ⟨_, rfl⟩
                rw [← ef_17] at hP hD
                have hP : va_P D vwCl [(h0, .inr (9, [.ref ys, .ref yk, .ref yo, .ref yt, .int mk0, .ref yfa, .ref yfe, .int mL, .int mS, .int mM, .ref yro, .ref yhe, .ref ygr, .int mF, .int mC, .int mY, .ref yta, .int (nI (mz)), .int (nI (mf)), .int (nI (mt)), .int mv, .int mw, .ref ywa, .ref ybi, .ref ysi, .ref ynu, .ref ymo])), (ybi, .inl (cI, 4, .inl f_10)), (ysi, .inl (cI, 4, .inl f_15)), (ynu, .inl (cJ, 160, .inr (.inl f_17))), (yt, .inl (cI, 7, .inl mq))] H := hP
                have hD : va_D A [(h0, .inr (9, [.ref ys, .ref yk, .ref yo, .ref yt, .int mk0, .ref yfa, .ref yfe, .int mL, .int mS, .int mM, .ref yro, .ref yhe, .ref ygr, .int mF, .int mC, .int mY, .ref yta, .int (nI (mz)), .int (nI (mf)), .int (nI (mt)), .int mv, .int mw, .ref ywa, .ref ybi, .ref ysi, .ref ynu, .ref ymo])), (ybi, .inl (cI, 4, .inl f_10)), (ysi, .inl (cI, 4, .inl f_15)), (ynu, .inl (cJ, 160, .inr (.inl f_17))), (yt, .inl (cI, 7, .inl mq))] := hD
                refine lv_iinc (v := nI (i + 1)) (lv' := [(4, .int (nI (i + 1))), (0, .ref h0), (1, .int 2), (2, .int p1), (3, .int (nI (y_9)))]) hx hb dX9_sheet_106 hl (k := 0) rfl (nI_1 (i)) (by decide) rfl (fun ls hl => ?_)
                refine lv_goto (tgt := 86) hx hb dX9_sheet_109 (by decide) ?_
                exact ih_86 (i + 1) f_17 _ _ _ (by omega) (by omega) (sp_fil hf8 ef_17) (sp_fio hg8 (by omega) (by omega) ef_17) (hP.sub [0, 1, 2, 3, 4] rfl) (hD.sub [0, 1, 2, 3, 4] (by decide +kernel) rfl) hS (lv_sub hl [0, 1, 2, 3, 4] rfl)
        · skip
          refine lv_aload_n hx hb dX9_sheet_54 rfl (lv_at hl 0 rfl) ?_
          refine lv_ldc (v := (-1000000001)) hx hb hown (hu _ uw648) dX9_sheet_55 ?_
          refine xc_Vi (wr := [(ybi, .inl (cI, 4, .inl bi)), (ysi, .inl (cI, 4, .inl sq)), (ynu, .inl (cJ, 160, .inr (.inl nb)))]) hF (c_X9_finds_B l D cI cJ cZ cS ta sa sv s.heap.size h0 ys yk yo yt mk0 yfa yfe mL mS mM yro yhe ygr mF mC mY yta mz mf mt mv mw ywa ybi ysi ynu ymo mq ) kv_X9_70 ⟨rfl, rfl, Nat.le_of_ble_eq_true rfl, Nat.le_of_ble_eq_true rfl⟩ ⟨Nat.le_of_ble_eq_true rfl, Nat.le_of_ble_eq_true rfl⟩ hK hN hZ hP hD hS hA [0, 4] [1, 2, 3] rfl rfl rfl rfl (by decide) 0 rfl rfl rfl rfl hl.1 rfl (Nat.le_of_ble_eq_true rfl) dX9_sheet_57 (fun r_18 u_r_18 H locs hw_r_18 hP hD hS => ?_)
          obtain ⟨mq2_19, rfl⟩ : ∃ z, z = u_r_18 := ⟨_, rfl⟩
          try dsimp only at hw_r_18
          have hP : va_P D vwCl [(ybi, .inl (cI, 4, .inl bi)), (ysi, .inl (cI, 4, .inl sq)), (ynu, .inl (cJ, 160, .inr (.inl nb))), (h0, .inr (9, [.ref ys, .ref yk, .ref yo, .ref yt, .int mk0, .ref yfa, .ref yfe, .int mL, .int mS, .int mM, .ref yro, .ref yhe, .ref ygr, .int mF, .int mC, .int mY, .ref yta, .int (nI (mz)), .int (nI (mf)), .int (nI (mt)), .int mv, .int mw, .ref ywa, .ref ybi, .ref ysi, .ref ynu, .ref ymo])), (yt, .inl (cI, 7, .inl mq2_19))] H := hP
          have hD : va_D A [(ybi, .inl (cI, 4, .inl bi)), (ysi, .inl (cI, 4, .inl sq)), (ynu, .inl (cJ, 160, .inr (.inl nb))), (h0, .inr (9, [.ref ys, .ref yk, .ref yo, .ref yt, .int mk0, .ref yfa, .ref yfe, .int mL, .int mS, .int mM, .ref yro, .ref yhe, .ref ygr, .int mF, .int mC, .int mY, .ref yta, .int (nI (mz)), .int (nI (mf)), .int (nI (mt)), .int mv, .int mw, .ref ywa, .ref ybi, .ref ysi, .ref ynu, .ref ymo])), (yt, .inl (cI, 7, .inl mq2_19))] := hD
          subst hw_r_18
          exact W.iret (v := (-1000000001)) hx hb hr (fun t ht hW => ⟨⟨(-1000000001), (bi, sq, nb, mq2_19), rfl, ⟨p_sheet4 (by decide) (by decide) (by first | exact Or.inl (by assumption) | exact Or.inr (Or.inl (by assumption)) | exact Or.inr (Or.inr (Or.inl (by assumption))) | exact Or.inr (Or.inr (Or.inr (by assumption)))) (fun h => absurd c_7 (Int32.not_le.mpr h)) (xlt c_8), (if_neg (sp_n4 (xlt c_8))).symm, (fun _ _ => rfl), (ez.trans (congrArg nI (if_neg (sp_n4 (xlt c_8))).symm)), (fun _ _ => rfl), (fun j hj => (if_neg (sp_n4 (xlt c_8))).symm), (fun _ _ => rfl), hsq⟩, by rw [ht]; exact hP.sub [3, 0, 1, 2, 4] rfl, hD.sub [3, 0, 1, 2, 4] (by decide +kernel) rfl⟩, hS.F ht⟩) hS.2.2 dX9_sheet_60 hlk
      · skip
        refine lv_aload_n hx hb dX9_sheet_40 rfl (lv_at hl 0 rfl) ?_
        refine lv_ldcw (v := (-1000000007)) hx hb hown (hu _ uw923) dX9_sheet_41 ?_
        refine xc_Vi (wr := [(ybi, .inl (cI, 4, .inl bi)), (ysi, .inl (cI, 4, .inl sq)), (ynu, .inl (cJ, 160, .inr (.inl nb)))]) hF (c_X9_finds_S l D cI cJ cZ cS ta sa sv s.heap.size h0 ys yk yo yt mk0 yfa yfe mL mS mM yro yhe ygr mF mC mY yta mz mf mt mv mw ywa ybi ysi ynu ymo mq ) kv_X9_70 ⟨rfl, rfl, Nat.le_of_ble_eq_true rfl, Nat.le_of_ble_eq_true rfl⟩ ⟨Nat.le_of_ble_eq_true rfl, Nat.le_of_ble_eq_true rfl⟩ hK hN hZ hP hD hS hA [0, 4] [1, 2, 3] rfl rfl rfl rfl (by decide) 0 rfl rfl rfl rfl hl.1 rfl (Nat.le_of_ble_eq_true rfl) dX9_sheet_44 (fun r_20 u_r_20 H locs hw_r_20 hP hD hS => ?_)
        obtain ⟨mq2_21, rfl⟩ : ∃ z, z = u_r_20 := ⟨_, rfl⟩
        try dsimp only at hw_r_20
        have hP : va_P D vwCl [(ybi, .inl (cI, 4, .inl bi)), (ysi, .inl (cI, 4, .inl sq)), (ynu, .inl (cJ, 160, .inr (.inl nb))), (h0, .inr (9, [.ref ys, .ref yk, .ref yo, .ref yt, .int mk0, .ref yfa, .ref yfe, .int mL, .int mS, .int mM, .ref yro, .ref yhe, .ref ygr, .int mF, .int mC, .int mY, .ref yta, .int (nI (mz)), .int (nI (mf)), .int (nI (mt)), .int mv, .int mw, .ref ywa, .ref ybi, .ref ysi, .ref ynu, .ref ymo])), (yt, .inl (cI, 7, .inl mq2_21))] H := hP
        have hD : va_D A [(ybi, .inl (cI, 4, .inl bi)), (ysi, .inl (cI, 4, .inl sq)), (ynu, .inl (cJ, 160, .inr (.inl nb))), (h0, .inr (9, [.ref ys, .ref yk, .ref yo, .ref yt, .int mk0, .ref yfa, .ref yfe, .int mL, .int mS, .int mM, .ref yro, .ref yhe, .ref ygr, .int mF, .int mC, .int mY, .ref yta, .int (nI (mz)), .int (nI (mf)), .int (nI (mt)), .int mv, .int mw, .ref ywa, .ref ybi, .ref ysi, .ref ynu, .ref ymo])), (yt, .inl (cI, 7, .inl mq2_21))] := hD
        subst hw_r_20
        exact W.iret (v := (-1000000007)) hx hb hr (fun t ht hW => ⟨⟨(-1000000007), (bi, sq, nb, mq2_21), rfl, ⟨p_sheet3 (by decide) (by decide) (by first | exact Or.inl (by assumption) | exact Or.inr (Or.inl (by assumption)) | exact Or.inr (Or.inr (Or.inl (by assumption))) | exact Or.inr (Or.inr (Or.inr (by assumption)))) (xlt c_7), (if_neg (sp_n3 (xlt c_7))).symm, (fun _ _ => rfl), (ez.trans (congrArg nI (if_neg (sp_n3 (xlt c_7))).symm)), (fun _ _ => rfl), (fun j hj => (if_neg (sp_n3 (xlt c_7))).symm), (fun _ _ => rfl), hsq⟩, by rw [ht]; exact hP.sub [3, 0, 1, 2, 4] rfl, hD.sub [3, 0, 1, 2, 4] (by decide +kernel) rfl⟩, hS.F ht⟩) hS.2.2 dX9_sheet_47 hlk
    · skip
      refine lv_iload_n hx hb dX9_sheet_11 rfl (lv_at hl 2 rfl) ?_
      refine lv_bipush (v := 8) hx hb dX9_sheet_12 (by decide) ?_
      refine lv_icmp_eq (tgt := 36) hx hb dX9_sheet_14 (by decide) (fun c_22 => ?_) (fun c_22 => ?_)
      · skip
        refine lv_iload_n hx hb dX9_sheet_36 rfl (lv_at hl 3 rfl) ?_
        refine lv_if_ge (tgt := 48) hx hb dX9_sheet_37 (by decide) (fun c_23 => ?_) (fun c_23 => ?_)
        · skip
          refine lv_iload_n hx hb dX9_sheet_48 rfl (lv_at hl 3 rfl) ?_
          refine lv_bipush (v := 40) hx hb dX9_sheet_49 (by decide) ?_
          refine lv_icmp_le (tgt := 61) hx hb dX9_sheet_51 (by decide) (fun c_24 => ?_) (fun c_24 => ?_)
          · skip
            obtain ⟨y_25, hy_25, rfl⟩ := xrange2 (w := 40) (by omega) c_23 c_24
            refine lv_aload_n hx hb dX9_sheet_61 rfl (lv_at hl 0 rfl) ?_
            refine xg hF kf_X9_43 hK hP 0 rfl rfl dX9_sheet_62 ?_
            refine lv_iload_n hx hb dX9_sheet_65 rfl (lv_at hl 1 rfl) ?_
            refine lv_iload_n hx hb dX9_sheet_66 rfl (lv_at hl 2 rfl) ?_
            refine va_iast hx hb hK hP hD hS 1 0 rfl rfl (xin 2 4 (by decide) (by decide)) dX9_sheet_67 (fun H locs hP hD hS => ?_)
            obtain ⟨f_26, ef_26⟩ : ∃ g, g = upd bi 2 p1 := ⟨_, rfl⟩
            have hP : va_P D vwCl [(h0, .inr (9, [.ref ys, .ref yk, .ref yo, .ref yt, .int mk0, .ref yfa, .ref yfe, .int mL, .int mS, .int mM, .ref yro, .ref yhe, .ref ygr, .int mF, .int mC, .int mY, .ref yta, .int (nI (mz)), .int (nI (mf)), .int (nI (mt)), .int mv, .int mw, .ref ywa, .ref ybi, .ref ysi, .ref ynu, .ref ymo])), (ybi, .inl (cI, 4, .inl (upd bi 2 p1))), (ysi, .inl (cI, 4, .inl sq)), (ynu, .inl (cJ, 160, .inr (.inl nb))), (yt, .inl (cI, 7, .inl mq))] H := hP
            have hD : va_D A [(h0, .inr (9, [.ref ys, .ref yk, .ref yo, .ref yt, .int mk0, .ref yfa, .ref yfe, .int mL, .int mS, .int mM, .ref yro, .ref yhe, .ref ygr, .int mF, .int mC, .int mY, .ref yta, .int (nI (mz)), .int (nI (mf)), .int (nI (mt)), .int mv, .int mw, .ref ywa, .ref ybi, .ref ysi, .ref ynu, .ref ymo])), (ybi, .inl (cI, 4, .inl (upd bi 2 p1))), (ysi, .inl (cI, 4, .inl sq)), (ynu, .inl (cJ, 160, .inr (.inl nb))), (yt, .inl (cI, 7, .inl mq))] := hD
            rw [← ef_26] at hP hD
            have hP : va_P D vwCl [(h0, .inr (9, [.ref ys, .ref yk, .ref yo, .ref yt, .int mk0, .ref yfa, .ref yfe, .int mL, .int mS, .int mM, .ref yro, .ref yhe, .ref ygr, .int mF, .int mC, .int mY, .ref yta, .int (nI (mz)), .int (nI (mf)), .int (nI (mt)), .int mv, .int mw, .ref ywa, .ref ybi, .ref ysi, .ref ynu, .ref ymo])), (ybi, .inl (cI, 4, .inl f_26)), (ysi, .inl (cI, 4, .inl sq)), (ynu, .inl (cJ, 160, .inr (.inl nb))), (yt, .inl (cI, 7, .inl mq))] H := hP
            have hD : va_D A [(h0, .inr (9, [.ref ys, .ref yk, .ref yo, .ref yt, .int mk0, .ref yfa, .ref yfe, .int mL, .int mS, .int mM, .ref yro, .ref yhe, .ref ygr, .int mF, .int mC, .int mY, .ref yta, .int (nI (mz)), .int (nI (mf)), .int (nI (mt)), .int mv, .int mw, .ref ywa, .ref ybi, .ref ysi, .ref ynu, .ref ymo])), (ybi, .inl (cI, 4, .inl f_26)), (ysi, .inl (cI, 4, .inl sq)), (ynu, .inl (cJ, 160, .inr (.inl nb))), (yt, .inl (cI, 7, .inl mq))] := hD
            refine lv_aload_n hx hb dX9_sheet_68 rfl (lv_at hl 0 rfl) ?_
            refine xg hF kf_X9_46 hK hP 0 rfl rfl dX9_sheet_69 ?_
            refine lv_iload_n hx hb dX9_sheet_72 rfl (lv_at hl 1 rfl) ?_
            refine lv_iload_n hx hb dX9_sheet_73 rfl (lv_at hl 2 rfl) ?_
            refine lv_if_ne (tgt := 81) hx hb dX9_sheet_74 (by decide) (fun c_27 => ?_) (fun c_27 => ?_)
            · skip
              refine lv_iload_n hx hb dX9_sheet_81 rfl (lv_at hl 3 rfl) ?_
              refine va_iast hx hb hK hP hD hS 2 0 rfl rfl (xin 2 4 (by decide) (by decide)) dX9_sheet_82 (fun H locs hP hD hS => ?_)
              obtain ⟨f_28, ef_28⟩ : ∃ g, g = upd sq 2 (nI (y_25)) := ⟨_, rfl⟩
              have hP : va_P D vwCl [(h0, .inr (9, [.ref ys, .ref yk, .ref yo, .ref yt, .int mk0, .ref yfa, .ref yfe, .int mL, .int mS, .int mM, .ref yro, .ref yhe, .ref ygr, .int mF, .int mC, .int mY, .ref yta, .int (nI (mz)), .int (nI (mf)), .int (nI (mt)), .int mv, .int mw, .ref ywa, .ref ybi, .ref ysi, .ref ynu, .ref ymo])), (ybi, .inl (cI, 4, .inl f_26)), (ysi, .inl (cI, 4, .inl (upd sq 2 (nI (y_25))))), (ynu, .inl (cJ, 160, .inr (.inl nb))), (yt, .inl (cI, 7, .inl mq))] H := hP
              have hD : va_D A [(h0, .inr (9, [.ref ys, .ref yk, .ref yo, .ref yt, .int mk0, .ref yfa, .ref yfe, .int mL, .int mS, .int mM, .ref yro, .ref yhe, .ref ygr, .int mF, .int mC, .int mY, .ref yta, .int (nI (mz)), .int (nI (mf)), .int (nI (mt)), .int mv, .int mw, .ref ywa, .ref ybi, .ref ysi, .ref ynu, .ref ymo])), (ybi, .inl (cI, 4, .inl f_26)), (ysi, .inl (cI, 4, .inl (upd sq 2 (nI (y_25))))), (ynu, .inl (cJ, 160, .inr (.inl nb))), (yt, .inl (cI, 7, .inl mq))] := hD
              rw [← ef_28] at hP hD
              have hf_28 : BA 4 41 f_28 := by rw [ef_28]; exact BA.upd hsq (show y_25 < 41 by omega)
              have hP : va_P D vwCl [(h0, .inr (9, [.ref ys, .ref yk, .ref yo, .ref yt, .int mk0, .ref yfa, .ref yfe, .int mL, .int mS, .int mM, .ref yro, .ref yhe, .ref ygr, .int mF, .int mC, .int mY, .ref yta, .int (nI (mz)), .int (nI (mf)), .int (nI (mt)), .int mv, .int mw, .ref ywa, .ref ybi, .ref ysi, .ref ynu, .ref ymo])), (ybi, .inl (cI, 4, .inl f_26)), (ysi, .inl (cI, 4, .inl f_28)), (ynu, .inl (cJ, 160, .inr (.inl nb))), (yt, .inl (cI, 7, .inl mq))] H := hP
              have hD : va_D A [(h0, .inr (9, [.ref ys, .ref yk, .ref yo, .ref yt, .int mk0, .ref yfa, .ref yfe, .int mL, .int mS, .int mM, .ref yro, .ref yhe, .ref ygr, .int mF, .int mC, .int mY, .ref yta, .int (nI (mz)), .int (nI (mf)), .int (nI (mt)), .int mv, .int mw, .ref ywa, .ref ybi, .ref ysi, .ref ynu, .ref ymo])), (ybi, .inl (cI, 4, .inl f_26)), (ysi, .inl (cI, 4, .inl f_28)), (ynu, .inl (cJ, 160, .inr (.inl nb))), (yt, .inl (cI, 7, .inl mq))] := hD
              refine lv_iconst (v := 0) hx hb dX9_sheet_83 (by decide) ?_
              refine lv_istore (lv' := [(4, .int 0), (0, .ref h0), (1, .int 2), (2, .int p1), (3, .int (nI (y_25)))]) hx hb dX9_sheet_84 hl (by decide) rfl (fun ls hl => ?_)
              suffices loop_86 : ∀ (n_86 : Nat) (i : Nat) (n8 : Nat → Int64) (H : Heap) (locs : List Loc) (ls : Array Slot), 40 - i < n_86 → (i ≤ 40) → (∀ j, 80 ≤ j → j < 80 + i → n8 j = 0) → (∀ j, j < 80 ∨ 120 ≤ j → n8 j = nb j) → va_P D vwCl [(h0, .inr (9, [.ref ys, .ref yk, .ref yo, .ref yt, .int mk0, .ref yfa, .ref yfe, .int mL, .int mS, .int mM, .ref yro, .ref yhe, .ref ygr, .int mF, .int mC, .int mY, .ref yta, .int (nI (mz)), .int (nI (mf)), .int (nI (mt)), .int mv, .int mw, .ref ywa, .ref ybi, .ref ysi, .ref ynu, .ref ymo])), (ybi, .inl (cI, 4, .inl f_26)), (ysi, .inl (cI, 4, .inl f_28)), (ynu, .inl (cJ, 160, .inr (.inl n8))), (yt, .inl (cI, 7, .inl mq))] H → va_D A [(h0, .inr (9, [.ref ys, .ref yk, .ref yo, .ref yt, .int mk0, .ref yfa, .ref yfe, .int mL, .int mS, .int mM, .ref yro, .ref yhe, .ref ygr, .int mF, .int mC, .int mY, .ref yta, .int (nI (mz)), .int (nI (mf)), .int (nI (mt)), .int mv, .int mw, .ref ywa, .ref ybi, .ref ysi, .ref ynu, .ref ymo])), (ybi, .inl (cI, 4, .inl f_26)), (ysi, .inl (cI, 4, .inl f_28)), (ynu, .inl (cJ, 160, .inr (.inl n8))), (yt, .inl (cI, 7, .inl mq))] → va_S A s.heap H locs → lv_has ls 5 [(4, .int (nI (i))), (0, .ref h0), (1, .int 2), (2, .int p1), (3, .int (nI (y_25)))] → W p l e ({ frames := 2, cells := 0, slots := 0, locals := 45 }) s m ([.ref h0, .int 2, .int p1, .int (nI (y_25))] : List Value).toArray below meth c H locs 0 0 (MQ below (XQi (fun (r : Int32) (u : (Nat → Int32) × (Nat → Int32) × (Nat → Int64) × (Nat → Int32)) => match u with | (bi2, sq2, nb2, mq2) => ((r = a_sheet 2 p1 (nI (y_25)))) ∧ (bi2 2 = sp_sb p1 (nI (y_25)) (bi 2)) ∧ (∀ j, j ≠ 2 → bi2 j = bi j) ∧ (sq2 2 = nI (sp_sz p1 (nI (y_25)) zq)) ∧ (∀ j, j ≠ 2 → sq2 j = sq j) ∧ (∀ j, j < 40 → nb2 (80 + j) = sp_sn p1 (nI (y_25)) (nb (80 + j))) ∧ (∀ j, j < 80 ∨ 120 ≤ j → nb2 j = nb j) ∧ (BA 4 41 sq2)) D (fun (u : (Nat → Int32) × (Nat → Int32) × (Nat → Int64) × (Nat → Int32)) => match u with | (bi2, sq2, nb2, mq2) => [(h0, .inr (9, [.ref ys, .ref yk, .ref yo, .ref yt, .int mk0, .ref yfa, .ref yfe, .int mL, .int mS, .int mM, .ref yro, .ref yhe, .ref ygr, .int mF, .int mC, .int mY, .ref yta, .int (nI (mz)), .int (nI (mf)), .int (nI (mt)), .int mv, .int mw, .ref ywa, .ref ybi, .ref ysi, .ref ynu, .ref ymo])), (ybi, .inl (cI, 4, .inl bi2)), (ysi, .inl (cI, 4, .inl sq2)), (ynu, .inl (cJ, 160, .inr (.inl nb2))), (yt, .inl (cI, 7, .inl mq2))]) A) ([.ref h0, .int 2, .int p1, .int (nI (y_25))] : List Value).toArray s 0 0 A) (F0 m 86 ls []) by
                exact loop_86 _ 0 nb _ _ _ (Nat.lt_succ_self _) (by omega) (fun j h1 h2 => absurd h1 (by omega)) (fun _ _ => rfl) hP hD hS (lv_sub hl [0, 1, 2, 3, 4] rfl)
              intro n_86
              induction n_86 with
              | zero =>
                intro i n8 H locs ls hm_86
                exact absurd hm_86 (Nat.not_lt_zero _)
              | succ n_86 ih_86 =>
                intro i n8 H locs ls hm_86 hi hf8 hg8 hP hD hS hl
                refine lv_iload hx hb dX9_sheet_86 (lv_at hl 0 rfl) ?_
                refine lv_bipush (v := 40) hx hb dX9_sheet_88 (by decide) ?_
                refine lv_icmp_ge (tgt := 112) hx hb dX9_sheet_90 (by decide) (fun c_29 => ?_) (fun c_29 => ?_)
                · skip
                  have nc_29 : 40 ≤ i := xn_le (a := 40) (b := i) (by omega) (by omega) c_29
                  refine lv_aload_n hx hb dX9_sheet_112 rfl (lv_at hl 1 rfl) ?_
                  refine xg hF kf_X9_46 hK hP 0 rfl rfl dX9_sheet_113 ?_
                  refine lv_iload_n hx hb dX9_sheet_116 rfl (lv_at hl 2 rfl) ?_
                  refine va_iald hx hb hK hP 2 0 rfl rfl (xin 2 4 (by decide) (by decide)) dX9_sheet_117 ?_
                  refine xl_i (y := f_28 2) (congrArg f_28 rfl) ?_
                  refine xl_i (y := nI (y_25)) (by rw [ef_28]; exact pk_us) ?_
                  exact W.iret (v := nI (y_25)) hx hb hr (fun t ht hW => ⟨⟨nI (y_25), (f_26, f_28, n8, mq), rfl, ⟨p_sheet6 (by decide) (by decide) (by first | exact Or.inl (by assumption) | exact Or.inr (Or.inl (by assumption)) | exact Or.inr (Or.inr (Or.inl (by assumption))) | exact Or.inr (Or.inr (Or.inr (by assumption)))) (nI_pos (by omega)) (x_le40 (by omega)) (by assumption), (by rw [ef_26]; exact pk_us.trans (if_pos ⟨(by first | exact Or.inl (by assumption) | exact Or.inr (Or.inl (by assumption)) | exact Or.inr (Or.inr (Or.inl (by assumption))) | exact Or.inr (Or.inr (Or.inr (by assumption)))), nI_pos (by omega), x_le40 (by omega)⟩).symm), (fun j hj => by rw [ef_26]; exact pk_un hj), (by rw [ef_28]; exact pk_us.trans (congrArg nI (sp_z1 ⟨(by first | exact Or.inl (by assumption) | exact Or.inr (Or.inl (by assumption)) | exact Or.inr (Or.inr (Or.inl (by assumption))) | exact Or.inr (Or.inr (Or.inr (by assumption)))), nI_pos (by omega), x_le40 (by omega)⟩ (by assumption) (by omega)))), (fun j hj => by rw [ef_28]; exact pk_un hj), (fun j hj => (hf8 (80 + j) (by omega) (by omega)).trans (if_pos ⟨(by first | exact Or.inl (by assumption) | exact Or.inr (Or.inl (by assumption)) | exact Or.inr (Or.inr (Or.inl (by assumption))) | exact Or.inr (Or.inr (Or.inr (by assumption)))), nI_pos (by omega), x_le40 (by omega)⟩).symm), (fun j hj => hg8 j hj), hf_28⟩, by rw [ht]; exact hP.sub [0, 1, 2, 3, 4] rfl, hD.sub [0, 1, 2, 3, 4] (by decide +kernel) rfl⟩, hS.F ht⟩) hS.2.2 dX9_sheet_118 hlk
                · skip
                  have nc_29 : i < 40 := xn_nle (a := 40) (b := i) (by omega) (by omega) c_29
                  refine lv_aload_n hx hb dX9_sheet_93 rfl (lv_at hl 1 rfl) ?_
                  refine xg hF kf_X9_49 hK hP 0 rfl rfl dX9_sheet_94 ?_
                  refine lv_bipush (v := 40) hx hb dX9_sheet_97 (by decide) ?_
                  refine lv_iload_n hx hb dX9_sheet_99 rfl (lv_at hl 2 rfl) ?_
                  refine lv_imul hx hb dX9_sheet_100 ?_
                  refine xl_i (y := 80) (by decide) ?_
                  refine lv_iload hx hb dX9_sheet_101 (lv_at hl 0 rfl) ?_
                  refine lv_iadd hx hb dX9_sheet_103 ?_
                  refine xl_i (y := nI (80 + i)) (nI_add 80 i) ?_
                  refine lv_lconst (v := 0) hx hb dX9_sheet_104 (by decide) ?_
                  refine va_last hx hb hK hP hD hS 3 1 rfl rfl (vp_in_nI (show 80 + i < 160 by omega) (by decide)) dX9_sheet_105 (fun H locs hP hD hS => ?_)
                  rw [nI_clamp (show 80 + i < 2 ^ 31 by omega)] at hP hD
                  obtain ⟨f_30, ef_30⟩ : ∃ g, g = vp_updL n8 (80 + i) 0 := ⟨_, rfl⟩
                  rw [← ef_30] at hP hD
                  have hP : va_P D vwCl [(h0, .inr (9, [.ref ys, .ref yk, .ref yo, .ref yt, .int mk0, .ref yfa, .ref yfe, .int mL, .int mS, .int mM, .ref yro, .ref yhe, .ref ygr, .int mF, .int mC, .int mY, .ref yta, .int (nI (mz)), .int (nI (mf)), .int (nI (mt)), .int mv, .int mw, .ref ywa, .ref ybi, .ref ysi, .ref ynu, .ref ymo])), (ybi, .inl (cI, 4, .inl f_26)), (ysi, .inl (cI, 4, .inl f_28)), (ynu, .inl (cJ, 160, .inr (.inl f_30))), (yt, .inl (cI, 7, .inl mq))] H := hP
                  have hD : va_D A [(h0, .inr (9, [.ref ys, .ref yk, .ref yo, .ref yt, .int mk0, .ref yfa, .ref yfe, .int mL, .int mS, .int mM, .ref yro, .ref yhe, .ref ygr, .int mF, .int mC, .int mY, .ref yta, .int (nI (mz)), .int (nI (mf)), .int (nI (mt)), .int mv, .int mw, .ref ywa, .ref ybi, .ref ysi, .ref ynu, .ref ymo])), (ybi, .inl (cI, 4, .inl f_26)), (ysi, .inl (cI, 4, .inl f_28)), (ynu, .inl (cJ, 160, .inr (.inl f_30))), (yt, .inl (cI, 7, .inl mq))] := hD
                  refine lv_iinc (v := nI (i + 1)) (lv' := [(4, .int (nI (i + 1))), (0, .ref h0), (1, .int 2), (2, .int p1), (3, .int (nI (y_25)))]) hx hb dX9_sheet_106 hl (k := 0) rfl (nI_1 (i)) (by decide) rfl (fun ls hl => ?_)
                  refine lv_goto (tgt := 86) hx hb dX9_sheet_109 (by decide) ?_
                  exact ih_86 (i + 1) f_30 _ _ _ (by omega) (by omega) (sp_fil hf8 ef_30) (sp_fio hg8 (by omega) (by omega) ef_30) (hP.sub [0, 1, 2, 3, 4] rfl) (hD.sub [0, 1, 2, 3, 4] (by decide +kernel) rfl) hS (lv_sub hl [0, 1, 2, 3, 4] rfl)
            · skip
              refine lv_iconst (v := 0) hx hb dX9_sheet_77 (by decide) ?_
              refine lv_goto (tgt := 82) hx hb dX9_sheet_78 (by decide) ?_
              refine va_iast hx hb hK hP hD hS 2 0 rfl rfl (xin 2 4 (by decide) (by decide)) dX9_sheet_82 (fun H locs hP hD hS => ?_)
              obtain ⟨f_31, ef_31⟩ : ∃ g, g = upd sq 2 0 := ⟨_, rfl⟩
              have hP : va_P D vwCl [(h0, .inr (9, [.ref ys, .ref yk, .ref yo, .ref yt, .int mk0, .ref yfa, .ref yfe, .int mL, .int mS, .int mM, .ref yro, .ref yhe, .ref ygr, .int mF, .int mC, .int mY, .ref yta, .int (nI (mz)), .int (nI (mf)), .int (nI (mt)), .int mv, .int mw, .ref ywa, .ref ybi, .ref ysi, .ref ynu, .ref ymo])), (ybi, .inl (cI, 4, .inl f_26)), (ysi, .inl (cI, 4, .inl (upd sq 2 0))), (ynu, .inl (cJ, 160, .inr (.inl nb))), (yt, .inl (cI, 7, .inl mq))] H := hP
              have hD : va_D A [(h0, .inr (9, [.ref ys, .ref yk, .ref yo, .ref yt, .int mk0, .ref yfa, .ref yfe, .int mL, .int mS, .int mM, .ref yro, .ref yhe, .ref ygr, .int mF, .int mC, .int mY, .ref yta, .int (nI (mz)), .int (nI (mf)), .int (nI (mt)), .int mv, .int mw, .ref ywa, .ref ybi, .ref ysi, .ref ynu, .ref ymo])), (ybi, .inl (cI, 4, .inl f_26)), (ysi, .inl (cI, 4, .inl (upd sq 2 0))), (ynu, .inl (cJ, 160, .inr (.inl nb))), (yt, .inl (cI, 7, .inl mq))] := hD
              rw [← ef_31] at hP hD
              have hf_31 : BA 4 41 f_31 := by rw [ef_31]; exact BA.upd hsq (show 0 < 41 by omega)
              have hP : va_P D vwCl [(h0, .inr (9, [.ref ys, .ref yk, .ref yo, .ref yt, .int mk0, .ref yfa, .ref yfe, .int mL, .int mS, .int mM, .ref yro, .ref yhe, .ref ygr, .int mF, .int mC, .int mY, .ref yta, .int (nI (mz)), .int (nI (mf)), .int (nI (mt)), .int mv, .int mw, .ref ywa, .ref ybi, .ref ysi, .ref ynu, .ref ymo])), (ybi, .inl (cI, 4, .inl f_26)), (ysi, .inl (cI, 4, .inl f_31)), (ynu, .inl (cJ, 160, .inr (.inl nb))), (yt, .inl (cI, 7, .inl mq))] H := hP
              have hD : va_D A [(h0, .inr (9, [.ref ys, .ref yk, .ref yo, .ref yt, .int mk0, .ref yfa, .ref yfe, .int mL, .int mS, .int mM, .ref yro, .ref yhe, .ref ygr, .int mF, .int mC, .int mY, .ref yta, .int (nI (mz)), .int (nI (mf)), .int (nI (mt)), .int mv, .int mw, .ref ywa, .ref ybi, .ref ysi, .ref ynu, .ref ymo])), (ybi, .inl (cI, 4, .inl f_26)), (ysi, .inl (cI, 4, .inl f_31)), (ynu, .inl (cJ, 160, .inr (.inl nb))), (yt, .inl (cI, 7, .inl mq))] := hD
              refine lv_iconst (v := 0) hx hb dX9_sheet_83 (by decide) ?_
              refine lv_istore (lv' := [(4, .int 0), (0, .ref h0), (1, .int 2), (2, .int p1), (3, .int (nI (y_25)))]) hx hb dX9_sheet_84 hl (by decide) rfl (fun ls hl => ?_)
              suffices loop_86 : ∀ (n_86 : Nat) (i : Nat) (n8 : Nat → Int64) (H : Heap) (locs : List Loc) (ls : Array Slot), 40 - i < n_86 → (i ≤ 40) → (∀ j, 80 ≤ j → j < 80 + i → n8 j = 0) → (∀ j, j < 80 ∨ 120 ≤ j → n8 j = nb j) → va_P D vwCl [(h0, .inr (9, [.ref ys, .ref yk, .ref yo, .ref yt, .int mk0, .ref yfa, .ref yfe, .int mL, .int mS, .int mM, .ref yro, .ref yhe, .ref ygr, .int mF, .int mC, .int mY, .ref yta, .int (nI (mz)), .int (nI (mf)), .int (nI (mt)), .int mv, .int mw, .ref ywa, .ref ybi, .ref ysi, .ref ynu, .ref ymo])), (ybi, .inl (cI, 4, .inl f_26)), (ysi, .inl (cI, 4, .inl f_31)), (ynu, .inl (cJ, 160, .inr (.inl n8))), (yt, .inl (cI, 7, .inl mq))] H → va_D A [(h0, .inr (9, [.ref ys, .ref yk, .ref yo, .ref yt, .int mk0, .ref yfa, .ref yfe, .int mL, .int mS, .int mM, .ref yro, .ref yhe, .ref ygr, .int mF, .int mC, .int mY, .ref yta, .int (nI (mz)), .int (nI (mf)), .int (nI (mt)), .int mv, .int mw, .ref ywa, .ref ybi, .ref ysi, .ref ynu, .ref ymo])), (ybi, .inl (cI, 4, .inl f_26)), (ysi, .inl (cI, 4, .inl f_31)), (ynu, .inl (cJ, 160, .inr (.inl n8))), (yt, .inl (cI, 7, .inl mq))] → va_S A s.heap H locs → lv_has ls 5 [(4, .int (nI (i))), (0, .ref h0), (1, .int 2), (2, .int p1), (3, .int (nI (y_25)))] → W p l e ({ frames := 2, cells := 0, slots := 0, locals := 45 }) s m ([.ref h0, .int 2, .int p1, .int (nI (y_25))] : List Value).toArray below meth c H locs 0 0 (MQ below (XQi (fun (r : Int32) (u : (Nat → Int32) × (Nat → Int32) × (Nat → Int64) × (Nat → Int32)) => match u with | (bi2, sq2, nb2, mq2) => ((r = a_sheet 2 p1 (nI (y_25)))) ∧ (bi2 2 = sp_sb p1 (nI (y_25)) (bi 2)) ∧ (∀ j, j ≠ 2 → bi2 j = bi j) ∧ (sq2 2 = nI (sp_sz p1 (nI (y_25)) zq)) ∧ (∀ j, j ≠ 2 → sq2 j = sq j) ∧ (∀ j, j < 40 → nb2 (80 + j) = sp_sn p1 (nI (y_25)) (nb (80 + j))) ∧ (∀ j, j < 80 ∨ 120 ≤ j → nb2 j = nb j) ∧ (BA 4 41 sq2)) D (fun (u : (Nat → Int32) × (Nat → Int32) × (Nat → Int64) × (Nat → Int32)) => match u with | (bi2, sq2, nb2, mq2) => [(h0, .inr (9, [.ref ys, .ref yk, .ref yo, .ref yt, .int mk0, .ref yfa, .ref yfe, .int mL, .int mS, .int mM, .ref yro, .ref yhe, .ref ygr, .int mF, .int mC, .int mY, .ref yta, .int (nI (mz)), .int (nI (mf)), .int (nI (mt)), .int mv, .int mw, .ref ywa, .ref ybi, .ref ysi, .ref ynu, .ref ymo])), (ybi, .inl (cI, 4, .inl bi2)), (ysi, .inl (cI, 4, .inl sq2)), (ynu, .inl (cJ, 160, .inr (.inl nb2))), (yt, .inl (cI, 7, .inl mq2))]) A) ([.ref h0, .int 2, .int p1, .int (nI (y_25))] : List Value).toArray s 0 0 A) (F0 m 86 ls []) by
                exact loop_86 _ 0 nb _ _ _ (Nat.lt_succ_self _) (by omega) (fun j h1 h2 => absurd h1 (by omega)) (fun _ _ => rfl) hP hD hS (lv_sub hl [0, 1, 2, 3, 4] rfl)
              intro n_86
              induction n_86 with
              | zero =>
                intro i n8 H locs ls hm_86
                exact absurd hm_86 (Nat.not_lt_zero _)
              | succ n_86 ih_86 =>
                intro i n8 H locs ls hm_86 hi hf8 hg8 hP hD hS hl
                refine lv_iload hx hb dX9_sheet_86 (lv_at hl 0 rfl) ?_
                refine lv_bipush (v := 40) hx hb dX9_sheet_88 (by decide) ?_
                refine lv_icmp_ge (tgt := 112) hx hb dX9_sheet_90 (by decide) (fun c_32 => ?_) (fun c_32 => ?_)
                · skip
                  have nc_32 : 40 ≤ i := xn_le (a := 40) (b := i) (by omega) (by omega) c_32
                  refine lv_aload_n hx hb dX9_sheet_112 rfl (lv_at hl 1 rfl) ?_
                  refine xg hF kf_X9_46 hK hP 0 rfl rfl dX9_sheet_113 ?_
                  refine lv_iload_n hx hb dX9_sheet_116 rfl (lv_at hl 2 rfl) ?_
                  refine va_iald hx hb hK hP 2 0 rfl rfl (xin 2 4 (by decide) (by decide)) dX9_sheet_117 ?_
                  refine xl_i (y := f_31 2) (congrArg f_31 rfl) ?_
                  refine xl_i (y := 0) (by rw [ef_31]; exact pk_us) ?_
                  exact W.iret (v := 0) hx hb hr (fun t ht hW => ⟨⟨0, (f_26, f_31, n8, mq), rfl, ⟨p_sheet5 (by decide) (by decide) c_27 (nI_pos (by omega)) (x_le40 (by omega)), (by rw [ef_26]; exact pk_us.trans (if_pos ⟨(by first | exact Or.inl (by assumption) | exact Or.inr (Or.inl (by assumption)) | exact Or.inr (Or.inr (Or.inl (by assumption))) | exact Or.inr (Or.inr (Or.inr (by assumption)))), nI_pos (by omega), x_le40 (by omega)⟩).symm), (fun j hj => by rw [ef_26]; exact pk_un hj), (by rw [ef_31]; exact pk_us.trans (congrArg nI (sp_z0 ⟨(by first | exact Or.inl (by assumption) | exact Or.inr (Or.inl (by assumption)) | exact Or.inr (Or.inr (Or.inl (by assumption))) | exact Or.inr (Or.inr (Or.inr (by assumption)))), nI_pos (by omega), x_le40 (by omega)⟩ c_27))), (fun j hj => by rw [ef_31]; exact pk_un hj), (fun j hj => (hf8 (80 + j) (by omega) (by omega)).trans (if_pos ⟨(by first | exact Or.inl (by assumption) | exact Or.inr (Or.inl (by assumption)) | exact Or.inr (Or.inr (Or.inl (by assumption))) | exact Or.inr (Or.inr (Or.inr (by assumption)))), nI_pos (by omega), x_le40 (by omega)⟩).symm), (fun j hj => hg8 j hj), hf_31⟩, by rw [ht]; exact hP.sub [0, 1, 2, 3, 4] rfl, hD.sub [0, 1, 2, 3, 4] (by decide +kernel) rfl⟩, hS.F ht⟩) hS.2.2 dX9_sheet_118 hlk
                · skip
                  have nc_32 : i < 40 := xn_nle (a := 40) (b := i) (by omega) (by omega) c_32
                  refine lv_aload_n hx hb dX9_sheet_93 rfl (lv_at hl 1 rfl) ?_
                  refine xg hF kf_X9_49 hK hP 0 rfl rfl dX9_sheet_94 ?_
                  refine lv_bipush (v := 40) hx hb dX9_sheet_97 (by decide) ?_
                  refine lv_iload_n hx hb dX9_sheet_99 rfl (lv_at hl 2 rfl) ?_
                  refine lv_imul hx hb dX9_sheet_100 ?_
                  refine xl_i (y := 80) (by decide) ?_
                  refine lv_iload hx hb dX9_sheet_101 (lv_at hl 0 rfl) ?_
                  refine lv_iadd hx hb dX9_sheet_103 ?_
                  refine xl_i (y := nI (80 + i)) (nI_add 80 i) ?_
                  refine lv_lconst (v := 0) hx hb dX9_sheet_104 (by decide) ?_
                  refine va_last hx hb hK hP hD hS 3 1 rfl rfl (vp_in_nI (show 80 + i < 160 by omega) (by decide)) dX9_sheet_105 (fun H locs hP hD hS => ?_)
                  rw [nI_clamp (show 80 + i < 2 ^ 31 by omega)] at hP hD
                  obtain ⟨f_33, ef_33⟩ : ∃ g, g = vp_updL n8 (80 + i) 0 := ⟨_, rfl⟩
                  rw [← ef_33] at hP hD
                  have hP : va_P D vwCl [(h0, .inr (9, [.ref ys, .ref yk, .ref yo, .ref yt, .int mk0, .ref yfa, .ref yfe, .int mL, .int mS, .int mM, .ref yro, .ref yhe, .ref ygr, .int mF, .int mC, .int mY, .ref yta, .int (nI (mz)), .int (nI (mf)), .int (nI (mt)), .int mv, .int mw, .ref ywa, .ref ybi, .ref ysi, .ref ynu, .ref ymo])), (ybi, .inl (cI, 4, .inl f_26)), (ysi, .inl (cI, 4, .inl f_31)), (ynu, .inl (cJ, 160, .inr (.inl f_33))), (yt, .inl (cI, 7, .inl mq))] H := hP
                  have hD : va_D A [(h0, .inr (9, [.ref ys, .ref yk, .ref yo, .ref yt, .int mk0, .ref yfa, .ref yfe, .int mL, .int mS, .int mM, .ref yro, .ref yhe, .ref ygr, .int mF, .int mC, .int mY, .ref yta, .int (nI (mz)), .int (nI (mf)), .int (nI (mt)), .int mv, .int mw, .ref ywa, .ref ybi, .ref ysi, .ref ynu, .ref ymo])), (ybi, .inl (cI, 4, .inl f_26)), (ysi, .inl (cI, 4, .inl f_31)), (ynu, .inl (cJ, 160, .inr (.inl f_33))), (yt, .inl (cI, 7, .inl mq))] := hD
                  refine lv_iinc (v := nI (i + 1)) (lv' := [(4, .int (nI (i + 1))), (0, .ref h0), (1, .int 2), (2, .int p1), (3, .int (nI (y_25)))]) hx hb dX9_sheet_106 hl (k := 0) rfl (nI_1 (i)) (by decide) rfl (fun ls hl => ?_)
                  refine lv_goto (tgt := 86) hx hb dX9_sheet_109 (by decide) ?_
                  exact ih_86 (i + 1) f_33 _ _ _ (by omega) (by omega) (sp_fil hf8 ef_33) (sp_fio hg8 (by omega) (by omega) ef_33) (hP.sub [0, 1, 2, 3, 4] rfl) (hD.sub [0, 1, 2, 3, 4] (by decide +kernel) rfl) hS (lv_sub hl [0, 1, 2, 3, 4] rfl)
          · skip
            refine lv_aload_n hx hb dX9_sheet_54 rfl (lv_at hl 0 rfl) ?_
            refine lv_ldc (v := (-1000000001)) hx hb hown (hu _ uw648) dX9_sheet_55 ?_
            refine xc_Vi (wr := [(ybi, .inl (cI, 4, .inl bi)), (ysi, .inl (cI, 4, .inl sq)), (ynu, .inl (cJ, 160, .inr (.inl nb)))]) hF (c_X9_finds_B l D cI cJ cZ cS ta sa sv s.heap.size h0 ys yk yo yt mk0 yfa yfe mL mS mM yro yhe ygr mF mC mY yta mz mf mt mv mw ywa ybi ysi ynu ymo mq ) kv_X9_70 ⟨rfl, rfl, Nat.le_of_ble_eq_true rfl, Nat.le_of_ble_eq_true rfl⟩ ⟨Nat.le_of_ble_eq_true rfl, Nat.le_of_ble_eq_true rfl⟩ hK hN hZ hP hD hS hA [0, 4] [1, 2, 3] rfl rfl rfl rfl (by decide) 0 rfl rfl rfl rfl hl.1 rfl (Nat.le_of_ble_eq_true rfl) dX9_sheet_57 (fun r_34 u_r_34 H locs hw_r_34 hP hD hS => ?_)
            obtain ⟨mq2_35, rfl⟩ : ∃ z, z = u_r_34 := ⟨_, rfl⟩
            try dsimp only at hw_r_34
            have hP : va_P D vwCl [(ybi, .inl (cI, 4, .inl bi)), (ysi, .inl (cI, 4, .inl sq)), (ynu, .inl (cJ, 160, .inr (.inl nb))), (h0, .inr (9, [.ref ys, .ref yk, .ref yo, .ref yt, .int mk0, .ref yfa, .ref yfe, .int mL, .int mS, .int mM, .ref yro, .ref yhe, .ref ygr, .int mF, .int mC, .int mY, .ref yta, .int (nI (mz)), .int (nI (mf)), .int (nI (mt)), .int mv, .int mw, .ref ywa, .ref ybi, .ref ysi, .ref ynu, .ref ymo])), (yt, .inl (cI, 7, .inl mq2_35))] H := hP
            have hD : va_D A [(ybi, .inl (cI, 4, .inl bi)), (ysi, .inl (cI, 4, .inl sq)), (ynu, .inl (cJ, 160, .inr (.inl nb))), (h0, .inr (9, [.ref ys, .ref yk, .ref yo, .ref yt, .int mk0, .ref yfa, .ref yfe, .int mL, .int mS, .int mM, .ref yro, .ref yhe, .ref ygr, .int mF, .int mC, .int mY, .ref yta, .int (nI (mz)), .int (nI (mf)), .int (nI (mt)), .int mv, .int mw, .ref ywa, .ref ybi, .ref ysi, .ref ynu, .ref ymo])), (yt, .inl (cI, 7, .inl mq2_35))] := hD
            subst hw_r_34
            exact W.iret (v := (-1000000001)) hx hb hr (fun t ht hW => ⟨⟨(-1000000001), (bi, sq, nb, mq2_35), rfl, ⟨p_sheet4 (by decide) (by decide) (by first | exact Or.inl (by assumption) | exact Or.inr (Or.inl (by assumption)) | exact Or.inr (Or.inr (Or.inl (by assumption))) | exact Or.inr (Or.inr (Or.inr (by assumption)))) (fun h => absurd c_23 (Int32.not_le.mpr h)) (xlt c_24), (if_neg (sp_n4 (xlt c_24))).symm, (fun _ _ => rfl), (ez.trans (congrArg nI (if_neg (sp_n4 (xlt c_24))).symm)), (fun _ _ => rfl), (fun j hj => (if_neg (sp_n4 (xlt c_24))).symm), (fun _ _ => rfl), hsq⟩, by rw [ht]; exact hP.sub [3, 0, 1, 2, 4] rfl, hD.sub [3, 0, 1, 2, 4] (by decide +kernel) rfl⟩, hS.F ht⟩) hS.2.2 dX9_sheet_60 hlk
        · skip
          refine lv_aload_n hx hb dX9_sheet_40 rfl (lv_at hl 0 rfl) ?_
          refine lv_ldcw (v := (-1000000007)) hx hb hown (hu _ uw923) dX9_sheet_41 ?_
          refine xc_Vi (wr := [(ybi, .inl (cI, 4, .inl bi)), (ysi, .inl (cI, 4, .inl sq)), (ynu, .inl (cJ, 160, .inr (.inl nb)))]) hF (c_X9_finds_S l D cI cJ cZ cS ta sa sv s.heap.size h0 ys yk yo yt mk0 yfa yfe mL mS mM yro yhe ygr mF mC mY yta mz mf mt mv mw ywa ybi ysi ynu ymo mq ) kv_X9_70 ⟨rfl, rfl, Nat.le_of_ble_eq_true rfl, Nat.le_of_ble_eq_true rfl⟩ ⟨Nat.le_of_ble_eq_true rfl, Nat.le_of_ble_eq_true rfl⟩ hK hN hZ hP hD hS hA [0, 4] [1, 2, 3] rfl rfl rfl rfl (by decide) 0 rfl rfl rfl rfl hl.1 rfl (Nat.le_of_ble_eq_true rfl) dX9_sheet_44 (fun r_36 u_r_36 H locs hw_r_36 hP hD hS => ?_)
          obtain ⟨mq2_37, rfl⟩ : ∃ z, z = u_r_36 := ⟨_, rfl⟩
          try dsimp only at hw_r_36
          have hP : va_P D vwCl [(ybi, .inl (cI, 4, .inl bi)), (ysi, .inl (cI, 4, .inl sq)), (ynu, .inl (cJ, 160, .inr (.inl nb))), (h0, .inr (9, [.ref ys, .ref yk, .ref yo, .ref yt, .int mk0, .ref yfa, .ref yfe, .int mL, .int mS, .int mM, .ref yro, .ref yhe, .ref ygr, .int mF, .int mC, .int mY, .ref yta, .int (nI (mz)), .int (nI (mf)), .int (nI (mt)), .int mv, .int mw, .ref ywa, .ref ybi, .ref ysi, .ref ynu, .ref ymo])), (yt, .inl (cI, 7, .inl mq2_37))] H := hP
          have hD : va_D A [(ybi, .inl (cI, 4, .inl bi)), (ysi, .inl (cI, 4, .inl sq)), (ynu, .inl (cJ, 160, .inr (.inl nb))), (h0, .inr (9, [.ref ys, .ref yk, .ref yo, .ref yt, .int mk0, .ref yfa, .ref yfe, .int mL, .int mS, .int mM, .ref yro, .ref yhe, .ref ygr, .int mF, .int mC, .int mY, .ref yta, .int (nI (mz)), .int (nI (mf)), .int (nI (mt)), .int mv, .int mw, .ref ywa, .ref ybi, .ref ysi, .ref ynu, .ref ymo])), (yt, .inl (cI, 7, .inl mq2_37))] := hD
          subst hw_r_36
          exact W.iret (v := (-1000000007)) hx hb hr (fun t ht hW => ⟨⟨(-1000000007), (bi, sq, nb, mq2_37), rfl, ⟨p_sheet3 (by decide) (by decide) (by first | exact Or.inl (by assumption) | exact Or.inr (Or.inl (by assumption)) | exact Or.inr (Or.inr (Or.inl (by assumption))) | exact Or.inr (Or.inr (Or.inr (by assumption)))) (xlt c_23), (if_neg (sp_n3 (xlt c_23))).symm, (fun _ _ => rfl), (ez.trans (congrArg nI (if_neg (sp_n3 (xlt c_23))).symm)), (fun _ _ => rfl), (fun j hj => (if_neg (sp_n3 (xlt c_23))).symm), (fun _ _ => rfl), hsq⟩, by rw [ht]; exact hP.sub [3, 0, 1, 2, 4] rfl, hD.sub [3, 0, 1, 2, 4] (by decide +kernel) rfl⟩, hS.F ht⟩) hS.2.2 dX9_sheet_47 hlk
      · skip
        refine lv_iload_n hx hb dX9_sheet_17 rfl (lv_at hl 2 rfl) ?_
        refine lv_bipush (v := 16) hx hb dX9_sheet_18 (by decide) ?_
        refine lv_icmp_eq (tgt := 36) hx hb dX9_sheet_20 (by decide) (fun c_38 => ?_) (fun c_38 => ?_)
        · skip
          refine lv_iload_n hx hb dX9_sheet_36 rfl (lv_at hl 3 rfl) ?_
          refine lv_if_ge (tgt := 48) hx hb dX9_sheet_37 (by decide) (fun c_39 => ?_) (fun c_39 => ?_)
          · skip
            refine lv_iload_n hx hb dX9_sheet_48 rfl (lv_at hl 3 rfl) ?_
            refine lv_bipush (v := 40) hx hb dX9_sheet_49 (by decide) ?_
            refine lv_icmp_le (tgt := 61) hx hb dX9_sheet_51 (by decide) (fun c_40 => ?_) (fun c_40 => ?_)
            · skip
              obtain ⟨y_41, hy_41, rfl⟩ := xrange2 (w := 40) (by omega) c_39 c_40
              refine lv_aload_n hx hb dX9_sheet_61 rfl (lv_at hl 0 rfl) ?_
              refine xg hF kf_X9_43 hK hP 0 rfl rfl dX9_sheet_62 ?_
              refine lv_iload_n hx hb dX9_sheet_65 rfl (lv_at hl 1 rfl) ?_
              refine lv_iload_n hx hb dX9_sheet_66 rfl (lv_at hl 2 rfl) ?_
              refine va_iast hx hb hK hP hD hS 1 0 rfl rfl (xin 2 4 (by decide) (by decide)) dX9_sheet_67 (fun H locs hP hD hS => ?_)
              obtain ⟨f_42, ef_42⟩ : ∃ g, g = upd bi 2 p1 := ⟨_, rfl⟩
              have hP : va_P D vwCl [(h0, .inr (9, [.ref ys, .ref yk, .ref yo, .ref yt, .int mk0, .ref yfa, .ref yfe, .int mL, .int mS, .int mM, .ref yro, .ref yhe, .ref ygr, .int mF, .int mC, .int mY, .ref yta, .int (nI (mz)), .int (nI (mf)), .int (nI (mt)), .int mv, .int mw, .ref ywa, .ref ybi, .ref ysi, .ref ynu, .ref ymo])), (ybi, .inl (cI, 4, .inl (upd bi 2 p1))), (ysi, .inl (cI, 4, .inl sq)), (ynu, .inl (cJ, 160, .inr (.inl nb))), (yt, .inl (cI, 7, .inl mq))] H := hP
              have hD : va_D A [(h0, .inr (9, [.ref ys, .ref yk, .ref yo, .ref yt, .int mk0, .ref yfa, .ref yfe, .int mL, .int mS, .int mM, .ref yro, .ref yhe, .ref ygr, .int mF, .int mC, .int mY, .ref yta, .int (nI (mz)), .int (nI (mf)), .int (nI (mt)), .int mv, .int mw, .ref ywa, .ref ybi, .ref ysi, .ref ynu, .ref ymo])), (ybi, .inl (cI, 4, .inl (upd bi 2 p1))), (ysi, .inl (cI, 4, .inl sq)), (ynu, .inl (cJ, 160, .inr (.inl nb))), (yt, .inl (cI, 7, .inl mq))] := hD
              rw [← ef_42] at hP hD
              have hP : va_P D vwCl [(h0, .inr (9, [.ref ys, .ref yk, .ref yo, .ref yt, .int mk0, .ref yfa, .ref yfe, .int mL, .int mS, .int mM, .ref yro, .ref yhe, .ref ygr, .int mF, .int mC, .int mY, .ref yta, .int (nI (mz)), .int (nI (mf)), .int (nI (mt)), .int mv, .int mw, .ref ywa, .ref ybi, .ref ysi, .ref ynu, .ref ymo])), (ybi, .inl (cI, 4, .inl f_42)), (ysi, .inl (cI, 4, .inl sq)), (ynu, .inl (cJ, 160, .inr (.inl nb))), (yt, .inl (cI, 7, .inl mq))] H := hP
              have hD : va_D A [(h0, .inr (9, [.ref ys, .ref yk, .ref yo, .ref yt, .int mk0, .ref yfa, .ref yfe, .int mL, .int mS, .int mM, .ref yro, .ref yhe, .ref ygr, .int mF, .int mC, .int mY, .ref yta, .int (nI (mz)), .int (nI (mf)), .int (nI (mt)), .int mv, .int mw, .ref ywa, .ref ybi, .ref ysi, .ref ynu, .ref ymo])), (ybi, .inl (cI, 4, .inl f_42)), (ysi, .inl (cI, 4, .inl sq)), (ynu, .inl (cJ, 160, .inr (.inl nb))), (yt, .inl (cI, 7, .inl mq))] := hD
              refine lv_aload_n hx hb dX9_sheet_68 rfl (lv_at hl 0 rfl) ?_
              refine xg hF kf_X9_46 hK hP 0 rfl rfl dX9_sheet_69 ?_
              refine lv_iload_n hx hb dX9_sheet_72 rfl (lv_at hl 1 rfl) ?_
              refine lv_iload_n hx hb dX9_sheet_73 rfl (lv_at hl 2 rfl) ?_
              refine lv_if_ne (tgt := 81) hx hb dX9_sheet_74 (by decide) (fun c_43 => ?_) (fun c_43 => ?_)
              · skip
                refine lv_iload_n hx hb dX9_sheet_81 rfl (lv_at hl 3 rfl) ?_
                refine va_iast hx hb hK hP hD hS 2 0 rfl rfl (xin 2 4 (by decide) (by decide)) dX9_sheet_82 (fun H locs hP hD hS => ?_)
                obtain ⟨f_44, ef_44⟩ : ∃ g, g = upd sq 2 (nI (y_41)) := ⟨_, rfl⟩
                have hP : va_P D vwCl [(h0, .inr (9, [.ref ys, .ref yk, .ref yo, .ref yt, .int mk0, .ref yfa, .ref yfe, .int mL, .int mS, .int mM, .ref yro, .ref yhe, .ref ygr, .int mF, .int mC, .int mY, .ref yta, .int (nI (mz)), .int (nI (mf)), .int (nI (mt)), .int mv, .int mw, .ref ywa, .ref ybi, .ref ysi, .ref ynu, .ref ymo])), (ybi, .inl (cI, 4, .inl f_42)), (ysi, .inl (cI, 4, .inl (upd sq 2 (nI (y_41))))), (ynu, .inl (cJ, 160, .inr (.inl nb))), (yt, .inl (cI, 7, .inl mq))] H := hP
                have hD : va_D A [(h0, .inr (9, [.ref ys, .ref yk, .ref yo, .ref yt, .int mk0, .ref yfa, .ref yfe, .int mL, .int mS, .int mM, .ref yro, .ref yhe, .ref ygr, .int mF, .int mC, .int mY, .ref yta, .int (nI (mz)), .int (nI (mf)), .int (nI (mt)), .int mv, .int mw, .ref ywa, .ref ybi, .ref ysi, .ref ynu, .ref ymo])), (ybi, .inl (cI, 4, .inl f_42)), (ysi, .inl (cI, 4, .inl (upd sq 2 (nI (y_41))))), (ynu, .inl (cJ, 160, .inr (.inl nb))), (yt, .inl (cI, 7, .inl mq))] := hD
                rw [← ef_44] at hP hD
                have hf_44 : BA 4 41 f_44 := by rw [ef_44]; exact BA.upd hsq (show y_41 < 41 by omega)
                have hP : va_P D vwCl [(h0, .inr (9, [.ref ys, .ref yk, .ref yo, .ref yt, .int mk0, .ref yfa, .ref yfe, .int mL, .int mS, .int mM, .ref yro, .ref yhe, .ref ygr, .int mF, .int mC, .int mY, .ref yta, .int (nI (mz)), .int (nI (mf)), .int (nI (mt)), .int mv, .int mw, .ref ywa, .ref ybi, .ref ysi, .ref ynu, .ref ymo])), (ybi, .inl (cI, 4, .inl f_42)), (ysi, .inl (cI, 4, .inl f_44)), (ynu, .inl (cJ, 160, .inr (.inl nb))), (yt, .inl (cI, 7, .inl mq))] H := hP
                have hD : va_D A [(h0, .inr (9, [.ref ys, .ref yk, .ref yo, .ref yt, .int mk0, .ref yfa, .ref yfe, .int mL, .int mS, .int mM, .ref yro, .ref yhe, .ref ygr, .int mF, .int mC, .int mY, .ref yta, .int (nI (mz)), .int (nI (mf)), .int (nI (mt)), .int mv, .int mw, .ref ywa, .ref ybi, .ref ysi, .ref ynu, .ref ymo])), (ybi, .inl (cI, 4, .inl f_42)), (ysi, .inl (cI, 4, .inl f_44)), (ynu, .inl (cJ, 160, .inr (.inl nb))), (yt, .inl (cI, 7, .inl mq))] := hD
                refine lv_iconst (v := 0) hx hb dX9_sheet_83 (by decide) ?_
                refine lv_istore (lv' := [(4, .int 0), (0, .ref h0), (1, .int 2), (2, .int p1), (3, .int (nI (y_41)))]) hx hb dX9_sheet_84 hl (by decide) rfl (fun ls hl => ?_)
                suffices loop_86 : ∀ (n_86 : Nat) (i : Nat) (n8 : Nat → Int64) (H : Heap) (locs : List Loc) (ls : Array Slot), 40 - i < n_86 → (i ≤ 40) → (∀ j, 80 ≤ j → j < 80 + i → n8 j = 0) → (∀ j, j < 80 ∨ 120 ≤ j → n8 j = nb j) → va_P D vwCl [(h0, .inr (9, [.ref ys, .ref yk, .ref yo, .ref yt, .int mk0, .ref yfa, .ref yfe, .int mL, .int mS, .int mM, .ref yro, .ref yhe, .ref ygr, .int mF, .int mC, .int mY, .ref yta, .int (nI (mz)), .int (nI (mf)), .int (nI (mt)), .int mv, .int mw, .ref ywa, .ref ybi, .ref ysi, .ref ynu, .ref ymo])), (ybi, .inl (cI, 4, .inl f_42)), (ysi, .inl (cI, 4, .inl f_44)), (ynu, .inl (cJ, 160, .inr (.inl n8))), (yt, .inl (cI, 7, .inl mq))] H → va_D A [(h0, .inr (9, [.ref ys, .ref yk, .ref yo, .ref yt, .int mk0, .ref yfa, .ref yfe, .int mL, .int mS, .int mM, .ref yro, .ref yhe, .ref ygr, .int mF, .int mC, .int mY, .ref yta, .int (nI (mz)), .int (nI (mf)), .int (nI (mt)), .int mv, .int mw, .ref ywa, .ref ybi, .ref ysi, .ref ynu, .ref ymo])), (ybi, .inl (cI, 4, .inl f_42)), (ysi, .inl (cI, 4, .inl f_44)), (ynu, .inl (cJ, 160, .inr (.inl n8))), (yt, .inl (cI, 7, .inl mq))] → va_S A s.heap H locs → lv_has ls 5 [(4, .int (nI (i))), (0, .ref h0), (1, .int 2), (2, .int p1), (3, .int (nI (y_41)))] → W p l e ({ frames := 2, cells := 0, slots := 0, locals := 45 }) s m ([.ref h0, .int 2, .int p1, .int (nI (y_41))] : List Value).toArray below meth c H locs 0 0 (MQ below (XQi (fun (r : Int32) (u : (Nat → Int32) × (Nat → Int32) × (Nat → Int64) × (Nat → Int32)) => match u with | (bi2, sq2, nb2, mq2) => ((r = a_sheet 2 p1 (nI (y_41)))) ∧ (bi2 2 = sp_sb p1 (nI (y_41)) (bi 2)) ∧ (∀ j, j ≠ 2 → bi2 j = bi j) ∧ (sq2 2 = nI (sp_sz p1 (nI (y_41)) zq)) ∧ (∀ j, j ≠ 2 → sq2 j = sq j) ∧ (∀ j, j < 40 → nb2 (80 + j) = sp_sn p1 (nI (y_41)) (nb (80 + j))) ∧ (∀ j, j < 80 ∨ 120 ≤ j → nb2 j = nb j) ∧ (BA 4 41 sq2)) D (fun (u : (Nat → Int32) × (Nat → Int32) × (Nat → Int64) × (Nat → Int32)) => match u with | (bi2, sq2, nb2, mq2) => [(h0, .inr (9, [.ref ys, .ref yk, .ref yo, .ref yt, .int mk0, .ref yfa, .ref yfe, .int mL, .int mS, .int mM, .ref yro, .ref yhe, .ref ygr, .int mF, .int mC, .int mY, .ref yta, .int (nI (mz)), .int (nI (mf)), .int (nI (mt)), .int mv, .int mw, .ref ywa, .ref ybi, .ref ysi, .ref ynu, .ref ymo])), (ybi, .inl (cI, 4, .inl bi2)), (ysi, .inl (cI, 4, .inl sq2)), (ynu, .inl (cJ, 160, .inr (.inl nb2))), (yt, .inl (cI, 7, .inl mq2))]) A) ([.ref h0, .int 2, .int p1, .int (nI (y_41))] : List Value).toArray s 0 0 A) (F0 m 86 ls []) by
                  exact loop_86 _ 0 nb _ _ _ (Nat.lt_succ_self _) (by omega) (fun j h1 h2 => absurd h1 (by omega)) (fun _ _ => rfl) hP hD hS (lv_sub hl [0, 1, 2, 3, 4] rfl)
                intro n_86
                induction n_86 with
                | zero =>
                  intro i n8 H locs ls hm_86
                  exact absurd hm_86 (Nat.not_lt_zero _)
                | succ n_86 ih_86 =>
                  intro i n8 H locs ls hm_86 hi hf8 hg8 hP hD hS hl
                  refine lv_iload hx hb dX9_sheet_86 (lv_at hl 0 rfl) ?_
                  refine lv_bipush (v := 40) hx hb dX9_sheet_88 (by decide) ?_
                  refine lv_icmp_ge (tgt := 112) hx hb dX9_sheet_90 (by decide) (fun c_45 => ?_) (fun c_45 => ?_)
                  · skip
                    have nc_45 : 40 ≤ i := xn_le (a := 40) (b := i) (by omega) (by omega) c_45
                    refine lv_aload_n hx hb dX9_sheet_112 rfl (lv_at hl 1 rfl) ?_
                    refine xg hF kf_X9_46 hK hP 0 rfl rfl dX9_sheet_113 ?_
                    refine lv_iload_n hx hb dX9_sheet_116 rfl (lv_at hl 2 rfl) ?_
                    refine va_iald hx hb hK hP 2 0 rfl rfl (xin 2 4 (by decide) (by decide)) dX9_sheet_117 ?_
                    refine xl_i (y := f_44 2) (congrArg f_44 rfl) ?_
                    refine xl_i (y := nI (y_41)) (by rw [ef_44]; exact pk_us) ?_
                    exact W.iret (v := nI (y_41)) hx hb hr (fun t ht hW => ⟨⟨nI (y_41), (f_42, f_44, n8, mq), rfl, ⟨p_sheet6 (by decide) (by decide) (by first | exact Or.inl (by assumption) | exact Or.inr (Or.inl (by assumption)) | exact Or.inr (Or.inr (Or.inl (by assumption))) | exact Or.inr (Or.inr (Or.inr (by assumption)))) (nI_pos (by omega)) (x_le40 (by omega)) (by assumption), (by rw [ef_42]; exact pk_us.trans (if_pos ⟨(by first | exact Or.inl (by assumption) | exact Or.inr (Or.inl (by assumption)) | exact Or.inr (Or.inr (Or.inl (by assumption))) | exact Or.inr (Or.inr (Or.inr (by assumption)))), nI_pos (by omega), x_le40 (by omega)⟩).symm), (fun j hj => by rw [ef_42]; exact pk_un hj), (by rw [ef_44]; exact pk_us.trans (congrArg nI (sp_z1 ⟨(by first | exact Or.inl (by assumption) | exact Or.inr (Or.inl (by assumption)) | exact Or.inr (Or.inr (Or.inl (by assumption))) | exact Or.inr (Or.inr (Or.inr (by assumption)))), nI_pos (by omega), x_le40 (by omega)⟩ (by assumption) (by omega)))), (fun j hj => by rw [ef_44]; exact pk_un hj), (fun j hj => (hf8 (80 + j) (by omega) (by omega)).trans (if_pos ⟨(by first | exact Or.inl (by assumption) | exact Or.inr (Or.inl (by assumption)) | exact Or.inr (Or.inr (Or.inl (by assumption))) | exact Or.inr (Or.inr (Or.inr (by assumption)))), nI_pos (by omega), x_le40 (by omega)⟩).symm), (fun j hj => hg8 j hj), hf_44⟩, by rw [ht]; exact hP.sub [0, 1, 2, 3, 4] rfl, hD.sub [0, 1, 2, 3, 4] (by decide +kernel) rfl⟩, hS.F ht⟩) hS.2.2 dX9_sheet_118 hlk
                  · skip
                    have nc_45 : i < 40 := xn_nle (a := 40) (b := i) (by omega) (by omega) c_45
                    refine lv_aload_n hx hb dX9_sheet_93 rfl (lv_at hl 1 rfl) ?_
                    refine xg hF kf_X9_49 hK hP 0 rfl rfl dX9_sheet_94 ?_
                    refine lv_bipush (v := 40) hx hb dX9_sheet_97 (by decide) ?_
                    refine lv_iload_n hx hb dX9_sheet_99 rfl (lv_at hl 2 rfl) ?_
                    refine lv_imul hx hb dX9_sheet_100 ?_
                    refine xl_i (y := 80) (by decide) ?_
                    refine lv_iload hx hb dX9_sheet_101 (lv_at hl 0 rfl) ?_
                    refine lv_iadd hx hb dX9_sheet_103 ?_
                    refine xl_i (y := nI (80 + i)) (nI_add 80 i) ?_
                    refine lv_lconst (v := 0) hx hb dX9_sheet_104 (by decide) ?_
                    refine va_last hx hb hK hP hD hS 3 1 rfl rfl (vp_in_nI (show 80 + i < 160 by omega) (by decide)) dX9_sheet_105 (fun H locs hP hD hS => ?_)
                    rw [nI_clamp (show 80 + i < 2 ^ 31 by omega)] at hP hD
                    obtain ⟨f_46, ef_46⟩ : ∃ g, g = vp_updL n8 (80 + i) 0 := ⟨_, rfl⟩
                    rw [← ef_46] at hP hD
                    have hP : va_P D vwCl [(h0, .inr (9, [.ref ys, .ref yk, .ref yo, .ref yt, .int mk0, .ref yfa, .ref yfe, .int mL, .int mS, .int mM, .ref yro, .ref yhe, .ref ygr, .int mF, .int mC, .int mY, .ref yta, .int (nI (mz)), .int (nI (mf)), .int (nI (mt)), .int mv, .int mw, .ref ywa, .ref ybi, .ref ysi, .ref ynu, .ref ymo])), (ybi, .inl (cI, 4, .inl f_42)), (ysi, .inl (cI, 4, .inl f_44)), (ynu, .inl (cJ, 160, .inr (.inl f_46))), (yt, .inl (cI, 7, .inl mq))] H := hP
                    have hD : va_D A [(h0, .inr (9, [.ref ys, .ref yk, .ref yo, .ref yt, .int mk0, .ref yfa, .ref yfe, .int mL, .int mS, .int mM, .ref yro, .ref yhe, .ref ygr, .int mF, .int mC, .int mY, .ref yta, .int (nI (mz)), .int (nI (mf)), .int (nI (mt)), .int mv, .int mw, .ref ywa, .ref ybi, .ref ysi, .ref ynu, .ref ymo])), (ybi, .inl (cI, 4, .inl f_42)), (ysi, .inl (cI, 4, .inl f_44)), (ynu, .inl (cJ, 160, .inr (.inl f_46))), (yt, .inl (cI, 7, .inl mq))] := hD
                    refine lv_iinc (v := nI (i + 1)) (lv' := [(4, .int (nI (i + 1))), (0, .ref h0), (1, .int 2), (2, .int p1), (3, .int (nI (y_41)))]) hx hb dX9_sheet_106 hl (k := 0) rfl (nI_1 (i)) (by decide) rfl (fun ls hl => ?_)
                    refine lv_goto (tgt := 86) hx hb dX9_sheet_109 (by decide) ?_
                    exact ih_86 (i + 1) f_46 _ _ _ (by omega) (by omega) (sp_fil hf8 ef_46) (sp_fio hg8 (by omega) (by omega) ef_46) (hP.sub [0, 1, 2, 3, 4] rfl) (hD.sub [0, 1, 2, 3, 4] (by decide +kernel) rfl) hS (lv_sub hl [0, 1, 2, 3, 4] rfl)
              · skip
                refine lv_iconst (v := 0) hx hb dX9_sheet_77 (by decide) ?_
                refine lv_goto (tgt := 82) hx hb dX9_sheet_78 (by decide) ?_
                refine va_iast hx hb hK hP hD hS 2 0 rfl rfl (xin 2 4 (by decide) (by decide)) dX9_sheet_82 (fun H locs hP hD hS => ?_)
                obtain ⟨f_47, ef_47⟩ : ∃ g, g = upd sq 2 0 := ⟨_, rfl⟩
                have hP : va_P D vwCl [(h0, .inr (9, [.ref ys, .ref yk, .ref yo, .ref yt, .int mk0, .ref yfa, .ref yfe, .int mL, .int mS, .int mM, .ref yro, .ref yhe, .ref ygr, .int mF, .int mC, .int mY, .ref yta, .int (nI (mz)), .int (nI (mf)), .int (nI (mt)), .int mv, .int mw, .ref ywa, .ref ybi, .ref ysi, .ref ynu, .ref ymo])), (ybi, .inl (cI, 4, .inl f_42)), (ysi, .inl (cI, 4, .inl (upd sq 2 0))), (ynu, .inl (cJ, 160, .inr (.inl nb))), (yt, .inl (cI, 7, .inl mq))] H := hP
                have hD : va_D A [(h0, .inr (9, [.ref ys, .ref yk, .ref yo, .ref yt, .int mk0, .ref yfa, .ref yfe, .int mL, .int mS, .int mM, .ref yro, .ref yhe, .ref ygr, .int mF, .int mC, .int mY, .ref yta, .int (nI (mz)), .int (nI (mf)), .int (nI (mt)), .int mv, .int mw, .ref ywa, .ref ybi, .ref ysi, .ref ynu, .ref ymo])), (ybi, .inl (cI, 4, .inl f_42)), (ysi, .inl (cI, 4, .inl (upd sq 2 0))), (ynu, .inl (cJ, 160, .inr (.inl nb))), (yt, .inl (cI, 7, .inl mq))] := hD
                rw [← ef_47] at hP hD
                have hf_47 : BA 4 41 f_47 := by rw [ef_47]; exact BA.upd hsq (show 0 < 41 by omega)
                have hP : va_P D vwCl [(h0, .inr (9, [.ref ys, .ref yk, .ref yo, .ref yt, .int mk0, .ref yfa, .ref yfe, .int mL, .int mS, .int mM, .ref yro, .ref yhe, .ref ygr, .int mF, .int mC, .int mY, .ref yta, .int (nI (mz)), .int (nI (mf)), .int (nI (mt)), .int mv, .int mw, .ref ywa, .ref ybi, .ref ysi, .ref ynu, .ref ymo])), (ybi, .inl (cI, 4, .inl f_42)), (ysi, .inl (cI, 4, .inl f_47)), (ynu, .inl (cJ, 160, .inr (.inl nb))), (yt, .inl (cI, 7, .inl mq))] H := hP
                have hD : va_D A [(h0, .inr (9, [.ref ys, .ref yk, .ref yo, .ref yt, .int mk0, .ref yfa, .ref yfe, .int mL, .int mS, .int mM, .ref yro, .ref yhe, .ref ygr, .int mF, .int mC, .int mY, .ref yta, .int (nI (mz)), .int (nI (mf)), .int (nI (mt)), .int mv, .int mw, .ref ywa, .ref ybi, .ref ysi, .ref ynu, .ref ymo])), (ybi, .inl (cI, 4, .inl f_42)), (ysi, .inl (cI, 4, .inl f_47)), (ynu, .inl (cJ, 160, .inr (.inl nb))), (yt, .inl (cI, 7, .inl mq))] := hD
                refine lv_iconst (v := 0) hx hb dX9_sheet_83 (by decide) ?_
                refine lv_istore (lv' := [(4, .int 0), (0, .ref h0), (1, .int 2), (2, .int p1), (3, .int (nI (y_41)))]) hx hb dX9_sheet_84 hl (by decide) rfl (fun ls hl => ?_)
                suffices loop_86 : ∀ (n_86 : Nat) (i : Nat) (n8 : Nat → Int64) (H : Heap) (locs : List Loc) (ls : Array Slot), 40 - i < n_86 → (i ≤ 40) → (∀ j, 80 ≤ j → j < 80 + i → n8 j = 0) → (∀ j, j < 80 ∨ 120 ≤ j → n8 j = nb j) → va_P D vwCl [(h0, .inr (9, [.ref ys, .ref yk, .ref yo, .ref yt, .int mk0, .ref yfa, .ref yfe, .int mL, .int mS, .int mM, .ref yro, .ref yhe, .ref ygr, .int mF, .int mC, .int mY, .ref yta, .int (nI (mz)), .int (nI (mf)), .int (nI (mt)), .int mv, .int mw, .ref ywa, .ref ybi, .ref ysi, .ref ynu, .ref ymo])), (ybi, .inl (cI, 4, .inl f_42)), (ysi, .inl (cI, 4, .inl f_47)), (ynu, .inl (cJ, 160, .inr (.inl n8))), (yt, .inl (cI, 7, .inl mq))] H → va_D A [(h0, .inr (9, [.ref ys, .ref yk, .ref yo, .ref yt, .int mk0, .ref yfa, .ref yfe, .int mL, .int mS, .int mM, .ref yro, .ref yhe, .ref ygr, .int mF, .int mC, .int mY, .ref yta, .int (nI (mz)), .int (nI (mf)), .int (nI (mt)), .int mv, .int mw, .ref ywa, .ref ybi, .ref ysi, .ref ynu, .ref ymo])), (ybi, .inl (cI, 4, .inl f_42)), (ysi, .inl (cI, 4, .inl f_47)), (ynu, .inl (cJ, 160, .inr (.inl n8))), (yt, .inl (cI, 7, .inl mq))] → va_S A s.heap H locs → lv_has ls 5 [(4, .int (nI (i))), (0, .ref h0), (1, .int 2), (2, .int p1), (3, .int (nI (y_41)))] → W p l e ({ frames := 2, cells := 0, slots := 0, locals := 45 }) s m ([.ref h0, .int 2, .int p1, .int (nI (y_41))] : List Value).toArray below meth c H locs 0 0 (MQ below (XQi (fun (r : Int32) (u : (Nat → Int32) × (Nat → Int32) × (Nat → Int64) × (Nat → Int32)) => match u with | (bi2, sq2, nb2, mq2) => ((r = a_sheet 2 p1 (nI (y_41)))) ∧ (bi2 2 = sp_sb p1 (nI (y_41)) (bi 2)) ∧ (∀ j, j ≠ 2 → bi2 j = bi j) ∧ (sq2 2 = nI (sp_sz p1 (nI (y_41)) zq)) ∧ (∀ j, j ≠ 2 → sq2 j = sq j) ∧ (∀ j, j < 40 → nb2 (80 + j) = sp_sn p1 (nI (y_41)) (nb (80 + j))) ∧ (∀ j, j < 80 ∨ 120 ≤ j → nb2 j = nb j) ∧ (BA 4 41 sq2)) D (fun (u : (Nat → Int32) × (Nat → Int32) × (Nat → Int64) × (Nat → Int32)) => match u with | (bi2, sq2, nb2, mq2) => [(h0, .inr (9, [.ref ys, .ref yk, .ref yo, .ref yt, .int mk0, .ref yfa, .ref yfe, .int mL, .int mS, .int mM, .ref yro, .ref yhe, .ref ygr, .int mF, .int mC, .int mY, .ref yta, .int (nI (mz)), .int (nI (mf)), .int (nI (mt)), .int mv, .int mw, .ref ywa, .ref ybi, .ref ysi, .ref ynu, .ref ymo])), (ybi, .inl (cI, 4, .inl bi2)), (ysi, .inl (cI, 4, .inl sq2)), (ynu, .inl (cJ, 160, .inr (.inl nb2))), (yt, .inl (cI, 7, .inl mq2))]) A) ([.ref h0, .int 2, .int p1, .int (nI (y_41))] : List Value).toArray s 0 0 A) (F0 m 86 ls []) by
                  exact loop_86 _ 0 nb _ _ _ (Nat.lt_succ_self _) (by omega) (fun j h1 h2 => absurd h1 (by omega)) (fun _ _ => rfl) hP hD hS (lv_sub hl [0, 1, 2, 3, 4] rfl)
                intro n_86
                induction n_86 with
                | zero =>
                  intro i n8 H locs ls hm_86
                  exact absurd hm_86 (Nat.not_lt_zero _)
                | succ n_86 ih_86 =>
                  intro i n8 H locs ls hm_86 hi hf8 hg8 hP hD hS hl
                  refine lv_iload hx hb dX9_sheet_86 (lv_at hl 0 rfl) ?_
                  refine lv_bipush (v := 40) hx hb dX9_sheet_88 (by decide) ?_
                  refine lv_icmp_ge (tgt := 112) hx hb dX9_sheet_90 (by decide) (fun c_48 => ?_) (fun c_48 => ?_)
                  · skip
                    have nc_48 : 40 ≤ i := xn_le (a := 40) (b := i) (by omega) (by omega) c_48
                    refine lv_aload_n hx hb dX9_sheet_112 rfl (lv_at hl 1 rfl) ?_
                    refine xg hF kf_X9_46 hK hP 0 rfl rfl dX9_sheet_113 ?_
                    refine lv_iload_n hx hb dX9_sheet_116 rfl (lv_at hl 2 rfl) ?_
                    refine va_iald hx hb hK hP 2 0 rfl rfl (xin 2 4 (by decide) (by decide)) dX9_sheet_117 ?_
                    refine xl_i (y := f_47 2) (congrArg f_47 rfl) ?_
                    refine xl_i (y := 0) (by rw [ef_47]; exact pk_us) ?_
                    exact W.iret (v := 0) hx hb hr (fun t ht hW => ⟨⟨0, (f_42, f_47, n8, mq), rfl, ⟨p_sheet5 (by decide) (by decide) c_43 (nI_pos (by omega)) (x_le40 (by omega)), (by rw [ef_42]; exact pk_us.trans (if_pos ⟨(by first | exact Or.inl (by assumption) | exact Or.inr (Or.inl (by assumption)) | exact Or.inr (Or.inr (Or.inl (by assumption))) | exact Or.inr (Or.inr (Or.inr (by assumption)))), nI_pos (by omega), x_le40 (by omega)⟩).symm), (fun j hj => by rw [ef_42]; exact pk_un hj), (by rw [ef_47]; exact pk_us.trans (congrArg nI (sp_z0 ⟨(by first | exact Or.inl (by assumption) | exact Or.inr (Or.inl (by assumption)) | exact Or.inr (Or.inr (Or.inl (by assumption))) | exact Or.inr (Or.inr (Or.inr (by assumption)))), nI_pos (by omega), x_le40 (by omega)⟩ c_43))), (fun j hj => by rw [ef_47]; exact pk_un hj), (fun j hj => (hf8 (80 + j) (by omega) (by omega)).trans (if_pos ⟨(by first | exact Or.inl (by assumption) | exact Or.inr (Or.inl (by assumption)) | exact Or.inr (Or.inr (Or.inl (by assumption))) | exact Or.inr (Or.inr (Or.inr (by assumption)))), nI_pos (by omega), x_le40 (by omega)⟩).symm), (fun j hj => hg8 j hj), hf_47⟩, by rw [ht]; exact hP.sub [0, 1, 2, 3, 4] rfl, hD.sub [0, 1, 2, 3, 4] (by decide +kernel) rfl⟩, hS.F ht⟩) hS.2.2 dX9_sheet_118 hlk
                  · skip
                    have nc_48 : i < 40 := xn_nle (a := 40) (b := i) (by omega) (by omega) c_48
                    refine lv_aload_n hx hb dX9_sheet_93 rfl (lv_at hl 1 rfl) ?_
                    refine xg hF kf_X9_49 hK hP 0 rfl rfl dX9_sheet_94 ?_
                    refine lv_bipush (v := 40) hx hb dX9_sheet_97 (by decide) ?_
                    refine lv_iload_n hx hb dX9_sheet_99 rfl (lv_at hl 2 rfl) ?_
                    refine lv_imul hx hb dX9_sheet_100 ?_
                    refine xl_i (y := 80) (by decide) ?_
                    refine lv_iload hx hb dX9_sheet_101 (lv_at hl 0 rfl) ?_
                    refine lv_iadd hx hb dX9_sheet_103 ?_
                    refine xl_i (y := nI (80 + i)) (nI_add 80 i) ?_
                    refine lv_lconst (v := 0) hx hb dX9_sheet_104 (by decide) ?_
                    refine va_last hx hb hK hP hD hS 3 1 rfl rfl (vp_in_nI (show 80 + i < 160 by omega) (by decide)) dX9_sheet_105 (fun H locs hP hD hS => ?_)
                    rw [nI_clamp (show 80 + i < 2 ^ 31 by omega)] at hP hD
                    obtain ⟨f_49, ef_49⟩ : ∃ g, g = vp_updL n8 (80 + i) 0 := ⟨_, rfl⟩
                    rw [← ef_49] at hP hD
                    have hP : va_P D vwCl [(h0, .inr (9, [.ref ys, .ref yk, .ref yo, .ref yt, .int mk0, .ref yfa, .ref yfe, .int mL, .int mS, .int mM, .ref yro, .ref yhe, .ref ygr, .int mF, .int mC, .int mY, .ref yta, .int (nI (mz)), .int (nI (mf)), .int (nI (mt)), .int mv, .int mw, .ref ywa, .ref ybi, .ref ysi, .ref ynu, .ref ymo])), (ybi, .inl (cI, 4, .inl f_42)), (ysi, .inl (cI, 4, .inl f_47)), (ynu, .inl (cJ, 160, .inr (.inl f_49))), (yt, .inl (cI, 7, .inl mq))] H := hP
                    have hD : va_D A [(h0, .inr (9, [.ref ys, .ref yk, .ref yo, .ref yt, .int mk0, .ref yfa, .ref yfe, .int mL, .int mS, .int mM, .ref yro, .ref yhe, .ref ygr, .int mF, .int mC, .int mY, .ref yta, .int (nI (mz)), .int (nI (mf)), .int (nI (mt)), .int mv, .int mw, .ref ywa, .ref ybi, .ref ysi, .ref ynu, .ref ymo])), (ybi, .inl (cI, 4, .inl f_42)), (ysi, .inl (cI, 4, .inl f_47)), (ynu, .inl (cJ, 160, .inr (.inl f_49))), (yt, .inl (cI, 7, .inl mq))] := hD
                    refine lv_iinc (v := nI (i + 1)) (lv' := [(4, .int (nI (i + 1))), (0, .ref h0), (1, .int 2), (2, .int p1), (3, .int (nI (y_41)))]) hx hb dX9_sheet_106 hl (k := 0) rfl (nI_1 (i)) (by decide) rfl (fun ls hl => ?_)
                    refine lv_goto (tgt := 86) hx hb dX9_sheet_109 (by decide) ?_
                    exact ih_86 (i + 1) f_49 _ _ _ (by omega) (by omega) (sp_fil hf8 ef_49) (sp_fio hg8 (by omega) (by omega) ef_49) (hP.sub [0, 1, 2, 3, 4] rfl) (hD.sub [0, 1, 2, 3, 4] (by decide +kernel) rfl) hS (lv_sub hl [0, 1, 2, 3, 4] rfl)
            · skip
              refine lv_aload_n hx hb dX9_sheet_54 rfl (lv_at hl 0 rfl) ?_
              refine lv_ldc (v := (-1000000001)) hx hb hown (hu _ uw648) dX9_sheet_55 ?_
              refine xc_Vi (wr := [(ybi, .inl (cI, 4, .inl bi)), (ysi, .inl (cI, 4, .inl sq)), (ynu, .inl (cJ, 160, .inr (.inl nb)))]) hF (c_X9_finds_B l D cI cJ cZ cS ta sa sv s.heap.size h0 ys yk yo yt mk0 yfa yfe mL mS mM yro yhe ygr mF mC mY yta mz mf mt mv mw ywa ybi ysi ynu ymo mq ) kv_X9_70 ⟨rfl, rfl, Nat.le_of_ble_eq_true rfl, Nat.le_of_ble_eq_true rfl⟩ ⟨Nat.le_of_ble_eq_true rfl, Nat.le_of_ble_eq_true rfl⟩ hK hN hZ hP hD hS hA [0, 4] [1, 2, 3] rfl rfl rfl rfl (by decide) 0 rfl rfl rfl rfl hl.1 rfl (Nat.le_of_ble_eq_true rfl) dX9_sheet_57 (fun r_50 u_r_50 H locs hw_r_50 hP hD hS => ?_)
              obtain ⟨mq2_51, rfl⟩ : ∃ z, z = u_r_50 := ⟨_, rfl⟩
              try dsimp only at hw_r_50
              have hP : va_P D vwCl [(ybi, .inl (cI, 4, .inl bi)), (ysi, .inl (cI, 4, .inl sq)), (ynu, .inl (cJ, 160, .inr (.inl nb))), (h0, .inr (9, [.ref ys, .ref yk, .ref yo, .ref yt, .int mk0, .ref yfa, .ref yfe, .int mL, .int mS, .int mM, .ref yro, .ref yhe, .ref ygr, .int mF, .int mC, .int mY, .ref yta, .int (nI (mz)), .int (nI (mf)), .int (nI (mt)), .int mv, .int mw, .ref ywa, .ref ybi, .ref ysi, .ref ynu, .ref ymo])), (yt, .inl (cI, 7, .inl mq2_51))] H := hP
              have hD : va_D A [(ybi, .inl (cI, 4, .inl bi)), (ysi, .inl (cI, 4, .inl sq)), (ynu, .inl (cJ, 160, .inr (.inl nb))), (h0, .inr (9, [.ref ys, .ref yk, .ref yo, .ref yt, .int mk0, .ref yfa, .ref yfe, .int mL, .int mS, .int mM, .ref yro, .ref yhe, .ref ygr, .int mF, .int mC, .int mY, .ref yta, .int (nI (mz)), .int (nI (mf)), .int (nI (mt)), .int mv, .int mw, .ref ywa, .ref ybi, .ref ysi, .ref ynu, .ref ymo])), (yt, .inl (cI, 7, .inl mq2_51))] := hD
              subst hw_r_50
              exact W.iret (v := (-1000000001)) hx hb hr (fun t ht hW => ⟨⟨(-1000000001), (bi, sq, nb, mq2_51), rfl, ⟨p_sheet4 (by decide) (by decide) (by first | exact Or.inl (by assumption) | exact Or.inr (Or.inl (by assumption)) | exact Or.inr (Or.inr (Or.inl (by assumption))) | exact Or.inr (Or.inr (Or.inr (by assumption)))) (fun h => absurd c_39 (Int32.not_le.mpr h)) (xlt c_40), (if_neg (sp_n4 (xlt c_40))).symm, (fun _ _ => rfl), (ez.trans (congrArg nI (if_neg (sp_n4 (xlt c_40))).symm)), (fun _ _ => rfl), (fun j hj => (if_neg (sp_n4 (xlt c_40))).symm), (fun _ _ => rfl), hsq⟩, by rw [ht]; exact hP.sub [3, 0, 1, 2, 4] rfl, hD.sub [3, 0, 1, 2, 4] (by decide +kernel) rfl⟩, hS.F ht⟩) hS.2.2 dX9_sheet_60 hlk
          · skip
            refine lv_aload_n hx hb dX9_sheet_40 rfl (lv_at hl 0 rfl) ?_
            refine lv_ldcw (v := (-1000000007)) hx hb hown (hu _ uw923) dX9_sheet_41 ?_
            refine xc_Vi (wr := [(ybi, .inl (cI, 4, .inl bi)), (ysi, .inl (cI, 4, .inl sq)), (ynu, .inl (cJ, 160, .inr (.inl nb)))]) hF (c_X9_finds_S l D cI cJ cZ cS ta sa sv s.heap.size h0 ys yk yo yt mk0 yfa yfe mL mS mM yro yhe ygr mF mC mY yta mz mf mt mv mw ywa ybi ysi ynu ymo mq ) kv_X9_70 ⟨rfl, rfl, Nat.le_of_ble_eq_true rfl, Nat.le_of_ble_eq_true rfl⟩ ⟨Nat.le_of_ble_eq_true rfl, Nat.le_of_ble_eq_true rfl⟩ hK hN hZ hP hD hS hA [0, 4] [1, 2, 3] rfl rfl rfl rfl (by decide) 0 rfl rfl rfl rfl hl.1 rfl (Nat.le_of_ble_eq_true rfl) dX9_sheet_44 (fun r_52 u_r_52 H locs hw_r_52 hP hD hS => ?_)
            obtain ⟨mq2_53, rfl⟩ : ∃ z, z = u_r_52 := ⟨_, rfl⟩
            try dsimp only at hw_r_52
            have hP : va_P D vwCl [(ybi, .inl (cI, 4, .inl bi)), (ysi, .inl (cI, 4, .inl sq)), (ynu, .inl (cJ, 160, .inr (.inl nb))), (h0, .inr (9, [.ref ys, .ref yk, .ref yo, .ref yt, .int mk0, .ref yfa, .ref yfe, .int mL, .int mS, .int mM, .ref yro, .ref yhe, .ref ygr, .int mF, .int mC, .int mY, .ref yta, .int (nI (mz)), .int (nI (mf)), .int (nI (mt)), .int mv, .int mw, .ref ywa, .ref ybi, .ref ysi, .ref ynu, .ref ymo])), (yt, .inl (cI, 7, .inl mq2_53))] H := hP
            have hD : va_D A [(ybi, .inl (cI, 4, .inl bi)), (ysi, .inl (cI, 4, .inl sq)), (ynu, .inl (cJ, 160, .inr (.inl nb))), (h0, .inr (9, [.ref ys, .ref yk, .ref yo, .ref yt, .int mk0, .ref yfa, .ref yfe, .int mL, .int mS, .int mM, .ref yro, .ref yhe, .ref ygr, .int mF, .int mC, .int mY, .ref yta, .int (nI (mz)), .int (nI (mf)), .int (nI (mt)), .int mv, .int mw, .ref ywa, .ref ybi, .ref ysi, .ref ynu, .ref ymo])), (yt, .inl (cI, 7, .inl mq2_53))] := hD
            subst hw_r_52
            exact W.iret (v := (-1000000007)) hx hb hr (fun t ht hW => ⟨⟨(-1000000007), (bi, sq, nb, mq2_53), rfl, ⟨p_sheet3 (by decide) (by decide) (by first | exact Or.inl (by assumption) | exact Or.inr (Or.inl (by assumption)) | exact Or.inr (Or.inr (Or.inl (by assumption))) | exact Or.inr (Or.inr (Or.inr (by assumption)))) (xlt c_39), (if_neg (sp_n3 (xlt c_39))).symm, (fun _ _ => rfl), (ez.trans (congrArg nI (if_neg (sp_n3 (xlt c_39))).symm)), (fun _ _ => rfl), (fun j hj => (if_neg (sp_n3 (xlt c_39))).symm), (fun _ _ => rfl), hsq⟩, by rw [ht]; exact hP.sub [3, 0, 1, 2, 4] rfl, hD.sub [3, 0, 1, 2, 4] (by decide +kernel) rfl⟩, hS.F ht⟩) hS.2.2 dX9_sheet_47 hlk
        · skip
          refine lv_iload_n hx hb dX9_sheet_23 rfl (lv_at hl 2 rfl) ?_
          refine lv_bipush (v := 64) hx hb dX9_sheet_24 (by decide) ?_
          refine lv_icmp_eq (tgt := 36) hx hb dX9_sheet_26 (by decide) (fun c_54 => ?_) (fun c_54 => ?_)
          · skip
            refine lv_iload_n hx hb dX9_sheet_36 rfl (lv_at hl 3 rfl) ?_
            refine lv_if_ge (tgt := 48) hx hb dX9_sheet_37 (by decide) (fun c_55 => ?_) (fun c_55 => ?_)
            · skip
              refine lv_iload_n hx hb dX9_sheet_48 rfl (lv_at hl 3 rfl) ?_
              refine lv_bipush (v := 40) hx hb dX9_sheet_49 (by decide) ?_
              refine lv_icmp_le (tgt := 61) hx hb dX9_sheet_51 (by decide) (fun c_56 => ?_) (fun c_56 => ?_)
              · skip
                obtain ⟨y_57, hy_57, rfl⟩ := xrange2 (w := 40) (by omega) c_55 c_56
                refine lv_aload_n hx hb dX9_sheet_61 rfl (lv_at hl 0 rfl) ?_
                refine xg hF kf_X9_43 hK hP 0 rfl rfl dX9_sheet_62 ?_
                refine lv_iload_n hx hb dX9_sheet_65 rfl (lv_at hl 1 rfl) ?_
                refine lv_iload_n hx hb dX9_sheet_66 rfl (lv_at hl 2 rfl) ?_
                refine va_iast hx hb hK hP hD hS 1 0 rfl rfl (xin 2 4 (by decide) (by decide)) dX9_sheet_67 (fun H locs hP hD hS => ?_)
                obtain ⟨f_58, ef_58⟩ : ∃ g, g = upd bi 2 p1 := ⟨_, rfl⟩
                have hP : va_P D vwCl [(h0, .inr (9, [.ref ys, .ref yk, .ref yo, .ref yt, .int mk0, .ref yfa, .ref yfe, .int mL, .int mS, .int mM, .ref yro, .ref yhe, .ref ygr, .int mF, .int mC, .int mY, .ref yta, .int (nI (mz)), .int (nI (mf)), .int (nI (mt)), .int mv, .int mw, .ref ywa, .ref ybi, .ref ysi, .ref ynu, .ref ymo])), (ybi, .inl (cI, 4, .inl (upd bi 2 p1))), (ysi, .inl (cI, 4, .inl sq)), (ynu, .inl (cJ, 160, .inr (.inl nb))), (yt, .inl (cI, 7, .inl mq))] H := hP
                have hD : va_D A [(h0, .inr (9, [.ref ys, .ref yk, .ref yo, .ref yt, .int mk0, .ref yfa, .ref yfe, .int mL, .int mS, .int mM, .ref yro, .ref yhe, .ref ygr, .int mF, .int mC, .int mY, .ref yta, .int (nI (mz)), .int (nI (mf)), .int (nI (mt)), .int mv, .int mw, .ref ywa, .ref ybi, .ref ysi, .ref ynu, .ref ymo])), (ybi, .inl (cI, 4, .inl (upd bi 2 p1))), (ysi, .inl (cI, 4, .inl sq)), (ynu, .inl (cJ, 160, .inr (.inl nb))), (yt, .inl (cI, 7, .inl mq))] := hD
                rw [← ef_58] at hP hD
                have hP : va_P D vwCl [(h0, .inr (9, [.ref ys, .ref yk, .ref yo, .ref yt, .int mk0, .ref yfa, .ref yfe, .int mL, .int mS, .int mM, .ref yro, .ref yhe, .ref ygr, .int mF, .int mC, .int mY, .ref yta, .int (nI (mz)), .int (nI (mf)), .int (nI (mt)), .int mv, .int mw, .ref ywa, .ref ybi, .ref ysi, .ref ynu, .ref ymo])), (ybi, .inl (cI, 4, .inl f_58)), (ysi, .inl (cI, 4, .inl sq)), (ynu, .inl (cJ, 160, .inr (.inl nb))), (yt, .inl (cI, 7, .inl mq))] H := hP
                have hD : va_D A [(h0, .inr (9, [.ref ys, .ref yk, .ref yo, .ref yt, .int mk0, .ref yfa, .ref yfe, .int mL, .int mS, .int mM, .ref yro, .ref yhe, .ref ygr, .int mF, .int mC, .int mY, .ref yta, .int (nI (mz)), .int (nI (mf)), .int (nI (mt)), .int mv, .int mw, .ref ywa, .ref ybi, .ref ysi, .ref ynu, .ref ymo])), (ybi, .inl (cI, 4, .inl f_58)), (ysi, .inl (cI, 4, .inl sq)), (ynu, .inl (cJ, 160, .inr (.inl nb))), (yt, .inl (cI, 7, .inl mq))] := hD
                refine lv_aload_n hx hb dX9_sheet_68 rfl (lv_at hl 0 rfl) ?_
                refine xg hF kf_X9_46 hK hP 0 rfl rfl dX9_sheet_69 ?_
                refine lv_iload_n hx hb dX9_sheet_72 rfl (lv_at hl 1 rfl) ?_
                refine lv_iload_n hx hb dX9_sheet_73 rfl (lv_at hl 2 rfl) ?_
                refine lv_if_ne (tgt := 81) hx hb dX9_sheet_74 (by decide) (fun c_59 => ?_) (fun c_59 => ?_)
                · skip
                  refine lv_iload_n hx hb dX9_sheet_81 rfl (lv_at hl 3 rfl) ?_
                  refine va_iast hx hb hK hP hD hS 2 0 rfl rfl (xin 2 4 (by decide) (by decide)) dX9_sheet_82 (fun H locs hP hD hS => ?_)
                  obtain ⟨f_60, ef_60⟩ : ∃ g, g = upd sq 2 (nI (y_57)) := ⟨_, rfl⟩
                  have hP : va_P D vwCl [(h0, .inr (9, [.ref ys, .ref yk, .ref yo, .ref yt, .int mk0, .ref yfa, .ref yfe, .int mL, .int mS, .int mM, .ref yro, .ref yhe, .ref ygr, .int mF, .int mC, .int mY, .ref yta, .int (nI (mz)), .int (nI (mf)), .int (nI (mt)), .int mv, .int mw, .ref ywa, .ref ybi, .ref ysi, .ref ynu, .ref ymo])), (ybi, .inl (cI, 4, .inl f_58)), (ysi, .inl (cI, 4, .inl (upd sq 2 (nI (y_57))))), (ynu, .inl (cJ, 160, .inr (.inl nb))), (yt, .inl (cI, 7, .inl mq))] H := hP
                  have hD : va_D A [(h0, .inr (9, [.ref ys, .ref yk, .ref yo, .ref yt, .int mk0, .ref yfa, .ref yfe, .int mL, .int mS, .int mM, .ref yro, .ref yhe, .ref ygr, .int mF, .int mC, .int mY, .ref yta, .int (nI (mz)), .int (nI (mf)), .int (nI (mt)), .int mv, .int mw, .ref ywa, .ref ybi, .ref ysi, .ref ynu, .ref ymo])), (ybi, .inl (cI, 4, .inl f_58)), (ysi, .inl (cI, 4, .inl (upd sq 2 (nI (y_57))))), (ynu, .inl (cJ, 160, .inr (.inl nb))), (yt, .inl (cI, 7, .inl mq))] := hD
                  rw [← ef_60] at hP hD
                  have hf_60 : BA 4 41 f_60 := by rw [ef_60]; exact BA.upd hsq (show y_57 < 41 by omega)
                  have hP : va_P D vwCl [(h0, .inr (9, [.ref ys, .ref yk, .ref yo, .ref yt, .int mk0, .ref yfa, .ref yfe, .int mL, .int mS, .int mM, .ref yro, .ref yhe, .ref ygr, .int mF, .int mC, .int mY, .ref yta, .int (nI (mz)), .int (nI (mf)), .int (nI (mt)), .int mv, .int mw, .ref ywa, .ref ybi, .ref ysi, .ref ynu, .ref ymo])), (ybi, .inl (cI, 4, .inl f_58)), (ysi, .inl (cI, 4, .inl f_60)), (ynu, .inl (cJ, 160, .inr (.inl nb))), (yt, .inl (cI, 7, .inl mq))] H := hP
                  have hD : va_D A [(h0, .inr (9, [.ref ys, .ref yk, .ref yo, .ref yt, .int mk0, .ref yfa, .ref yfe, .int mL, .int mS, .int mM, .ref yro, .ref yhe, .ref ygr, .int mF, .int mC, .int mY, .ref yta, .int (nI (mz)), .int (nI (mf)), .int (nI (mt)), .int mv, .int mw, .ref ywa, .ref ybi, .ref ysi, .ref ynu, .ref ymo])), (ybi, .inl (cI, 4, .inl f_58)), (ysi, .inl (cI, 4, .inl f_60)), (ynu, .inl (cJ, 160, .inr (.inl nb))), (yt, .inl (cI, 7, .inl mq))] := hD
                  refine lv_iconst (v := 0) hx hb dX9_sheet_83 (by decide) ?_
                  refine lv_istore (lv' := [(4, .int 0), (0, .ref h0), (1, .int 2), (2, .int p1), (3, .int (nI (y_57)))]) hx hb dX9_sheet_84 hl (by decide) rfl (fun ls hl => ?_)
                  suffices loop_86 : ∀ (n_86 : Nat) (i : Nat) (n8 : Nat → Int64) (H : Heap) (locs : List Loc) (ls : Array Slot), 40 - i < n_86 → (i ≤ 40) → (∀ j, 80 ≤ j → j < 80 + i → n8 j = 0) → (∀ j, j < 80 ∨ 120 ≤ j → n8 j = nb j) → va_P D vwCl [(h0, .inr (9, [.ref ys, .ref yk, .ref yo, .ref yt, .int mk0, .ref yfa, .ref yfe, .int mL, .int mS, .int mM, .ref yro, .ref yhe, .ref ygr, .int mF, .int mC, .int mY, .ref yta, .int (nI (mz)), .int (nI (mf)), .int (nI (mt)), .int mv, .int mw, .ref ywa, .ref ybi, .ref ysi, .ref ynu, .ref ymo])), (ybi, .inl (cI, 4, .inl f_58)), (ysi, .inl (cI, 4, .inl f_60)), (ynu, .inl (cJ, 160, .inr (.inl n8))), (yt, .inl (cI, 7, .inl mq))] H → va_D A [(h0, .inr (9, [.ref ys, .ref yk, .ref yo, .ref yt, .int mk0, .ref yfa, .ref yfe, .int mL, .int mS, .int mM, .ref yro, .ref yhe, .ref ygr, .int mF, .int mC, .int mY, .ref yta, .int (nI (mz)), .int (nI (mf)), .int (nI (mt)), .int mv, .int mw, .ref ywa, .ref ybi, .ref ysi, .ref ynu, .ref ymo])), (ybi, .inl (cI, 4, .inl f_58)), (ysi, .inl (cI, 4, .inl f_60)), (ynu, .inl (cJ, 160, .inr (.inl n8))), (yt, .inl (cI, 7, .inl mq))] → va_S A s.heap H locs → lv_has ls 5 [(4, .int (nI (i))), (0, .ref h0), (1, .int 2), (2, .int p1), (3, .int (nI (y_57)))] → W p l e ({ frames := 2, cells := 0, slots := 0, locals := 45 }) s m ([.ref h0, .int 2, .int p1, .int (nI (y_57))] : List Value).toArray below meth c H locs 0 0 (MQ below (XQi (fun (r : Int32) (u : (Nat → Int32) × (Nat → Int32) × (Nat → Int64) × (Nat → Int32)) => match u with | (bi2, sq2, nb2, mq2) => ((r = a_sheet 2 p1 (nI (y_57)))) ∧ (bi2 2 = sp_sb p1 (nI (y_57)) (bi 2)) ∧ (∀ j, j ≠ 2 → bi2 j = bi j) ∧ (sq2 2 = nI (sp_sz p1 (nI (y_57)) zq)) ∧ (∀ j, j ≠ 2 → sq2 j = sq j) ∧ (∀ j, j < 40 → nb2 (80 + j) = sp_sn p1 (nI (y_57)) (nb (80 + j))) ∧ (∀ j, j < 80 ∨ 120 ≤ j → nb2 j = nb j) ∧ (BA 4 41 sq2)) D (fun (u : (Nat → Int32) × (Nat → Int32) × (Nat → Int64) × (Nat → Int32)) => match u with | (bi2, sq2, nb2, mq2) => [(h0, .inr (9, [.ref ys, .ref yk, .ref yo, .ref yt, .int mk0, .ref yfa, .ref yfe, .int mL, .int mS, .int mM, .ref yro, .ref yhe, .ref ygr, .int mF, .int mC, .int mY, .ref yta, .int (nI (mz)), .int (nI (mf)), .int (nI (mt)), .int mv, .int mw, .ref ywa, .ref ybi, .ref ysi, .ref ynu, .ref ymo])), (ybi, .inl (cI, 4, .inl bi2)), (ysi, .inl (cI, 4, .inl sq2)), (ynu, .inl (cJ, 160, .inr (.inl nb2))), (yt, .inl (cI, 7, .inl mq2))]) A) ([.ref h0, .int 2, .int p1, .int (nI (y_57))] : List Value).toArray s 0 0 A) (F0 m 86 ls []) by
                    exact loop_86 _ 0 nb _ _ _ (Nat.lt_succ_self _) (by omega) (fun j h1 h2 => absurd h1 (by omega)) (fun _ _ => rfl) hP hD hS (lv_sub hl [0, 1, 2, 3, 4] rfl)
                  intro n_86
                  induction n_86 with
                  | zero =>
                    intro i n8 H locs ls hm_86
                    exact absurd hm_86 (Nat.not_lt_zero _)
                  | succ n_86 ih_86 =>
                    intro i n8 H locs ls hm_86 hi hf8 hg8 hP hD hS hl
                    refine lv_iload hx hb dX9_sheet_86 (lv_at hl 0 rfl) ?_
                    refine lv_bipush (v := 40) hx hb dX9_sheet_88 (by decide) ?_
                    refine lv_icmp_ge (tgt := 112) hx hb dX9_sheet_90 (by decide) (fun c_61 => ?_) (fun c_61 => ?_)
                    · skip
                      have nc_61 : 40 ≤ i := xn_le (a := 40) (b := i) (by omega) (by omega) c_61
                      refine lv_aload_n hx hb dX9_sheet_112 rfl (lv_at hl 1 rfl) ?_
                      refine xg hF kf_X9_46 hK hP 0 rfl rfl dX9_sheet_113 ?_
                      refine lv_iload_n hx hb dX9_sheet_116 rfl (lv_at hl 2 rfl) ?_
                      refine va_iald hx hb hK hP 2 0 rfl rfl (xin 2 4 (by decide) (by decide)) dX9_sheet_117 ?_
                      refine xl_i (y := f_60 2) (congrArg f_60 rfl) ?_
                      refine xl_i (y := nI (y_57)) (by rw [ef_60]; exact pk_us) ?_
                      exact W.iret (v := nI (y_57)) hx hb hr (fun t ht hW => ⟨⟨nI (y_57), (f_58, f_60, n8, mq), rfl, ⟨p_sheet6 (by decide) (by decide) (by first | exact Or.inl (by assumption) | exact Or.inr (Or.inl (by assumption)) | exact Or.inr (Or.inr (Or.inl (by assumption))) | exact Or.inr (Or.inr (Or.inr (by assumption)))) (nI_pos (by omega)) (x_le40 (by omega)) (by assumption), (by rw [ef_58]; exact pk_us.trans (if_pos ⟨(by first | exact Or.inl (by assumption) | exact Or.inr (Or.inl (by assumption)) | exact Or.inr (Or.inr (Or.inl (by assumption))) | exact Or.inr (Or.inr (Or.inr (by assumption)))), nI_pos (by omega), x_le40 (by omega)⟩).symm), (fun j hj => by rw [ef_58]; exact pk_un hj), (by rw [ef_60]; exact pk_us.trans (congrArg nI (sp_z1 ⟨(by first | exact Or.inl (by assumption) | exact Or.inr (Or.inl (by assumption)) | exact Or.inr (Or.inr (Or.inl (by assumption))) | exact Or.inr (Or.inr (Or.inr (by assumption)))), nI_pos (by omega), x_le40 (by omega)⟩ (by assumption) (by omega)))), (fun j hj => by rw [ef_60]; exact pk_un hj), (fun j hj => (hf8 (80 + j) (by omega) (by omega)).trans (if_pos ⟨(by first | exact Or.inl (by assumption) | exact Or.inr (Or.inl (by assumption)) | exact Or.inr (Or.inr (Or.inl (by assumption))) | exact Or.inr (Or.inr (Or.inr (by assumption)))), nI_pos (by omega), x_le40 (by omega)⟩).symm), (fun j hj => hg8 j hj), hf_60⟩, by rw [ht]; exact hP.sub [0, 1, 2, 3, 4] rfl, hD.sub [0, 1, 2, 3, 4] (by decide +kernel) rfl⟩, hS.F ht⟩) hS.2.2 dX9_sheet_118 hlk
                    · skip
                      have nc_61 : i < 40 := xn_nle (a := 40) (b := i) (by omega) (by omega) c_61
                      refine lv_aload_n hx hb dX9_sheet_93 rfl (lv_at hl 1 rfl) ?_
                      refine xg hF kf_X9_49 hK hP 0 rfl rfl dX9_sheet_94 ?_
                      refine lv_bipush (v := 40) hx hb dX9_sheet_97 (by decide) ?_
                      refine lv_iload_n hx hb dX9_sheet_99 rfl (lv_at hl 2 rfl) ?_
                      refine lv_imul hx hb dX9_sheet_100 ?_
                      refine xl_i (y := 80) (by decide) ?_
                      refine lv_iload hx hb dX9_sheet_101 (lv_at hl 0 rfl) ?_
                      refine lv_iadd hx hb dX9_sheet_103 ?_
                      refine xl_i (y := nI (80 + i)) (nI_add 80 i) ?_
                      refine lv_lconst (v := 0) hx hb dX9_sheet_104 (by decide) ?_
                      refine va_last hx hb hK hP hD hS 3 1 rfl rfl (vp_in_nI (show 80 + i < 160 by omega) (by decide)) dX9_sheet_105 (fun H locs hP hD hS => ?_)
                      rw [nI_clamp (show 80 + i < 2 ^ 31 by omega)] at hP hD
                      obtain ⟨f_62, ef_62⟩ : ∃ g, g = vp_updL n8 (80 + i) 0 := ⟨_, rfl⟩
                      rw [← ef_62] at hP hD
                      have hP : va_P D vwCl [(h0, .inr (9, [.ref ys, .ref yk, .ref yo, .ref yt, .int mk0, .ref yfa, .ref yfe, .int mL, .int mS, .int mM, .ref yro, .ref yhe, .ref ygr, .int mF, .int mC, .int mY, .ref yta, .int (nI (mz)), .int (nI (mf)), .int (nI (mt)), .int mv, .int mw, .ref ywa, .ref ybi, .ref ysi, .ref ynu, .ref ymo])), (ybi, .inl (cI, 4, .inl f_58)), (ysi, .inl (cI, 4, .inl f_60)), (ynu, .inl (cJ, 160, .inr (.inl f_62))), (yt, .inl (cI, 7, .inl mq))] H := hP
                      have hD : va_D A [(h0, .inr (9, [.ref ys, .ref yk, .ref yo, .ref yt, .int mk0, .ref yfa, .ref yfe, .int mL, .int mS, .int mM, .ref yro, .ref yhe, .ref ygr, .int mF, .int mC, .int mY, .ref yta, .int (nI (mz)), .int (nI (mf)), .int (nI (mt)), .int mv, .int mw, .ref ywa, .ref ybi, .ref ysi, .ref ynu, .ref ymo])), (ybi, .inl (cI, 4, .inl f_58)), (ysi, .inl (cI, 4, .inl f_60)), (ynu, .inl (cJ, 160, .inr (.inl f_62))), (yt, .inl (cI, 7, .inl mq))] := hD
                      refine lv_iinc (v := nI (i + 1)) (lv' := [(4, .int (nI (i + 1))), (0, .ref h0), (1, .int 2), (2, .int p1), (3, .int (nI (y_57)))]) hx hb dX9_sheet_106 hl (k := 0) rfl (nI_1 (i)) (by decide) rfl (fun ls hl => ?_)
                      refine lv_goto (tgt := 86) hx hb dX9_sheet_109 (by decide) ?_
                      exact ih_86 (i + 1) f_62 _ _ _ (by omega) (by omega) (sp_fil hf8 ef_62) (sp_fio hg8 (by omega) (by omega) ef_62) (hP.sub [0, 1, 2, 3, 4] rfl) (hD.sub [0, 1, 2, 3, 4] (by decide +kernel) rfl) hS (lv_sub hl [0, 1, 2, 3, 4] rfl)
                · skip
                  refine lv_iconst (v := 0) hx hb dX9_sheet_77 (by decide) ?_
                  refine lv_goto (tgt := 82) hx hb dX9_sheet_78 (by decide) ?_
                  refine va_iast hx hb hK hP hD hS 2 0 rfl rfl (xin 2 4 (by decide) (by decide)) dX9_sheet_82 (fun H locs hP hD hS => ?_)
                  obtain ⟨f_63, ef_63⟩ : ∃ g, g = upd sq 2 0 := ⟨_, rfl⟩
                  have hP : va_P D vwCl [(h0, .inr (9, [.ref ys, .ref yk, .ref yo, .ref yt, .int mk0, .ref yfa, .ref yfe, .int mL, .int mS, .int mM, .ref yro, .ref yhe, .ref ygr, .int mF, .int mC, .int mY, .ref yta, .int (nI (mz)), .int (nI (mf)), .int (nI (mt)), .int mv, .int mw, .ref ywa, .ref ybi, .ref ysi, .ref ynu, .ref ymo])), (ybi, .inl (cI, 4, .inl f_58)), (ysi, .inl (cI, 4, .inl (upd sq 2 0))), (ynu, .inl (cJ, 160, .inr (.inl nb))), (yt, .inl (cI, 7, .inl mq))] H := hP
                  have hD : va_D A [(h0, .inr (9, [.ref ys, .ref yk, .ref yo, .ref yt, .int mk0, .ref yfa, .ref yfe, .int mL, .int mS, .int mM, .ref yro, .ref yhe, .ref ygr, .int mF, .int mC, .int mY, .ref yta, .int (nI (mz)), .int (nI (mf)), .int (nI (mt)), .int mv, .int mw, .ref ywa, .ref ybi, .ref ysi, .ref ynu, .ref ymo])), (ybi, .inl (cI, 4, .inl f_58)), (ysi, .inl (cI, 4, .inl (upd sq 2 0))), (ynu, .inl (cJ, 160, .inr (.inl nb))), (yt, .inl (cI, 7, .inl mq))] := hD
                  rw [← ef_63] at hP hD
                  have hf_63 : BA 4 41 f_63 := by rw [ef_63]; exact BA.upd hsq (show 0 < 41 by omega)
                  have hP : va_P D vwCl [(h0, .inr (9, [.ref ys, .ref yk, .ref yo, .ref yt, .int mk0, .ref yfa, .ref yfe, .int mL, .int mS, .int mM, .ref yro, .ref yhe, .ref ygr, .int mF, .int mC, .int mY, .ref yta, .int (nI (mz)), .int (nI (mf)), .int (nI (mt)), .int mv, .int mw, .ref ywa, .ref ybi, .ref ysi, .ref ynu, .ref ymo])), (ybi, .inl (cI, 4, .inl f_58)), (ysi, .inl (cI, 4, .inl f_63)), (ynu, .inl (cJ, 160, .inr (.inl nb))), (yt, .inl (cI, 7, .inl mq))] H := hP
                  have hD : va_D A [(h0, .inr (9, [.ref ys, .ref yk, .ref yo, .ref yt, .int mk0, .ref yfa, .ref yfe, .int mL, .int mS, .int mM, .ref yro, .ref yhe, .ref ygr, .int mF, .int mC, .int mY, .ref yta, .int (nI (mz)), .int (nI (mf)), .int (nI (mt)), .int mv, .int mw, .ref ywa, .ref ybi, .ref ysi, .ref ynu, .ref ymo])), (ybi, .inl (cI, 4, .inl f_58)), (ysi, .inl (cI, 4, .inl f_63)), (ynu, .inl (cJ, 160, .inr (.inl nb))), (yt, .inl (cI, 7, .inl mq))] := hD
                  refine lv_iconst (v := 0) hx hb dX9_sheet_83 (by decide) ?_
                  refine lv_istore (lv' := [(4, .int 0), (0, .ref h0), (1, .int 2), (2, .int p1), (3, .int (nI (y_57)))]) hx hb dX9_sheet_84 hl (by decide) rfl (fun ls hl => ?_)
                  suffices loop_86 : ∀ (n_86 : Nat) (i : Nat) (n8 : Nat → Int64) (H : Heap) (locs : List Loc) (ls : Array Slot), 40 - i < n_86 → (i ≤ 40) → (∀ j, 80 ≤ j → j < 80 + i → n8 j = 0) → (∀ j, j < 80 ∨ 120 ≤ j → n8 j = nb j) → va_P D vwCl [(h0, .inr (9, [.ref ys, .ref yk, .ref yo, .ref yt, .int mk0, .ref yfa, .ref yfe, .int mL, .int mS, .int mM, .ref yro, .ref yhe, .ref ygr, .int mF, .int mC, .int mY, .ref yta, .int (nI (mz)), .int (nI (mf)), .int (nI (mt)), .int mv, .int mw, .ref ywa, .ref ybi, .ref ysi, .ref ynu, .ref ymo])), (ybi, .inl (cI, 4, .inl f_58)), (ysi, .inl (cI, 4, .inl f_63)), (ynu, .inl (cJ, 160, .inr (.inl n8))), (yt, .inl (cI, 7, .inl mq))] H → va_D A [(h0, .inr (9, [.ref ys, .ref yk, .ref yo, .ref yt, .int mk0, .ref yfa, .ref yfe, .int mL, .int mS, .int mM, .ref yro, .ref yhe, .ref ygr, .int mF, .int mC, .int mY, .ref yta, .int (nI (mz)), .int (nI (mf)), .int (nI (mt)), .int mv, .int mw, .ref ywa, .ref ybi, .ref ysi, .ref ynu, .ref ymo])), (ybi, .inl (cI, 4, .inl f_58)), (ysi, .inl (cI, 4, .inl f_63)), (ynu, .inl (cJ, 160, .inr (.inl n8))), (yt, .inl (cI, 7, .inl mq))] → va_S A s.heap H locs → lv_has ls 5 [(4, .int (nI (i))), (0, .ref h0), (1, .int 2), (2, .int p1), (3, .int (nI (y_57)))] → W p l e ({ frames := 2, cells := 0, slots := 0, locals := 45 }) s m ([.ref h0, .int 2, .int p1, .int (nI (y_57))] : List Value).toArray below meth c H locs 0 0 (MQ below (XQi (fun (r : Int32) (u : (Nat → Int32) × (Nat → Int32) × (Nat → Int64) × (Nat → Int32)) => match u with | (bi2, sq2, nb2, mq2) => ((r = a_sheet 2 p1 (nI (y_57)))) ∧ (bi2 2 = sp_sb p1 (nI (y_57)) (bi 2)) ∧ (∀ j, j ≠ 2 → bi2 j = bi j) ∧ (sq2 2 = nI (sp_sz p1 (nI (y_57)) zq)) ∧ (∀ j, j ≠ 2 → sq2 j = sq j) ∧ (∀ j, j < 40 → nb2 (80 + j) = sp_sn p1 (nI (y_57)) (nb (80 + j))) ∧ (∀ j, j < 80 ∨ 120 ≤ j → nb2 j = nb j) ∧ (BA 4 41 sq2)) D (fun (u : (Nat → Int32) × (Nat → Int32) × (Nat → Int64) × (Nat → Int32)) => match u with | (bi2, sq2, nb2, mq2) => [(h0, .inr (9, [.ref ys, .ref yk, .ref yo, .ref yt, .int mk0, .ref yfa, .ref yfe, .int mL, .int mS, .int mM, .ref yro, .ref yhe, .ref ygr, .int mF, .int mC, .int mY, .ref yta, .int (nI (mz)), .int (nI (mf)), .int (nI (mt)), .int mv, .int mw, .ref ywa, .ref ybi, .ref ysi, .ref ynu, .ref ymo])), (ybi, .inl (cI, 4, .inl bi2)), (ysi, .inl (cI, 4, .inl sq2)), (ynu, .inl (cJ, 160, .inr (.inl nb2))), (yt, .inl (cI, 7, .inl mq2))]) A) ([.ref h0, .int 2, .int p1, .int (nI (y_57))] : List Value).toArray s 0 0 A) (F0 m 86 ls []) by
                    exact loop_86 _ 0 nb _ _ _ (Nat.lt_succ_self _) (by omega) (fun j h1 h2 => absurd h1 (by omega)) (fun _ _ => rfl) hP hD hS (lv_sub hl [0, 1, 2, 3, 4] rfl)
                  intro n_86
                  induction n_86 with
                  | zero =>
                    intro i n8 H locs ls hm_86
                    exact absurd hm_86 (Nat.not_lt_zero _)
                  | succ n_86 ih_86 =>
                    intro i n8 H locs ls hm_86 hi hf8 hg8 hP hD hS hl
                    refine lv_iload hx hb dX9_sheet_86 (lv_at hl 0 rfl) ?_
                    refine lv_bipush (v := 40) hx hb dX9_sheet_88 (by decide) ?_
                    refine lv_icmp_ge (tgt := 112) hx hb dX9_sheet_90 (by decide) (fun c_64 => ?_) (fun c_64 => ?_)
                    · skip
                      have nc_64 : 40 ≤ i := xn_le (a := 40) (b := i) (by omega) (by omega) c_64
                      refine lv_aload_n hx hb dX9_sheet_112 rfl (lv_at hl 1 rfl) ?_
                      refine xg hF kf_X9_46 hK hP 0 rfl rfl dX9_sheet_113 ?_
                      refine lv_iload_n hx hb dX9_sheet_116 rfl (lv_at hl 2 rfl) ?_
                      refine va_iald hx hb hK hP 2 0 rfl rfl (xin 2 4 (by decide) (by decide)) dX9_sheet_117 ?_
                      refine xl_i (y := f_63 2) (congrArg f_63 rfl) ?_
                      refine xl_i (y := 0) (by rw [ef_63]; exact pk_us) ?_
                      exact W.iret (v := 0) hx hb hr (fun t ht hW => ⟨⟨0, (f_58, f_63, n8, mq), rfl, ⟨p_sheet5 (by decide) (by decide) c_59 (nI_pos (by omega)) (x_le40 (by omega)), (by rw [ef_58]; exact pk_us.trans (if_pos ⟨(by first | exact Or.inl (by assumption) | exact Or.inr (Or.inl (by assumption)) | exact Or.inr (Or.inr (Or.inl (by assumption))) | exact Or.inr (Or.inr (Or.inr (by assumption)))), nI_pos (by omega), x_le40 (by omega)⟩).symm), (fun j hj => by rw [ef_58]; exact pk_un hj), (by rw [ef_63]; exact pk_us.trans (congrArg nI (sp_z0 ⟨(by first | exact Or.inl (by assumption) | exact Or.inr (Or.inl (by assumption)) | exact Or.inr (Or.inr (Or.inl (by assumption))) | exact Or.inr (Or.inr (Or.inr (by assumption)))), nI_pos (by omega), x_le40 (by omega)⟩ c_59))), (fun j hj => by rw [ef_63]; exact pk_un hj), (fun j hj => (hf8 (80 + j) (by omega) (by omega)).trans (if_pos ⟨(by first | exact Or.inl (by assumption) | exact Or.inr (Or.inl (by assumption)) | exact Or.inr (Or.inr (Or.inl (by assumption))) | exact Or.inr (Or.inr (Or.inr (by assumption)))), nI_pos (by omega), x_le40 (by omega)⟩).symm), (fun j hj => hg8 j hj), hf_63⟩, by rw [ht]; exact hP.sub [0, 1, 2, 3, 4] rfl, hD.sub [0, 1, 2, 3, 4] (by decide +kernel) rfl⟩, hS.F ht⟩) hS.2.2 dX9_sheet_118 hlk
                    · skip
                      have nc_64 : i < 40 := xn_nle (a := 40) (b := i) (by omega) (by omega) c_64
                      refine lv_aload_n hx hb dX9_sheet_93 rfl (lv_at hl 1 rfl) ?_
                      refine xg hF kf_X9_49 hK hP 0 rfl rfl dX9_sheet_94 ?_
                      refine lv_bipush (v := 40) hx hb dX9_sheet_97 (by decide) ?_
                      refine lv_iload_n hx hb dX9_sheet_99 rfl (lv_at hl 2 rfl) ?_
                      refine lv_imul hx hb dX9_sheet_100 ?_
                      refine xl_i (y := 80) (by decide) ?_
                      refine lv_iload hx hb dX9_sheet_101 (lv_at hl 0 rfl) ?_
                      refine lv_iadd hx hb dX9_sheet_103 ?_
                      refine xl_i (y := nI (80 + i)) (nI_add 80 i) ?_
                      refine lv_lconst (v := 0) hx hb dX9_sheet_104 (by decide) ?_
                      refine va_last hx hb hK hP hD hS 3 1 rfl rfl (vp_in_nI (show 80 + i < 160 by omega) (by decide)) dX9_sheet_105 (fun H locs hP hD hS => ?_)
                      rw [nI_clamp (show 80 + i < 2 ^ 31 by omega)] at hP hD
                      obtain ⟨f_65, ef_65⟩ : ∃ g, g = vp_updL n8 (80 + i) 0 := ⟨_, rfl⟩
                      rw [← ef_65] at hP hD
                      have hP : va_P D vwCl [(h0, .inr (9, [.ref ys, .ref yk, .ref yo, .ref yt, .int mk0, .ref yfa, .ref yfe, .int mL, .int mS, .int mM, .ref yro, .ref yhe, .ref ygr, .int mF, .int mC, .int mY, .ref yta, .int (nI (mz)), .int (nI (mf)), .int (nI (mt)), .int mv, .int mw, .ref ywa, .ref ybi, .ref ysi, .ref ynu, .ref ymo])), (ybi, .inl (cI, 4, .inl f_58)), (ysi, .inl (cI, 4, .inl f_63)), (ynu, .inl (cJ, 160, .inr (.inl f_65))), (yt, .inl (cI, 7, .inl mq))] H := hP
                      have hD : va_D A [(h0, .inr (9, [.ref ys, .ref yk, .ref yo, .ref yt, .int mk0, .ref yfa, .ref yfe, .int mL, .int mS, .int mM, .ref yro, .ref yhe, .ref ygr, .int mF, .int mC, .int mY, .ref yta, .int (nI (mz)), .int (nI (mf)), .int (nI (mt)), .int mv, .int mw, .ref ywa, .ref ybi, .ref ysi, .ref ynu, .ref ymo])), (ybi, .inl (cI, 4, .inl f_58)), (ysi, .inl (cI, 4, .inl f_63)), (ynu, .inl (cJ, 160, .inr (.inl f_65))), (yt, .inl (cI, 7, .inl mq))] := hD
                      refine lv_iinc (v := nI (i + 1)) (lv' := [(4, .int (nI (i + 1))), (0, .ref h0), (1, .int 2), (2, .int p1), (3, .int (nI (y_57)))]) hx hb dX9_sheet_106 hl (k := 0) rfl (nI_1 (i)) (by decide) rfl (fun ls hl => ?_)
                      refine lv_goto (tgt := 86) hx hb dX9_sheet_109 (by decide) ?_
                      exact ih_86 (i + 1) f_65 _ _ _ (by omega) (by omega) (sp_fil hf8 ef_65) (sp_fio hg8 (by omega) (by omega) ef_65) (hP.sub [0, 1, 2, 3, 4] rfl) (hD.sub [0, 1, 2, 3, 4] (by decide +kernel) rfl) hS (lv_sub hl [0, 1, 2, 3, 4] rfl)
              · skip
                refine lv_aload_n hx hb dX9_sheet_54 rfl (lv_at hl 0 rfl) ?_
                refine lv_ldc (v := (-1000000001)) hx hb hown (hu _ uw648) dX9_sheet_55 ?_
                refine xc_Vi (wr := [(ybi, .inl (cI, 4, .inl bi)), (ysi, .inl (cI, 4, .inl sq)), (ynu, .inl (cJ, 160, .inr (.inl nb)))]) hF (c_X9_finds_B l D cI cJ cZ cS ta sa sv s.heap.size h0 ys yk yo yt mk0 yfa yfe mL mS mM yro yhe ygr mF mC mY yta mz mf mt mv mw ywa ybi ysi ynu ymo mq ) kv_X9_70 ⟨rfl, rfl, Nat.le_of_ble_eq_true rfl, Nat.le_of_ble_eq_true rfl⟩ ⟨Nat.le_of_ble_eq_true rfl, Nat.le_of_ble_eq_true rfl⟩ hK hN hZ hP hD hS hA [0, 4] [1, 2, 3] rfl rfl rfl rfl (by decide) 0 rfl rfl rfl rfl hl.1 rfl (Nat.le_of_ble_eq_true rfl) dX9_sheet_57 (fun r_66 u_r_66 H locs hw_r_66 hP hD hS => ?_)
                obtain ⟨mq2_67, rfl⟩ : ∃ z, z = u_r_66 := ⟨_, rfl⟩
                try dsimp only at hw_r_66
                have hP : va_P D vwCl [(ybi, .inl (cI, 4, .inl bi)), (ysi, .inl (cI, 4, .inl sq)), (ynu, .inl (cJ, 160, .inr (.inl nb))), (h0, .inr (9, [.ref ys, .ref yk, .ref yo, .ref yt, .int mk0, .ref yfa, .ref yfe, .int mL, .int mS, .int mM, .ref yro, .ref yhe, .ref ygr, .int mF, .int mC, .int mY, .ref yta, .int (nI (mz)), .int (nI (mf)), .int (nI (mt)), .int mv, .int mw, .ref ywa, .ref ybi, .ref ysi, .ref ynu, .ref ymo])), (yt, .inl (cI, 7, .inl mq2_67))] H := hP
                have hD : va_D A [(ybi, .inl (cI, 4, .inl bi)), (ysi, .inl (cI, 4, .inl sq)), (ynu, .inl (cJ, 160, .inr (.inl nb))), (h0, .inr (9, [.ref ys, .ref yk, .ref yo, .ref yt, .int mk0, .ref yfa, .ref yfe, .int mL, .int mS, .int mM, .ref yro, .ref yhe, .ref ygr, .int mF, .int mC, .int mY, .ref yta, .int (nI (mz)), .int (nI (mf)), .int (nI (mt)), .int mv, .int mw, .ref ywa, .ref ybi, .ref ysi, .ref ynu, .ref ymo])), (yt, .inl (cI, 7, .inl mq2_67))] := hD
                subst hw_r_66
                exact W.iret (v := (-1000000001)) hx hb hr (fun t ht hW => ⟨⟨(-1000000001), (bi, sq, nb, mq2_67), rfl, ⟨p_sheet4 (by decide) (by decide) (by first | exact Or.inl (by assumption) | exact Or.inr (Or.inl (by assumption)) | exact Or.inr (Or.inr (Or.inl (by assumption))) | exact Or.inr (Or.inr (Or.inr (by assumption)))) (fun h => absurd c_55 (Int32.not_le.mpr h)) (xlt c_56), (if_neg (sp_n4 (xlt c_56))).symm, (fun _ _ => rfl), (ez.trans (congrArg nI (if_neg (sp_n4 (xlt c_56))).symm)), (fun _ _ => rfl), (fun j hj => (if_neg (sp_n4 (xlt c_56))).symm), (fun _ _ => rfl), hsq⟩, by rw [ht]; exact hP.sub [3, 0, 1, 2, 4] rfl, hD.sub [3, 0, 1, 2, 4] (by decide +kernel) rfl⟩, hS.F ht⟩) hS.2.2 dX9_sheet_60 hlk
            · skip
              refine lv_aload_n hx hb dX9_sheet_40 rfl (lv_at hl 0 rfl) ?_
              refine lv_ldcw (v := (-1000000007)) hx hb hown (hu _ uw923) dX9_sheet_41 ?_
              refine xc_Vi (wr := [(ybi, .inl (cI, 4, .inl bi)), (ysi, .inl (cI, 4, .inl sq)), (ynu, .inl (cJ, 160, .inr (.inl nb)))]) hF (c_X9_finds_S l D cI cJ cZ cS ta sa sv s.heap.size h0 ys yk yo yt mk0 yfa yfe mL mS mM yro yhe ygr mF mC mY yta mz mf mt mv mw ywa ybi ysi ynu ymo mq ) kv_X9_70 ⟨rfl, rfl, Nat.le_of_ble_eq_true rfl, Nat.le_of_ble_eq_true rfl⟩ ⟨Nat.le_of_ble_eq_true rfl, Nat.le_of_ble_eq_true rfl⟩ hK hN hZ hP hD hS hA [0, 4] [1, 2, 3] rfl rfl rfl rfl (by decide) 0 rfl rfl rfl rfl hl.1 rfl (Nat.le_of_ble_eq_true rfl) dX9_sheet_44 (fun r_68 u_r_68 H locs hw_r_68 hP hD hS => ?_)
              obtain ⟨mq2_69, rfl⟩ : ∃ z, z = u_r_68 := ⟨_, rfl⟩
              try dsimp only at hw_r_68
              have hP : va_P D vwCl [(ybi, .inl (cI, 4, .inl bi)), (ysi, .inl (cI, 4, .inl sq)), (ynu, .inl (cJ, 160, .inr (.inl nb))), (h0, .inr (9, [.ref ys, .ref yk, .ref yo, .ref yt, .int mk0, .ref yfa, .ref yfe, .int mL, .int mS, .int mM, .ref yro, .ref yhe, .ref ygr, .int mF, .int mC, .int mY, .ref yta, .int (nI (mz)), .int (nI (mf)), .int (nI (mt)), .int mv, .int mw, .ref ywa, .ref ybi, .ref ysi, .ref ynu, .ref ymo])), (yt, .inl (cI, 7, .inl mq2_69))] H := hP
              have hD : va_D A [(ybi, .inl (cI, 4, .inl bi)), (ysi, .inl (cI, 4, .inl sq)), (ynu, .inl (cJ, 160, .inr (.inl nb))), (h0, .inr (9, [.ref ys, .ref yk, .ref yo, .ref yt, .int mk0, .ref yfa, .ref yfe, .int mL, .int mS, .int mM, .ref yro, .ref yhe, .ref ygr, .int mF, .int mC, .int mY, .ref yta, .int (nI (mz)), .int (nI (mf)), .int (nI (mt)), .int mv, .int mw, .ref ywa, .ref ybi, .ref ysi, .ref ynu, .ref ymo])), (yt, .inl (cI, 7, .inl mq2_69))] := hD
              subst hw_r_68
              exact W.iret (v := (-1000000007)) hx hb hr (fun t ht hW => ⟨⟨(-1000000007), (bi, sq, nb, mq2_69), rfl, ⟨p_sheet3 (by decide) (by decide) (by first | exact Or.inl (by assumption) | exact Or.inr (Or.inl (by assumption)) | exact Or.inr (Or.inr (Or.inl (by assumption))) | exact Or.inr (Or.inr (Or.inr (by assumption)))) (xlt c_55), (if_neg (sp_n3 (xlt c_55))).symm, (fun _ _ => rfl), (ez.trans (congrArg nI (if_neg (sp_n3 (xlt c_55))).symm)), (fun _ _ => rfl), (fun j hj => (if_neg (sp_n3 (xlt c_55))).symm), (fun _ _ => rfl), hsq⟩, by rw [ht]; exact hP.sub [3, 0, 1, 2, 4] rfl, hD.sub [3, 0, 1, 2, 4] (by decide +kernel) rfl⟩, hS.F ht⟩) hS.2.2 dX9_sheet_47 hlk
          · skip
            refine lv_aload_n hx hb dX9_sheet_29 rfl (lv_at hl 0 rfl) ?_
            refine lv_ldc (v := (-1000000001)) hx hb hown (hu _ uw648) dX9_sheet_30 ?_
            refine xc_Vi (wr := [(ybi, .inl (cI, 4, .inl bi)), (ysi, .inl (cI, 4, .inl sq)), (ynu, .inl (cJ, 160, .inr (.inl nb)))]) hF (c_X9_finds_B l D cI cJ cZ cS ta sa sv s.heap.size h0 ys yk yo yt mk0 yfa yfe mL mS mM yro yhe ygr mF mC mY yta mz mf mt mv mw ywa ybi ysi ynu ymo mq ) kv_X9_70 ⟨rfl, rfl, Nat.le_of_ble_eq_true rfl, Nat.le_of_ble_eq_true rfl⟩ ⟨Nat.le_of_ble_eq_true rfl, Nat.le_of_ble_eq_true rfl⟩ hK hN hZ hP hD hS hA [0, 4] [1, 2, 3] rfl rfl rfl rfl (by decide) 0 rfl rfl rfl rfl hl.1 rfl (Nat.le_of_ble_eq_true rfl) dX9_sheet_32 (fun r_70 u_r_70 H locs hw_r_70 hP hD hS => ?_)
            obtain ⟨mq2_71, rfl⟩ : ∃ z, z = u_r_70 := ⟨_, rfl⟩
            try dsimp only at hw_r_70
            have hP : va_P D vwCl [(ybi, .inl (cI, 4, .inl bi)), (ysi, .inl (cI, 4, .inl sq)), (ynu, .inl (cJ, 160, .inr (.inl nb))), (h0, .inr (9, [.ref ys, .ref yk, .ref yo, .ref yt, .int mk0, .ref yfa, .ref yfe, .int mL, .int mS, .int mM, .ref yro, .ref yhe, .ref ygr, .int mF, .int mC, .int mY, .ref yta, .int (nI (mz)), .int (nI (mf)), .int (nI (mt)), .int mv, .int mw, .ref ywa, .ref ybi, .ref ysi, .ref ynu, .ref ymo])), (yt, .inl (cI, 7, .inl mq2_71))] H := hP
            have hD : va_D A [(ybi, .inl (cI, 4, .inl bi)), (ysi, .inl (cI, 4, .inl sq)), (ynu, .inl (cJ, 160, .inr (.inl nb))), (h0, .inr (9, [.ref ys, .ref yk, .ref yo, .ref yt, .int mk0, .ref yfa, .ref yfe, .int mL, .int mS, .int mM, .ref yro, .ref yhe, .ref ygr, .int mF, .int mC, .int mY, .ref yta, .int (nI (mz)), .int (nI (mf)), .int (nI (mt)), .int mv, .int mw, .ref ywa, .ref ybi, .ref ysi, .ref ynu, .ref ymo])), (yt, .inl (cI, 7, .inl mq2_71))] := hD
            subst hw_r_70
            exact W.iret (v := (-1000000001)) hx hb hr (fun t ht hW => ⟨⟨(-1000000001), (bi, sq, nb, mq2_71), rfl, ⟨p_sheet2 (by decide) (by decide) c_6 c_22 c_38 c_54, (if_neg (sp_n2 c_6 c_22 c_38 c_54)).symm, (fun _ _ => rfl), (ez.trans (congrArg nI (if_neg (sp_n2 c_6 c_22 c_38 c_54)).symm)), (fun _ _ => rfl), (fun j hj => (if_neg (sp_n2 c_6 c_22 c_38 c_54)).symm), (fun _ _ => rfl), hsq⟩, by rw [ht]; exact hP.sub [3, 0, 1, 2, 4] rfl, hD.sub [3, 0, 1, 2, 4] (by decide +kernel) rfl⟩, hS.F ht⟩) hS.2.2 dX9_sheet_35 hlk
  · exact absurd h_4 (by decide)
set_option maxHeartbeats 4000000 in
set_option maxRecDepth 100000 in
theorem c_X9_write_2 (l : Launch) (D : va_G) (cI cJ cZ cS : ClassId) (ta : Nat) (sa sv : Nat → Nat) (sz : Nat) (h0 : Nat) (ys : Nat) (yk : Nat) (yo : Nat) (yt : Nat) (mk0 : Int32) (yfa : Nat) (yfe : Nat) (mL : Int32) (mS : Int32) (mM : Int32) (yro : Nat) (yhe : Nat) (ygr : Nat) (mF : Int32) (mC : Int32) (mY : Int32) (yta : Nat) (mz : Nat) (mf : Nat) (mt : Nat) (mv : Int32) (mw : Int32) (ywa : Nat) (ybi : Nat) (ysi : Nat) (ynu : Nat) (ymo : Nat) (bi : Nat → Int32) (sq : Nat → Int32) (nb : Nat → Int64) (mq : Nat → Int32) (p1 : Int32) (p2 : Int64) (zq : Nat) (ez : sq 2 = nI zq) (hzq : zq ≤ 40) (hsq : BA 4 41 sq) : Met l yX9_write (Cond.code yX9_write cX9_write 8 (some .long) :: wsU) ({ frames := 3, cells := 0, slots := 0, locals := 66 }) (va_Pc [.ref h0, .int 2, .int p1, .long p2] (XW D (xT cI cJ cZ cS) ta sa sv [(h0, .inr (9, [.ref ys, .ref yk, .ref yo, .ref yt, .int mk0, .ref yfa, .ref yfe, .int mL, .int mS, .int mM, .ref yro, .ref yhe, .ref ygr, .int mF, .int mC, .int mY, .ref yta, .int (nI (mz)), .int (nI (mf)), .int (nI (mt)), .int mv, .int mw, .ref ywa, .ref ybi, .ref ysi, .ref ynu, .ref ymo])), (ybi, .inl (cI, 4, .inl bi)), (ysi, .inl (cI, 4, .inl sq)), (ynu, .inl (cJ, 160, .inr (.inl nb))), (yt, .inl (cI, 7, .inl mq))] sz)) (XQl (fun (r : Int64) (u : (Nat → Int64) × (Nat → Int32)) => match u with | (nb2, mq2) => ((r = sp_wr (bi 2) zq p1 (nb (80 + p1.toNatClampNeg)))) ∧ (∀ j, j < 40 → nb2 (80 + j) = sp_wn (bi 2) zq p1 p2 j (nb (80 + j))) ∧ (∀ j, j < 80 ∨ 120 ≤ j → nb2 j = nb j)) D (fun (u : (Nat → Int64) × (Nat → Int32)) => match u with | (nb2, mq2) => [(h0, .inr (9, [.ref ys, .ref yk, .ref yo, .ref yt, .int mk0, .ref yfa, .ref yfe, .int mL, .int mS, .int mM, .ref yro, .ref yhe, .ref ygr, .int mF, .int mC, .int mY, .ref yta, .int (nI (mz)), .int (nI (mf)), .int (nI (mt)), .int mv, .int mw, .ref ywa, .ref ybi, .ref ysi, .ref ynu, .ref ymo])), (ybi, .inl (cI, 4, .inl bi)), (ysi, .inl (cI, 4, .inl sq)), (ynu, .inl (cJ, 160, .inr (.inl nb2))), (yt, .inl (cI, 7, .inl mq2))]) (va_A [(h0, .inr (9, [.ref ys, .ref yk, .ref yo, .ref yt, .int mk0, .ref yfa, .ref yfe, .int mL, .int mS, .int mM, .ref yro, .ref yhe, .ref ygr, .int mF, .int mC, .int mY, .ref yta, .int (nI (mz)), .int (nI (mf)), .int (nI (mt)), .int mv, .int mw, .ref ywa, .ref ybi, .ref ysi, .ref ynu, .ref ymo])), (ybi, .inl (cI, 4, .inl bi)), (ysi, .inl (cI, 4, .inl sq)), (ynu, .inl (cJ, 160, .inr (.inl nb))), (yt, .inl (cI, 7, .inl mq))] sz)) 0 0 (va_A [(h0, .inr (9, [.ref ys, .ref yk, .ref yo, .ref yt, .int mk0, .ref yfa, .ref yfe, .int mL, .int mS, .int mM, .ref yro, .ref yhe, .ref ygr, .int mF, .int mC, .int mY, .ref yta, .int (nI (mz)), .int (nI (mf)), .int (nI (mt)), .int mv, .int mw, .ref ywa, .ref ybi, .ref ysi, .ref ynu, .ref ymo])), (ybi, .inl (cI, 4, .inl bi)), (ysi, .inl (cI, 4, .inl sq)), (ynu, .inl (cJ, 160, .inr (.inl nb))), (yt, .inl (cI, 7, .inl mq))] sz) := by
  refine xh (QA := fun A => XQl (fun (r : Int64) (u : (Nat → Int64) × (Nat → Int32)) => match u with | (nb2, mq2) => ((r = sp_wr (bi 2) zq p1 (nb (80 + p1.toNatClampNeg)))) ∧ (∀ j, j < 40 → nb2 (80 + j) = sp_wn (bi 2) zq p1 p2 j (nb (80 + j))) ∧ (∀ j, j < 80 ∨ 120 ≤ j → nb2 j = nb j)) D (fun (u : (Nat → Int64) × (Nat → Int32)) => match u with | (nb2, mq2) => [(h0, .inr (9, [.ref ys, .ref yk, .ref yo, .ref yt, .int mk0, .ref yfa, .ref yfe, .int mL, .int mS, .int mM, .ref yro, .ref yhe, .ref ygr, .int mF, .int mC, .int mY, .ref yta, .int (nI (mz)), .int (nI (mf)), .int (nI (mt)), .int mv, .int mw, .ref ywa, .ref ybi, .ref ysi, .ref ynu, .ref ymo])), (ybi, .inl (cI, 4, .inl bi)), (ysi, .inl (cI, 4, .inl sq)), (ynu, .inl (cJ, 160, .inr (.inl nb2))), (yt, .inl (cI, 7, .inl mq2))]) A) (fr := fun A => A) (by decide) (Nat.le_of_ble_eq_true rfl) ?_
  intro p e s m below meth c ls A hF hr hlk hin hsz hP hK hD hN hZ hA hS hl
  have hF : CallFix p m c cX9_write 8 s _ _ RX9 := hF
  have hx := hF.1
  have hb := hF.2.1
  have hml := hF.2.2.1
  have hown := hF.2.2.2.1
  have hu : ∀ w ∈ wsU, w.before _ s = true := fun w h => hF.2.2.2.2 w (List.mem_cons_of_mem _ h)
  have hl : lv_has ls 8 [(0, .ref h0), (1, .int 2), (2, .int p1), (3, .long p2)] := hl
  refine lv_aload_n hx hb dX9_write_0 rfl (lv_at hl 0 rfl) ?_
  refine lv_iload_n hx hb dX9_write_1 rfl (lv_at hl 1 rfl) ?_
  refine xc_Vr hF (c_X9_wrong_2 l D cI cJ cZ cS ta sa sv s.heap.size h0 ys yk yo yt mk0 yfa yfe mL mS mM yro yhe ygr mF mC mY yta mz mf mt mv mw ywa ybi ysi ynu ymo bi ) kv_X9_310 ⟨rfl, rfl, Nat.le_of_ble_eq_true rfl, Nat.le_of_ble_eq_true rfl⟩ ⟨Nat.le_of_ble_eq_true rfl, Nat.le_of_ble_eq_true rfl⟩ hK hN hZ hP hD hS hA [0, 1] rfl rfl 0 rfl rfl rfl rfl hl.1 rfl (Nat.le_of_ble_eq_true rfl) dX9_write_2 (fun r_1 hw_r_1 => ?_)
  rcases hw_r_1 with ⟨rfl, h_2⟩ | ⟨rfl, h_3⟩
  · skip
    refine lv_istore (lv' := [(5, .int (-1000000006)), (0, .ref h0), (1, .int 2), (2, .int p1), (3, .long p2)]) hx hb dX9_write_5 hl (by decide) rfl (fun ls hl => ?_)
    refine lv_iload hx hb dX9_write_7 (lv_at hl 0 rfl) ?_
    refine lv_if_eq (tgt := 20) hx hb dX9_write_9 (by decide) (fun c_4 => absurd c_4 (by decide)) (fun c_4 => ?_)
    refine lv_aload_n hx hb dX9_write_12 rfl (lv_at hl 1 rfl) ?_
    refine lv_iload hx hb dX9_write_13 (lv_at hl 0 rfl) ?_
    refine xc_Vi (wr := [(ybi, .inl (cI, 4, .inl bi)), (ysi, .inl (cI, 4, .inl sq)), (ynu, .inl (cJ, 160, .inr (.inl nb)))]) hF (c_X9_finds_M l D cI cJ cZ cS ta sa sv s.heap.size h0 ys yk yo yt mk0 yfa yfe mL mS mM yro yhe ygr mF mC mY yta mz mf mt mv mw ywa ybi ysi ynu ymo mq ) kv_X9_70 ⟨rfl, rfl, Nat.le_of_ble_eq_true rfl, Nat.le_of_ble_eq_true rfl⟩ ⟨Nat.le_of_ble_eq_true rfl, Nat.le_of_ble_eq_true rfl⟩ hK hN hZ hP hD hS hA [0, 4] [1, 2, 3] rfl rfl rfl rfl (by decide) 0 rfl rfl rfl rfl hl.1 rfl (Nat.le_of_ble_eq_true rfl) dX9_write_15 (fun r_5 u_r_5 H locs hw_r_5 hP hD hS => ?_)
    obtain ⟨mq2_6, rfl⟩ : ∃ z, z = u_r_5 := ⟨_, rfl⟩
    try dsimp only at hw_r_5
    have hP : va_P D vwCl [(ybi, .inl (cI, 4, .inl bi)), (ysi, .inl (cI, 4, .inl sq)), (ynu, .inl (cJ, 160, .inr (.inl nb))), (h0, .inr (9, [.ref ys, .ref yk, .ref yo, .ref yt, .int mk0, .ref yfa, .ref yfe, .int mL, .int mS, .int mM, .ref yro, .ref yhe, .ref ygr, .int mF, .int mC, .int mY, .ref yta, .int (nI (mz)), .int (nI (mf)), .int (nI (mt)), .int mv, .int mw, .ref ywa, .ref ybi, .ref ysi, .ref ynu, .ref ymo])), (yt, .inl (cI, 7, .inl mq2_6))] H := hP
    have hD : va_D A [(ybi, .inl (cI, 4, .inl bi)), (ysi, .inl (cI, 4, .inl sq)), (ynu, .inl (cJ, 160, .inr (.inl nb))), (h0, .inr (9, [.ref ys, .ref yk, .ref yo, .ref yt, .int mk0, .ref yfa, .ref yfe, .int mL, .int mS, .int mM, .ref yro, .ref yhe, .ref ygr, .int mF, .int mC, .int mY, .ref yta, .int (nI (mz)), .int (nI (mf)), .int (nI (mt)), .int mv, .int mw, .ref ywa, .ref ybi, .ref ysi, .ref ynu, .ref ymo])), (yt, .inl (cI, 7, .inl mq2_6))] := hD
    subst hw_r_5
    refine lv_i2l (v := (-1000000006)) hx hb dX9_write_18 (by decide) ?_
    exact W.lret (v := (-1000000006)) hx hb hr (fun t ht hW => ⟨⟨(-1000000006), (nb, mq2_6), rfl, ⟨(sp_wr1 h_2), (fun j _ => sp_w1 h_2), (fun _ _ => rfl)⟩, by rw [ht]; exact hP.sub [3, 0, 1, 2, 4] rfl, hD.sub [3, 0, 1, 2, 4] (by decide +kernel) rfl⟩, hS.F ht⟩) hS.2.2 dX9_write_19 hlk
  · skip
    refine lv_istore (lv' := [(5, .int 0), (0, .ref h0), (1, .int 2), (2, .int p1), (3, .long p2)]) hx hb dX9_write_5 hl (by decide) rfl (fun ls hl => ?_)
    refine lv_iload hx hb dX9_write_7 (lv_at hl 0 rfl) ?_
    refine lv_if_eq (tgt := 20) hx hb dX9_write_9 (by decide) (fun c_7 => ?_) (fun c_7 => absurd (by decide) c_7)
    refine lv_iload_n hx hb dX9_write_20 rfl (lv_at hl 3 rfl) ?_
    refine lv_i2l (v := p1.toInt64) hx hb dX9_write_21 rfl ?_
    refine lv_lconst (v := 0) hx hb dX9_write_22 (by decide) ?_
    refine xl_l (y := (0 : Int32).toInt64) (by decide) ?_
    refine lv_aload_n hx hb dX9_write_23 rfl (lv_at hl 1 rfl) ?_
    refine xg hF kf_X9_46 hK hP 0 rfl rfl dX9_write_24 ?_
    refine lv_iload_n hx hb dX9_write_27 rfl (lv_at hl 2 rfl) ?_
    refine va_iald hx hb hK hP 2 0 rfl rfl (xin 2 4 (by decide) (by decide)) dX9_write_28 ?_
    refine xl_i (y := sq 2) (congrArg sq rfl) ?_
    refine xl_i (y := nI (zq)) ez ?_
    refine lv_iconst (v := 1) hx hb dX9_write_29 (by decide) ?_
    refine lv_isub hx hb dX9_write_30 ?_
    refine lv_topi (fun x_8 ex_8 => ?_)
    refine lv_i2l (v := x_8.toInt64) hx hb dX9_write_31 rfl ?_
    refine xc_Sr hF (c_X9_in l D cI cJ cZ cS ta sa sv s.heap.size p1 0 x_8 ) ks_X9_57 ⟨rfl, rfl, Nat.le_of_ble_eq_true rfl, Nat.le_of_ble_eq_true rfl⟩ ⟨Nat.le_of_ble_eq_true rfl, Nat.le_of_ble_eq_true rfl⟩ hK hN hZ hP hD hS hA [] rfl rfl rfl hl.1 rfl (Nat.le_of_ble_eq_true rfl) dX9_write_32 (fun r_9 hw_r_9 => ?_)
    rcases hw_r_9 with ⟨rfl, h_10, h_11⟩ | ⟨rfl, h_12⟩
    · skip
      refine lv_if_ne (tgt := 46) hx hb dX9_write_35 (by decide) (fun c_13 => ?_) (fun c_13 => absurd c_13 (by decide))
      obtain ⟨y_14, hy_14, rfl⟩ := x_pl3 (by omega) ex_8 h_10 h_11
      refine lv_aload_n hx hb dX9_write_46 rfl (lv_at hl 1 rfl) ?_
      refine xg hF kf_X9_49 hK hP 0 rfl rfl dX9_write_47 ?_
      refine lv_bipush (v := 40) hx hb dX9_write_50 (by decide) ?_
      refine lv_iload_n hx hb dX9_write_52 rfl (lv_at hl 2 rfl) ?_
      refine lv_imul hx hb dX9_write_53 ?_
      refine xl_i (y := 80) (by decide) ?_
      refine lv_iload_n hx hb dX9_write_54 rfl (lv_at hl 3 rfl) ?_
      refine lv_iadd hx hb dX9_write_55 ?_
      refine xl_i (y := nI (80 + y_14)) (nI_add 80 y_14) ?_
      refine va_lald hx hb hK hP 3 1 rfl rfl (vp_in_nI (show 80 + y_14 < 160 by omega) (by decide)) dX9_write_56 ?_
      refine xl_l (y := nb (80 + y_14)) (congrArg nb (nI_clamp (show 80 + y_14 < 2 ^ 31 by omega))) ?_
      refine lv_lstore (lv' := [(6, .long (nb (80 + y_14))), (5, .int 0), (0, .ref h0), (1, .int 2), (2, .int (nI (y_14))), (3, .long p2)]) hx hb dX9_write_57 hl (by decide) rfl (fun ls hl => ?_)
      refine lv_aload_n hx hb dX9_write_59 rfl (lv_at hl 2 rfl) ?_
      refine xg hF kf_X9_49 hK hP 0 rfl rfl dX9_write_60 ?_
      refine lv_bipush (v := 40) hx hb dX9_write_63 (by decide) ?_
      refine lv_iload_n hx hb dX9_write_65 rfl (lv_at hl 3 rfl) ?_
      refine lv_imul hx hb dX9_write_66 ?_
      refine xl_i (y := 80) (by decide) ?_
      refine lv_iload_n hx hb dX9_write_67 rfl (lv_at hl 4 rfl) ?_
      refine lv_iadd hx hb dX9_write_68 ?_
      refine xl_i (y := nI (80 + y_14)) (nI_add 80 y_14) ?_
      refine lv_aload_n hx hb dX9_write_69 rfl (lv_at hl 2 rfl) ?_
      refine xg hF kf_X9_43 hK hP 0 rfl rfl dX9_write_70 ?_
      refine lv_iload_n hx hb dX9_write_73 rfl (lv_at hl 3 rfl) ?_
      refine va_iald hx hb hK hP 1 0 rfl rfl (xin 2 4 (by decide) (by decide)) dX9_write_74 ?_
      refine xl_i (y := bi 2) (congrArg bi rfl) ?_
      refine lv_lload_n hx hb dX9_write_75 rfl (lv_at hl 5 rfl) ?_
      refine xc_Srl hF (c_X9_narrowed l D cI cJ cZ cS ta sa sv s.heap.size (bi 2) p2 ) ks_X9_313 ⟨rfl, rfl, Nat.le_of_ble_eq_true rfl, Nat.le_of_ble_eq_true rfl⟩ ⟨Nat.le_of_ble_eq_true rfl, Nat.le_of_ble_eq_true rfl⟩ hK hN hZ hP hD hS hA [] rfl rfl rfl hl.1 rfl (Nat.le_of_ble_eq_true rfl) dX9_write_76 (fun r_15 hw_r_15 => ?_)
      subst hw_r_15
      refine va_last hx hb hK hP hD hS 3 1 rfl rfl (vp_in_nI (show 80 + y_14 < 160 by omega) (by decide)) dX9_write_79 (fun H locs hP hD hS => ?_)
      rw [nI_clamp (show 80 + y_14 < 2 ^ 31 by omega)] at hP hD
      obtain ⟨f_16, ef_16⟩ : ∃ g, g = vp_updL nb (80 + y_14) (sp_low (bi 2) p2) := ⟨_, rfl⟩
      rw [← ef_16] at hP hD
      have hP : va_P D vwCl [(h0, .inr (9, [.ref ys, .ref yk, .ref yo, .ref yt, .int mk0, .ref yfa, .ref yfe, .int mL, .int mS, .int mM, .ref yro, .ref yhe, .ref ygr, .int mF, .int mC, .int mY, .ref yta, .int (nI (mz)), .int (nI (mf)), .int (nI (mt)), .int mv, .int mw, .ref ywa, .ref ybi, .ref ysi, .ref ynu, .ref ymo])), (ybi, .inl (cI, 4, .inl bi)), (ysi, .inl (cI, 4, .inl sq)), (ynu, .inl (cJ, 160, .inr (.inl f_16))), (yt, .inl (cI, 7, .inl mq))] H := hP
      have hD : va_D A [(h0, .inr (9, [.ref ys, .ref yk, .ref yo, .ref yt, .int mk0, .ref yfa, .ref yfe, .int mL, .int mS, .int mM, .ref yro, .ref yhe, .ref ygr, .int mF, .int mC, .int mY, .ref yta, .int (nI (mz)), .int (nI (mf)), .int (nI (mt)), .int mv, .int mw, .ref ywa, .ref ybi, .ref ysi, .ref ynu, .ref ymo])), (ybi, .inl (cI, 4, .inl bi)), (ysi, .inl (cI, 4, .inl sq)), (ynu, .inl (cJ, 160, .inr (.inl f_16))), (yt, .inl (cI, 7, .inl mq))] := hD
      refine lv_lload hx hb dX9_write_80 (lv_at hl 0 rfl) ?_
      exact W.lret (v := nb (80 + y_14)) hx hb hr (fun t ht hW => ⟨⟨nb (80 + y_14), (f_16, mq), rfl, ⟨(sp_wr3 (f := fun j => nb (80 + j)) h_3 (by omega) (by omega)), (fun j _ => sp_w3 (K := 80) h_3 (by omega) (by omega) ef_16), (fun j hj => by rw [ef_16]; exact pk_uLn (by omega))⟩, by rw [ht]; exact hP.sub [0, 1, 2, 3, 4] rfl, hD.sub [0, 1, 2, 3, 4] (by decide +kernel) rfl⟩, hS.F ht⟩) hS.2.2 dX9_write_82 hlk
    · skip
      refine lv_if_ne (tgt := 46) hx hb dX9_write_35 (by decide) (fun c_17 => absurd (by decide) c_17) (fun c_17 => ?_)
      refine lv_aload_n hx hb dX9_write_38 rfl (lv_at hl 1 rfl) ?_
      refine lv_ldc (v := (-1000000001)) hx hb hown (hu _ uw648) dX9_write_39 ?_
      refine xc_Vi (wr := [(ybi, .inl (cI, 4, .inl bi)), (ysi, .inl (cI, 4, .inl sq)), (ynu, .inl (cJ, 160, .inr (.inl nb)))]) hF (c_X9_finds_B l D cI cJ cZ cS ta sa sv s.heap.size h0 ys yk yo yt mk0 yfa yfe mL mS mM yro yhe ygr mF mC mY yta mz mf mt mv mw ywa ybi ysi ynu ymo mq ) kv_X9_70 ⟨rfl, rfl, Nat.le_of_ble_eq_true rfl, Nat.le_of_ble_eq_true rfl⟩ ⟨Nat.le_of_ble_eq_true rfl, Nat.le_of_ble_eq_true rfl⟩ hK hN hZ hP hD hS hA [0, 4] [1, 2, 3] rfl rfl rfl rfl (by decide) 0 rfl rfl rfl rfl hl.1 rfl (Nat.le_of_ble_eq_true rfl) dX9_write_41 (fun r_18 u_r_18 H locs hw_r_18 hP hD hS => ?_)
      obtain ⟨mq2_19, rfl⟩ : ∃ z, z = u_r_18 := ⟨_, rfl⟩
      try dsimp only at hw_r_18
      have hP : va_P D vwCl [(ybi, .inl (cI, 4, .inl bi)), (ysi, .inl (cI, 4, .inl sq)), (ynu, .inl (cJ, 160, .inr (.inl nb))), (h0, .inr (9, [.ref ys, .ref yk, .ref yo, .ref yt, .int mk0, .ref yfa, .ref yfe, .int mL, .int mS, .int mM, .ref yro, .ref yhe, .ref ygr, .int mF, .int mC, .int mY, .ref yta, .int (nI (mz)), .int (nI (mf)), .int (nI (mt)), .int mv, .int mw, .ref ywa, .ref ybi, .ref ysi, .ref ynu, .ref ymo])), (yt, .inl (cI, 7, .inl mq2_19))] H := hP
      have hD : va_D A [(ybi, .inl (cI, 4, .inl bi)), (ysi, .inl (cI, 4, .inl sq)), (ynu, .inl (cJ, 160, .inr (.inl nb))), (h0, .inr (9, [.ref ys, .ref yk, .ref yo, .ref yt, .int mk0, .ref yfa, .ref yfe, .int mL, .int mS, .int mM, .ref yro, .ref yhe, .ref ygr, .int mF, .int mC, .int mY, .ref yta, .int (nI (mz)), .int (nI (mf)), .int (nI (mt)), .int mv, .int mw, .ref ywa, .ref ybi, .ref ysi, .ref ynu, .ref ymo])), (yt, .inl (cI, 7, .inl mq2_19))] := hD
      subst hw_r_18
      refine lv_i2l (v := (-1000000001)) hx hb dX9_write_44 (by decide) ?_
      exact W.lret (v := (-1000000001)) hx hb hr (fun t ht hW => ⟨⟨(-1000000001), (nb, mq2_19), rfl, ⟨(sp_wr2 h_3 (sp_w5 hzq ex_8 h_12)), (fun j _ => sp_w2 (sp_w5 hzq ex_8 h_12)), (fun _ _ => rfl)⟩, by rw [ht]; exact hP.sub [3, 0, 1, 2, 4] rfl, hD.sub [3, 0, 1, 2, 4] (by decide +kernel) rfl⟩, hS.F ht⟩) hS.2.2 dX9_write_45 hlk
set_option maxHeartbeats 4000000 in
set_option maxRecDepth 100000 in
theorem c_X9_wrong_3 (l : Launch) (D : va_G) (cI cJ cZ cS : ClassId) (ta : Nat) (sa sv : Nat → Nat) (sz : Nat) (h0 : Nat) (ys : Nat) (yk : Nat) (yo : Nat) (yt : Nat) (mk0 : Int32) (yfa : Nat) (yfe : Nat) (mL : Int32) (mS : Int32) (mM : Int32) (yro : Nat) (yhe : Nat) (ygr : Nat) (mF : Int32) (mC : Int32) (mY : Int32) (yta : Nat) (mz : Nat) (mf : Nat) (mt : Nat) (mv : Int32) (mw : Int32) (ywa : Nat) (ybi : Nat) (ysi : Nat) (ynu : Nat) (ymo : Nat) (bi : Nat → Int32) : Met l yX9_wrong (Cond.code yX9_wrong cX9_wrong 2 (some .int) :: wsU) ({ frames := 2, cells := 0, slots := 0, locals := 45 }) (va_Pc [.ref h0, .int 3] (XW D (xT cI cJ cZ cS) ta sa sv [(h0, .inr (9, [.ref ys, .ref yk, .ref yo, .ref yt, .int mk0, .ref yfa, .ref yfe, .int mL, .int mS, .int mM, .ref yro, .ref yhe, .ref ygr, .int mF, .int mC, .int mY, .ref yta, .int (nI (mz)), .int (nI (mf)), .int (nI (mt)), .int mv, .int mw, .ref ywa, .ref ybi, .ref ysi, .ref ynu, .ref ymo])), (ybi, .inl (cI, 4, .inl bi))] sz)) (vp_Si (fun r : Int32 => (r = (-1000000006) ∧ (bi 3 = 0)) ∨ (r = 0 ∧ (¬ bi 3 = 0)))) 0 0 (fun _ => False) := by
  refine xh (QA := fun _ => vp_Si (fun r : Int32 => (r = (-1000000006) ∧ (bi 3 = 0)) ∨ (r = 0 ∧ (¬ bi 3 = 0)))) (fr := fun _ _ => False) (by decide) (Nat.le_of_ble_eq_true rfl) ?_
  intro p e s m below meth c ls A hF hr hlk hin hsz hP hK hD hN hZ hA hS hl
  have hF : CallFix p m c cX9_wrong 2 s _ _ RX9 := hF
  have hx := hF.1
  have hb := hF.2.1
  have hml := hF.2.2.1
  have hown := hF.2.2.2.1
  have hu : ∀ w ∈ wsU, w.before _ s = true := fun w h => hF.2.2.2.2 w (List.mem_cons_of_mem _ h)
  have hl : lv_has ls 2 [(0, .ref h0), (1, .int 3)] := hl
  refine lv_iload_n hx hb dX9_wrong_0 rfl (lv_at hl 1 rfl) ?_
  refine xc_Sr hF (c_X9_isOne l D cI cJ cZ cS ta sa sv s.heap.size 3 ) ks_X9_305 ⟨rfl, rfl, Nat.le_of_ble_eq_true rfl, Nat.le_of_ble_eq_true rfl⟩ ⟨Nat.le_of_ble_eq_true rfl, Nat.le_of_ble_eq_true rfl⟩ hK hN hZ hP hD hS hA [] rfl rfl rfl hl.1 rfl (Nat.le_of_ble_eq_true rfl) dX9_wrong_1 (fun r_1 hw_r_1 => ?_)
  rcases hw_r_1 with ⟨rfl, h_2, h_3⟩ | ⟨rfl, h_4⟩
  · skip
    refine lv_if_ne (tgt := 12) hx hb dX9_wrong_4 (by decide) (fun c_5 => ?_) (fun c_5 => absurd c_5 (by decide))
    refine lv_aload_n hx hb dX9_wrong_12 rfl (lv_at hl 0 rfl) ?_
    refine xg hF kf_X9_43 hK hP 0 rfl rfl dX9_wrong_13 ?_
    refine lv_iload_n hx hb dX9_wrong_16 rfl (lv_at hl 1 rfl) ?_
    refine va_iald hx hb hK hP 1 0 rfl rfl (xin 3 4 (by decide) (by decide)) dX9_wrong_17 ?_
    refine xl_i (y := bi 3) (congrArg bi rfl) ?_
    refine lv_if_ne (tgt := 27) hx hb dX9_wrong_18 (by decide) (fun c_6 => ?_) (fun c_6 => ?_)
    · skip
      refine lv_iconst (v := 0) hx hb dX9_wrong_27 (by decide) ?_
      exact W.iret (v := 0) hx hb hr (fun t ht hW => ⟨0, rfl, (by first | exact Or.inr (⟨rfl, (by first | assumption | omega | exact Or.inl (by first | assumption | omega) | exact Or.inr (by first | assumption | omega))⟩)), ht⟩) (fun q h => by cases h) dX9_wrong_28 hlk
    · skip
      refine lv_ldcw (v := (-1000000006)) hx hb hown (hu _ uw910) dX9_wrong_21 ?_
      refine lv_goto (tgt := 28) hx hb dX9_wrong_24 (by decide) ?_
      exact W.iret (v := (-1000000006)) hx hb hr (fun t ht hW => ⟨(-1000000006), rfl, (by first | exact Or.inl ⟨rfl, (by first | assumption | omega | exact Or.inl (by first | assumption | omega) | exact Or.inr (by first | assumption | omega))⟩), ht⟩) (fun q h => by cases h) dX9_wrong_28 hlk
  · exact absurd h_4 (by decide)
set_option maxHeartbeats 4000000 in
set_option maxRecDepth 100000 in
theorem c_X9_sheet_3 (l : Launch) (D : va_G) (cI cJ cZ cS : ClassId) (ta : Nat) (sa sv : Nat → Nat) (sz : Nat) (h0 : Nat) (ys : Nat) (yk : Nat) (yo : Nat) (yt : Nat) (mk0 : Int32) (yfa : Nat) (yfe : Nat) (mL : Int32) (mS : Int32) (mM : Int32) (yro : Nat) (yhe : Nat) (ygr : Nat) (mF : Int32) (mC : Int32) (mY : Int32) (yta : Nat) (mz : Nat) (mf : Nat) (mt : Nat) (mv : Int32) (mw : Int32) (ywa : Nat) (ybi : Nat) (ysi : Nat) (ynu : Nat) (ymo : Nat) (bi : Nat → Int32) (sq : Nat → Int32) (nb : Nat → Int64) (mq : Nat → Int32) (p1 : Int32) (p2 : Int32) (zq : Nat) (ez : sq 3 = nI zq) (hzq : zq ≤ 40) (hsq : BA 4 41 sq) : Met l yX9_sheet (Cond.code yX9_sheet cX9_sheet 5 (some .int) :: wsU) ({ frames := 2, cells := 0, slots := 0, locals := 45 }) (va_Pc [.ref h0, .int 3, .int p1, .int p2] (XW D (xT cI cJ cZ cS) ta sa sv [(h0, .inr (9, [.ref ys, .ref yk, .ref yo, .ref yt, .int mk0, .ref yfa, .ref yfe, .int mL, .int mS, .int mM, .ref yro, .ref yhe, .ref ygr, .int mF, .int mC, .int mY, .ref yta, .int (nI (mz)), .int (nI (mf)), .int (nI (mt)), .int mv, .int mw, .ref ywa, .ref ybi, .ref ysi, .ref ynu, .ref ymo])), (ybi, .inl (cI, 4, .inl bi)), (ysi, .inl (cI, 4, .inl sq)), (ynu, .inl (cJ, 160, .inr (.inl nb))), (yt, .inl (cI, 7, .inl mq))] sz)) (XQi (fun (r : Int32) (u : (Nat → Int32) × (Nat → Int32) × (Nat → Int64) × (Nat → Int32)) => match u with | (bi2, sq2, nb2, mq2) => ((r = a_sheet 3 p1 p2)) ∧ (bi2 3 = sp_sb p1 p2 (bi 3)) ∧ (∀ j, j ≠ 3 → bi2 j = bi j) ∧ (sq2 3 = nI (sp_sz p1 p2 zq)) ∧ (∀ j, j ≠ 3 → sq2 j = sq j) ∧ (∀ j, j < 40 → nb2 (120 + j) = sp_sn p1 p2 (nb (120 + j))) ∧ (∀ j, j < 120 ∨ 160 ≤ j → nb2 j = nb j) ∧ (BA 4 41 sq2)) D (fun (u : (Nat → Int32) × (Nat → Int32) × (Nat → Int64) × (Nat → Int32)) => match u with | (bi2, sq2, nb2, mq2) => [(h0, .inr (9, [.ref ys, .ref yk, .ref yo, .ref yt, .int mk0, .ref yfa, .ref yfe, .int mL, .int mS, .int mM, .ref yro, .ref yhe, .ref ygr, .int mF, .int mC, .int mY, .ref yta, .int (nI (mz)), .int (nI (mf)), .int (nI (mt)), .int mv, .int mw, .ref ywa, .ref ybi, .ref ysi, .ref ynu, .ref ymo])), (ybi, .inl (cI, 4, .inl bi2)), (ysi, .inl (cI, 4, .inl sq2)), (ynu, .inl (cJ, 160, .inr (.inl nb2))), (yt, .inl (cI, 7, .inl mq2))]) (va_A [(h0, .inr (9, [.ref ys, .ref yk, .ref yo, .ref yt, .int mk0, .ref yfa, .ref yfe, .int mL, .int mS, .int mM, .ref yro, .ref yhe, .ref ygr, .int mF, .int mC, .int mY, .ref yta, .int (nI (mz)), .int (nI (mf)), .int (nI (mt)), .int mv, .int mw, .ref ywa, .ref ybi, .ref ysi, .ref ynu, .ref ymo])), (ybi, .inl (cI, 4, .inl bi)), (ysi, .inl (cI, 4, .inl sq)), (ynu, .inl (cJ, 160, .inr (.inl nb))), (yt, .inl (cI, 7, .inl mq))] sz)) 0 0 (va_A [(h0, .inr (9, [.ref ys, .ref yk, .ref yo, .ref yt, .int mk0, .ref yfa, .ref yfe, .int mL, .int mS, .int mM, .ref yro, .ref yhe, .ref ygr, .int mF, .int mC, .int mY, .ref yta, .int (nI (mz)), .int (nI (mf)), .int (nI (mt)), .int mv, .int mw, .ref ywa, .ref ybi, .ref ysi, .ref ynu, .ref ymo])), (ybi, .inl (cI, 4, .inl bi)), (ysi, .inl (cI, 4, .inl sq)), (ynu, .inl (cJ, 160, .inr (.inl nb))), (yt, .inl (cI, 7, .inl mq))] sz) := by
  refine xh (QA := fun A => XQi (fun (r : Int32) (u : (Nat → Int32) × (Nat → Int32) × (Nat → Int64) × (Nat → Int32)) => match u with | (bi2, sq2, nb2, mq2) => ((r = a_sheet 3 p1 p2)) ∧ (bi2 3 = sp_sb p1 p2 (bi 3)) ∧ (∀ j, j ≠ 3 → bi2 j = bi j) ∧ (sq2 3 = nI (sp_sz p1 p2 zq)) ∧ (∀ j, j ≠ 3 → sq2 j = sq j) ∧ (∀ j, j < 40 → nb2 (120 + j) = sp_sn p1 p2 (nb (120 + j))) ∧ (∀ j, j < 120 ∨ 160 ≤ j → nb2 j = nb j) ∧ (BA 4 41 sq2)) D (fun (u : (Nat → Int32) × (Nat → Int32) × (Nat → Int64) × (Nat → Int32)) => match u with | (bi2, sq2, nb2, mq2) => [(h0, .inr (9, [.ref ys, .ref yk, .ref yo, .ref yt, .int mk0, .ref yfa, .ref yfe, .int mL, .int mS, .int mM, .ref yro, .ref yhe, .ref ygr, .int mF, .int mC, .int mY, .ref yta, .int (nI (mz)), .int (nI (mf)), .int (nI (mt)), .int mv, .int mw, .ref ywa, .ref ybi, .ref ysi, .ref ynu, .ref ymo])), (ybi, .inl (cI, 4, .inl bi2)), (ysi, .inl (cI, 4, .inl sq2)), (ynu, .inl (cJ, 160, .inr (.inl nb2))), (yt, .inl (cI, 7, .inl mq2))]) A) (fr := fun A => A) (by decide) (Nat.le_of_ble_eq_true rfl) ?_
  intro p e s m below meth c ls A hF hr hlk hin hsz hP hK hD hN hZ hA hS hl
  have hF : CallFix p m c cX9_sheet 5 s _ _ RX9 := hF
  have hx := hF.1
  have hb := hF.2.1
  have hml := hF.2.2.1
  have hown := hF.2.2.2.1
  have hu : ∀ w ∈ wsU, w.before _ s = true := fun w h => hF.2.2.2.2 w (List.mem_cons_of_mem _ h)
  have hl : lv_has ls 5 [(0, .ref h0), (1, .int 3), (2, .int p1), (3, .int p2)] := hl
  refine lv_iload_n hx hb dX9_sheet_0 rfl (lv_at hl 1 rfl) ?_
  refine xc_Sr hF (c_X9_isOne l D cI cJ cZ cS ta sa sv s.heap.size 3 ) ks_X9_305 ⟨rfl, rfl, Nat.le_of_ble_eq_true rfl, Nat.le_of_ble_eq_true rfl⟩ ⟨Nat.le_of_ble_eq_true rfl, Nat.le_of_ble_eq_true rfl⟩ hK hN hZ hP hD hS hA [] rfl rfl rfl hl.1 rfl (Nat.le_of_ble_eq_true rfl) dX9_sheet_1 (fun r_1 hw_r_1 => ?_)
  rcases hw_r_1 with ⟨rfl, h_2, h_3⟩ | ⟨rfl, h_4⟩
  · skip
    refine lv_if_eq (tgt := 29) hx hb dX9_sheet_4 (by decide) (fun c_5 => absurd c_5 (by decide)) (fun c_5 => ?_)
    refine lv_iload_n hx hb dX9_sheet_7 rfl (lv_at hl 2 rfl) ?_
    refine lv_if_eq (tgt := 36) hx hb dX9_sheet_8 (by decide) (fun c_6 => ?_) (fun c_6 => ?_)
    · skip
      refine lv_iload_n hx hb dX9_sheet_36 rfl (lv_at hl 3 rfl) ?_
      refine lv_if_ge (tgt := 48) hx hb dX9_sheet_37 (by decide) (fun c_7 => ?_) (fun c_7 => ?_)
      · skip
        refine lv_iload_n hx hb dX9_sheet_48 rfl (lv_at hl 3 rfl) ?_
        refine lv_bipush (v := 40) hx hb dX9_sheet_49 (by decide) ?_
        refine lv_icmp_le (tgt := 61) hx hb dX9_sheet_51 (by decide) (fun c_8 => ?_) (fun c_8 => ?_)
        · skip
          obtain ⟨y_9, hy_9, rfl⟩ := xrange2 (w := 40) (by omega) c_7 c_8
          refine lv_aload_n hx hb dX9_sheet_61 rfl (lv_at hl 0 rfl) ?_
          refine xg hF kf_X9_43 hK hP 0 rfl rfl dX9_sheet_62 ?_
          refine lv_iload_n hx hb dX9_sheet_65 rfl (lv_at hl 1 rfl) ?_
          refine lv_iload_n hx hb dX9_sheet_66 rfl (lv_at hl 2 rfl) ?_
          refine va_iast hx hb hK hP hD hS 1 0 rfl rfl (xin 3 4 (by decide) (by decide)) dX9_sheet_67 (fun H locs hP hD hS => ?_)
          obtain ⟨f_10, ef_10⟩ : ∃ g, g = upd bi 3 p1 := ⟨_, rfl⟩
          have hP : va_P D vwCl [(h0, .inr (9, [.ref ys, .ref yk, .ref yo, .ref yt, .int mk0, .ref yfa, .ref yfe, .int mL, .int mS, .int mM, .ref yro, .ref yhe, .ref ygr, .int mF, .int mC, .int mY, .ref yta, .int (nI (mz)), .int (nI (mf)), .int (nI (mt)), .int mv, .int mw, .ref ywa, .ref ybi, .ref ysi, .ref ynu, .ref ymo])), (ybi, .inl (cI, 4, .inl (upd bi 3 p1))), (ysi, .inl (cI, 4, .inl sq)), (ynu, .inl (cJ, 160, .inr (.inl nb))), (yt, .inl (cI, 7, .inl mq))] H := hP
          have hD : va_D A [(h0, .inr (9, [.ref ys, .ref yk, .ref yo, .ref yt, .int mk0, .ref yfa, .ref yfe, .int mL, .int mS, .int mM, .ref yro, .ref yhe, .ref ygr, .int mF, .int mC, .int mY, .ref yta, .int (nI (mz)), .int (nI (mf)), .int (nI (mt)), .int mv, .int mw, .ref ywa, .ref ybi, .ref ysi, .ref ynu, .ref ymo])), (ybi, .inl (cI, 4, .inl (upd bi 3 p1))), (ysi, .inl (cI, 4, .inl sq)), (ynu, .inl (cJ, 160, .inr (.inl nb))), (yt, .inl (cI, 7, .inl mq))] := hD
          rw [← ef_10] at hP hD
          have hP : va_P D vwCl [(h0, .inr (9, [.ref ys, .ref yk, .ref yo, .ref yt, .int mk0, .ref yfa, .ref yfe, .int mL, .int mS, .int mM, .ref yro, .ref yhe, .ref ygr, .int mF, .int mC, .int mY, .ref yta, .int (nI (mz)), .int (nI (mf)), .int (nI (mt)), .int mv, .int mw, .ref ywa, .ref ybi, .ref ysi, .ref ynu, .ref ymo])), (ybi, .inl (cI, 4, .inl f_10)), (ysi, .inl (cI, 4, .inl sq)), (ynu, .inl (cJ, 160, .inr (.inl nb))), (yt, .inl (cI, 7, .inl mq))] H := hP
          have hD : va_D A [(h0, .inr (9, [.ref ys, .ref yk, .ref yo, .ref yt, .int mk0, .ref yfa, .ref yfe, .int mL, .int mS, .int mM, .ref yro, .ref yhe, .ref ygr, .int mF, .int mC, .int mY, .ref yta, .int (nI (mz)), .int (nI (mf)), .int (nI (mt)), .int mv, .int mw, .ref ywa, .ref ybi, .ref ysi, .ref ynu, .ref ymo])), (ybi, .inl (cI, 4, .inl f_10)), (ysi, .inl (cI, 4, .inl sq)), (ynu, .inl (cJ, 160, .inr (.inl nb))), (yt, .inl (cI, 7, .inl mq))] := hD
          refine lv_aload_n hx hb dX9_sheet_68 rfl (lv_at hl 0 rfl) ?_
          refine xg hF kf_X9_46 hK hP 0 rfl rfl dX9_sheet_69 ?_
          refine lv_iload_n hx hb dX9_sheet_72 rfl (lv_at hl 1 rfl) ?_
          refine lv_iload_n hx hb dX9_sheet_73 rfl (lv_at hl 2 rfl) ?_
          refine lv_if_ne (tgt := 81) hx hb dX9_sheet_74 (by decide) (fun c_11 => ?_) (fun c_11 => ?_)
          · skip
            refine lv_iload_n hx hb dX9_sheet_81 rfl (lv_at hl 3 rfl) ?_
            refine va_iast hx hb hK hP hD hS 2 0 rfl rfl (xin 3 4 (by decide) (by decide)) dX9_sheet_82 (fun H locs hP hD hS => ?_)
            obtain ⟨f_12, ef_12⟩ : ∃ g, g = upd sq 3 (nI (y_9)) := ⟨_, rfl⟩
            have hP : va_P D vwCl [(h0, .inr (9, [.ref ys, .ref yk, .ref yo, .ref yt, .int mk0, .ref yfa, .ref yfe, .int mL, .int mS, .int mM, .ref yro, .ref yhe, .ref ygr, .int mF, .int mC, .int mY, .ref yta, .int (nI (mz)), .int (nI (mf)), .int (nI (mt)), .int mv, .int mw, .ref ywa, .ref ybi, .ref ysi, .ref ynu, .ref ymo])), (ybi, .inl (cI, 4, .inl f_10)), (ysi, .inl (cI, 4, .inl (upd sq 3 (nI (y_9))))), (ynu, .inl (cJ, 160, .inr (.inl nb))), (yt, .inl (cI, 7, .inl mq))] H := hP
            have hD : va_D A [(h0, .inr (9, [.ref ys, .ref yk, .ref yo, .ref yt, .int mk0, .ref yfa, .ref yfe, .int mL, .int mS, .int mM, .ref yro, .ref yhe, .ref ygr, .int mF, .int mC, .int mY, .ref yta, .int (nI (mz)), .int (nI (mf)), .int (nI (mt)), .int mv, .int mw, .ref ywa, .ref ybi, .ref ysi, .ref ynu, .ref ymo])), (ybi, .inl (cI, 4, .inl f_10)), (ysi, .inl (cI, 4, .inl (upd sq 3 (nI (y_9))))), (ynu, .inl (cJ, 160, .inr (.inl nb))), (yt, .inl (cI, 7, .inl mq))] := hD
            rw [← ef_12] at hP hD
            have hf_12 : BA 4 41 f_12 := by rw [ef_12]; exact BA.upd hsq (show y_9 < 41 by omega)
            have hP : va_P D vwCl [(h0, .inr (9, [.ref ys, .ref yk, .ref yo, .ref yt, .int mk0, .ref yfa, .ref yfe, .int mL, .int mS, .int mM, .ref yro, .ref yhe, .ref ygr, .int mF, .int mC, .int mY, .ref yta, .int (nI (mz)), .int (nI (mf)), .int (nI (mt)), .int mv, .int mw, .ref ywa, .ref ybi, .ref ysi, .ref ynu, .ref ymo])), (ybi, .inl (cI, 4, .inl f_10)), (ysi, .inl (cI, 4, .inl f_12)), (ynu, .inl (cJ, 160, .inr (.inl nb))), (yt, .inl (cI, 7, .inl mq))] H := hP
            have hD : va_D A [(h0, .inr (9, [.ref ys, .ref yk, .ref yo, .ref yt, .int mk0, .ref yfa, .ref yfe, .int mL, .int mS, .int mM, .ref yro, .ref yhe, .ref ygr, .int mF, .int mC, .int mY, .ref yta, .int (nI (mz)), .int (nI (mf)), .int (nI (mt)), .int mv, .int mw, .ref ywa, .ref ybi, .ref ysi, .ref ynu, .ref ymo])), (ybi, .inl (cI, 4, .inl f_10)), (ysi, .inl (cI, 4, .inl f_12)), (ynu, .inl (cJ, 160, .inr (.inl nb))), (yt, .inl (cI, 7, .inl mq))] := hD
            refine lv_iconst (v := 0) hx hb dX9_sheet_83 (by decide) ?_
            refine lv_istore (lv' := [(4, .int 0), (0, .ref h0), (1, .int 3), (2, .int p1), (3, .int (nI (y_9)))]) hx hb dX9_sheet_84 hl (by decide) rfl (fun ls hl => ?_)
            suffices loop_86 : ∀ (n_86 : Nat) (i : Nat) (n8 : Nat → Int64) (H : Heap) (locs : List Loc) (ls : Array Slot), 40 - i < n_86 → (i ≤ 40) → (∀ j, 120 ≤ j → j < 120 + i → n8 j = 0) → (∀ j, j < 120 ∨ 160 ≤ j → n8 j = nb j) → va_P D vwCl [(h0, .inr (9, [.ref ys, .ref yk, .ref yo, .ref yt, .int mk0, .ref yfa, .ref yfe, .int mL, .int mS, .int mM, .ref yro, .ref yhe, .ref ygr, .int mF, .int mC, .int mY, .ref yta, .int (nI (mz)), .int (nI (mf)), .int (nI (mt)), .int mv, .int mw, .ref ywa, .ref ybi, .ref ysi, .ref ynu, .ref ymo])), (ybi, .inl (cI, 4, .inl f_10)), (ysi, .inl (cI, 4, .inl f_12)), (ynu, .inl (cJ, 160, .inr (.inl n8))), (yt, .inl (cI, 7, .inl mq))] H → va_D A [(h0, .inr (9, [.ref ys, .ref yk, .ref yo, .ref yt, .int mk0, .ref yfa, .ref yfe, .int mL, .int mS, .int mM, .ref yro, .ref yhe, .ref ygr, .int mF, .int mC, .int mY, .ref yta, .int (nI (mz)), .int (nI (mf)), .int (nI (mt)), .int mv, .int mw, .ref ywa, .ref ybi, .ref ysi, .ref ynu, .ref ymo])), (ybi, .inl (cI, 4, .inl f_10)), (ysi, .inl (cI, 4, .inl f_12)), (ynu, .inl (cJ, 160, .inr (.inl n8))), (yt, .inl (cI, 7, .inl mq))] → va_S A s.heap H locs → lv_has ls 5 [(4, .int (nI (i))), (0, .ref h0), (1, .int 3), (2, .int p1), (3, .int (nI (y_9)))] → W p l e ({ frames := 2, cells := 0, slots := 0, locals := 45 }) s m ([.ref h0, .int 3, .int p1, .int (nI (y_9))] : List Value).toArray below meth c H locs 0 0 (MQ below (XQi (fun (r : Int32) (u : (Nat → Int32) × (Nat → Int32) × (Nat → Int64) × (Nat → Int32)) => match u with | (bi2, sq2, nb2, mq2) => ((r = a_sheet 3 p1 (nI (y_9)))) ∧ (bi2 3 = sp_sb p1 (nI (y_9)) (bi 3)) ∧ (∀ j, j ≠ 3 → bi2 j = bi j) ∧ (sq2 3 = nI (sp_sz p1 (nI (y_9)) zq)) ∧ (∀ j, j ≠ 3 → sq2 j = sq j) ∧ (∀ j, j < 40 → nb2 (120 + j) = sp_sn p1 (nI (y_9)) (nb (120 + j))) ∧ (∀ j, j < 120 ∨ 160 ≤ j → nb2 j = nb j) ∧ (BA 4 41 sq2)) D (fun (u : (Nat → Int32) × (Nat → Int32) × (Nat → Int64) × (Nat → Int32)) => match u with | (bi2, sq2, nb2, mq2) => [(h0, .inr (9, [.ref ys, .ref yk, .ref yo, .ref yt, .int mk0, .ref yfa, .ref yfe, .int mL, .int mS, .int mM, .ref yro, .ref yhe, .ref ygr, .int mF, .int mC, .int mY, .ref yta, .int (nI (mz)), .int (nI (mf)), .int (nI (mt)), .int mv, .int mw, .ref ywa, .ref ybi, .ref ysi, .ref ynu, .ref ymo])), (ybi, .inl (cI, 4, .inl bi2)), (ysi, .inl (cI, 4, .inl sq2)), (ynu, .inl (cJ, 160, .inr (.inl nb2))), (yt, .inl (cI, 7, .inl mq2))]) A) ([.ref h0, .int 3, .int p1, .int (nI (y_9))] : List Value).toArray s 0 0 A) (F0 m 86 ls []) by
              exact loop_86 _ 0 nb _ _ _ (Nat.lt_succ_self _) (by omega) (fun j h1 h2 => absurd h1 (by omega)) (fun _ _ => rfl) hP hD hS (lv_sub hl [0, 1, 2, 3, 4] rfl)
            intro n_86
            induction n_86 with
            | zero =>
              intro i n8 H locs ls hm_86
              exact absurd hm_86 (Nat.not_lt_zero _)
            | succ n_86 ih_86 =>
              intro i n8 H locs ls hm_86 hi hf8 hg8 hP hD hS hl
              refine lv_iload hx hb dX9_sheet_86 (lv_at hl 0 rfl) ?_
              refine lv_bipush (v := 40) hx hb dX9_sheet_88 (by decide) ?_
              refine lv_icmp_ge (tgt := 112) hx hb dX9_sheet_90 (by decide) (fun c_13 => ?_) (fun c_13 => ?_)
              · skip
                have nc_13 : 40 ≤ i := xn_le (a := 40) (b := i) (by omega) (by omega) c_13
                refine lv_aload_n hx hb dX9_sheet_112 rfl (lv_at hl 1 rfl) ?_
                refine xg hF kf_X9_46 hK hP 0 rfl rfl dX9_sheet_113 ?_
                refine lv_iload_n hx hb dX9_sheet_116 rfl (lv_at hl 2 rfl) ?_
                refine va_iald hx hb hK hP 2 0 rfl rfl (xin 3 4 (by decide) (by decide)) dX9_sheet_117 ?_
                refine xl_i (y := f_12 3) (congrArg f_12 rfl) ?_
                refine xl_i (y := nI (y_9)) (by rw [ef_12]; exact pk_us) ?_
                exact W.iret (v := nI (y_9)) hx hb hr (fun t ht hW => ⟨⟨nI (y_9), (f_10, f_12, n8, mq), rfl, ⟨p_sheet6 (by decide) (by decide) (by first | exact Or.inl (by assumption) | exact Or.inr (Or.inl (by assumption)) | exact Or.inr (Or.inr (Or.inl (by assumption))) | exact Or.inr (Or.inr (Or.inr (by assumption)))) (nI_pos (by omega)) (x_le40 (by omega)) (by assumption), (by rw [ef_10]; exact pk_us.trans (if_pos ⟨(by first | exact Or.inl (by assumption) | exact Or.inr (Or.inl (by assumption)) | exact Or.inr (Or.inr (Or.inl (by assumption))) | exact Or.inr (Or.inr (Or.inr (by assumption)))), nI_pos (by omega), x_le40 (by omega)⟩).symm), (fun j hj => by rw [ef_10]; exact pk_un hj), (by rw [ef_12]; exact pk_us.trans (congrArg nI (sp_z1 ⟨(by first | exact Or.inl (by assumption) | exact Or.inr (Or.inl (by assumption)) | exact Or.inr (Or.inr (Or.inl (by assumption))) | exact Or.inr (Or.inr (Or.inr (by assumption)))), nI_pos (by omega), x_le40 (by omega)⟩ (by assumption) (by omega)))), (fun j hj => by rw [ef_12]; exact pk_un hj), (fun j hj => (hf8 (120 + j) (by omega) (by omega)).trans (if_pos ⟨(by first | exact Or.inl (by assumption) | exact Or.inr (Or.inl (by assumption)) | exact Or.inr (Or.inr (Or.inl (by assumption))) | exact Or.inr (Or.inr (Or.inr (by assumption)))), nI_pos (by omega), x_le40 (by omega)⟩).symm), (fun j hj => hg8 j hj), hf_12⟩, by rw [ht]; exact hP.sub [0, 1, 2, 3, 4] rfl, hD.sub [0, 1, 2, 3, 4] (by decide +kernel) rfl⟩, hS.F ht⟩) hS.2.2 dX9_sheet_118 hlk
              · skip
                have nc_13 : i < 40 := xn_nle (a := 40) (b := i) (by omega) (by omega) c_13
                refine lv_aload_n hx hb dX9_sheet_93 rfl (lv_at hl 1 rfl) ?_
                refine xg hF kf_X9_49 hK hP 0 rfl rfl dX9_sheet_94 ?_
                refine lv_bipush (v := 40) hx hb dX9_sheet_97 (by decide) ?_
                refine lv_iload_n hx hb dX9_sheet_99 rfl (lv_at hl 2 rfl) ?_
                refine lv_imul hx hb dX9_sheet_100 ?_
                refine xl_i (y := 120) (by decide) ?_
                refine lv_iload hx hb dX9_sheet_101 (lv_at hl 0 rfl) ?_
                refine lv_iadd hx hb dX9_sheet_103 ?_
                refine xl_i (y := nI (120 + i)) (nI_add 120 i) ?_
                refine lv_lconst (v := 0) hx hb dX9_sheet_104 (by decide) ?_
                refine va_last hx hb hK hP hD hS 3 1 rfl rfl (vp_in_nI (show 120 + i < 160 by omega) (by decide)) dX9_sheet_105 (fun H locs hP hD hS => ?_)
                rw [nI_clamp (show 120 + i < 2 ^ 31 by omega)] at hP hD
                obtain ⟨f_14, ef_14⟩ : ∃ g, g = vp_updL n8 (120 + i) 0 := ⟨_, rfl⟩
                rw [← ef_14] at hP hD
                have hP : va_P D vwCl [(h0, .inr (9, [.ref ys, .ref yk, .ref yo, .ref yt, .int mk0, .ref yfa, .ref yfe, .int mL, .int mS, .int mM, .ref yro, .ref yhe, .ref ygr, .int mF, .int mC, .int mY, .ref yta, .int (nI (mz)), .int (nI (mf)), .int (nI (mt)), .int mv, .int mw, .ref ywa, .ref ybi, .ref ysi, .ref ynu, .ref ymo])), (ybi, .inl (cI, 4, .inl f_10)), (ysi, .inl (cI, 4, .inl f_12)), (ynu, .inl (cJ, 160, .inr (.inl f_14))), (yt, .inl (cI, 7, .inl mq))] H := hP
                have hD : va_D A [(h0, .inr (9, [.ref ys, .ref yk, .ref yo, .ref yt, .int mk0, .ref yfa, .ref yfe, .int mL, .int mS, .int mM, .ref yro, .ref yhe, .ref ygr, .int mF, .int mC, .int mY, .ref yta, .int (nI (mz)), .int (nI (mf)), .int (nI (mt)), .int mv, .int mw, .ref ywa, .ref ybi, .ref ysi, .ref ynu, .ref ymo])), (ybi, .inl (cI, 4, .inl f_10)), (ysi, .inl (cI, 4, .inl f_12)), (ynu, .inl (cJ, 160, .inr (.inl f_14))), (yt, .inl (cI, 7, .inl mq))] := hD
                refine lv_iinc (v := nI (i + 1)) (lv' := [(4, .int (nI (i + 1))), (0, .ref h0), (1, .int 3), (2, .int p1), (3, .int (nI (y_9)))]) hx hb dX9_sheet_106 hl (k := 0) rfl (nI_1 (i)) (by decide) rfl (fun ls hl => ?_)
                refine lv_goto (tgt := 86) hx hb dX9_sheet_109 (by decide) ?_
                exact ih_86 (i + 1) f_14 _ _ _ (by omega) (by omega) (sp_fil hf8 ef_14) (sp_fio hg8 (by omega) (by omega) ef_14) (hP.sub [0, 1, 2, 3, 4] rfl) (hD.sub [0, 1, 2, 3, 4] (by decide +kernel) rfl) hS (lv_sub hl [0, 1, 2, 3, 4] rfl)
          · skip
            refine lv_iconst (v := 0) hx hb dX9_sheet_77 (by decide) ?_
            refine lv_goto (tgt := 82) hx hb dX9_sheet_78 (by decide) ?_
            refine va_iast hx hb hK hP hD hS 2 0 rfl rfl (xin 3 4 (by decide) (by decide)) dX9_sheet_82 (fun H locs hP hD hS => ?_)
            obtain ⟨f_15, ef_15⟩ : ∃ g, g = upd sq 3 0 := ⟨_, rfl⟩
            have hP : va_P D vwCl [(h0, .inr (9, [.ref ys, .ref yk, .ref yo, .ref yt, .int mk0, .ref yfa, .ref yfe, .int mL, .int mS, .int mM, .ref yro, .ref yhe, .ref ygr, .int mF, .int mC, .int mY, .ref yta, .int (nI (mz)), .int (nI (mf)), .int (nI (mt)), .int mv, .int mw, .ref ywa, .ref ybi, .ref ysi, .ref ynu, .ref ymo])), (ybi, .inl (cI, 4, .inl f_10)), (ysi, .inl (cI, 4, .inl (upd sq 3 0))), (ynu, .inl (cJ, 160, .inr (.inl nb))), (yt, .inl (cI, 7, .inl mq))] H := hP
            have hD : va_D A [(h0, .inr (9, [.ref ys, .ref yk, .ref yo, .ref yt, .int mk0, .ref yfa, .ref yfe, .int mL, .int mS, .int mM, .ref yro, .ref yhe, .ref ygr, .int mF, .int mC, .int mY, .ref yta, .int (nI (mz)), .int (nI (mf)), .int (nI (mt)), .int mv, .int mw, .ref ywa, .ref ybi, .ref ysi, .ref ynu, .ref ymo])), (ybi, .inl (cI, 4, .inl f_10)), (ysi, .inl (cI, 4, .inl (upd sq 3 0))), (ynu, .inl (cJ, 160, .inr (.inl nb))), (yt, .inl (cI, 7, .inl mq))] := hD
            rw [← ef_15] at hP hD
            have hf_15 : BA 4 41 f_15 := by rw [ef_15]; exact BA.upd hsq (show 0 < 41 by omega)
            have hP : va_P D vwCl [(h0, .inr (9, [.ref ys, .ref yk, .ref yo, .ref yt, .int mk0, .ref yfa, .ref yfe, .int mL, .int mS, .int mM, .ref yro, .ref yhe, .ref ygr, .int mF, .int mC, .int mY, .ref yta, .int (nI (mz)), .int (nI (mf)), .int (nI (mt)), .int mv, .int mw, .ref ywa, .ref ybi, .ref ysi, .ref ynu, .ref ymo])), (ybi, .inl (cI, 4, .inl f_10)), (ysi, .inl (cI, 4, .inl f_15)), (ynu, .inl (cJ, 160, .inr (.inl nb))), (yt, .inl (cI, 7, .inl mq))] H := hP
            have hD : va_D A [(h0, .inr (9, [.ref ys, .ref yk, .ref yo, .ref yt, .int mk0, .ref yfa, .ref yfe, .int mL, .int mS, .int mM, .ref yro, .ref yhe, .ref ygr, .int mF, .int mC, .int mY, .ref yta, .int (nI (mz)), .int (nI (mf)), .int (nI (mt)), .int mv, .int mw, .ref ywa, .ref ybi, .ref ysi, .ref ynu, .ref ymo])), (ybi, .inl (cI, 4, .inl f_10)), (ysi, .inl (cI, 4, .inl f_15)), (ynu, .inl (cJ, 160, .inr (.inl nb))), (yt, .inl (cI, 7, .inl mq))] := hD
            refine lv_iconst (v := 0) hx hb dX9_sheet_83 (by decide) ?_
            refine lv_istore (lv' := [(4, .int 0), (0, .ref h0), (1, .int 3), (2, .int p1), (3, .int (nI (y_9)))]) hx hb dX9_sheet_84 hl (by decide) rfl (fun ls hl => ?_)
            suffices loop_86 : ∀ (n_86 : Nat) (i : Nat) (n8 : Nat → Int64) (H : Heap) (locs : List Loc) (ls : Array Slot), 40 - i < n_86 → (i ≤ 40) → (∀ j, 120 ≤ j → j < 120 + i → n8 j = 0) → (∀ j, j < 120 ∨ 160 ≤ j → n8 j = nb j) → va_P D vwCl [(h0, .inr (9, [.ref ys, .ref yk, .ref yo, .ref yt, .int mk0, .ref yfa, .ref yfe, .int mL, .int mS, .int mM, .ref yro, .ref yhe, .ref ygr, .int mF, .int mC, .int mY, .ref yta, .int (nI (mz)), .int (nI (mf)), .int (nI (mt)), .int mv, .int mw, .ref ywa, .ref ybi, .ref ysi, .ref ynu, .ref ymo])), (ybi, .inl (cI, 4, .inl f_10)), (ysi, .inl (cI, 4, .inl f_15)), (ynu, .inl (cJ, 160, .inr (.inl n8))), (yt, .inl (cI, 7, .inl mq))] H → va_D A [(h0, .inr (9, [.ref ys, .ref yk, .ref yo, .ref yt, .int mk0, .ref yfa, .ref yfe, .int mL, .int mS, .int mM, .ref yro, .ref yhe, .ref ygr, .int mF, .int mC, .int mY, .ref yta, .int (nI (mz)), .int (nI (mf)), .int (nI (mt)), .int mv, .int mw, .ref ywa, .ref ybi, .ref ysi, .ref ynu, .ref ymo])), (ybi, .inl (cI, 4, .inl f_10)), (ysi, .inl (cI, 4, .inl f_15)), (ynu, .inl (cJ, 160, .inr (.inl n8))), (yt, .inl (cI, 7, .inl mq))] → va_S A s.heap H locs → lv_has ls 5 [(4, .int (nI (i))), (0, .ref h0), (1, .int 3), (2, .int p1), (3, .int (nI (y_9)))] → W p l e ({ frames := 2, cells := 0, slots := 0, locals := 45 }) s m ([.ref h0, .int 3, .int p1, .int (nI (y_9))] : List Value).toArray below meth c H locs 0 0 (MQ below (XQi (fun (r : Int32) (u : (Nat → Int32) × (Nat → Int32) × (Nat → Int64) × (Nat → Int32)) => match u with | (bi2, sq2, nb2, mq2) => ((r = a_sheet 3 p1 (nI (y_9)))) ∧ (bi2 3 = sp_sb p1 (nI (y_9)) (bi 3)) ∧ (∀ j, j ≠ 3 → bi2 j = bi j) ∧ (sq2 3 = nI (sp_sz p1 (nI (y_9)) zq)) ∧ (∀ j, j ≠ 3 → sq2 j = sq j) ∧ (∀ j, j < 40 → nb2 (120 + j) = sp_sn p1 (nI (y_9)) (nb (120 + j))) ∧ (∀ j, j < 120 ∨ 160 ≤ j → nb2 j = nb j) ∧ (BA 4 41 sq2)) D (fun (u : (Nat → Int32) × (Nat → Int32) × (Nat → Int64) × (Nat → Int32)) => match u with | (bi2, sq2, nb2, mq2) => [(h0, .inr (9, [.ref ys, .ref yk, .ref yo, .ref yt, .int mk0, .ref yfa, .ref yfe, .int mL, .int mS, .int mM, .ref yro, .ref yhe, .ref ygr, .int mF, .int mC, .int mY, .ref yta, .int (nI (mz)), .int (nI (mf)), .int (nI (mt)), .int mv, .int mw, .ref ywa, .ref ybi, .ref ysi, .ref ynu, .ref ymo])), (ybi, .inl (cI, 4, .inl bi2)), (ysi, .inl (cI, 4, .inl sq2)), (ynu, .inl (cJ, 160, .inr (.inl nb2))), (yt, .inl (cI, 7, .inl mq2))]) A) ([.ref h0, .int 3, .int p1, .int (nI (y_9))] : List Value).toArray s 0 0 A) (F0 m 86 ls []) by
              exact loop_86 _ 0 nb _ _ _ (Nat.lt_succ_self _) (by omega) (fun j h1 h2 => absurd h1 (by omega)) (fun _ _ => rfl) hP hD hS (lv_sub hl [0, 1, 2, 3, 4] rfl)
            intro n_86
            induction n_86 with
            | zero =>
              intro i n8 H locs ls hm_86
              exact absurd hm_86 (Nat.not_lt_zero _)
            | succ n_86 ih_86 =>
              intro i n8 H locs ls hm_86 hi hf8 hg8 hP hD hS hl
              refine lv_iload hx hb dX9_sheet_86 (lv_at hl 0 rfl) ?_
              refine lv_bipush (v := 40) hx hb dX9_sheet_88 (by decide) ?_
              refine lv_icmp_ge (tgt := 112) hx hb dX9_sheet_90 (by decide) (fun c_16 => ?_) (fun c_16 => ?_)
              · skip
                have nc_16 : 40 ≤ i := xn_le (a := 40) (b := i) (by omega) (by omega) c_16
                refine lv_aload_n hx hb dX9_sheet_112 rfl (lv_at hl 1 rfl) ?_
                refine xg hF kf_X9_46 hK hP 0 rfl rfl dX9_sheet_113 ?_
                refine lv_iload_n hx hb dX9_sheet_116 rfl (lv_at hl 2 rfl) ?_
                refine va_iald hx hb hK hP 2 0 rfl rfl (xin 3 4 (by decide) (by decide)) dX9_sheet_117 ?_
                refine xl_i (y := f_15 3) (congrArg f_15 rfl) ?_
                refine xl_i (y := 0) (by rw [ef_15]; exact pk_us) ?_
                exact W.iret (v := 0) hx hb hr (fun t ht hW => ⟨⟨0, (f_10, f_15, n8, mq), rfl, ⟨p_sheet5 (by decide) (by decide) c_11 (nI_pos (by omega)) (x_le40 (by omega)), (by rw [ef_10]; exact pk_us.trans (if_pos ⟨(by first | exact Or.inl (by assumption) | exact Or.inr (Or.inl (by assumption)) | exact Or.inr (Or.inr (Or.inl (by assumption))) | exact Or.inr (Or.inr (Or.inr (by assumption)))), nI_pos (by omega), x_le40 (by omega)⟩).symm), (fun j hj => by rw [ef_10]; exact pk_un hj), (by rw [ef_15]; exact pk_us.trans (congrArg nI (sp_z0 ⟨(by first | exact Or.inl (by assumption) | exact Or.inr (Or.inl (by assumption)) | exact Or.inr (Or.inr (Or.inl (by assumption))) | exact Or.inr (Or.inr (Or.inr (by assumption)))), nI_pos (by omega), x_le40 (by omega)⟩ c_11))), (fun j hj => by rw [ef_15]; exact pk_un hj), (fun j hj => (hf8 (120 + j) (by omega) (by omega)).trans (if_pos ⟨(by first | exact Or.inl (by assumption) | exact Or.inr (Or.inl (by assumption)) | exact Or.inr (Or.inr (Or.inl (by assumption))) | exact Or.inr (Or.inr (Or.inr (by assumption)))), nI_pos (by omega), x_le40 (by omega)⟩).symm), (fun j hj => hg8 j hj), hf_15⟩, by rw [ht]; exact hP.sub [0, 1, 2, 3, 4] rfl, hD.sub [0, 1, 2, 3, 4] (by decide +kernel) rfl⟩, hS.F ht⟩) hS.2.2 dX9_sheet_118 hlk
              · skip
                have nc_16 : i < 40 := xn_nle (a := 40) (b := i) (by omega) (by omega) c_16
                refine lv_aload_n hx hb dX9_sheet_93 rfl (lv_at hl 1 rfl) ?_
                refine xg hF kf_X9_49 hK hP 0 rfl rfl dX9_sheet_94 ?_
                refine lv_bipush (v := 40) hx hb dX9_sheet_97 (by decide) ?_
                refine lv_iload_n hx hb dX9_sheet_99 rfl (lv_at hl 2 rfl) ?_
                refine lv_imul hx hb dX9_sheet_100 ?_
                refine xl_i (y := 120) (by decide) ?_
                refine lv_iload hx hb dX9_sheet_101 (lv_at hl 0 rfl) ?_
                refine lv_iadd hx hb dX9_sheet_103 ?_
                refine xl_i (y := nI (120 + i)) (nI_add 120 i) ?_
                refine lv_lconst (v := 0) hx hb dX9_sheet_104 (by decide) ?_
                refine va_last hx hb hK hP hD hS 3 1 rfl rfl (vp_in_nI (show 120 + i < 160 by omega) (by decide)) dX9_sheet_105 (fun H locs hP hD hS => ?_)
                rw [nI_clamp (show 120 + i < 2 ^ 31 by omega)] at hP hD
                obtain ⟨f_17, ef_17⟩ : ∃ g, g = vp_updL n8 (120 + i) 0 := ⟨_, rfl⟩
                rw [← ef_17] at hP hD
                have hP : va_P D vwCl [(h0, .inr (9, [.ref ys, .ref yk, .ref yo, .ref yt, .int mk0, .ref yfa, .ref yfe, .int mL, .int mS, .int mM, .ref yro, .ref yhe, .ref ygr, .int mF, .int mC, .int mY, .ref yta, .int (nI (mz)), .int (nI (mf)), .int (nI (mt)), .int mv, .int mw, .ref ywa, .ref ybi, .ref ysi, .ref ynu, .ref ymo])), (ybi, .inl (cI, 4, .inl f_10)), (ysi, .inl (cI, 4, .inl f_15)), (ynu, .inl (cJ, 160, .inr (.inl f_17))), (yt, .inl (cI, 7, .inl mq))] H := hP
                have hD : va_D A [(h0, .inr (9, [.ref ys, .ref yk, .ref yo, .ref yt, .int mk0, .ref yfa, .ref yfe, .int mL, .int mS, .int mM, .ref yro, .ref yhe, .ref ygr, .int mF, .int mC, .int mY, .ref yta, .int (nI (mz)), .int (nI (mf)), .int (nI (mt)), .int mv, .int mw, .ref ywa, .ref ybi, .ref ysi, .ref ynu, .ref ymo])), (ybi, .inl (cI, 4, .inl f_10)), (ysi, .inl (cI, 4, .inl f_15)), (ynu, .inl (cJ, 160, .inr (.inl f_17))), (yt, .inl (cI, 7, .inl mq))] := hD
                refine lv_iinc (v := nI (i + 1)) (lv' := [(4, .int (nI (i + 1))), (0, .ref h0), (1, .int 3), (2, .int p1), (3, .int (nI (y_9)))]) hx hb dX9_sheet_106 hl (k := 0) rfl (nI_1 (i)) (by decide) rfl (fun ls hl => ?_)
                refine lv_goto (tgt := 86) hx hb dX9_sheet_109 (by decide) ?_
                exact ih_86 (i + 1) f_17 _ _ _ (by omega) (by omega) (sp_fil hf8 ef_17) (sp_fio hg8 (by omega) (by omega) ef_17) (hP.sub [0, 1, 2, 3, 4] rfl) (hD.sub [0, 1, 2, 3, 4] (by decide +kernel) rfl) hS (lv_sub hl [0, 1, 2, 3, 4] rfl)
        · skip
          refine lv_aload_n hx hb dX9_sheet_54 rfl (lv_at hl 0 rfl) ?_
          refine lv_ldc (v := (-1000000001)) hx hb hown (hu _ uw648) dX9_sheet_55 ?_
          refine xc_Vi (wr := [(ybi, .inl (cI, 4, .inl bi)), (ysi, .inl (cI, 4, .inl sq)), (ynu, .inl (cJ, 160, .inr (.inl nb)))]) hF (c_X9_finds_B l D cI cJ cZ cS ta sa sv s.heap.size h0 ys yk yo yt mk0 yfa yfe mL mS mM yro yhe ygr mF mC mY yta mz mf mt mv mw ywa ybi ysi ynu ymo mq ) kv_X9_70 ⟨rfl, rfl, Nat.le_of_ble_eq_true rfl, Nat.le_of_ble_eq_true rfl⟩ ⟨Nat.le_of_ble_eq_true rfl, Nat.le_of_ble_eq_true rfl⟩ hK hN hZ hP hD hS hA [0, 4] [1, 2, 3] rfl rfl rfl rfl (by decide) 0 rfl rfl rfl rfl hl.1 rfl (Nat.le_of_ble_eq_true rfl) dX9_sheet_57 (fun r_18 u_r_18 H locs hw_r_18 hP hD hS => ?_)
          obtain ⟨mq2_19, rfl⟩ : ∃ z, z = u_r_18 := ⟨_, rfl⟩
          try dsimp only at hw_r_18
          have hP : va_P D vwCl [(ybi, .inl (cI, 4, .inl bi)), (ysi, .inl (cI, 4, .inl sq)), (ynu, .inl (cJ, 160, .inr (.inl nb))), (h0, .inr (9, [.ref ys, .ref yk, .ref yo, .ref yt, .int mk0, .ref yfa, .ref yfe, .int mL, .int mS, .int mM, .ref yro, .ref yhe, .ref ygr, .int mF, .int mC, .int mY, .ref yta, .int (nI (mz)), .int (nI (mf)), .int (nI (mt)), .int mv, .int mw, .ref ywa, .ref ybi, .ref ysi, .ref ynu, .ref ymo])), (yt, .inl (cI, 7, .inl mq2_19))] H := hP
          have hD : va_D A [(ybi, .inl (cI, 4, .inl bi)), (ysi, .inl (cI, 4, .inl sq)), (ynu, .inl (cJ, 160, .inr (.inl nb))), (h0, .inr (9, [.ref ys, .ref yk, .ref yo, .ref yt, .int mk0, .ref yfa, .ref yfe, .int mL, .int mS, .int mM, .ref yro, .ref yhe, .ref ygr, .int mF, .int mC, .int mY, .ref yta, .int (nI (mz)), .int (nI (mf)), .int (nI (mt)), .int mv, .int mw, .ref ywa, .ref ybi, .ref ysi, .ref ynu, .ref ymo])), (yt, .inl (cI, 7, .inl mq2_19))] := hD
          subst hw_r_18
          exact W.iret (v := (-1000000001)) hx hb hr (fun t ht hW => ⟨⟨(-1000000001), (bi, sq, nb, mq2_19), rfl, ⟨p_sheet4 (by decide) (by decide) (by first | exact Or.inl (by assumption) | exact Or.inr (Or.inl (by assumption)) | exact Or.inr (Or.inr (Or.inl (by assumption))) | exact Or.inr (Or.inr (Or.inr (by assumption)))) (fun h => absurd c_7 (Int32.not_le.mpr h)) (xlt c_8), (if_neg (sp_n4 (xlt c_8))).symm, (fun _ _ => rfl), (ez.trans (congrArg nI (if_neg (sp_n4 (xlt c_8))).symm)), (fun _ _ => rfl), (fun j hj => (if_neg (sp_n4 (xlt c_8))).symm), (fun _ _ => rfl), hsq⟩, by rw [ht]; exact hP.sub [3, 0, 1, 2, 4] rfl, hD.sub [3, 0, 1, 2, 4] (by decide +kernel) rfl⟩, hS.F ht⟩) hS.2.2 dX9_sheet_60 hlk
      · skip
        refine lv_aload_n hx hb dX9_sheet_40 rfl (lv_at hl 0 rfl) ?_
        refine lv_ldcw (v := (-1000000007)) hx hb hown (hu _ uw923) dX9_sheet_41 ?_
        refine xc_Vi (wr := [(ybi, .inl (cI, 4, .inl bi)), (ysi, .inl (cI, 4, .inl sq)), (ynu, .inl (cJ, 160, .inr (.inl nb)))]) hF (c_X9_finds_S l D cI cJ cZ cS ta sa sv s.heap.size h0 ys yk yo yt mk0 yfa yfe mL mS mM yro yhe ygr mF mC mY yta mz mf mt mv mw ywa ybi ysi ynu ymo mq ) kv_X9_70 ⟨rfl, rfl, Nat.le_of_ble_eq_true rfl, Nat.le_of_ble_eq_true rfl⟩ ⟨Nat.le_of_ble_eq_true rfl, Nat.le_of_ble_eq_true rfl⟩ hK hN hZ hP hD hS hA [0, 4] [1, 2, 3] rfl rfl rfl rfl (by decide) 0 rfl rfl rfl rfl hl.1 rfl (Nat.le_of_ble_eq_true rfl) dX9_sheet_44 (fun r_20 u_r_20 H locs hw_r_20 hP hD hS => ?_)
        obtain ⟨mq2_21, rfl⟩ : ∃ z, z = u_r_20 := ⟨_, rfl⟩
        try dsimp only at hw_r_20
        have hP : va_P D vwCl [(ybi, .inl (cI, 4, .inl bi)), (ysi, .inl (cI, 4, .inl sq)), (ynu, .inl (cJ, 160, .inr (.inl nb))), (h0, .inr (9, [.ref ys, .ref yk, .ref yo, .ref yt, .int mk0, .ref yfa, .ref yfe, .int mL, .int mS, .int mM, .ref yro, .ref yhe, .ref ygr, .int mF, .int mC, .int mY, .ref yta, .int (nI (mz)), .int (nI (mf)), .int (nI (mt)), .int mv, .int mw, .ref ywa, .ref ybi, .ref ysi, .ref ynu, .ref ymo])), (yt, .inl (cI, 7, .inl mq2_21))] H := hP
        have hD : va_D A [(ybi, .inl (cI, 4, .inl bi)), (ysi, .inl (cI, 4, .inl sq)), (ynu, .inl (cJ, 160, .inr (.inl nb))), (h0, .inr (9, [.ref ys, .ref yk, .ref yo, .ref yt, .int mk0, .ref yfa, .ref yfe, .int mL, .int mS, .int mM, .ref yro, .ref yhe, .ref ygr, .int mF, .int mC, .int mY, .ref yta, .int (nI (mz)), .int (nI (mf)), .int (nI (mt)), .int mv, .int mw, .ref ywa, .ref ybi, .ref ysi, .ref ynu, .ref ymo])), (yt, .inl (cI, 7, .inl mq2_21))] := hD
        subst hw_r_20
        exact W.iret (v := (-1000000007)) hx hb hr (fun t ht hW => ⟨⟨(-1000000007), (bi, sq, nb, mq2_21), rfl, ⟨p_sheet3 (by decide) (by decide) (by first | exact Or.inl (by assumption) | exact Or.inr (Or.inl (by assumption)) | exact Or.inr (Or.inr (Or.inl (by assumption))) | exact Or.inr (Or.inr (Or.inr (by assumption)))) (xlt c_7), (if_neg (sp_n3 (xlt c_7))).symm, (fun _ _ => rfl), (ez.trans (congrArg nI (if_neg (sp_n3 (xlt c_7))).symm)), (fun _ _ => rfl), (fun j hj => (if_neg (sp_n3 (xlt c_7))).symm), (fun _ _ => rfl), hsq⟩, by rw [ht]; exact hP.sub [3, 0, 1, 2, 4] rfl, hD.sub [3, 0, 1, 2, 4] (by decide +kernel) rfl⟩, hS.F ht⟩) hS.2.2 dX9_sheet_47 hlk
    · skip
      refine lv_iload_n hx hb dX9_sheet_11 rfl (lv_at hl 2 rfl) ?_
      refine lv_bipush (v := 8) hx hb dX9_sheet_12 (by decide) ?_
      refine lv_icmp_eq (tgt := 36) hx hb dX9_sheet_14 (by decide) (fun c_22 => ?_) (fun c_22 => ?_)
      · skip
        refine lv_iload_n hx hb dX9_sheet_36 rfl (lv_at hl 3 rfl) ?_
        refine lv_if_ge (tgt := 48) hx hb dX9_sheet_37 (by decide) (fun c_23 => ?_) (fun c_23 => ?_)
        · skip
          refine lv_iload_n hx hb dX9_sheet_48 rfl (lv_at hl 3 rfl) ?_
          refine lv_bipush (v := 40) hx hb dX9_sheet_49 (by decide) ?_
          refine lv_icmp_le (tgt := 61) hx hb dX9_sheet_51 (by decide) (fun c_24 => ?_) (fun c_24 => ?_)
          · skip
            obtain ⟨y_25, hy_25, rfl⟩ := xrange2 (w := 40) (by omega) c_23 c_24
            refine lv_aload_n hx hb dX9_sheet_61 rfl (lv_at hl 0 rfl) ?_
            refine xg hF kf_X9_43 hK hP 0 rfl rfl dX9_sheet_62 ?_
            refine lv_iload_n hx hb dX9_sheet_65 rfl (lv_at hl 1 rfl) ?_
            refine lv_iload_n hx hb dX9_sheet_66 rfl (lv_at hl 2 rfl) ?_
            refine va_iast hx hb hK hP hD hS 1 0 rfl rfl (xin 3 4 (by decide) (by decide)) dX9_sheet_67 (fun H locs hP hD hS => ?_)
            obtain ⟨f_26, ef_26⟩ : ∃ g, g = upd bi 3 p1 := ⟨_, rfl⟩
            have hP : va_P D vwCl [(h0, .inr (9, [.ref ys, .ref yk, .ref yo, .ref yt, .int mk0, .ref yfa, .ref yfe, .int mL, .int mS, .int mM, .ref yro, .ref yhe, .ref ygr, .int mF, .int mC, .int mY, .ref yta, .int (nI (mz)), .int (nI (mf)), .int (nI (mt)), .int mv, .int mw, .ref ywa, .ref ybi, .ref ysi, .ref ynu, .ref ymo])), (ybi, .inl (cI, 4, .inl (upd bi 3 p1))), (ysi, .inl (cI, 4, .inl sq)), (ynu, .inl (cJ, 160, .inr (.inl nb))), (yt, .inl (cI, 7, .inl mq))] H := hP
            have hD : va_D A [(h0, .inr (9, [.ref ys, .ref yk, .ref yo, .ref yt, .int mk0, .ref yfa, .ref yfe, .int mL, .int mS, .int mM, .ref yro, .ref yhe, .ref ygr, .int mF, .int mC, .int mY, .ref yta, .int (nI (mz)), .int (nI (mf)), .int (nI (mt)), .int mv, .int mw, .ref ywa, .ref ybi, .ref ysi, .ref ynu, .ref ymo])), (ybi, .inl (cI, 4, .inl (upd bi 3 p1))), (ysi, .inl (cI, 4, .inl sq)), (ynu, .inl (cJ, 160, .inr (.inl nb))), (yt, .inl (cI, 7, .inl mq))] := hD
            rw [← ef_26] at hP hD
            have hP : va_P D vwCl [(h0, .inr (9, [.ref ys, .ref yk, .ref yo, .ref yt, .int mk0, .ref yfa, .ref yfe, .int mL, .int mS, .int mM, .ref yro, .ref yhe, .ref ygr, .int mF, .int mC, .int mY, .ref yta, .int (nI (mz)), .int (nI (mf)), .int (nI (mt)), .int mv, .int mw, .ref ywa, .ref ybi, .ref ysi, .ref ynu, .ref ymo])), (ybi, .inl (cI, 4, .inl f_26)), (ysi, .inl (cI, 4, .inl sq)), (ynu, .inl (cJ, 160, .inr (.inl nb))), (yt, .inl (cI, 7, .inl mq))] H := hP
            have hD : va_D A [(h0, .inr (9, [.ref ys, .ref yk, .ref yo, .ref yt, .int mk0, .ref yfa, .ref yfe, .int mL, .int mS, .int mM, .ref yro, .ref yhe, .ref ygr, .int mF, .int mC, .int mY, .ref yta, .int (nI (mz)), .int (nI (mf)), .int (nI (mt)), .int mv, .int mw, .ref ywa, .ref ybi, .ref ysi, .ref ynu, .ref ymo])), (ybi, .inl (cI, 4, .inl f_26)), (ysi, .inl (cI, 4, .inl sq)), (ynu, .inl (cJ, 160, .inr (.inl nb))), (yt, .inl (cI, 7, .inl mq))] := hD
            refine lv_aload_n hx hb dX9_sheet_68 rfl (lv_at hl 0 rfl) ?_
            refine xg hF kf_X9_46 hK hP 0 rfl rfl dX9_sheet_69 ?_
            refine lv_iload_n hx hb dX9_sheet_72 rfl (lv_at hl 1 rfl) ?_
            refine lv_iload_n hx hb dX9_sheet_73 rfl (lv_at hl 2 rfl) ?_
            refine lv_if_ne (tgt := 81) hx hb dX9_sheet_74 (by decide) (fun c_27 => ?_) (fun c_27 => ?_)
            · skip
              refine lv_iload_n hx hb dX9_sheet_81 rfl (lv_at hl 3 rfl) ?_
              refine va_iast hx hb hK hP hD hS 2 0 rfl rfl (xin 3 4 (by decide) (by decide)) dX9_sheet_82 (fun H locs hP hD hS => ?_)
              obtain ⟨f_28, ef_28⟩ : ∃ g, g = upd sq 3 (nI (y_25)) := ⟨_, rfl⟩
              have hP : va_P D vwCl [(h0, .inr (9, [.ref ys, .ref yk, .ref yo, .ref yt, .int mk0, .ref yfa, .ref yfe, .int mL, .int mS, .int mM, .ref yro, .ref yhe, .ref ygr, .int mF, .int mC, .int mY, .ref yta, .int (nI (mz)), .int (nI (mf)), .int (nI (mt)), .int mv, .int mw, .ref ywa, .ref ybi, .ref ysi, .ref ynu, .ref ymo])), (ybi, .inl (cI, 4, .inl f_26)), (ysi, .inl (cI, 4, .inl (upd sq 3 (nI (y_25))))), (ynu, .inl (cJ, 160, .inr (.inl nb))), (yt, .inl (cI, 7, .inl mq))] H := hP
              have hD : va_D A [(h0, .inr (9, [.ref ys, .ref yk, .ref yo, .ref yt, .int mk0, .ref yfa, .ref yfe, .int mL, .int mS, .int mM, .ref yro, .ref yhe, .ref ygr, .int mF, .int mC, .int mY, .ref yta, .int (nI (mz)), .int (nI (mf)), .int (nI (mt)), .int mv, .int mw, .ref ywa, .ref ybi, .ref ysi, .ref ynu, .ref ymo])), (ybi, .inl (cI, 4, .inl f_26)), (ysi, .inl (cI, 4, .inl (upd sq 3 (nI (y_25))))), (ynu, .inl (cJ, 160, .inr (.inl nb))), (yt, .inl (cI, 7, .inl mq))] := hD
              rw [← ef_28] at hP hD
              have hf_28 : BA 4 41 f_28 := by rw [ef_28]; exact BA.upd hsq (show y_25 < 41 by omega)
              have hP : va_P D vwCl [(h0, .inr (9, [.ref ys, .ref yk, .ref yo, .ref yt, .int mk0, .ref yfa, .ref yfe, .int mL, .int mS, .int mM, .ref yro, .ref yhe, .ref ygr, .int mF, .int mC, .int mY, .ref yta, .int (nI (mz)), .int (nI (mf)), .int (nI (mt)), .int mv, .int mw, .ref ywa, .ref ybi, .ref ysi, .ref ynu, .ref ymo])), (ybi, .inl (cI, 4, .inl f_26)), (ysi, .inl (cI, 4, .inl f_28)), (ynu, .inl (cJ, 160, .inr (.inl nb))), (yt, .inl (cI, 7, .inl mq))] H := hP
              have hD : va_D A [(h0, .inr (9, [.ref ys, .ref yk, .ref yo, .ref yt, .int mk0, .ref yfa, .ref yfe, .int mL, .int mS, .int mM, .ref yro, .ref yhe, .ref ygr, .int mF, .int mC, .int mY, .ref yta, .int (nI (mz)), .int (nI (mf)), .int (nI (mt)), .int mv, .int mw, .ref ywa, .ref ybi, .ref ysi, .ref ynu, .ref ymo])), (ybi, .inl (cI, 4, .inl f_26)), (ysi, .inl (cI, 4, .inl f_28)), (ynu, .inl (cJ, 160, .inr (.inl nb))), (yt, .inl (cI, 7, .inl mq))] := hD
              refine lv_iconst (v := 0) hx hb dX9_sheet_83 (by decide) ?_
              refine lv_istore (lv' := [(4, .int 0), (0, .ref h0), (1, .int 3), (2, .int p1), (3, .int (nI (y_25)))]) hx hb dX9_sheet_84 hl (by decide) rfl (fun ls hl => ?_)
              suffices loop_86 : ∀ (n_86 : Nat) (i : Nat) (n8 : Nat → Int64) (H : Heap) (locs : List Loc) (ls : Array Slot), 40 - i < n_86 → (i ≤ 40) → (∀ j, 120 ≤ j → j < 120 + i → n8 j = 0) → (∀ j, j < 120 ∨ 160 ≤ j → n8 j = nb j) → va_P D vwCl [(h0, .inr (9, [.ref ys, .ref yk, .ref yo, .ref yt, .int mk0, .ref yfa, .ref yfe, .int mL, .int mS, .int mM, .ref yro, .ref yhe, .ref ygr, .int mF, .int mC, .int mY, .ref yta, .int (nI (mz)), .int (nI (mf)), .int (nI (mt)), .int mv, .int mw, .ref ywa, .ref ybi, .ref ysi, .ref ynu, .ref ymo])), (ybi, .inl (cI, 4, .inl f_26)), (ysi, .inl (cI, 4, .inl f_28)), (ynu, .inl (cJ, 160, .inr (.inl n8))), (yt, .inl (cI, 7, .inl mq))] H → va_D A [(h0, .inr (9, [.ref ys, .ref yk, .ref yo, .ref yt, .int mk0, .ref yfa, .ref yfe, .int mL, .int mS, .int mM, .ref yro, .ref yhe, .ref ygr, .int mF, .int mC, .int mY, .ref yta, .int (nI (mz)), .int (nI (mf)), .int (nI (mt)), .int mv, .int mw, .ref ywa, .ref ybi, .ref ysi, .ref ynu, .ref ymo])), (ybi, .inl (cI, 4, .inl f_26)), (ysi, .inl (cI, 4, .inl f_28)), (ynu, .inl (cJ, 160, .inr (.inl n8))), (yt, .inl (cI, 7, .inl mq))] → va_S A s.heap H locs → lv_has ls 5 [(4, .int (nI (i))), (0, .ref h0), (1, .int 3), (2, .int p1), (3, .int (nI (y_25)))] → W p l e ({ frames := 2, cells := 0, slots := 0, locals := 45 }) s m ([.ref h0, .int 3, .int p1, .int (nI (y_25))] : List Value).toArray below meth c H locs 0 0 (MQ below (XQi (fun (r : Int32) (u : (Nat → Int32) × (Nat → Int32) × (Nat → Int64) × (Nat → Int32)) => match u with | (bi2, sq2, nb2, mq2) => ((r = a_sheet 3 p1 (nI (y_25)))) ∧ (bi2 3 = sp_sb p1 (nI (y_25)) (bi 3)) ∧ (∀ j, j ≠ 3 → bi2 j = bi j) ∧ (sq2 3 = nI (sp_sz p1 (nI (y_25)) zq)) ∧ (∀ j, j ≠ 3 → sq2 j = sq j) ∧ (∀ j, j < 40 → nb2 (120 + j) = sp_sn p1 (nI (y_25)) (nb (120 + j))) ∧ (∀ j, j < 120 ∨ 160 ≤ j → nb2 j = nb j) ∧ (BA 4 41 sq2)) D (fun (u : (Nat → Int32) × (Nat → Int32) × (Nat → Int64) × (Nat → Int32)) => match u with | (bi2, sq2, nb2, mq2) => [(h0, .inr (9, [.ref ys, .ref yk, .ref yo, .ref yt, .int mk0, .ref yfa, .ref yfe, .int mL, .int mS, .int mM, .ref yro, .ref yhe, .ref ygr, .int mF, .int mC, .int mY, .ref yta, .int (nI (mz)), .int (nI (mf)), .int (nI (mt)), .int mv, .int mw, .ref ywa, .ref ybi, .ref ysi, .ref ynu, .ref ymo])), (ybi, .inl (cI, 4, .inl bi2)), (ysi, .inl (cI, 4, .inl sq2)), (ynu, .inl (cJ, 160, .inr (.inl nb2))), (yt, .inl (cI, 7, .inl mq2))]) A) ([.ref h0, .int 3, .int p1, .int (nI (y_25))] : List Value).toArray s 0 0 A) (F0 m 86 ls []) by
                exact loop_86 _ 0 nb _ _ _ (Nat.lt_succ_self _) (by omega) (fun j h1 h2 => absurd h1 (by omega)) (fun _ _ => rfl) hP hD hS (lv_sub hl [0, 1, 2, 3, 4] rfl)
              intro n_86
              induction n_86 with
              | zero =>
                intro i n8 H locs ls hm_86
                exact absurd hm_86 (Nat.not_lt_zero _)
              | succ n_86 ih_86 =>
                intro i n8 H locs ls hm_86 hi hf8 hg8 hP hD hS hl
                refine lv_iload hx hb dX9_sheet_86 (lv_at hl 0 rfl) ?_
                refine lv_bipush (v := 40) hx hb dX9_sheet_88 (by decide) ?_
                refine lv_icmp_ge (tgt := 112) hx hb dX9_sheet_90 (by decide) (fun c_29 => ?_) (fun c_29 => ?_)
                · skip
                  have nc_29 : 40 ≤ i := xn_le (a := 40) (b := i) (by omega) (by omega) c_29
                  refine lv_aload_n hx hb dX9_sheet_112 rfl (lv_at hl 1 rfl) ?_
                  refine xg hF kf_X9_46 hK hP 0 rfl rfl dX9_sheet_113 ?_
                  refine lv_iload_n hx hb dX9_sheet_116 rfl (lv_at hl 2 rfl) ?_
                  refine va_iald hx hb hK hP 2 0 rfl rfl (xin 3 4 (by decide) (by decide)) dX9_sheet_117 ?_
                  refine xl_i (y := f_28 3) (congrArg f_28 rfl) ?_
                  refine xl_i (y := nI (y_25)) (by rw [ef_28]; exact pk_us) ?_
                  exact W.iret (v := nI (y_25)) hx hb hr (fun t ht hW => ⟨⟨nI (y_25), (f_26, f_28, n8, mq), rfl, ⟨p_sheet6 (by decide) (by decide) (by first | exact Or.inl (by assumption) | exact Or.inr (Or.inl (by assumption)) | exact Or.inr (Or.inr (Or.inl (by assumption))) | exact Or.inr (Or.inr (Or.inr (by assumption)))) (nI_pos (by omega)) (x_le40 (by omega)) (by assumption), (by rw [ef_26]; exact pk_us.trans (if_pos ⟨(by first | exact Or.inl (by assumption) | exact Or.inr (Or.inl (by assumption)) | exact Or.inr (Or.inr (Or.inl (by assumption))) | exact Or.inr (Or.inr (Or.inr (by assumption)))), nI_pos (by omega), x_le40 (by omega)⟩).symm), (fun j hj => by rw [ef_26]; exact pk_un hj), (by rw [ef_28]; exact pk_us.trans (congrArg nI (sp_z1 ⟨(by first | exact Or.inl (by assumption) | exact Or.inr (Or.inl (by assumption)) | exact Or.inr (Or.inr (Or.inl (by assumption))) | exact Or.inr (Or.inr (Or.inr (by assumption)))), nI_pos (by omega), x_le40 (by omega)⟩ (by assumption) (by omega)))), (fun j hj => by rw [ef_28]; exact pk_un hj), (fun j hj => (hf8 (120 + j) (by omega) (by omega)).trans (if_pos ⟨(by first | exact Or.inl (by assumption) | exact Or.inr (Or.inl (by assumption)) | exact Or.inr (Or.inr (Or.inl (by assumption))) | exact Or.inr (Or.inr (Or.inr (by assumption)))), nI_pos (by omega), x_le40 (by omega)⟩).symm), (fun j hj => hg8 j hj), hf_28⟩, by rw [ht]; exact hP.sub [0, 1, 2, 3, 4] rfl, hD.sub [0, 1, 2, 3, 4] (by decide +kernel) rfl⟩, hS.F ht⟩) hS.2.2 dX9_sheet_118 hlk
                · skip
                  have nc_29 : i < 40 := xn_nle (a := 40) (b := i) (by omega) (by omega) c_29
                  refine lv_aload_n hx hb dX9_sheet_93 rfl (lv_at hl 1 rfl) ?_
                  refine xg hF kf_X9_49 hK hP 0 rfl rfl dX9_sheet_94 ?_
                  refine lv_bipush (v := 40) hx hb dX9_sheet_97 (by decide) ?_
                  refine lv_iload_n hx hb dX9_sheet_99 rfl (lv_at hl 2 rfl) ?_
                  refine lv_imul hx hb dX9_sheet_100 ?_
                  refine xl_i (y := 120) (by decide) ?_
                  refine lv_iload hx hb dX9_sheet_101 (lv_at hl 0 rfl) ?_
                  refine lv_iadd hx hb dX9_sheet_103 ?_
                  refine xl_i (y := nI (120 + i)) (nI_add 120 i) ?_
                  refine lv_lconst (v := 0) hx hb dX9_sheet_104 (by decide) ?_
                  refine va_last hx hb hK hP hD hS 3 1 rfl rfl (vp_in_nI (show 120 + i < 160 by omega) (by decide)) dX9_sheet_105 (fun H locs hP hD hS => ?_)
                  rw [nI_clamp (show 120 + i < 2 ^ 31 by omega)] at hP hD
                  obtain ⟨f_30, ef_30⟩ : ∃ g, g = vp_updL n8 (120 + i) 0 := ⟨_, rfl⟩
                  rw [← ef_30] at hP hD
                  have hP : va_P D vwCl [(h0, .inr (9, [.ref ys, .ref yk, .ref yo, .ref yt, .int mk0, .ref yfa, .ref yfe, .int mL, .int mS, .int mM, .ref yro, .ref yhe, .ref ygr, .int mF, .int mC, .int mY, .ref yta, .int (nI (mz)), .int (nI (mf)), .int (nI (mt)), .int mv, .int mw, .ref ywa, .ref ybi, .ref ysi, .ref ynu, .ref ymo])), (ybi, .inl (cI, 4, .inl f_26)), (ysi, .inl (cI, 4, .inl f_28)), (ynu, .inl (cJ, 160, .inr (.inl f_30))), (yt, .inl (cI, 7, .inl mq))] H := hP
                  have hD : va_D A [(h0, .inr (9, [.ref ys, .ref yk, .ref yo, .ref yt, .int mk0, .ref yfa, .ref yfe, .int mL, .int mS, .int mM, .ref yro, .ref yhe, .ref ygr, .int mF, .int mC, .int mY, .ref yta, .int (nI (mz)), .int (nI (mf)), .int (nI (mt)), .int mv, .int mw, .ref ywa, .ref ybi, .ref ysi, .ref ynu, .ref ymo])), (ybi, .inl (cI, 4, .inl f_26)), (ysi, .inl (cI, 4, .inl f_28)), (ynu, .inl (cJ, 160, .inr (.inl f_30))), (yt, .inl (cI, 7, .inl mq))] := hD
                  refine lv_iinc (v := nI (i + 1)) (lv' := [(4, .int (nI (i + 1))), (0, .ref h0), (1, .int 3), (2, .int p1), (3, .int (nI (y_25)))]) hx hb dX9_sheet_106 hl (k := 0) rfl (nI_1 (i)) (by decide) rfl (fun ls hl => ?_)
                  refine lv_goto (tgt := 86) hx hb dX9_sheet_109 (by decide) ?_
                  exact ih_86 (i + 1) f_30 _ _ _ (by omega) (by omega) (sp_fil hf8 ef_30) (sp_fio hg8 (by omega) (by omega) ef_30) (hP.sub [0, 1, 2, 3, 4] rfl) (hD.sub [0, 1, 2, 3, 4] (by decide +kernel) rfl) hS (lv_sub hl [0, 1, 2, 3, 4] rfl)
            · skip
              refine lv_iconst (v := 0) hx hb dX9_sheet_77 (by decide) ?_
              refine lv_goto (tgt := 82) hx hb dX9_sheet_78 (by decide) ?_
              refine va_iast hx hb hK hP hD hS 2 0 rfl rfl (xin 3 4 (by decide) (by decide)) dX9_sheet_82 (fun H locs hP hD hS => ?_)
              obtain ⟨f_31, ef_31⟩ : ∃ g, g = upd sq 3 0 := ⟨_, rfl⟩
              have hP : va_P D vwCl [(h0, .inr (9, [.ref ys, .ref yk, .ref yo, .ref yt, .int mk0, .ref yfa, .ref yfe, .int mL, .int mS, .int mM, .ref yro, .ref yhe, .ref ygr, .int mF, .int mC, .int mY, .ref yta, .int (nI (mz)), .int (nI (mf)), .int (nI (mt)), .int mv, .int mw, .ref ywa, .ref ybi, .ref ysi, .ref ynu, .ref ymo])), (ybi, .inl (cI, 4, .inl f_26)), (ysi, .inl (cI, 4, .inl (upd sq 3 0))), (ynu, .inl (cJ, 160, .inr (.inl nb))), (yt, .inl (cI, 7, .inl mq))] H := hP
              have hD : va_D A [(h0, .inr (9, [.ref ys, .ref yk, .ref yo, .ref yt, .int mk0, .ref yfa, .ref yfe, .int mL, .int mS, .int mM, .ref yro, .ref yhe, .ref ygr, .int mF, .int mC, .int mY, .ref yta, .int (nI (mz)), .int (nI (mf)), .int (nI (mt)), .int mv, .int mw, .ref ywa, .ref ybi, .ref ysi, .ref ynu, .ref ymo])), (ybi, .inl (cI, 4, .inl f_26)), (ysi, .inl (cI, 4, .inl (upd sq 3 0))), (ynu, .inl (cJ, 160, .inr (.inl nb))), (yt, .inl (cI, 7, .inl mq))] := hD
              rw [← ef_31] at hP hD
              have hf_31 : BA 4 41 f_31 := by rw [ef_31]; exact BA.upd hsq (show 0 < 41 by omega)
              have hP : va_P D vwCl [(h0, .inr (9, [.ref ys, .ref yk, .ref yo, .ref yt, .int mk0, .ref yfa, .ref yfe, .int mL, .int mS, .int mM, .ref yro, .ref yhe, .ref ygr, .int mF, .int mC, .int mY, .ref yta, .int (nI (mz)), .int (nI (mf)), .int (nI (mt)), .int mv, .int mw, .ref ywa, .ref ybi, .ref ysi, .ref ynu, .ref ymo])), (ybi, .inl (cI, 4, .inl f_26)), (ysi, .inl (cI, 4, .inl f_31)), (ynu, .inl (cJ, 160, .inr (.inl nb))), (yt, .inl (cI, 7, .inl mq))] H := hP
              have hD : va_D A [(h0, .inr (9, [.ref ys, .ref yk, .ref yo, .ref yt, .int mk0, .ref yfa, .ref yfe, .int mL, .int mS, .int mM, .ref yro, .ref yhe, .ref ygr, .int mF, .int mC, .int mY, .ref yta, .int (nI (mz)), .int (nI (mf)), .int (nI (mt)), .int mv, .int mw, .ref ywa, .ref ybi, .ref ysi, .ref ynu, .ref ymo])), (ybi, .inl (cI, 4, .inl f_26)), (ysi, .inl (cI, 4, .inl f_31)), (ynu, .inl (cJ, 160, .inr (.inl nb))), (yt, .inl (cI, 7, .inl mq))] := hD
              refine lv_iconst (v := 0) hx hb dX9_sheet_83 (by decide) ?_
              refine lv_istore (lv' := [(4, .int 0), (0, .ref h0), (1, .int 3), (2, .int p1), (3, .int (nI (y_25)))]) hx hb dX9_sheet_84 hl (by decide) rfl (fun ls hl => ?_)
              suffices loop_86 : ∀ (n_86 : Nat) (i : Nat) (n8 : Nat → Int64) (H : Heap) (locs : List Loc) (ls : Array Slot), 40 - i < n_86 → (i ≤ 40) → (∀ j, 120 ≤ j → j < 120 + i → n8 j = 0) → (∀ j, j < 120 ∨ 160 ≤ j → n8 j = nb j) → va_P D vwCl [(h0, .inr (9, [.ref ys, .ref yk, .ref yo, .ref yt, .int mk0, .ref yfa, .ref yfe, .int mL, .int mS, .int mM, .ref yro, .ref yhe, .ref ygr, .int mF, .int mC, .int mY, .ref yta, .int (nI (mz)), .int (nI (mf)), .int (nI (mt)), .int mv, .int mw, .ref ywa, .ref ybi, .ref ysi, .ref ynu, .ref ymo])), (ybi, .inl (cI, 4, .inl f_26)), (ysi, .inl (cI, 4, .inl f_31)), (ynu, .inl (cJ, 160, .inr (.inl n8))), (yt, .inl (cI, 7, .inl mq))] H → va_D A [(h0, .inr (9, [.ref ys, .ref yk, .ref yo, .ref yt, .int mk0, .ref yfa, .ref yfe, .int mL, .int mS, .int mM, .ref yro, .ref yhe, .ref ygr, .int mF, .int mC, .int mY, .ref yta, .int (nI (mz)), .int (nI (mf)), .int (nI (mt)), .int mv, .int mw, .ref ywa, .ref ybi, .ref ysi, .ref ynu, .ref ymo])), (ybi, .inl (cI, 4, .inl f_26)), (ysi, .inl (cI, 4, .inl f_31)), (ynu, .inl (cJ, 160, .inr (.inl n8))), (yt, .inl (cI, 7, .inl mq))] → va_S A s.heap H locs → lv_has ls 5 [(4, .int (nI (i))), (0, .ref h0), (1, .int 3), (2, .int p1), (3, .int (nI (y_25)))] → W p l e ({ frames := 2, cells := 0, slots := 0, locals := 45 }) s m ([.ref h0, .int 3, .int p1, .int (nI (y_25))] : List Value).toArray below meth c H locs 0 0 (MQ below (XQi (fun (r : Int32) (u : (Nat → Int32) × (Nat → Int32) × (Nat → Int64) × (Nat → Int32)) => match u with | (bi2, sq2, nb2, mq2) => ((r = a_sheet 3 p1 (nI (y_25)))) ∧ (bi2 3 = sp_sb p1 (nI (y_25)) (bi 3)) ∧ (∀ j, j ≠ 3 → bi2 j = bi j) ∧ (sq2 3 = nI (sp_sz p1 (nI (y_25)) zq)) ∧ (∀ j, j ≠ 3 → sq2 j = sq j) ∧ (∀ j, j < 40 → nb2 (120 + j) = sp_sn p1 (nI (y_25)) (nb (120 + j))) ∧ (∀ j, j < 120 ∨ 160 ≤ j → nb2 j = nb j) ∧ (BA 4 41 sq2)) D (fun (u : (Nat → Int32) × (Nat → Int32) × (Nat → Int64) × (Nat → Int32)) => match u with | (bi2, sq2, nb2, mq2) => [(h0, .inr (9, [.ref ys, .ref yk, .ref yo, .ref yt, .int mk0, .ref yfa, .ref yfe, .int mL, .int mS, .int mM, .ref yro, .ref yhe, .ref ygr, .int mF, .int mC, .int mY, .ref yta, .int (nI (mz)), .int (nI (mf)), .int (nI (mt)), .int mv, .int mw, .ref ywa, .ref ybi, .ref ysi, .ref ynu, .ref ymo])), (ybi, .inl (cI, 4, .inl bi2)), (ysi, .inl (cI, 4, .inl sq2)), (ynu, .inl (cJ, 160, .inr (.inl nb2))), (yt, .inl (cI, 7, .inl mq2))]) A) ([.ref h0, .int 3, .int p1, .int (nI (y_25))] : List Value).toArray s 0 0 A) (F0 m 86 ls []) by
                exact loop_86 _ 0 nb _ _ _ (Nat.lt_succ_self _) (by omega) (fun j h1 h2 => absurd h1 (by omega)) (fun _ _ => rfl) hP hD hS (lv_sub hl [0, 1, 2, 3, 4] rfl)
              intro n_86
              induction n_86 with
              | zero =>
                intro i n8 H locs ls hm_86
                exact absurd hm_86 (Nat.not_lt_zero _)
              | succ n_86 ih_86 =>
                intro i n8 H locs ls hm_86 hi hf8 hg8 hP hD hS hl
                refine lv_iload hx hb dX9_sheet_86 (lv_at hl 0 rfl) ?_
                refine lv_bipush (v := 40) hx hb dX9_sheet_88 (by decide) ?_
                refine lv_icmp_ge (tgt := 112) hx hb dX9_sheet_90 (by decide) (fun c_32 => ?_) (fun c_32 => ?_)
                · skip
                  have nc_32 : 40 ≤ i := xn_le (a := 40) (b := i) (by omega) (by omega) c_32
                  refine lv_aload_n hx hb dX9_sheet_112 rfl (lv_at hl 1 rfl) ?_
                  refine xg hF kf_X9_46 hK hP 0 rfl rfl dX9_sheet_113 ?_
                  refine lv_iload_n hx hb dX9_sheet_116 rfl (lv_at hl 2 rfl) ?_
                  refine va_iald hx hb hK hP 2 0 rfl rfl (xin 3 4 (by decide) (by decide)) dX9_sheet_117 ?_
                  refine xl_i (y := f_31 3) (congrArg f_31 rfl) ?_
                  refine xl_i (y := 0) (by rw [ef_31]; exact pk_us) ?_
                  exact W.iret (v := 0) hx hb hr (fun t ht hW => ⟨⟨0, (f_26, f_31, n8, mq), rfl, ⟨p_sheet5 (by decide) (by decide) c_27 (nI_pos (by omega)) (x_le40 (by omega)), (by rw [ef_26]; exact pk_us.trans (if_pos ⟨(by first | exact Or.inl (by assumption) | exact Or.inr (Or.inl (by assumption)) | exact Or.inr (Or.inr (Or.inl (by assumption))) | exact Or.inr (Or.inr (Or.inr (by assumption)))), nI_pos (by omega), x_le40 (by omega)⟩).symm), (fun j hj => by rw [ef_26]; exact pk_un hj), (by rw [ef_31]; exact pk_us.trans (congrArg nI (sp_z0 ⟨(by first | exact Or.inl (by assumption) | exact Or.inr (Or.inl (by assumption)) | exact Or.inr (Or.inr (Or.inl (by assumption))) | exact Or.inr (Or.inr (Or.inr (by assumption)))), nI_pos (by omega), x_le40 (by omega)⟩ c_27))), (fun j hj => by rw [ef_31]; exact pk_un hj), (fun j hj => (hf8 (120 + j) (by omega) (by omega)).trans (if_pos ⟨(by first | exact Or.inl (by assumption) | exact Or.inr (Or.inl (by assumption)) | exact Or.inr (Or.inr (Or.inl (by assumption))) | exact Or.inr (Or.inr (Or.inr (by assumption)))), nI_pos (by omega), x_le40 (by omega)⟩).symm), (fun j hj => hg8 j hj), hf_31⟩, by rw [ht]; exact hP.sub [0, 1, 2, 3, 4] rfl, hD.sub [0, 1, 2, 3, 4] (by decide +kernel) rfl⟩, hS.F ht⟩) hS.2.2 dX9_sheet_118 hlk
                · skip
                  have nc_32 : i < 40 := xn_nle (a := 40) (b := i) (by omega) (by omega) c_32
                  refine lv_aload_n hx hb dX9_sheet_93 rfl (lv_at hl 1 rfl) ?_
                  refine xg hF kf_X9_49 hK hP 0 rfl rfl dX9_sheet_94 ?_
                  refine lv_bipush (v := 40) hx hb dX9_sheet_97 (by decide) ?_
                  refine lv_iload_n hx hb dX9_sheet_99 rfl (lv_at hl 2 rfl) ?_
                  refine lv_imul hx hb dX9_sheet_100 ?_
                  refine xl_i (y := 120) (by decide) ?_
                  refine lv_iload hx hb dX9_sheet_101 (lv_at hl 0 rfl) ?_
                  refine lv_iadd hx hb dX9_sheet_103 ?_
                  refine xl_i (y := nI (120 + i)) (nI_add 120 i) ?_
                  refine lv_lconst (v := 0) hx hb dX9_sheet_104 (by decide) ?_
                  refine va_last hx hb hK hP hD hS 3 1 rfl rfl (vp_in_nI (show 120 + i < 160 by omega) (by decide)) dX9_sheet_105 (fun H locs hP hD hS => ?_)
                  rw [nI_clamp (show 120 + i < 2 ^ 31 by omega)] at hP hD
                  obtain ⟨f_33, ef_33⟩ : ∃ g, g = vp_updL n8 (120 + i) 0 := ⟨_, rfl⟩
                  rw [← ef_33] at hP hD
                  have hP : va_P D vwCl [(h0, .inr (9, [.ref ys, .ref yk, .ref yo, .ref yt, .int mk0, .ref yfa, .ref yfe, .int mL, .int mS, .int mM, .ref yro, .ref yhe, .ref ygr, .int mF, .int mC, .int mY, .ref yta, .int (nI (mz)), .int (nI (mf)), .int (nI (mt)), .int mv, .int mw, .ref ywa, .ref ybi, .ref ysi, .ref ynu, .ref ymo])), (ybi, .inl (cI, 4, .inl f_26)), (ysi, .inl (cI, 4, .inl f_31)), (ynu, .inl (cJ, 160, .inr (.inl f_33))), (yt, .inl (cI, 7, .inl mq))] H := hP
                  have hD : va_D A [(h0, .inr (9, [.ref ys, .ref yk, .ref yo, .ref yt, .int mk0, .ref yfa, .ref yfe, .int mL, .int mS, .int mM, .ref yro, .ref yhe, .ref ygr, .int mF, .int mC, .int mY, .ref yta, .int (nI (mz)), .int (nI (mf)), .int (nI (mt)), .int mv, .int mw, .ref ywa, .ref ybi, .ref ysi, .ref ynu, .ref ymo])), (ybi, .inl (cI, 4, .inl f_26)), (ysi, .inl (cI, 4, .inl f_31)), (ynu, .inl (cJ, 160, .inr (.inl f_33))), (yt, .inl (cI, 7, .inl mq))] := hD
                  refine lv_iinc (v := nI (i + 1)) (lv' := [(4, .int (nI (i + 1))), (0, .ref h0), (1, .int 3), (2, .int p1), (3, .int (nI (y_25)))]) hx hb dX9_sheet_106 hl (k := 0) rfl (nI_1 (i)) (by decide) rfl (fun ls hl => ?_)
                  refine lv_goto (tgt := 86) hx hb dX9_sheet_109 (by decide) ?_
                  exact ih_86 (i + 1) f_33 _ _ _ (by omega) (by omega) (sp_fil hf8 ef_33) (sp_fio hg8 (by omega) (by omega) ef_33) (hP.sub [0, 1, 2, 3, 4] rfl) (hD.sub [0, 1, 2, 3, 4] (by decide +kernel) rfl) hS (lv_sub hl [0, 1, 2, 3, 4] rfl)
          · skip
            refine lv_aload_n hx hb dX9_sheet_54 rfl (lv_at hl 0 rfl) ?_
            refine lv_ldc (v := (-1000000001)) hx hb hown (hu _ uw648) dX9_sheet_55 ?_
            refine xc_Vi (wr := [(ybi, .inl (cI, 4, .inl bi)), (ysi, .inl (cI, 4, .inl sq)), (ynu, .inl (cJ, 160, .inr (.inl nb)))]) hF (c_X9_finds_B l D cI cJ cZ cS ta sa sv s.heap.size h0 ys yk yo yt mk0 yfa yfe mL mS mM yro yhe ygr mF mC mY yta mz mf mt mv mw ywa ybi ysi ynu ymo mq ) kv_X9_70 ⟨rfl, rfl, Nat.le_of_ble_eq_true rfl, Nat.le_of_ble_eq_true rfl⟩ ⟨Nat.le_of_ble_eq_true rfl, Nat.le_of_ble_eq_true rfl⟩ hK hN hZ hP hD hS hA [0, 4] [1, 2, 3] rfl rfl rfl rfl (by decide) 0 rfl rfl rfl rfl hl.1 rfl (Nat.le_of_ble_eq_true rfl) dX9_sheet_57 (fun r_34 u_r_34 H locs hw_r_34 hP hD hS => ?_)
            obtain ⟨mq2_35, rfl⟩ : ∃ z, z = u_r_34 := ⟨_, rfl⟩
            try dsimp only at hw_r_34
            have hP : va_P D vwCl [(ybi, .inl (cI, 4, .inl bi)), (ysi, .inl (cI, 4, .inl sq)), (ynu, .inl (cJ, 160, .inr (.inl nb))), (h0, .inr (9, [.ref ys, .ref yk, .ref yo, .ref yt, .int mk0, .ref yfa, .ref yfe, .int mL, .int mS, .int mM, .ref yro, .ref yhe, .ref ygr, .int mF, .int mC, .int mY, .ref yta, .int (nI (mz)), .int (nI (mf)), .int (nI (mt)), .int mv, .int mw, .ref ywa, .ref ybi, .ref ysi, .ref ynu, .ref ymo])), (yt, .inl (cI, 7, .inl mq2_35))] H := hP
            have hD : va_D A [(ybi, .inl (cI, 4, .inl bi)), (ysi, .inl (cI, 4, .inl sq)), (ynu, .inl (cJ, 160, .inr (.inl nb))), (h0, .inr (9, [.ref ys, .ref yk, .ref yo, .ref yt, .int mk0, .ref yfa, .ref yfe, .int mL, .int mS, .int mM, .ref yro, .ref yhe, .ref ygr, .int mF, .int mC, .int mY, .ref yta, .int (nI (mz)), .int (nI (mf)), .int (nI (mt)), .int mv, .int mw, .ref ywa, .ref ybi, .ref ysi, .ref ynu, .ref ymo])), (yt, .inl (cI, 7, .inl mq2_35))] := hD
            subst hw_r_34
            exact W.iret (v := (-1000000001)) hx hb hr (fun t ht hW => ⟨⟨(-1000000001), (bi, sq, nb, mq2_35), rfl, ⟨p_sheet4 (by decide) (by decide) (by first | exact Or.inl (by assumption) | exact Or.inr (Or.inl (by assumption)) | exact Or.inr (Or.inr (Or.inl (by assumption))) | exact Or.inr (Or.inr (Or.inr (by assumption)))) (fun h => absurd c_23 (Int32.not_le.mpr h)) (xlt c_24), (if_neg (sp_n4 (xlt c_24))).symm, (fun _ _ => rfl), (ez.trans (congrArg nI (if_neg (sp_n4 (xlt c_24))).symm)), (fun _ _ => rfl), (fun j hj => (if_neg (sp_n4 (xlt c_24))).symm), (fun _ _ => rfl), hsq⟩, by rw [ht]; exact hP.sub [3, 0, 1, 2, 4] rfl, hD.sub [3, 0, 1, 2, 4] (by decide +kernel) rfl⟩, hS.F ht⟩) hS.2.2 dX9_sheet_60 hlk
        · skip
          refine lv_aload_n hx hb dX9_sheet_40 rfl (lv_at hl 0 rfl) ?_
          refine lv_ldcw (v := (-1000000007)) hx hb hown (hu _ uw923) dX9_sheet_41 ?_
          refine xc_Vi (wr := [(ybi, .inl (cI, 4, .inl bi)), (ysi, .inl (cI, 4, .inl sq)), (ynu, .inl (cJ, 160, .inr (.inl nb)))]) hF (c_X9_finds_S l D cI cJ cZ cS ta sa sv s.heap.size h0 ys yk yo yt mk0 yfa yfe mL mS mM yro yhe ygr mF mC mY yta mz mf mt mv mw ywa ybi ysi ynu ymo mq ) kv_X9_70 ⟨rfl, rfl, Nat.le_of_ble_eq_true rfl, Nat.le_of_ble_eq_true rfl⟩ ⟨Nat.le_of_ble_eq_true rfl, Nat.le_of_ble_eq_true rfl⟩ hK hN hZ hP hD hS hA [0, 4] [1, 2, 3] rfl rfl rfl rfl (by decide) 0 rfl rfl rfl rfl hl.1 rfl (Nat.le_of_ble_eq_true rfl) dX9_sheet_44 (fun r_36 u_r_36 H locs hw_r_36 hP hD hS => ?_)
          obtain ⟨mq2_37, rfl⟩ : ∃ z, z = u_r_36 := ⟨_, rfl⟩
          try dsimp only at hw_r_36
          have hP : va_P D vwCl [(ybi, .inl (cI, 4, .inl bi)), (ysi, .inl (cI, 4, .inl sq)), (ynu, .inl (cJ, 160, .inr (.inl nb))), (h0, .inr (9, [.ref ys, .ref yk, .ref yo, .ref yt, .int mk0, .ref yfa, .ref yfe, .int mL, .int mS, .int mM, .ref yro, .ref yhe, .ref ygr, .int mF, .int mC, .int mY, .ref yta, .int (nI (mz)), .int (nI (mf)), .int (nI (mt)), .int mv, .int mw, .ref ywa, .ref ybi, .ref ysi, .ref ynu, .ref ymo])), (yt, .inl (cI, 7, .inl mq2_37))] H := hP
          have hD : va_D A [(ybi, .inl (cI, 4, .inl bi)), (ysi, .inl (cI, 4, .inl sq)), (ynu, .inl (cJ, 160, .inr (.inl nb))), (h0, .inr (9, [.ref ys, .ref yk, .ref yo, .ref yt, .int mk0, .ref yfa, .ref yfe, .int mL, .int mS, .int mM, .ref yro, .ref yhe, .ref ygr, .int mF, .int mC, .int mY, .ref yta, .int (nI (mz)), .int (nI (mf)), .int (nI (mt)), .int mv, .int mw, .ref ywa, .ref ybi, .ref ysi, .ref ynu, .ref ymo])), (yt, .inl (cI, 7, .inl mq2_37))] := hD
          subst hw_r_36
          exact W.iret (v := (-1000000007)) hx hb hr (fun t ht hW => ⟨⟨(-1000000007), (bi, sq, nb, mq2_37), rfl, ⟨p_sheet3 (by decide) (by decide) (by first | exact Or.inl (by assumption) | exact Or.inr (Or.inl (by assumption)) | exact Or.inr (Or.inr (Or.inl (by assumption))) | exact Or.inr (Or.inr (Or.inr (by assumption)))) (xlt c_23), (if_neg (sp_n3 (xlt c_23))).symm, (fun _ _ => rfl), (ez.trans (congrArg nI (if_neg (sp_n3 (xlt c_23))).symm)), (fun _ _ => rfl), (fun j hj => (if_neg (sp_n3 (xlt c_23))).symm), (fun _ _ => rfl), hsq⟩, by rw [ht]; exact hP.sub [3, 0, 1, 2, 4] rfl, hD.sub [3, 0, 1, 2, 4] (by decide +kernel) rfl⟩, hS.F ht⟩) hS.2.2 dX9_sheet_47 hlk
      · skip
        refine lv_iload_n hx hb dX9_sheet_17 rfl (lv_at hl 2 rfl) ?_
        refine lv_bipush (v := 16) hx hb dX9_sheet_18 (by decide) ?_
        refine lv_icmp_eq (tgt := 36) hx hb dX9_sheet_20 (by decide) (fun c_38 => ?_) (fun c_38 => ?_)
        · skip
          refine lv_iload_n hx hb dX9_sheet_36 rfl (lv_at hl 3 rfl) ?_
          refine lv_if_ge (tgt := 48) hx hb dX9_sheet_37 (by decide) (fun c_39 => ?_) (fun c_39 => ?_)
          · skip
            refine lv_iload_n hx hb dX9_sheet_48 rfl (lv_at hl 3 rfl) ?_
            refine lv_bipush (v := 40) hx hb dX9_sheet_49 (by decide) ?_
            refine lv_icmp_le (tgt := 61) hx hb dX9_sheet_51 (by decide) (fun c_40 => ?_) (fun c_40 => ?_)
            · skip
              obtain ⟨y_41, hy_41, rfl⟩ := xrange2 (w := 40) (by omega) c_39 c_40
              refine lv_aload_n hx hb dX9_sheet_61 rfl (lv_at hl 0 rfl) ?_
              refine xg hF kf_X9_43 hK hP 0 rfl rfl dX9_sheet_62 ?_
              refine lv_iload_n hx hb dX9_sheet_65 rfl (lv_at hl 1 rfl) ?_
              refine lv_iload_n hx hb dX9_sheet_66 rfl (lv_at hl 2 rfl) ?_
              refine va_iast hx hb hK hP hD hS 1 0 rfl rfl (xin 3 4 (by decide) (by decide)) dX9_sheet_67 (fun H locs hP hD hS => ?_)
              obtain ⟨f_42, ef_42⟩ : ∃ g, g = upd bi 3 p1 := ⟨_, rfl⟩
              have hP : va_P D vwCl [(h0, .inr (9, [.ref ys, .ref yk, .ref yo, .ref yt, .int mk0, .ref yfa, .ref yfe, .int mL, .int mS, .int mM, .ref yro, .ref yhe, .ref ygr, .int mF, .int mC, .int mY, .ref yta, .int (nI (mz)), .int (nI (mf)), .int (nI (mt)), .int mv, .int mw, .ref ywa, .ref ybi, .ref ysi, .ref ynu, .ref ymo])), (ybi, .inl (cI, 4, .inl (upd bi 3 p1))), (ysi, .inl (cI, 4, .inl sq)), (ynu, .inl (cJ, 160, .inr (.inl nb))), (yt, .inl (cI, 7, .inl mq))] H := hP
              have hD : va_D A [(h0, .inr (9, [.ref ys, .ref yk, .ref yo, .ref yt, .int mk0, .ref yfa, .ref yfe, .int mL, .int mS, .int mM, .ref yro, .ref yhe, .ref ygr, .int mF, .int mC, .int mY, .ref yta, .int (nI (mz)), .int (nI (mf)), .int (nI (mt)), .int mv, .int mw, .ref ywa, .ref ybi, .ref ysi, .ref ynu, .ref ymo])), (ybi, .inl (cI, 4, .inl (upd bi 3 p1))), (ysi, .inl (cI, 4, .inl sq)), (ynu, .inl (cJ, 160, .inr (.inl nb))), (yt, .inl (cI, 7, .inl mq))] := hD
              rw [← ef_42] at hP hD
              have hP : va_P D vwCl [(h0, .inr (9, [.ref ys, .ref yk, .ref yo, .ref yt, .int mk0, .ref yfa, .ref yfe, .int mL, .int mS, .int mM, .ref yro, .ref yhe, .ref ygr, .int mF, .int mC, .int mY, .ref yta, .int (nI (mz)), .int (nI (mf)), .int (nI (mt)), .int mv, .int mw, .ref ywa, .ref ybi, .ref ysi, .ref ynu, .ref ymo])), (ybi, .inl (cI, 4, .inl f_42)), (ysi, .inl (cI, 4, .inl sq)), (ynu, .inl (cJ, 160, .inr (.inl nb))), (yt, .inl (cI, 7, .inl mq))] H := hP
              have hD : va_D A [(h0, .inr (9, [.ref ys, .ref yk, .ref yo, .ref yt, .int mk0, .ref yfa, .ref yfe, .int mL, .int mS, .int mM, .ref yro, .ref yhe, .ref ygr, .int mF, .int mC, .int mY, .ref yta, .int (nI (mz)), .int (nI (mf)), .int (nI (mt)), .int mv, .int mw, .ref ywa, .ref ybi, .ref ysi, .ref ynu, .ref ymo])), (ybi, .inl (cI, 4, .inl f_42)), (ysi, .inl (cI, 4, .inl sq)), (ynu, .inl (cJ, 160, .inr (.inl nb))), (yt, .inl (cI, 7, .inl mq))] := hD
              refine lv_aload_n hx hb dX9_sheet_68 rfl (lv_at hl 0 rfl) ?_
              refine xg hF kf_X9_46 hK hP 0 rfl rfl dX9_sheet_69 ?_
              refine lv_iload_n hx hb dX9_sheet_72 rfl (lv_at hl 1 rfl) ?_
              refine lv_iload_n hx hb dX9_sheet_73 rfl (lv_at hl 2 rfl) ?_
              refine lv_if_ne (tgt := 81) hx hb dX9_sheet_74 (by decide) (fun c_43 => ?_) (fun c_43 => ?_)
              · skip
                refine lv_iload_n hx hb dX9_sheet_81 rfl (lv_at hl 3 rfl) ?_
                refine va_iast hx hb hK hP hD hS 2 0 rfl rfl (xin 3 4 (by decide) (by decide)) dX9_sheet_82 (fun H locs hP hD hS => ?_)
                obtain ⟨f_44, ef_44⟩ : ∃ g, g = upd sq 3 (nI (y_41)) := ⟨_, rfl⟩
                have hP : va_P D vwCl [(h0, .inr (9, [.ref ys, .ref yk, .ref yo, .ref yt, .int mk0, .ref yfa, .ref yfe, .int mL, .int mS, .int mM, .ref yro, .ref yhe, .ref ygr, .int mF, .int mC, .int mY, .ref yta, .int (nI (mz)), .int (nI (mf)), .int (nI (mt)), .int mv, .int mw, .ref ywa, .ref ybi, .ref ysi, .ref ynu, .ref ymo])), (ybi, .inl (cI, 4, .inl f_42)), (ysi, .inl (cI, 4, .inl (upd sq 3 (nI (y_41))))), (ynu, .inl (cJ, 160, .inr (.inl nb))), (yt, .inl (cI, 7, .inl mq))] H := hP
                have hD : va_D A [(h0, .inr (9, [.ref ys, .ref yk, .ref yo, .ref yt, .int mk0, .ref yfa, .ref yfe, .int mL, .int mS, .int mM, .ref yro, .ref yhe, .ref ygr, .int mF, .int mC, .int mY, .ref yta, .int (nI (mz)), .int (nI (mf)), .int (nI (mt)), .int mv, .int mw, .ref ywa, .ref ybi, .ref ysi, .ref ynu, .ref ymo])), (ybi, .inl (cI, 4, .inl f_42)), (ysi, .inl (cI, 4, .inl (upd sq 3 (nI (y_41))))), (ynu, .inl (cJ, 160, .inr (.inl nb))), (yt, .inl (cI, 7, .inl mq))] := hD
                rw [← ef_44] at hP hD
                have hf_44 : BA 4 41 f_44 := by rw [ef_44]; exact BA.upd hsq (show y_41 < 41 by omega)
                have hP : va_P D vwCl [(h0, .inr (9, [.ref ys, .ref yk, .ref yo, .ref yt, .int mk0, .ref yfa, .ref yfe, .int mL, .int mS, .int mM, .ref yro, .ref yhe, .ref ygr, .int mF, .int mC, .int mY, .ref yta, .int (nI (mz)), .int (nI (mf)), .int (nI (mt)), .int mv, .int mw, .ref ywa, .ref ybi, .ref ysi, .ref ynu, .ref ymo])), (ybi, .inl (cI, 4, .inl f_42)), (ysi, .inl (cI, 4, .inl f_44)), (ynu, .inl (cJ, 160, .inr (.inl nb))), (yt, .inl (cI, 7, .inl mq))] H := hP
                have hD : va_D A [(h0, .inr (9, [.ref ys, .ref yk, .ref yo, .ref yt, .int mk0, .ref yfa, .ref yfe, .int mL, .int mS, .int mM, .ref yro, .ref yhe, .ref ygr, .int mF, .int mC, .int mY, .ref yta, .int (nI (mz)), .int (nI (mf)), .int (nI (mt)), .int mv, .int mw, .ref ywa, .ref ybi, .ref ysi, .ref ynu, .ref ymo])), (ybi, .inl (cI, 4, .inl f_42)), (ysi, .inl (cI, 4, .inl f_44)), (ynu, .inl (cJ, 160, .inr (.inl nb))), (yt, .inl (cI, 7, .inl mq))] := hD
                refine lv_iconst (v := 0) hx hb dX9_sheet_83 (by decide) ?_
                refine lv_istore (lv' := [(4, .int 0), (0, .ref h0), (1, .int 3), (2, .int p1), (3, .int (nI (y_41)))]) hx hb dX9_sheet_84 hl (by decide) rfl (fun ls hl => ?_)
                suffices loop_86 : ∀ (n_86 : Nat) (i : Nat) (n8 : Nat → Int64) (H : Heap) (locs : List Loc) (ls : Array Slot), 40 - i < n_86 → (i ≤ 40) → (∀ j, 120 ≤ j → j < 120 + i → n8 j = 0) → (∀ j, j < 120 ∨ 160 ≤ j → n8 j = nb j) → va_P D vwCl [(h0, .inr (9, [.ref ys, .ref yk, .ref yo, .ref yt, .int mk0, .ref yfa, .ref yfe, .int mL, .int mS, .int mM, .ref yro, .ref yhe, .ref ygr, .int mF, .int mC, .int mY, .ref yta, .int (nI (mz)), .int (nI (mf)), .int (nI (mt)), .int mv, .int mw, .ref ywa, .ref ybi, .ref ysi, .ref ynu, .ref ymo])), (ybi, .inl (cI, 4, .inl f_42)), (ysi, .inl (cI, 4, .inl f_44)), (ynu, .inl (cJ, 160, .inr (.inl n8))), (yt, .inl (cI, 7, .inl mq))] H → va_D A [(h0, .inr (9, [.ref ys, .ref yk, .ref yo, .ref yt, .int mk0, .ref yfa, .ref yfe, .int mL, .int mS, .int mM, .ref yro, .ref yhe, .ref ygr, .int mF, .int mC, .int mY, .ref yta, .int (nI (mz)), .int (nI (mf)), .int (nI (mt)), .int mv, .int mw, .ref ywa, .ref ybi, .ref ysi, .ref ynu, .ref ymo])), (ybi, .inl (cI, 4, .inl f_42)), (ysi, .inl (cI, 4, .inl f_44)), (ynu, .inl (cJ, 160, .inr (.inl n8))), (yt, .inl (cI, 7, .inl mq))] → va_S A s.heap H locs → lv_has ls 5 [(4, .int (nI (i))), (0, .ref h0), (1, .int 3), (2, .int p1), (3, .int (nI (y_41)))] → W p l e ({ frames := 2, cells := 0, slots := 0, locals := 45 }) s m ([.ref h0, .int 3, .int p1, .int (nI (y_41))] : List Value).toArray below meth c H locs 0 0 (MQ below (XQi (fun (r : Int32) (u : (Nat → Int32) × (Nat → Int32) × (Nat → Int64) × (Nat → Int32)) => match u with | (bi2, sq2, nb2, mq2) => ((r = a_sheet 3 p1 (nI (y_41)))) ∧ (bi2 3 = sp_sb p1 (nI (y_41)) (bi 3)) ∧ (∀ j, j ≠ 3 → bi2 j = bi j) ∧ (sq2 3 = nI (sp_sz p1 (nI (y_41)) zq)) ∧ (∀ j, j ≠ 3 → sq2 j = sq j) ∧ (∀ j, j < 40 → nb2 (120 + j) = sp_sn p1 (nI (y_41)) (nb (120 + j))) ∧ (∀ j, j < 120 ∨ 160 ≤ j → nb2 j = nb j) ∧ (BA 4 41 sq2)) D (fun (u : (Nat → Int32) × (Nat → Int32) × (Nat → Int64) × (Nat → Int32)) => match u with | (bi2, sq2, nb2, mq2) => [(h0, .inr (9, [.ref ys, .ref yk, .ref yo, .ref yt, .int mk0, .ref yfa, .ref yfe, .int mL, .int mS, .int mM, .ref yro, .ref yhe, .ref ygr, .int mF, .int mC, .int mY, .ref yta, .int (nI (mz)), .int (nI (mf)), .int (nI (mt)), .int mv, .int mw, .ref ywa, .ref ybi, .ref ysi, .ref ynu, .ref ymo])), (ybi, .inl (cI, 4, .inl bi2)), (ysi, .inl (cI, 4, .inl sq2)), (ynu, .inl (cJ, 160, .inr (.inl nb2))), (yt, .inl (cI, 7, .inl mq2))]) A) ([.ref h0, .int 3, .int p1, .int (nI (y_41))] : List Value).toArray s 0 0 A) (F0 m 86 ls []) by
                  exact loop_86 _ 0 nb _ _ _ (Nat.lt_succ_self _) (by omega) (fun j h1 h2 => absurd h1 (by omega)) (fun _ _ => rfl) hP hD hS (lv_sub hl [0, 1, 2, 3, 4] rfl)
                intro n_86
                induction n_86 with
                | zero =>
                  intro i n8 H locs ls hm_86
                  exact absurd hm_86 (Nat.not_lt_zero _)
                | succ n_86 ih_86 =>
                  intro i n8 H locs ls hm_86 hi hf8 hg8 hP hD hS hl
                  refine lv_iload hx hb dX9_sheet_86 (lv_at hl 0 rfl) ?_
                  refine lv_bipush (v := 40) hx hb dX9_sheet_88 (by decide) ?_
                  refine lv_icmp_ge (tgt := 112) hx hb dX9_sheet_90 (by decide) (fun c_45 => ?_) (fun c_45 => ?_)
                  · skip
                    have nc_45 : 40 ≤ i := xn_le (a := 40) (b := i) (by omega) (by omega) c_45
                    refine lv_aload_n hx hb dX9_sheet_112 rfl (lv_at hl 1 rfl) ?_
                    refine xg hF kf_X9_46 hK hP 0 rfl rfl dX9_sheet_113 ?_
                    refine lv_iload_n hx hb dX9_sheet_116 rfl (lv_at hl 2 rfl) ?_
                    refine va_iald hx hb hK hP 2 0 rfl rfl (xin 3 4 (by decide) (by decide)) dX9_sheet_117 ?_
                    refine xl_i (y := f_44 3) (congrArg f_44 rfl) ?_
                    refine xl_i (y := nI (y_41)) (by rw [ef_44]; exact pk_us) ?_
                    exact W.iret (v := nI (y_41)) hx hb hr (fun t ht hW => ⟨⟨nI (y_41), (f_42, f_44, n8, mq), rfl, ⟨p_sheet6 (by decide) (by decide) (by first | exact Or.inl (by assumption) | exact Or.inr (Or.inl (by assumption)) | exact Or.inr (Or.inr (Or.inl (by assumption))) | exact Or.inr (Or.inr (Or.inr (by assumption)))) (nI_pos (by omega)) (x_le40 (by omega)) (by assumption), (by rw [ef_42]; exact pk_us.trans (if_pos ⟨(by first | exact Or.inl (by assumption) | exact Or.inr (Or.inl (by assumption)) | exact Or.inr (Or.inr (Or.inl (by assumption))) | exact Or.inr (Or.inr (Or.inr (by assumption)))), nI_pos (by omega), x_le40 (by omega)⟩).symm), (fun j hj => by rw [ef_42]; exact pk_un hj), (by rw [ef_44]; exact pk_us.trans (congrArg nI (sp_z1 ⟨(by first | exact Or.inl (by assumption) | exact Or.inr (Or.inl (by assumption)) | exact Or.inr (Or.inr (Or.inl (by assumption))) | exact Or.inr (Or.inr (Or.inr (by assumption)))), nI_pos (by omega), x_le40 (by omega)⟩ (by assumption) (by omega)))), (fun j hj => by rw [ef_44]; exact pk_un hj), (fun j hj => (hf8 (120 + j) (by omega) (by omega)).trans (if_pos ⟨(by first | exact Or.inl (by assumption) | exact Or.inr (Or.inl (by assumption)) | exact Or.inr (Or.inr (Or.inl (by assumption))) | exact Or.inr (Or.inr (Or.inr (by assumption)))), nI_pos (by omega), x_le40 (by omega)⟩).symm), (fun j hj => hg8 j hj), hf_44⟩, by rw [ht]; exact hP.sub [0, 1, 2, 3, 4] rfl, hD.sub [0, 1, 2, 3, 4] (by decide +kernel) rfl⟩, hS.F ht⟩) hS.2.2 dX9_sheet_118 hlk
                  · skip
                    have nc_45 : i < 40 := xn_nle (a := 40) (b := i) (by omega) (by omega) c_45
                    refine lv_aload_n hx hb dX9_sheet_93 rfl (lv_at hl 1 rfl) ?_
                    refine xg hF kf_X9_49 hK hP 0 rfl rfl dX9_sheet_94 ?_
                    refine lv_bipush (v := 40) hx hb dX9_sheet_97 (by decide) ?_
                    refine lv_iload_n hx hb dX9_sheet_99 rfl (lv_at hl 2 rfl) ?_
                    refine lv_imul hx hb dX9_sheet_100 ?_
                    refine xl_i (y := 120) (by decide) ?_
                    refine lv_iload hx hb dX9_sheet_101 (lv_at hl 0 rfl) ?_
                    refine lv_iadd hx hb dX9_sheet_103 ?_
                    refine xl_i (y := nI (120 + i)) (nI_add 120 i) ?_
                    refine lv_lconst (v := 0) hx hb dX9_sheet_104 (by decide) ?_
                    refine va_last hx hb hK hP hD hS 3 1 rfl rfl (vp_in_nI (show 120 + i < 160 by omega) (by decide)) dX9_sheet_105 (fun H locs hP hD hS => ?_)
                    rw [nI_clamp (show 120 + i < 2 ^ 31 by omega)] at hP hD
                    obtain ⟨f_46, ef_46⟩ : ∃ g, g = vp_updL n8 (120 + i) 0 := ⟨_, rfl⟩
                    rw [← ef_46] at hP hD
                    have hP : va_P D vwCl [(h0, .inr (9, [.ref ys, .ref yk, .ref yo, .ref yt, .int mk0, .ref yfa, .ref yfe, .int mL, .int mS, .int mM, .ref yro, .ref yhe, .ref ygr, .int mF, .int mC, .int mY, .ref yta, .int (nI (mz)), .int (nI (mf)), .int (nI (mt)), .int mv, .int mw, .ref ywa, .ref ybi, .ref ysi, .ref ynu, .ref ymo])), (ybi, .inl (cI, 4, .inl f_42)), (ysi, .inl (cI, 4, .inl f_44)), (ynu, .inl (cJ, 160, .inr (.inl f_46))), (yt, .inl (cI, 7, .inl mq))] H := hP
                    have hD : va_D A [(h0, .inr (9, [.ref ys, .ref yk, .ref yo, .ref yt, .int mk0, .ref yfa, .ref yfe, .int mL, .int mS, .int mM, .ref yro, .ref yhe, .ref ygr, .int mF, .int mC, .int mY, .ref yta, .int (nI (mz)), .int (nI (mf)), .int (nI (mt)), .int mv, .int mw, .ref ywa, .ref ybi, .ref ysi, .ref ynu, .ref ymo])), (ybi, .inl (cI, 4, .inl f_42)), (ysi, .inl (cI, 4, .inl f_44)), (ynu, .inl (cJ, 160, .inr (.inl f_46))), (yt, .inl (cI, 7, .inl mq))] := hD
                    refine lv_iinc (v := nI (i + 1)) (lv' := [(4, .int (nI (i + 1))), (0, .ref h0), (1, .int 3), (2, .int p1), (3, .int (nI (y_41)))]) hx hb dX9_sheet_106 hl (k := 0) rfl (nI_1 (i)) (by decide) rfl (fun ls hl => ?_)
                    refine lv_goto (tgt := 86) hx hb dX9_sheet_109 (by decide) ?_
                    exact ih_86 (i + 1) f_46 _ _ _ (by omega) (by omega) (sp_fil hf8 ef_46) (sp_fio hg8 (by omega) (by omega) ef_46) (hP.sub [0, 1, 2, 3, 4] rfl) (hD.sub [0, 1, 2, 3, 4] (by decide +kernel) rfl) hS (lv_sub hl [0, 1, 2, 3, 4] rfl)
              · skip
                refine lv_iconst (v := 0) hx hb dX9_sheet_77 (by decide) ?_
                refine lv_goto (tgt := 82) hx hb dX9_sheet_78 (by decide) ?_
                refine va_iast hx hb hK hP hD hS 2 0 rfl rfl (xin 3 4 (by decide) (by decide)) dX9_sheet_82 (fun H locs hP hD hS => ?_)
                obtain ⟨f_47, ef_47⟩ : ∃ g, g = upd sq 3 0 := ⟨_, rfl⟩
                have hP : va_P D vwCl [(h0, .inr (9, [.ref ys, .ref yk, .ref yo, .ref yt, .int mk0, .ref yfa, .ref yfe, .int mL, .int mS, .int mM, .ref yro, .ref yhe, .ref ygr, .int mF, .int mC, .int mY, .ref yta, .int (nI (mz)), .int (nI (mf)), .int (nI (mt)), .int mv, .int mw, .ref ywa, .ref ybi, .ref ysi, .ref ynu, .ref ymo])), (ybi, .inl (cI, 4, .inl f_42)), (ysi, .inl (cI, 4, .inl (upd sq 3 0))), (ynu, .inl (cJ, 160, .inr (.inl nb))), (yt, .inl (cI, 7, .inl mq))] H := hP
                have hD : va_D A [(h0, .inr (9, [.ref ys, .ref yk, .ref yo, .ref yt, .int mk0, .ref yfa, .ref yfe, .int mL, .int mS, .int mM, .ref yro, .ref yhe, .ref ygr, .int mF, .int mC, .int mY, .ref yta, .int (nI (mz)), .int (nI (mf)), .int (nI (mt)), .int mv, .int mw, .ref ywa, .ref ybi, .ref ysi, .ref ynu, .ref ymo])), (ybi, .inl (cI, 4, .inl f_42)), (ysi, .inl (cI, 4, .inl (upd sq 3 0))), (ynu, .inl (cJ, 160, .inr (.inl nb))), (yt, .inl (cI, 7, .inl mq))] := hD
                rw [← ef_47] at hP hD
                have hf_47 : BA 4 41 f_47 := by rw [ef_47]; exact BA.upd hsq (show 0 < 41 by omega)
                have hP : va_P D vwCl [(h0, .inr (9, [.ref ys, .ref yk, .ref yo, .ref yt, .int mk0, .ref yfa, .ref yfe, .int mL, .int mS, .int mM, .ref yro, .ref yhe, .ref ygr, .int mF, .int mC, .int mY, .ref yta, .int (nI (mz)), .int (nI (mf)), .int (nI (mt)), .int mv, .int mw, .ref ywa, .ref ybi, .ref ysi, .ref ynu, .ref ymo])), (ybi, .inl (cI, 4, .inl f_42)), (ysi, .inl (cI, 4, .inl f_47)), (ynu, .inl (cJ, 160, .inr (.inl nb))), (yt, .inl (cI, 7, .inl mq))] H := hP
                have hD : va_D A [(h0, .inr (9, [.ref ys, .ref yk, .ref yo, .ref yt, .int mk0, .ref yfa, .ref yfe, .int mL, .int mS, .int mM, .ref yro, .ref yhe, .ref ygr, .int mF, .int mC, .int mY, .ref yta, .int (nI (mz)), .int (nI (mf)), .int (nI (mt)), .int mv, .int mw, .ref ywa, .ref ybi, .ref ysi, .ref ynu, .ref ymo])), (ybi, .inl (cI, 4, .inl f_42)), (ysi, .inl (cI, 4, .inl f_47)), (ynu, .inl (cJ, 160, .inr (.inl nb))), (yt, .inl (cI, 7, .inl mq))] := hD
                refine lv_iconst (v := 0) hx hb dX9_sheet_83 (by decide) ?_
                refine lv_istore (lv' := [(4, .int 0), (0, .ref h0), (1, .int 3), (2, .int p1), (3, .int (nI (y_41)))]) hx hb dX9_sheet_84 hl (by decide) rfl (fun ls hl => ?_)
                suffices loop_86 : ∀ (n_86 : Nat) (i : Nat) (n8 : Nat → Int64) (H : Heap) (locs : List Loc) (ls : Array Slot), 40 - i < n_86 → (i ≤ 40) → (∀ j, 120 ≤ j → j < 120 + i → n8 j = 0) → (∀ j, j < 120 ∨ 160 ≤ j → n8 j = nb j) → va_P D vwCl [(h0, .inr (9, [.ref ys, .ref yk, .ref yo, .ref yt, .int mk0, .ref yfa, .ref yfe, .int mL, .int mS, .int mM, .ref yro, .ref yhe, .ref ygr, .int mF, .int mC, .int mY, .ref yta, .int (nI (mz)), .int (nI (mf)), .int (nI (mt)), .int mv, .int mw, .ref ywa, .ref ybi, .ref ysi, .ref ynu, .ref ymo])), (ybi, .inl (cI, 4, .inl f_42)), (ysi, .inl (cI, 4, .inl f_47)), (ynu, .inl (cJ, 160, .inr (.inl n8))), (yt, .inl (cI, 7, .inl mq))] H → va_D A [(h0, .inr (9, [.ref ys, .ref yk, .ref yo, .ref yt, .int mk0, .ref yfa, .ref yfe, .int mL, .int mS, .int mM, .ref yro, .ref yhe, .ref ygr, .int mF, .int mC, .int mY, .ref yta, .int (nI (mz)), .int (nI (mf)), .int (nI (mt)), .int mv, .int mw, .ref ywa, .ref ybi, .ref ysi, .ref ynu, .ref ymo])), (ybi, .inl (cI, 4, .inl f_42)), (ysi, .inl (cI, 4, .inl f_47)), (ynu, .inl (cJ, 160, .inr (.inl n8))), (yt, .inl (cI, 7, .inl mq))] → va_S A s.heap H locs → lv_has ls 5 [(4, .int (nI (i))), (0, .ref h0), (1, .int 3), (2, .int p1), (3, .int (nI (y_41)))] → W p l e ({ frames := 2, cells := 0, slots := 0, locals := 45 }) s m ([.ref h0, .int 3, .int p1, .int (nI (y_41))] : List Value).toArray below meth c H locs 0 0 (MQ below (XQi (fun (r : Int32) (u : (Nat → Int32) × (Nat → Int32) × (Nat → Int64) × (Nat → Int32)) => match u with | (bi2, sq2, nb2, mq2) => ((r = a_sheet 3 p1 (nI (y_41)))) ∧ (bi2 3 = sp_sb p1 (nI (y_41)) (bi 3)) ∧ (∀ j, j ≠ 3 → bi2 j = bi j) ∧ (sq2 3 = nI (sp_sz p1 (nI (y_41)) zq)) ∧ (∀ j, j ≠ 3 → sq2 j = sq j) ∧ (∀ j, j < 40 → nb2 (120 + j) = sp_sn p1 (nI (y_41)) (nb (120 + j))) ∧ (∀ j, j < 120 ∨ 160 ≤ j → nb2 j = nb j) ∧ (BA 4 41 sq2)) D (fun (u : (Nat → Int32) × (Nat → Int32) × (Nat → Int64) × (Nat → Int32)) => match u with | (bi2, sq2, nb2, mq2) => [(h0, .inr (9, [.ref ys, .ref yk, .ref yo, .ref yt, .int mk0, .ref yfa, .ref yfe, .int mL, .int mS, .int mM, .ref yro, .ref yhe, .ref ygr, .int mF, .int mC, .int mY, .ref yta, .int (nI (mz)), .int (nI (mf)), .int (nI (mt)), .int mv, .int mw, .ref ywa, .ref ybi, .ref ysi, .ref ynu, .ref ymo])), (ybi, .inl (cI, 4, .inl bi2)), (ysi, .inl (cI, 4, .inl sq2)), (ynu, .inl (cJ, 160, .inr (.inl nb2))), (yt, .inl (cI, 7, .inl mq2))]) A) ([.ref h0, .int 3, .int p1, .int (nI (y_41))] : List Value).toArray s 0 0 A) (F0 m 86 ls []) by
                  exact loop_86 _ 0 nb _ _ _ (Nat.lt_succ_self _) (by omega) (fun j h1 h2 => absurd h1 (by omega)) (fun _ _ => rfl) hP hD hS (lv_sub hl [0, 1, 2, 3, 4] rfl)
                intro n_86
                induction n_86 with
                | zero =>
                  intro i n8 H locs ls hm_86
                  exact absurd hm_86 (Nat.not_lt_zero _)
                | succ n_86 ih_86 =>
                  intro i n8 H locs ls hm_86 hi hf8 hg8 hP hD hS hl
                  refine lv_iload hx hb dX9_sheet_86 (lv_at hl 0 rfl) ?_
                  refine lv_bipush (v := 40) hx hb dX9_sheet_88 (by decide) ?_
                  refine lv_icmp_ge (tgt := 112) hx hb dX9_sheet_90 (by decide) (fun c_48 => ?_) (fun c_48 => ?_)
                  · skip
                    have nc_48 : 40 ≤ i := xn_le (a := 40) (b := i) (by omega) (by omega) c_48
                    refine lv_aload_n hx hb dX9_sheet_112 rfl (lv_at hl 1 rfl) ?_
                    refine xg hF kf_X9_46 hK hP 0 rfl rfl dX9_sheet_113 ?_
                    refine lv_iload_n hx hb dX9_sheet_116 rfl (lv_at hl 2 rfl) ?_
                    refine va_iald hx hb hK hP 2 0 rfl rfl (xin 3 4 (by decide) (by decide)) dX9_sheet_117 ?_
                    refine xl_i (y := f_47 3) (congrArg f_47 rfl) ?_
                    refine xl_i (y := 0) (by rw [ef_47]; exact pk_us) ?_
                    exact W.iret (v := 0) hx hb hr (fun t ht hW => ⟨⟨0, (f_42, f_47, n8, mq), rfl, ⟨p_sheet5 (by decide) (by decide) c_43 (nI_pos (by omega)) (x_le40 (by omega)), (by rw [ef_42]; exact pk_us.trans (if_pos ⟨(by first | exact Or.inl (by assumption) | exact Or.inr (Or.inl (by assumption)) | exact Or.inr (Or.inr (Or.inl (by assumption))) | exact Or.inr (Or.inr (Or.inr (by assumption)))), nI_pos (by omega), x_le40 (by omega)⟩).symm), (fun j hj => by rw [ef_42]; exact pk_un hj), (by rw [ef_47]; exact pk_us.trans (congrArg nI (sp_z0 ⟨(by first | exact Or.inl (by assumption) | exact Or.inr (Or.inl (by assumption)) | exact Or.inr (Or.inr (Or.inl (by assumption))) | exact Or.inr (Or.inr (Or.inr (by assumption)))), nI_pos (by omega), x_le40 (by omega)⟩ c_43))), (fun j hj => by rw [ef_47]; exact pk_un hj), (fun j hj => (hf8 (120 + j) (by omega) (by omega)).trans (if_pos ⟨(by first | exact Or.inl (by assumption) | exact Or.inr (Or.inl (by assumption)) | exact Or.inr (Or.inr (Or.inl (by assumption))) | exact Or.inr (Or.inr (Or.inr (by assumption)))), nI_pos (by omega), x_le40 (by omega)⟩).symm), (fun j hj => hg8 j hj), hf_47⟩, by rw [ht]; exact hP.sub [0, 1, 2, 3, 4] rfl, hD.sub [0, 1, 2, 3, 4] (by decide +kernel) rfl⟩, hS.F ht⟩) hS.2.2 dX9_sheet_118 hlk
                  · skip
                    have nc_48 : i < 40 := xn_nle (a := 40) (b := i) (by omega) (by omega) c_48
                    refine lv_aload_n hx hb dX9_sheet_93 rfl (lv_at hl 1 rfl) ?_
                    refine xg hF kf_X9_49 hK hP 0 rfl rfl dX9_sheet_94 ?_
                    refine lv_bipush (v := 40) hx hb dX9_sheet_97 (by decide) ?_
                    refine lv_iload_n hx hb dX9_sheet_99 rfl (lv_at hl 2 rfl) ?_
                    refine lv_imul hx hb dX9_sheet_100 ?_
                    refine xl_i (y := 120) (by decide) ?_
                    refine lv_iload hx hb dX9_sheet_101 (lv_at hl 0 rfl) ?_
                    refine lv_iadd hx hb dX9_sheet_103 ?_
                    refine xl_i (y := nI (120 + i)) (nI_add 120 i) ?_
                    refine lv_lconst (v := 0) hx hb dX9_sheet_104 (by decide) ?_
                    refine va_last hx hb hK hP hD hS 3 1 rfl rfl (vp_in_nI (show 120 + i < 160 by omega) (by decide)) dX9_sheet_105 (fun H locs hP hD hS => ?_)
                    rw [nI_clamp (show 120 + i < 2 ^ 31 by omega)] at hP hD
                    obtain ⟨f_49, ef_49⟩ : ∃ g, g = vp_updL n8 (120 + i) 0 := ⟨_, rfl⟩
                    rw [← ef_49] at hP hD
                    have hP : va_P D vwCl [(h0, .inr (9, [.ref ys, .ref yk, .ref yo, .ref yt, .int mk0, .ref yfa, .ref yfe, .int mL, .int mS, .int mM, .ref yro, .ref yhe, .ref ygr, .int mF, .int mC, .int mY, .ref yta, .int (nI (mz)), .int (nI (mf)), .int (nI (mt)), .int mv, .int mw, .ref ywa, .ref ybi, .ref ysi, .ref ynu, .ref ymo])), (ybi, .inl (cI, 4, .inl f_42)), (ysi, .inl (cI, 4, .inl f_47)), (ynu, .inl (cJ, 160, .inr (.inl f_49))), (yt, .inl (cI, 7, .inl mq))] H := hP
                    have hD : va_D A [(h0, .inr (9, [.ref ys, .ref yk, .ref yo, .ref yt, .int mk0, .ref yfa, .ref yfe, .int mL, .int mS, .int mM, .ref yro, .ref yhe, .ref ygr, .int mF, .int mC, .int mY, .ref yta, .int (nI (mz)), .int (nI (mf)), .int (nI (mt)), .int mv, .int mw, .ref ywa, .ref ybi, .ref ysi, .ref ynu, .ref ymo])), (ybi, .inl (cI, 4, .inl f_42)), (ysi, .inl (cI, 4, .inl f_47)), (ynu, .inl (cJ, 160, .inr (.inl f_49))), (yt, .inl (cI, 7, .inl mq))] := hD
                    refine lv_iinc (v := nI (i + 1)) (lv' := [(4, .int (nI (i + 1))), (0, .ref h0), (1, .int 3), (2, .int p1), (3, .int (nI (y_41)))]) hx hb dX9_sheet_106 hl (k := 0) rfl (nI_1 (i)) (by decide) rfl (fun ls hl => ?_)
                    refine lv_goto (tgt := 86) hx hb dX9_sheet_109 (by decide) ?_
                    exact ih_86 (i + 1) f_49 _ _ _ (by omega) (by omega) (sp_fil hf8 ef_49) (sp_fio hg8 (by omega) (by omega) ef_49) (hP.sub [0, 1, 2, 3, 4] rfl) (hD.sub [0, 1, 2, 3, 4] (by decide +kernel) rfl) hS (lv_sub hl [0, 1, 2, 3, 4] rfl)
            · skip
              refine lv_aload_n hx hb dX9_sheet_54 rfl (lv_at hl 0 rfl) ?_
              refine lv_ldc (v := (-1000000001)) hx hb hown (hu _ uw648) dX9_sheet_55 ?_
              refine xc_Vi (wr := [(ybi, .inl (cI, 4, .inl bi)), (ysi, .inl (cI, 4, .inl sq)), (ynu, .inl (cJ, 160, .inr (.inl nb)))]) hF (c_X9_finds_B l D cI cJ cZ cS ta sa sv s.heap.size h0 ys yk yo yt mk0 yfa yfe mL mS mM yro yhe ygr mF mC mY yta mz mf mt mv mw ywa ybi ysi ynu ymo mq ) kv_X9_70 ⟨rfl, rfl, Nat.le_of_ble_eq_true rfl, Nat.le_of_ble_eq_true rfl⟩ ⟨Nat.le_of_ble_eq_true rfl, Nat.le_of_ble_eq_true rfl⟩ hK hN hZ hP hD hS hA [0, 4] [1, 2, 3] rfl rfl rfl rfl (by decide) 0 rfl rfl rfl rfl hl.1 rfl (Nat.le_of_ble_eq_true rfl) dX9_sheet_57 (fun r_50 u_r_50 H locs hw_r_50 hP hD hS => ?_)
              obtain ⟨mq2_51, rfl⟩ : ∃ z, z = u_r_50 := ⟨_, rfl⟩
              try dsimp only at hw_r_50
              have hP : va_P D vwCl [(ybi, .inl (cI, 4, .inl bi)), (ysi, .inl (cI, 4, .inl sq)), (ynu, .inl (cJ, 160, .inr (.inl nb))), (h0, .inr (9, [.ref ys, .ref yk, .ref yo, .ref yt, .int mk0, .ref yfa, .ref yfe, .int mL, .int mS, .int mM, .ref yro, .ref yhe, .ref ygr, .int mF, .int mC, .int mY, .ref yta, .int (nI (mz)), .int (nI (mf)), .int (nI (mt)), .int mv, .int mw, .ref ywa, .ref ybi, .ref ysi, .ref ynu, .ref ymo])), (yt, .inl (cI, 7, .inl mq2_51))] H := hP
              have hD : va_D A [(ybi, .inl (cI, 4, .inl bi)), (ysi, .inl (cI, 4, .inl sq)), (ynu, .inl (cJ, 160, .inr (.inl nb))), (h0, .inr (9, [.ref ys, .ref yk, .ref yo, .ref yt, .int mk0, .ref yfa, .ref yfe, .int mL, .int mS, .int mM, .ref yro, .ref yhe, .ref ygr, .int mF, .int mC, .int mY, .ref yta, .int (nI (mz)), .int (nI (mf)), .int (nI (mt)), .int mv, .int mw, .ref ywa, .ref ybi, .ref ysi, .ref ynu, .ref ymo])), (yt, .inl (cI, 7, .inl mq2_51))] := hD
              subst hw_r_50
              exact W.iret (v := (-1000000001)) hx hb hr (fun t ht hW => ⟨⟨(-1000000001), (bi, sq, nb, mq2_51), rfl, ⟨p_sheet4 (by decide) (by decide) (by first | exact Or.inl (by assumption) | exact Or.inr (Or.inl (by assumption)) | exact Or.inr (Or.inr (Or.inl (by assumption))) | exact Or.inr (Or.inr (Or.inr (by assumption)))) (fun h => absurd c_39 (Int32.not_le.mpr h)) (xlt c_40), (if_neg (sp_n4 (xlt c_40))).symm, (fun _ _ => rfl), (ez.trans (congrArg nI (if_neg (sp_n4 (xlt c_40))).symm)), (fun _ _ => rfl), (fun j hj => (if_neg (sp_n4 (xlt c_40))).symm), (fun _ _ => rfl), hsq⟩, by rw [ht]; exact hP.sub [3, 0, 1, 2, 4] rfl, hD.sub [3, 0, 1, 2, 4] (by decide +kernel) rfl⟩, hS.F ht⟩) hS.2.2 dX9_sheet_60 hlk
          · skip
            refine lv_aload_n hx hb dX9_sheet_40 rfl (lv_at hl 0 rfl) ?_
            refine lv_ldcw (v := (-1000000007)) hx hb hown (hu _ uw923) dX9_sheet_41 ?_
            refine xc_Vi (wr := [(ybi, .inl (cI, 4, .inl bi)), (ysi, .inl (cI, 4, .inl sq)), (ynu, .inl (cJ, 160, .inr (.inl nb)))]) hF (c_X9_finds_S l D cI cJ cZ cS ta sa sv s.heap.size h0 ys yk yo yt mk0 yfa yfe mL mS mM yro yhe ygr mF mC mY yta mz mf mt mv mw ywa ybi ysi ynu ymo mq ) kv_X9_70 ⟨rfl, rfl, Nat.le_of_ble_eq_true rfl, Nat.le_of_ble_eq_true rfl⟩ ⟨Nat.le_of_ble_eq_true rfl, Nat.le_of_ble_eq_true rfl⟩ hK hN hZ hP hD hS hA [0, 4] [1, 2, 3] rfl rfl rfl rfl (by decide) 0 rfl rfl rfl rfl hl.1 rfl (Nat.le_of_ble_eq_true rfl) dX9_sheet_44 (fun r_52 u_r_52 H locs hw_r_52 hP hD hS => ?_)
            obtain ⟨mq2_53, rfl⟩ : ∃ z, z = u_r_52 := ⟨_, rfl⟩
            try dsimp only at hw_r_52
            have hP : va_P D vwCl [(ybi, .inl (cI, 4, .inl bi)), (ysi, .inl (cI, 4, .inl sq)), (ynu, .inl (cJ, 160, .inr (.inl nb))), (h0, .inr (9, [.ref ys, .ref yk, .ref yo, .ref yt, .int mk0, .ref yfa, .ref yfe, .int mL, .int mS, .int mM, .ref yro, .ref yhe, .ref ygr, .int mF, .int mC, .int mY, .ref yta, .int (nI (mz)), .int (nI (mf)), .int (nI (mt)), .int mv, .int mw, .ref ywa, .ref ybi, .ref ysi, .ref ynu, .ref ymo])), (yt, .inl (cI, 7, .inl mq2_53))] H := hP
            have hD : va_D A [(ybi, .inl (cI, 4, .inl bi)), (ysi, .inl (cI, 4, .inl sq)), (ynu, .inl (cJ, 160, .inr (.inl nb))), (h0, .inr (9, [.ref ys, .ref yk, .ref yo, .ref yt, .int mk0, .ref yfa, .ref yfe, .int mL, .int mS, .int mM, .ref yro, .ref yhe, .ref ygr, .int mF, .int mC, .int mY, .ref yta, .int (nI (mz)), .int (nI (mf)), .int (nI (mt)), .int mv, .int mw, .ref ywa, .ref ybi, .ref ysi, .ref ynu, .ref ymo])), (yt, .inl (cI, 7, .inl mq2_53))] := hD
            subst hw_r_52
            exact W.iret (v := (-1000000007)) hx hb hr (fun t ht hW => ⟨⟨(-1000000007), (bi, sq, nb, mq2_53), rfl, ⟨p_sheet3 (by decide) (by decide) (by first | exact Or.inl (by assumption) | exact Or.inr (Or.inl (by assumption)) | exact Or.inr (Or.inr (Or.inl (by assumption))) | exact Or.inr (Or.inr (Or.inr (by assumption)))) (xlt c_39), (if_neg (sp_n3 (xlt c_39))).symm, (fun _ _ => rfl), (ez.trans (congrArg nI (if_neg (sp_n3 (xlt c_39))).symm)), (fun _ _ => rfl), (fun j hj => (if_neg (sp_n3 (xlt c_39))).symm), (fun _ _ => rfl), hsq⟩, by rw [ht]; exact hP.sub [3, 0, 1, 2, 4] rfl, hD.sub [3, 0, 1, 2, 4] (by decide +kernel) rfl⟩, hS.F ht⟩) hS.2.2 dX9_sheet_47 hlk
        · skip
          refine lv_iload_n hx hb dX9_sheet_23 rfl (lv_at hl 2 rfl) ?_
          refine lv_bipush (v := 64) hx hb dX9_sheet_24 (by decide) ?_
          refine lv_icmp_eq (tgt := 36) hx hb dX9_sheet_26 (by decide) (fun c_54 => ?_) (fun c_54 => ?_)
          · skip
            refine lv_iload_n hx hb dX9_sheet_36 rfl (lv_at hl 3 rfl) ?_
            refine lv_if_ge (tgt := 48) hx hb dX9_sheet_37 (by decide) (fun c_55 => ?_) (fun c_55 => ?_)
            · skip
              refine lv_iload_n hx hb dX9_sheet_48 rfl (lv_at hl 3 rfl) ?_
              refine lv_bipush (v := 40) hx hb dX9_sheet_49 (by decide) ?_
              refine lv_icmp_le (tgt := 61) hx hb dX9_sheet_51 (by decide) (fun c_56 => ?_) (fun c_56 => ?_)
              · skip
                obtain ⟨y_57, hy_57, rfl⟩ := xrange2 (w := 40) (by omega) c_55 c_56
                refine lv_aload_n hx hb dX9_sheet_61 rfl (lv_at hl 0 rfl) ?_
                refine xg hF kf_X9_43 hK hP 0 rfl rfl dX9_sheet_62 ?_
                refine lv_iload_n hx hb dX9_sheet_65 rfl (lv_at hl 1 rfl) ?_
                refine lv_iload_n hx hb dX9_sheet_66 rfl (lv_at hl 2 rfl) ?_
                refine va_iast hx hb hK hP hD hS 1 0 rfl rfl (xin 3 4 (by decide) (by decide)) dX9_sheet_67 (fun H locs hP hD hS => ?_)
                obtain ⟨f_58, ef_58⟩ : ∃ g, g = upd bi 3 p1 := ⟨_, rfl⟩
                have hP : va_P D vwCl [(h0, .inr (9, [.ref ys, .ref yk, .ref yo, .ref yt, .int mk0, .ref yfa, .ref yfe, .int mL, .int mS, .int mM, .ref yro, .ref yhe, .ref ygr, .int mF, .int mC, .int mY, .ref yta, .int (nI (mz)), .int (nI (mf)), .int (nI (mt)), .int mv, .int mw, .ref ywa, .ref ybi, .ref ysi, .ref ynu, .ref ymo])), (ybi, .inl (cI, 4, .inl (upd bi 3 p1))), (ysi, .inl (cI, 4, .inl sq)), (ynu, .inl (cJ, 160, .inr (.inl nb))), (yt, .inl (cI, 7, .inl mq))] H := hP
                have hD : va_D A [(h0, .inr (9, [.ref ys, .ref yk, .ref yo, .ref yt, .int mk0, .ref yfa, .ref yfe, .int mL, .int mS, .int mM, .ref yro, .ref yhe, .ref ygr, .int mF, .int mC, .int mY, .ref yta, .int (nI (mz)), .int (nI (mf)), .int (nI (mt)), .int mv, .int mw, .ref ywa, .ref ybi, .ref ysi, .ref ynu, .ref ymo])), (ybi, .inl (cI, 4, .inl (upd bi 3 p1))), (ysi, .inl (cI, 4, .inl sq)), (ynu, .inl (cJ, 160, .inr (.inl nb))), (yt, .inl (cI, 7, .inl mq))] := hD
                rw [← ef_58] at hP hD
                have hP : va_P D vwCl [(h0, .inr (9, [.ref ys, .ref yk, .ref yo, .ref yt, .int mk0, .ref yfa, .ref yfe, .int mL, .int mS, .int mM, .ref yro, .ref yhe, .ref ygr, .int mF, .int mC, .int mY, .ref yta, .int (nI (mz)), .int (nI (mf)), .int (nI (mt)), .int mv, .int mw, .ref ywa, .ref ybi, .ref ysi, .ref ynu, .ref ymo])), (ybi, .inl (cI, 4, .inl f_58)), (ysi, .inl (cI, 4, .inl sq)), (ynu, .inl (cJ, 160, .inr (.inl nb))), (yt, .inl (cI, 7, .inl mq))] H := hP
                have hD : va_D A [(h0, .inr (9, [.ref ys, .ref yk, .ref yo, .ref yt, .int mk0, .ref yfa, .ref yfe, .int mL, .int mS, .int mM, .ref yro, .ref yhe, .ref ygr, .int mF, .int mC, .int mY, .ref yta, .int (nI (mz)), .int (nI (mf)), .int (nI (mt)), .int mv, .int mw, .ref ywa, .ref ybi, .ref ysi, .ref ynu, .ref ymo])), (ybi, .inl (cI, 4, .inl f_58)), (ysi, .inl (cI, 4, .inl sq)), (ynu, .inl (cJ, 160, .inr (.inl nb))), (yt, .inl (cI, 7, .inl mq))] := hD
                refine lv_aload_n hx hb dX9_sheet_68 rfl (lv_at hl 0 rfl) ?_
                refine xg hF kf_X9_46 hK hP 0 rfl rfl dX9_sheet_69 ?_
                refine lv_iload_n hx hb dX9_sheet_72 rfl (lv_at hl 1 rfl) ?_
                refine lv_iload_n hx hb dX9_sheet_73 rfl (lv_at hl 2 rfl) ?_
                refine lv_if_ne (tgt := 81) hx hb dX9_sheet_74 (by decide) (fun c_59 => ?_) (fun c_59 => ?_)
                · skip
                  refine lv_iload_n hx hb dX9_sheet_81 rfl (lv_at hl 3 rfl) ?_
                  refine va_iast hx hb hK hP hD hS 2 0 rfl rfl (xin 3 4 (by decide) (by decide)) dX9_sheet_82 (fun H locs hP hD hS => ?_)
                  obtain ⟨f_60, ef_60⟩ : ∃ g, g = upd sq 3 (nI (y_57)) := ⟨_, rfl⟩
                  have hP : va_P D vwCl [(h0, .inr (9, [.ref ys, .ref yk, .ref yo, .ref yt, .int mk0, .ref yfa, .ref yfe, .int mL, .int mS, .int mM, .ref yro, .ref yhe, .ref ygr, .int mF, .int mC, .int mY, .ref yta, .int (nI (mz)), .int (nI (mf)), .int (nI (mt)), .int mv, .int mw, .ref ywa, .ref ybi, .ref ysi, .ref ynu, .ref ymo])), (ybi, .inl (cI, 4, .inl f_58)), (ysi, .inl (cI, 4, .inl (upd sq 3 (nI (y_57))))), (ynu, .inl (cJ, 160, .inr (.inl nb))), (yt, .inl (cI, 7, .inl mq))] H := hP
                  have hD : va_D A [(h0, .inr (9, [.ref ys, .ref yk, .ref yo, .ref yt, .int mk0, .ref yfa, .ref yfe, .int mL, .int mS, .int mM, .ref yro, .ref yhe, .ref ygr, .int mF, .int mC, .int mY, .ref yta, .int (nI (mz)), .int (nI (mf)), .int (nI (mt)), .int mv, .int mw, .ref ywa, .ref ybi, .ref ysi, .ref ynu, .ref ymo])), (ybi, .inl (cI, 4, .inl f_58)), (ysi, .inl (cI, 4, .inl (upd sq 3 (nI (y_57))))), (ynu, .inl (cJ, 160, .inr (.inl nb))), (yt, .inl (cI, 7, .inl mq))] := hD
                  rw [← ef_60] at hP hD
                  have hf_60 : BA 4 41 f_60 := by rw [ef_60]; exact BA.upd hsq (show y_57 < 41 by omega)
                  have hP : va_P D vwCl [(h0, .inr (9, [.ref ys, .ref yk, .ref yo, .ref yt, .int mk0, .ref yfa, .ref yfe, .int mL, .int mS, .int mM, .ref yro, .ref yhe, .ref ygr, .int mF, .int mC, .int mY, .ref yta, .int (nI (mz)), .int (nI (mf)), .int (nI (mt)), .int mv, .int mw, .ref ywa, .ref ybi, .ref ysi, .ref ynu, .ref ymo])), (ybi, .inl (cI, 4, .inl f_58)), (ysi, .inl (cI, 4, .inl f_60)), (ynu, .inl (cJ, 160, .inr (.inl nb))), (yt, .inl (cI, 7, .inl mq))] H := hP
                  have hD : va_D A [(h0, .inr (9, [.ref ys, .ref yk, .ref yo, .ref yt, .int mk0, .ref yfa, .ref yfe, .int mL, .int mS, .int mM, .ref yro, .ref yhe, .ref ygr, .int mF, .int mC, .int mY, .ref yta, .int (nI (mz)), .int (nI (mf)), .int (nI (mt)), .int mv, .int mw, .ref ywa, .ref ybi, .ref ysi, .ref ynu, .ref ymo])), (ybi, .inl (cI, 4, .inl f_58)), (ysi, .inl (cI, 4, .inl f_60)), (ynu, .inl (cJ, 160, .inr (.inl nb))), (yt, .inl (cI, 7, .inl mq))] := hD
                  refine lv_iconst (v := 0) hx hb dX9_sheet_83 (by decide) ?_
                  refine lv_istore (lv' := [(4, .int 0), (0, .ref h0), (1, .int 3), (2, .int p1), (3, .int (nI (y_57)))]) hx hb dX9_sheet_84 hl (by decide) rfl (fun ls hl => ?_)
                  suffices loop_86 : ∀ (n_86 : Nat) (i : Nat) (n8 : Nat → Int64) (H : Heap) (locs : List Loc) (ls : Array Slot), 40 - i < n_86 → (i ≤ 40) → (∀ j, 120 ≤ j → j < 120 + i → n8 j = 0) → (∀ j, j < 120 ∨ 160 ≤ j → n8 j = nb j) → va_P D vwCl [(h0, .inr (9, [.ref ys, .ref yk, .ref yo, .ref yt, .int mk0, .ref yfa, .ref yfe, .int mL, .int mS, .int mM, .ref yro, .ref yhe, .ref ygr, .int mF, .int mC, .int mY, .ref yta, .int (nI (mz)), .int (nI (mf)), .int (nI (mt)), .int mv, .int mw, .ref ywa, .ref ybi, .ref ysi, .ref ynu, .ref ymo])), (ybi, .inl (cI, 4, .inl f_58)), (ysi, .inl (cI, 4, .inl f_60)), (ynu, .inl (cJ, 160, .inr (.inl n8))), (yt, .inl (cI, 7, .inl mq))] H → va_D A [(h0, .inr (9, [.ref ys, .ref yk, .ref yo, .ref yt, .int mk0, .ref yfa, .ref yfe, .int mL, .int mS, .int mM, .ref yro, .ref yhe, .ref ygr, .int mF, .int mC, .int mY, .ref yta, .int (nI (mz)), .int (nI (mf)), .int (nI (mt)), .int mv, .int mw, .ref ywa, .ref ybi, .ref ysi, .ref ynu, .ref ymo])), (ybi, .inl (cI, 4, .inl f_58)), (ysi, .inl (cI, 4, .inl f_60)), (ynu, .inl (cJ, 160, .inr (.inl n8))), (yt, .inl (cI, 7, .inl mq))] → va_S A s.heap H locs → lv_has ls 5 [(4, .int (nI (i))), (0, .ref h0), (1, .int 3), (2, .int p1), (3, .int (nI (y_57)))] → W p l e ({ frames := 2, cells := 0, slots := 0, locals := 45 }) s m ([.ref h0, .int 3, .int p1, .int (nI (y_57))] : List Value).toArray below meth c H locs 0 0 (MQ below (XQi (fun (r : Int32) (u : (Nat → Int32) × (Nat → Int32) × (Nat → Int64) × (Nat → Int32)) => match u with | (bi2, sq2, nb2, mq2) => ((r = a_sheet 3 p1 (nI (y_57)))) ∧ (bi2 3 = sp_sb p1 (nI (y_57)) (bi 3)) ∧ (∀ j, j ≠ 3 → bi2 j = bi j) ∧ (sq2 3 = nI (sp_sz p1 (nI (y_57)) zq)) ∧ (∀ j, j ≠ 3 → sq2 j = sq j) ∧ (∀ j, j < 40 → nb2 (120 + j) = sp_sn p1 (nI (y_57)) (nb (120 + j))) ∧ (∀ j, j < 120 ∨ 160 ≤ j → nb2 j = nb j) ∧ (BA 4 41 sq2)) D (fun (u : (Nat → Int32) × (Nat → Int32) × (Nat → Int64) × (Nat → Int32)) => match u with | (bi2, sq2, nb2, mq2) => [(h0, .inr (9, [.ref ys, .ref yk, .ref yo, .ref yt, .int mk0, .ref yfa, .ref yfe, .int mL, .int mS, .int mM, .ref yro, .ref yhe, .ref ygr, .int mF, .int mC, .int mY, .ref yta, .int (nI (mz)), .int (nI (mf)), .int (nI (mt)), .int mv, .int mw, .ref ywa, .ref ybi, .ref ysi, .ref ynu, .ref ymo])), (ybi, .inl (cI, 4, .inl bi2)), (ysi, .inl (cI, 4, .inl sq2)), (ynu, .inl (cJ, 160, .inr (.inl nb2))), (yt, .inl (cI, 7, .inl mq2))]) A) ([.ref h0, .int 3, .int p1, .int (nI (y_57))] : List Value).toArray s 0 0 A) (F0 m 86 ls []) by
                    exact loop_86 _ 0 nb _ _ _ (Nat.lt_succ_self _) (by omega) (fun j h1 h2 => absurd h1 (by omega)) (fun _ _ => rfl) hP hD hS (lv_sub hl [0, 1, 2, 3, 4] rfl)
                  intro n_86
                  induction n_86 with
                  | zero =>
                    intro i n8 H locs ls hm_86
                    exact absurd hm_86 (Nat.not_lt_zero _)
                  | succ n_86 ih_86 =>
                    intro i n8 H locs ls hm_86 hi hf8 hg8 hP hD hS hl
                    refine lv_iload hx hb dX9_sheet_86 (lv_at hl 0 rfl) ?_
                    refine lv_bipush (v := 40) hx hb dX9_sheet_88 (by decide) ?_
                    refine lv_icmp_ge (tgt := 112) hx hb dX9_sheet_90 (by decide) (fun c_61 => ?_) (fun c_61 => ?_)
                    · skip
                      have nc_61 : 40 ≤ i := xn_le (a := 40) (b := i) (by omega) (by omega) c_61
                      refine lv_aload_n hx hb dX9_sheet_112 rfl (lv_at hl 1 rfl) ?_
                      refine xg hF kf_X9_46 hK hP 0 rfl rfl dX9_sheet_113 ?_
                      refine lv_iload_n hx hb dX9_sheet_116 rfl (lv_at hl 2 rfl) ?_
                      refine va_iald hx hb hK hP 2 0 rfl rfl (xin 3 4 (by decide) (by decide)) dX9_sheet_117 ?_
                      refine xl_i (y := f_60 3) (congrArg f_60 rfl) ?_
                      refine xl_i (y := nI (y_57)) (by rw [ef_60]; exact pk_us) ?_
                      exact W.iret (v := nI (y_57)) hx hb hr (fun t ht hW => ⟨⟨nI (y_57), (f_58, f_60, n8, mq), rfl, ⟨p_sheet6 (by decide) (by decide) (by first | exact Or.inl (by assumption) | exact Or.inr (Or.inl (by assumption)) | exact Or.inr (Or.inr (Or.inl (by assumption))) | exact Or.inr (Or.inr (Or.inr (by assumption)))) (nI_pos (by omega)) (x_le40 (by omega)) (by assumption), (by rw [ef_58]; exact pk_us.trans (if_pos ⟨(by first | exact Or.inl (by assumption) | exact Or.inr (Or.inl (by assumption)) | exact Or.inr (Or.inr (Or.inl (by assumption))) | exact Or.inr (Or.inr (Or.inr (by assumption)))), nI_pos (by omega), x_le40 (by omega)⟩).symm), (fun j hj => by rw [ef_58]; exact pk_un hj), (by rw [ef_60]; exact pk_us.trans (congrArg nI (sp_z1 ⟨(by first | exact Or.inl (by assumption) | exact Or.inr (Or.inl (by assumption)) | exact Or.inr (Or.inr (Or.inl (by assumption))) | exact Or.inr (Or.inr (Or.inr (by assumption)))), nI_pos (by omega), x_le40 (by omega)⟩ (by assumption) (by omega)))), (fun j hj => by rw [ef_60]; exact pk_un hj), (fun j hj => (hf8 (120 + j) (by omega) (by omega)).trans (if_pos ⟨(by first | exact Or.inl (by assumption) | exact Or.inr (Or.inl (by assumption)) | exact Or.inr (Or.inr (Or.inl (by assumption))) | exact Or.inr (Or.inr (Or.inr (by assumption)))), nI_pos (by omega), x_le40 (by omega)⟩).symm), (fun j hj => hg8 j hj), hf_60⟩, by rw [ht]; exact hP.sub [0, 1, 2, 3, 4] rfl, hD.sub [0, 1, 2, 3, 4] (by decide +kernel) rfl⟩, hS.F ht⟩) hS.2.2 dX9_sheet_118 hlk
                    · skip
                      have nc_61 : i < 40 := xn_nle (a := 40) (b := i) (by omega) (by omega) c_61
                      refine lv_aload_n hx hb dX9_sheet_93 rfl (lv_at hl 1 rfl) ?_
                      refine xg hF kf_X9_49 hK hP 0 rfl rfl dX9_sheet_94 ?_
                      refine lv_bipush (v := 40) hx hb dX9_sheet_97 (by decide) ?_
                      refine lv_iload_n hx hb dX9_sheet_99 rfl (lv_at hl 2 rfl) ?_
                      refine lv_imul hx hb dX9_sheet_100 ?_
                      refine xl_i (y := 120) (by decide) ?_
                      refine lv_iload hx hb dX9_sheet_101 (lv_at hl 0 rfl) ?_
                      refine lv_iadd hx hb dX9_sheet_103 ?_
                      refine xl_i (y := nI (120 + i)) (nI_add 120 i) ?_
                      refine lv_lconst (v := 0) hx hb dX9_sheet_104 (by decide) ?_
                      refine va_last hx hb hK hP hD hS 3 1 rfl rfl (vp_in_nI (show 120 + i < 160 by omega) (by decide)) dX9_sheet_105 (fun H locs hP hD hS => ?_)
                      rw [nI_clamp (show 120 + i < 2 ^ 31 by omega)] at hP hD
                      obtain ⟨f_62, ef_62⟩ : ∃ g, g = vp_updL n8 (120 + i) 0 := ⟨_, rfl⟩
                      rw [← ef_62] at hP hD
                      have hP : va_P D vwCl [(h0, .inr (9, [.ref ys, .ref yk, .ref yo, .ref yt, .int mk0, .ref yfa, .ref yfe, .int mL, .int mS, .int mM, .ref yro, .ref yhe, .ref ygr, .int mF, .int mC, .int mY, .ref yta, .int (nI (mz)), .int (nI (mf)), .int (nI (mt)), .int mv, .int mw, .ref ywa, .ref ybi, .ref ysi, .ref ynu, .ref ymo])), (ybi, .inl (cI, 4, .inl f_58)), (ysi, .inl (cI, 4, .inl f_60)), (ynu, .inl (cJ, 160, .inr (.inl f_62))), (yt, .inl (cI, 7, .inl mq))] H := hP
                      have hD : va_D A [(h0, .inr (9, [.ref ys, .ref yk, .ref yo, .ref yt, .int mk0, .ref yfa, .ref yfe, .int mL, .int mS, .int mM, .ref yro, .ref yhe, .ref ygr, .int mF, .int mC, .int mY, .ref yta, .int (nI (mz)), .int (nI (mf)), .int (nI (mt)), .int mv, .int mw, .ref ywa, .ref ybi, .ref ysi, .ref ynu, .ref ymo])), (ybi, .inl (cI, 4, .inl f_58)), (ysi, .inl (cI, 4, .inl f_60)), (ynu, .inl (cJ, 160, .inr (.inl f_62))), (yt, .inl (cI, 7, .inl mq))] := hD
                      refine lv_iinc (v := nI (i + 1)) (lv' := [(4, .int (nI (i + 1))), (0, .ref h0), (1, .int 3), (2, .int p1), (3, .int (nI (y_57)))]) hx hb dX9_sheet_106 hl (k := 0) rfl (nI_1 (i)) (by decide) rfl (fun ls hl => ?_)
                      refine lv_goto (tgt := 86) hx hb dX9_sheet_109 (by decide) ?_
                      exact ih_86 (i + 1) f_62 _ _ _ (by omega) (by omega) (sp_fil hf8 ef_62) (sp_fio hg8 (by omega) (by omega) ef_62) (hP.sub [0, 1, 2, 3, 4] rfl) (hD.sub [0, 1, 2, 3, 4] (by decide +kernel) rfl) hS (lv_sub hl [0, 1, 2, 3, 4] rfl)
                · skip
                  refine lv_iconst (v := 0) hx hb dX9_sheet_77 (by decide) ?_
                  refine lv_goto (tgt := 82) hx hb dX9_sheet_78 (by decide) ?_
                  refine va_iast hx hb hK hP hD hS 2 0 rfl rfl (xin 3 4 (by decide) (by decide)) dX9_sheet_82 (fun H locs hP hD hS => ?_)
                  obtain ⟨f_63, ef_63⟩ : ∃ g, g = upd sq 3 0 := ⟨_, rfl⟩
                  have hP : va_P D vwCl [(h0, .inr (9, [.ref ys, .ref yk, .ref yo, .ref yt, .int mk0, .ref yfa, .ref yfe, .int mL, .int mS, .int mM, .ref yro, .ref yhe, .ref ygr, .int mF, .int mC, .int mY, .ref yta, .int (nI (mz)), .int (nI (mf)), .int (nI (mt)), .int mv, .int mw, .ref ywa, .ref ybi, .ref ysi, .ref ynu, .ref ymo])), (ybi, .inl (cI, 4, .inl f_58)), (ysi, .inl (cI, 4, .inl (upd sq 3 0))), (ynu, .inl (cJ, 160, .inr (.inl nb))), (yt, .inl (cI, 7, .inl mq))] H := hP
                  have hD : va_D A [(h0, .inr (9, [.ref ys, .ref yk, .ref yo, .ref yt, .int mk0, .ref yfa, .ref yfe, .int mL, .int mS, .int mM, .ref yro, .ref yhe, .ref ygr, .int mF, .int mC, .int mY, .ref yta, .int (nI (mz)), .int (nI (mf)), .int (nI (mt)), .int mv, .int mw, .ref ywa, .ref ybi, .ref ysi, .ref ynu, .ref ymo])), (ybi, .inl (cI, 4, .inl f_58)), (ysi, .inl (cI, 4, .inl (upd sq 3 0))), (ynu, .inl (cJ, 160, .inr (.inl nb))), (yt, .inl (cI, 7, .inl mq))] := hD
                  rw [← ef_63] at hP hD
                  have hf_63 : BA 4 41 f_63 := by rw [ef_63]; exact BA.upd hsq (show 0 < 41 by omega)
                  have hP : va_P D vwCl [(h0, .inr (9, [.ref ys, .ref yk, .ref yo, .ref yt, .int mk0, .ref yfa, .ref yfe, .int mL, .int mS, .int mM, .ref yro, .ref yhe, .ref ygr, .int mF, .int mC, .int mY, .ref yta, .int (nI (mz)), .int (nI (mf)), .int (nI (mt)), .int mv, .int mw, .ref ywa, .ref ybi, .ref ysi, .ref ynu, .ref ymo])), (ybi, .inl (cI, 4, .inl f_58)), (ysi, .inl (cI, 4, .inl f_63)), (ynu, .inl (cJ, 160, .inr (.inl nb))), (yt, .inl (cI, 7, .inl mq))] H := hP
                  have hD : va_D A [(h0, .inr (9, [.ref ys, .ref yk, .ref yo, .ref yt, .int mk0, .ref yfa, .ref yfe, .int mL, .int mS, .int mM, .ref yro, .ref yhe, .ref ygr, .int mF, .int mC, .int mY, .ref yta, .int (nI (mz)), .int (nI (mf)), .int (nI (mt)), .int mv, .int mw, .ref ywa, .ref ybi, .ref ysi, .ref ynu, .ref ymo])), (ybi, .inl (cI, 4, .inl f_58)), (ysi, .inl (cI, 4, .inl f_63)), (ynu, .inl (cJ, 160, .inr (.inl nb))), (yt, .inl (cI, 7, .inl mq))] := hD
                  refine lv_iconst (v := 0) hx hb dX9_sheet_83 (by decide) ?_
                  refine lv_istore (lv' := [(4, .int 0), (0, .ref h0), (1, .int 3), (2, .int p1), (3, .int (nI (y_57)))]) hx hb dX9_sheet_84 hl (by decide) rfl (fun ls hl => ?_)
                  suffices loop_86 : ∀ (n_86 : Nat) (i : Nat) (n8 : Nat → Int64) (H : Heap) (locs : List Loc) (ls : Array Slot), 40 - i < n_86 → (i ≤ 40) → (∀ j, 120 ≤ j → j < 120 + i → n8 j = 0) → (∀ j, j < 120 ∨ 160 ≤ j → n8 j = nb j) → va_P D vwCl [(h0, .inr (9, [.ref ys, .ref yk, .ref yo, .ref yt, .int mk0, .ref yfa, .ref yfe, .int mL, .int mS, .int mM, .ref yro, .ref yhe, .ref ygr, .int mF, .int mC, .int mY, .ref yta, .int (nI (mz)), .int (nI (mf)), .int (nI (mt)), .int mv, .int mw, .ref ywa, .ref ybi, .ref ysi, .ref ynu, .ref ymo])), (ybi, .inl (cI, 4, .inl f_58)), (ysi, .inl (cI, 4, .inl f_63)), (ynu, .inl (cJ, 160, .inr (.inl n8))), (yt, .inl (cI, 7, .inl mq))] H → va_D A [(h0, .inr (9, [.ref ys, .ref yk, .ref yo, .ref yt, .int mk0, .ref yfa, .ref yfe, .int mL, .int mS, .int mM, .ref yro, .ref yhe, .ref ygr, .int mF, .int mC, .int mY, .ref yta, .int (nI (mz)), .int (nI (mf)), .int (nI (mt)), .int mv, .int mw, .ref ywa, .ref ybi, .ref ysi, .ref ynu, .ref ymo])), (ybi, .inl (cI, 4, .inl f_58)), (ysi, .inl (cI, 4, .inl f_63)), (ynu, .inl (cJ, 160, .inr (.inl n8))), (yt, .inl (cI, 7, .inl mq))] → va_S A s.heap H locs → lv_has ls 5 [(4, .int (nI (i))), (0, .ref h0), (1, .int 3), (2, .int p1), (3, .int (nI (y_57)))] → W p l e ({ frames := 2, cells := 0, slots := 0, locals := 45 }) s m ([.ref h0, .int 3, .int p1, .int (nI (y_57))] : List Value).toArray below meth c H locs 0 0 (MQ below (XQi (fun (r : Int32) (u : (Nat → Int32) × (Nat → Int32) × (Nat → Int64) × (Nat → Int32)) => match u with | (bi2, sq2, nb2, mq2) => ((r = a_sheet 3 p1 (nI (y_57)))) ∧ (bi2 3 = sp_sb p1 (nI (y_57)) (bi 3)) ∧ (∀ j, j ≠ 3 → bi2 j = bi j) ∧ (sq2 3 = nI (sp_sz p1 (nI (y_57)) zq)) ∧ (∀ j, j ≠ 3 → sq2 j = sq j) ∧ (∀ j, j < 40 → nb2 (120 + j) = sp_sn p1 (nI (y_57)) (nb (120 + j))) ∧ (∀ j, j < 120 ∨ 160 ≤ j → nb2 j = nb j) ∧ (BA 4 41 sq2)) D (fun (u : (Nat → Int32) × (Nat → Int32) × (Nat → Int64) × (Nat → Int32)) => match u with | (bi2, sq2, nb2, mq2) => [(h0, .inr (9, [.ref ys, .ref yk, .ref yo, .ref yt, .int mk0, .ref yfa, .ref yfe, .int mL, .int mS, .int mM, .ref yro, .ref yhe, .ref ygr, .int mF, .int mC, .int mY, .ref yta, .int (nI (mz)), .int (nI (mf)), .int (nI (mt)), .int mv, .int mw, .ref ywa, .ref ybi, .ref ysi, .ref ynu, .ref ymo])), (ybi, .inl (cI, 4, .inl bi2)), (ysi, .inl (cI, 4, .inl sq2)), (ynu, .inl (cJ, 160, .inr (.inl nb2))), (yt, .inl (cI, 7, .inl mq2))]) A) ([.ref h0, .int 3, .int p1, .int (nI (y_57))] : List Value).toArray s 0 0 A) (F0 m 86 ls []) by
                    exact loop_86 _ 0 nb _ _ _ (Nat.lt_succ_self _) (by omega) (fun j h1 h2 => absurd h1 (by omega)) (fun _ _ => rfl) hP hD hS (lv_sub hl [0, 1, 2, 3, 4] rfl)
                  intro n_86
                  induction n_86 with
                  | zero =>
                    intro i n8 H locs ls hm_86
                    exact absurd hm_86 (Nat.not_lt_zero _)
                  | succ n_86 ih_86 =>
                    intro i n8 H locs ls hm_86 hi hf8 hg8 hP hD hS hl
                    refine lv_iload hx hb dX9_sheet_86 (lv_at hl 0 rfl) ?_
                    refine lv_bipush (v := 40) hx hb dX9_sheet_88 (by decide) ?_
                    refine lv_icmp_ge (tgt := 112) hx hb dX9_sheet_90 (by decide) (fun c_64 => ?_) (fun c_64 => ?_)
                    · skip
                      have nc_64 : 40 ≤ i := xn_le (a := 40) (b := i) (by omega) (by omega) c_64
                      refine lv_aload_n hx hb dX9_sheet_112 rfl (lv_at hl 1 rfl) ?_
                      refine xg hF kf_X9_46 hK hP 0 rfl rfl dX9_sheet_113 ?_
                      refine lv_iload_n hx hb dX9_sheet_116 rfl (lv_at hl 2 rfl) ?_
                      refine va_iald hx hb hK hP 2 0 rfl rfl (xin 3 4 (by decide) (by decide)) dX9_sheet_117 ?_
                      refine xl_i (y := f_63 3) (congrArg f_63 rfl) ?_
                      refine xl_i (y := 0) (by rw [ef_63]; exact pk_us) ?_
                      exact W.iret (v := 0) hx hb hr (fun t ht hW => ⟨⟨0, (f_58, f_63, n8, mq), rfl, ⟨p_sheet5 (by decide) (by decide) c_59 (nI_pos (by omega)) (x_le40 (by omega)), (by rw [ef_58]; exact pk_us.trans (if_pos ⟨(by first | exact Or.inl (by assumption) | exact Or.inr (Or.inl (by assumption)) | exact Or.inr (Or.inr (Or.inl (by assumption))) | exact Or.inr (Or.inr (Or.inr (by assumption)))), nI_pos (by omega), x_le40 (by omega)⟩).symm), (fun j hj => by rw [ef_58]; exact pk_un hj), (by rw [ef_63]; exact pk_us.trans (congrArg nI (sp_z0 ⟨(by first | exact Or.inl (by assumption) | exact Or.inr (Or.inl (by assumption)) | exact Or.inr (Or.inr (Or.inl (by assumption))) | exact Or.inr (Or.inr (Or.inr (by assumption)))), nI_pos (by omega), x_le40 (by omega)⟩ c_59))), (fun j hj => by rw [ef_63]; exact pk_un hj), (fun j hj => (hf8 (120 + j) (by omega) (by omega)).trans (if_pos ⟨(by first | exact Or.inl (by assumption) | exact Or.inr (Or.inl (by assumption)) | exact Or.inr (Or.inr (Or.inl (by assumption))) | exact Or.inr (Or.inr (Or.inr (by assumption)))), nI_pos (by omega), x_le40 (by omega)⟩).symm), (fun j hj => hg8 j hj), hf_63⟩, by rw [ht]; exact hP.sub [0, 1, 2, 3, 4] rfl, hD.sub [0, 1, 2, 3, 4] (by decide +kernel) rfl⟩, hS.F ht⟩) hS.2.2 dX9_sheet_118 hlk
                    · skip
                      have nc_64 : i < 40 := xn_nle (a := 40) (b := i) (by omega) (by omega) c_64
                      refine lv_aload_n hx hb dX9_sheet_93 rfl (lv_at hl 1 rfl) ?_
                      refine xg hF kf_X9_49 hK hP 0 rfl rfl dX9_sheet_94 ?_
                      refine lv_bipush (v := 40) hx hb dX9_sheet_97 (by decide) ?_
                      refine lv_iload_n hx hb dX9_sheet_99 rfl (lv_at hl 2 rfl) ?_
                      refine lv_imul hx hb dX9_sheet_100 ?_
                      refine xl_i (y := 120) (by decide) ?_
                      refine lv_iload hx hb dX9_sheet_101 (lv_at hl 0 rfl) ?_
                      refine lv_iadd hx hb dX9_sheet_103 ?_
                      refine xl_i (y := nI (120 + i)) (nI_add 120 i) ?_
                      refine lv_lconst (v := 0) hx hb dX9_sheet_104 (by decide) ?_
                      refine va_last hx hb hK hP hD hS 3 1 rfl rfl (vp_in_nI (show 120 + i < 160 by omega) (by decide)) dX9_sheet_105 (fun H locs hP hD hS => ?_)
                      rw [nI_clamp (show 120 + i < 2 ^ 31 by omega)] at hP hD
                      obtain ⟨f_65, ef_65⟩ : ∃ g, g = vp_updL n8 (120 + i) 0 := ⟨_, rfl⟩
                      rw [← ef_65] at hP hD
                      have hP : va_P D vwCl [(h0, .inr (9, [.ref ys, .ref yk, .ref yo, .ref yt, .int mk0, .ref yfa, .ref yfe, .int mL, .int mS, .int mM, .ref yro, .ref yhe, .ref ygr, .int mF, .int mC, .int mY, .ref yta, .int (nI (mz)), .int (nI (mf)), .int (nI (mt)), .int mv, .int mw, .ref ywa, .ref ybi, .ref ysi, .ref ynu, .ref ymo])), (ybi, .inl (cI, 4, .inl f_58)), (ysi, .inl (cI, 4, .inl f_63)), (ynu, .inl (cJ, 160, .inr (.inl f_65))), (yt, .inl (cI, 7, .inl mq))] H := hP
                      have hD : va_D A [(h0, .inr (9, [.ref ys, .ref yk, .ref yo, .ref yt, .int mk0, .ref yfa, .ref yfe, .int mL, .int mS, .int mM, .ref yro, .ref yhe, .ref ygr, .int mF, .int mC, .int mY, .ref yta, .int (nI (mz)), .int (nI (mf)), .int (nI (mt)), .int mv, .int mw, .ref ywa, .ref ybi, .ref ysi, .ref ynu, .ref ymo])), (ybi, .inl (cI, 4, .inl f_58)), (ysi, .inl (cI, 4, .inl f_63)), (ynu, .inl (cJ, 160, .inr (.inl f_65))), (yt, .inl (cI, 7, .inl mq))] := hD
                      refine lv_iinc (v := nI (i + 1)) (lv' := [(4, .int (nI (i + 1))), (0, .ref h0), (1, .int 3), (2, .int p1), (3, .int (nI (y_57)))]) hx hb dX9_sheet_106 hl (k := 0) rfl (nI_1 (i)) (by decide) rfl (fun ls hl => ?_)
                      refine lv_goto (tgt := 86) hx hb dX9_sheet_109 (by decide) ?_
                      exact ih_86 (i + 1) f_65 _ _ _ (by omega) (by omega) (sp_fil hf8 ef_65) (sp_fio hg8 (by omega) (by omega) ef_65) (hP.sub [0, 1, 2, 3, 4] rfl) (hD.sub [0, 1, 2, 3, 4] (by decide +kernel) rfl) hS (lv_sub hl [0, 1, 2, 3, 4] rfl)
              · skip
                refine lv_aload_n hx hb dX9_sheet_54 rfl (lv_at hl 0 rfl) ?_
                refine lv_ldc (v := (-1000000001)) hx hb hown (hu _ uw648) dX9_sheet_55 ?_
                refine xc_Vi (wr := [(ybi, .inl (cI, 4, .inl bi)), (ysi, .inl (cI, 4, .inl sq)), (ynu, .inl (cJ, 160, .inr (.inl nb)))]) hF (c_X9_finds_B l D cI cJ cZ cS ta sa sv s.heap.size h0 ys yk yo yt mk0 yfa yfe mL mS mM yro yhe ygr mF mC mY yta mz mf mt mv mw ywa ybi ysi ynu ymo mq ) kv_X9_70 ⟨rfl, rfl, Nat.le_of_ble_eq_true rfl, Nat.le_of_ble_eq_true rfl⟩ ⟨Nat.le_of_ble_eq_true rfl, Nat.le_of_ble_eq_true rfl⟩ hK hN hZ hP hD hS hA [0, 4] [1, 2, 3] rfl rfl rfl rfl (by decide) 0 rfl rfl rfl rfl hl.1 rfl (Nat.le_of_ble_eq_true rfl) dX9_sheet_57 (fun r_66 u_r_66 H locs hw_r_66 hP hD hS => ?_)
                obtain ⟨mq2_67, rfl⟩ : ∃ z, z = u_r_66 := ⟨_, rfl⟩
                try dsimp only at hw_r_66
                have hP : va_P D vwCl [(ybi, .inl (cI, 4, .inl bi)), (ysi, .inl (cI, 4, .inl sq)), (ynu, .inl (cJ, 160, .inr (.inl nb))), (h0, .inr (9, [.ref ys, .ref yk, .ref yo, .ref yt, .int mk0, .ref yfa, .ref yfe, .int mL, .int mS, .int mM, .ref yro, .ref yhe, .ref ygr, .int mF, .int mC, .int mY, .ref yta, .int (nI (mz)), .int (nI (mf)), .int (nI (mt)), .int mv, .int mw, .ref ywa, .ref ybi, .ref ysi, .ref ynu, .ref ymo])), (yt, .inl (cI, 7, .inl mq2_67))] H := hP
                have hD : va_D A [(ybi, .inl (cI, 4, .inl bi)), (ysi, .inl (cI, 4, .inl sq)), (ynu, .inl (cJ, 160, .inr (.inl nb))), (h0, .inr (9, [.ref ys, .ref yk, .ref yo, .ref yt, .int mk0, .ref yfa, .ref yfe, .int mL, .int mS, .int mM, .ref yro, .ref yhe, .ref ygr, .int mF, .int mC, .int mY, .ref yta, .int (nI (mz)), .int (nI (mf)), .int (nI (mt)), .int mv, .int mw, .ref ywa, .ref ybi, .ref ysi, .ref ynu, .ref ymo])), (yt, .inl (cI, 7, .inl mq2_67))] := hD
                subst hw_r_66
                exact W.iret (v := (-1000000001)) hx hb hr (fun t ht hW => ⟨⟨(-1000000001), (bi, sq, nb, mq2_67), rfl, ⟨p_sheet4 (by decide) (by decide) (by first | exact Or.inl (by assumption) | exact Or.inr (Or.inl (by assumption)) | exact Or.inr (Or.inr (Or.inl (by assumption))) | exact Or.inr (Or.inr (Or.inr (by assumption)))) (fun h => absurd c_55 (Int32.not_le.mpr h)) (xlt c_56), (if_neg (sp_n4 (xlt c_56))).symm, (fun _ _ => rfl), (ez.trans (congrArg nI (if_neg (sp_n4 (xlt c_56))).symm)), (fun _ _ => rfl), (fun j hj => (if_neg (sp_n4 (xlt c_56))).symm), (fun _ _ => rfl), hsq⟩, by rw [ht]; exact hP.sub [3, 0, 1, 2, 4] rfl, hD.sub [3, 0, 1, 2, 4] (by decide +kernel) rfl⟩, hS.F ht⟩) hS.2.2 dX9_sheet_60 hlk
            · skip
              refine lv_aload_n hx hb dX9_sheet_40 rfl (lv_at hl 0 rfl) ?_
              refine lv_ldcw (v := (-1000000007)) hx hb hown (hu _ uw923) dX9_sheet_41 ?_
              refine xc_Vi (wr := [(ybi, .inl (cI, 4, .inl bi)), (ysi, .inl (cI, 4, .inl sq)), (ynu, .inl (cJ, 160, .inr (.inl nb)))]) hF (c_X9_finds_S l D cI cJ cZ cS ta sa sv s.heap.size h0 ys yk yo yt mk0 yfa yfe mL mS mM yro yhe ygr mF mC mY yta mz mf mt mv mw ywa ybi ysi ynu ymo mq ) kv_X9_70 ⟨rfl, rfl, Nat.le_of_ble_eq_true rfl, Nat.le_of_ble_eq_true rfl⟩ ⟨Nat.le_of_ble_eq_true rfl, Nat.le_of_ble_eq_true rfl⟩ hK hN hZ hP hD hS hA [0, 4] [1, 2, 3] rfl rfl rfl rfl (by decide) 0 rfl rfl rfl rfl hl.1 rfl (Nat.le_of_ble_eq_true rfl) dX9_sheet_44 (fun r_68 u_r_68 H locs hw_r_68 hP hD hS => ?_)
              obtain ⟨mq2_69, rfl⟩ : ∃ z, z = u_r_68 := ⟨_, rfl⟩
              try dsimp only at hw_r_68
              have hP : va_P D vwCl [(ybi, .inl (cI, 4, .inl bi)), (ysi, .inl (cI, 4, .inl sq)), (ynu, .inl (cJ, 160, .inr (.inl nb))), (h0, .inr (9, [.ref ys, .ref yk, .ref yo, .ref yt, .int mk0, .ref yfa, .ref yfe, .int mL, .int mS, .int mM, .ref yro, .ref yhe, .ref ygr, .int mF, .int mC, .int mY, .ref yta, .int (nI (mz)), .int (nI (mf)), .int (nI (mt)), .int mv, .int mw, .ref ywa, .ref ybi, .ref ysi, .ref ynu, .ref ymo])), (yt, .inl (cI, 7, .inl mq2_69))] H := hP
              have hD : va_D A [(ybi, .inl (cI, 4, .inl bi)), (ysi, .inl (cI, 4, .inl sq)), (ynu, .inl (cJ, 160, .inr (.inl nb))), (h0, .inr (9, [.ref ys, .ref yk, .ref yo, .ref yt, .int mk0, .ref yfa, .ref yfe, .int mL, .int mS, .int mM, .ref yro, .ref yhe, .ref ygr, .int mF, .int mC, .int mY, .ref yta, .int (nI (mz)), .int (nI (mf)), .int (nI (mt)), .int mv, .int mw, .ref ywa, .ref ybi, .ref ysi, .ref ynu, .ref ymo])), (yt, .inl (cI, 7, .inl mq2_69))] := hD
              subst hw_r_68
              exact W.iret (v := (-1000000007)) hx hb hr (fun t ht hW => ⟨⟨(-1000000007), (bi, sq, nb, mq2_69), rfl, ⟨p_sheet3 (by decide) (by decide) (by first | exact Or.inl (by assumption) | exact Or.inr (Or.inl (by assumption)) | exact Or.inr (Or.inr (Or.inl (by assumption))) | exact Or.inr (Or.inr (Or.inr (by assumption)))) (xlt c_55), (if_neg (sp_n3 (xlt c_55))).symm, (fun _ _ => rfl), (ez.trans (congrArg nI (if_neg (sp_n3 (xlt c_55))).symm)), (fun _ _ => rfl), (fun j hj => (if_neg (sp_n3 (xlt c_55))).symm), (fun _ _ => rfl), hsq⟩, by rw [ht]; exact hP.sub [3, 0, 1, 2, 4] rfl, hD.sub [3, 0, 1, 2, 4] (by decide +kernel) rfl⟩, hS.F ht⟩) hS.2.2 dX9_sheet_47 hlk
          · skip
            refine lv_aload_n hx hb dX9_sheet_29 rfl (lv_at hl 0 rfl) ?_
            refine lv_ldc (v := (-1000000001)) hx hb hown (hu _ uw648) dX9_sheet_30 ?_
            refine xc_Vi (wr := [(ybi, .inl (cI, 4, .inl bi)), (ysi, .inl (cI, 4, .inl sq)), (ynu, .inl (cJ, 160, .inr (.inl nb)))]) hF (c_X9_finds_B l D cI cJ cZ cS ta sa sv s.heap.size h0 ys yk yo yt mk0 yfa yfe mL mS mM yro yhe ygr mF mC mY yta mz mf mt mv mw ywa ybi ysi ynu ymo mq ) kv_X9_70 ⟨rfl, rfl, Nat.le_of_ble_eq_true rfl, Nat.le_of_ble_eq_true rfl⟩ ⟨Nat.le_of_ble_eq_true rfl, Nat.le_of_ble_eq_true rfl⟩ hK hN hZ hP hD hS hA [0, 4] [1, 2, 3] rfl rfl rfl rfl (by decide) 0 rfl rfl rfl rfl hl.1 rfl (Nat.le_of_ble_eq_true rfl) dX9_sheet_32 (fun r_70 u_r_70 H locs hw_r_70 hP hD hS => ?_)
            obtain ⟨mq2_71, rfl⟩ : ∃ z, z = u_r_70 := ⟨_, rfl⟩
            try dsimp only at hw_r_70
            have hP : va_P D vwCl [(ybi, .inl (cI, 4, .inl bi)), (ysi, .inl (cI, 4, .inl sq)), (ynu, .inl (cJ, 160, .inr (.inl nb))), (h0, .inr (9, [.ref ys, .ref yk, .ref yo, .ref yt, .int mk0, .ref yfa, .ref yfe, .int mL, .int mS, .int mM, .ref yro, .ref yhe, .ref ygr, .int mF, .int mC, .int mY, .ref yta, .int (nI (mz)), .int (nI (mf)), .int (nI (mt)), .int mv, .int mw, .ref ywa, .ref ybi, .ref ysi, .ref ynu, .ref ymo])), (yt, .inl (cI, 7, .inl mq2_71))] H := hP
            have hD : va_D A [(ybi, .inl (cI, 4, .inl bi)), (ysi, .inl (cI, 4, .inl sq)), (ynu, .inl (cJ, 160, .inr (.inl nb))), (h0, .inr (9, [.ref ys, .ref yk, .ref yo, .ref yt, .int mk0, .ref yfa, .ref yfe, .int mL, .int mS, .int mM, .ref yro, .ref yhe, .ref ygr, .int mF, .int mC, .int mY, .ref yta, .int (nI (mz)), .int (nI (mf)), .int (nI (mt)), .int mv, .int mw, .ref ywa, .ref ybi, .ref ysi, .ref ynu, .ref ymo])), (yt, .inl (cI, 7, .inl mq2_71))] := hD
            subst hw_r_70
            exact W.iret (v := (-1000000001)) hx hb hr (fun t ht hW => ⟨⟨(-1000000001), (bi, sq, nb, mq2_71), rfl, ⟨p_sheet2 (by decide) (by decide) c_6 c_22 c_38 c_54, (if_neg (sp_n2 c_6 c_22 c_38 c_54)).symm, (fun _ _ => rfl), (ez.trans (congrArg nI (if_neg (sp_n2 c_6 c_22 c_38 c_54)).symm)), (fun _ _ => rfl), (fun j hj => (if_neg (sp_n2 c_6 c_22 c_38 c_54)).symm), (fun _ _ => rfl), hsq⟩, by rw [ht]; exact hP.sub [3, 0, 1, 2, 4] rfl, hD.sub [3, 0, 1, 2, 4] (by decide +kernel) rfl⟩, hS.F ht⟩) hS.2.2 dX9_sheet_35 hlk
  · exact absurd h_4 (by decide)
set_option maxHeartbeats 4000000 in
set_option maxRecDepth 100000 in
theorem c_X9_write_3 (l : Launch) (D : va_G) (cI cJ cZ cS : ClassId) (ta : Nat) (sa sv : Nat → Nat) (sz : Nat) (h0 : Nat) (ys : Nat) (yk : Nat) (yo : Nat) (yt : Nat) (mk0 : Int32) (yfa : Nat) (yfe : Nat) (mL : Int32) (mS : Int32) (mM : Int32) (yro : Nat) (yhe : Nat) (ygr : Nat) (mF : Int32) (mC : Int32) (mY : Int32) (yta : Nat) (mz : Nat) (mf : Nat) (mt : Nat) (mv : Int32) (mw : Int32) (ywa : Nat) (ybi : Nat) (ysi : Nat) (ynu : Nat) (ymo : Nat) (bi : Nat → Int32) (sq : Nat → Int32) (nb : Nat → Int64) (mq : Nat → Int32) (p1 : Int32) (p2 : Int64) (zq : Nat) (ez : sq 3 = nI zq) (hzq : zq ≤ 40) (hsq : BA 4 41 sq) : Met l yX9_write (Cond.code yX9_write cX9_write 8 (some .long) :: wsU) ({ frames := 3, cells := 0, slots := 0, locals := 66 }) (va_Pc [.ref h0, .int 3, .int p1, .long p2] (XW D (xT cI cJ cZ cS) ta sa sv [(h0, .inr (9, [.ref ys, .ref yk, .ref yo, .ref yt, .int mk0, .ref yfa, .ref yfe, .int mL, .int mS, .int mM, .ref yro, .ref yhe, .ref ygr, .int mF, .int mC, .int mY, .ref yta, .int (nI (mz)), .int (nI (mf)), .int (nI (mt)), .int mv, .int mw, .ref ywa, .ref ybi, .ref ysi, .ref ynu, .ref ymo])), (ybi, .inl (cI, 4, .inl bi)), (ysi, .inl (cI, 4, .inl sq)), (ynu, .inl (cJ, 160, .inr (.inl nb))), (yt, .inl (cI, 7, .inl mq))] sz)) (XQl (fun (r : Int64) (u : (Nat → Int64) × (Nat → Int32)) => match u with | (nb2, mq2) => ((r = sp_wr (bi 3) zq p1 (nb (120 + p1.toNatClampNeg)))) ∧ (∀ j, j < 40 → nb2 (120 + j) = sp_wn (bi 3) zq p1 p2 j (nb (120 + j))) ∧ (∀ j, j < 120 ∨ 160 ≤ j → nb2 j = nb j)) D (fun (u : (Nat → Int64) × (Nat → Int32)) => match u with | (nb2, mq2) => [(h0, .inr (9, [.ref ys, .ref yk, .ref yo, .ref yt, .int mk0, .ref yfa, .ref yfe, .int mL, .int mS, .int mM, .ref yro, .ref yhe, .ref ygr, .int mF, .int mC, .int mY, .ref yta, .int (nI (mz)), .int (nI (mf)), .int (nI (mt)), .int mv, .int mw, .ref ywa, .ref ybi, .ref ysi, .ref ynu, .ref ymo])), (ybi, .inl (cI, 4, .inl bi)), (ysi, .inl (cI, 4, .inl sq)), (ynu, .inl (cJ, 160, .inr (.inl nb2))), (yt, .inl (cI, 7, .inl mq2))]) (va_A [(h0, .inr (9, [.ref ys, .ref yk, .ref yo, .ref yt, .int mk0, .ref yfa, .ref yfe, .int mL, .int mS, .int mM, .ref yro, .ref yhe, .ref ygr, .int mF, .int mC, .int mY, .ref yta, .int (nI (mz)), .int (nI (mf)), .int (nI (mt)), .int mv, .int mw, .ref ywa, .ref ybi, .ref ysi, .ref ynu, .ref ymo])), (ybi, .inl (cI, 4, .inl bi)), (ysi, .inl (cI, 4, .inl sq)), (ynu, .inl (cJ, 160, .inr (.inl nb))), (yt, .inl (cI, 7, .inl mq))] sz)) 0 0 (va_A [(h0, .inr (9, [.ref ys, .ref yk, .ref yo, .ref yt, .int mk0, .ref yfa, .ref yfe, .int mL, .int mS, .int mM, .ref yro, .ref yhe, .ref ygr, .int mF, .int mC, .int mY, .ref yta, .int (nI (mz)), .int (nI (mf)), .int (nI (mt)), .int mv, .int mw, .ref ywa, .ref ybi, .ref ysi, .ref ynu, .ref ymo])), (ybi, .inl (cI, 4, .inl bi)), (ysi, .inl (cI, 4, .inl sq)), (ynu, .inl (cJ, 160, .inr (.inl nb))), (yt, .inl (cI, 7, .inl mq))] sz) := by
  refine xh (QA := fun A => XQl (fun (r : Int64) (u : (Nat → Int64) × (Nat → Int32)) => match u with | (nb2, mq2) => ((r = sp_wr (bi 3) zq p1 (nb (120 + p1.toNatClampNeg)))) ∧ (∀ j, j < 40 → nb2 (120 + j) = sp_wn (bi 3) zq p1 p2 j (nb (120 + j))) ∧ (∀ j, j < 120 ∨ 160 ≤ j → nb2 j = nb j)) D (fun (u : (Nat → Int64) × (Nat → Int32)) => match u with | (nb2, mq2) => [(h0, .inr (9, [.ref ys, .ref yk, .ref yo, .ref yt, .int mk0, .ref yfa, .ref yfe, .int mL, .int mS, .int mM, .ref yro, .ref yhe, .ref ygr, .int mF, .int mC, .int mY, .ref yta, .int (nI (mz)), .int (nI (mf)), .int (nI (mt)), .int mv, .int mw, .ref ywa, .ref ybi, .ref ysi, .ref ynu, .ref ymo])), (ybi, .inl (cI, 4, .inl bi)), (ysi, .inl (cI, 4, .inl sq)), (ynu, .inl (cJ, 160, .inr (.inl nb2))), (yt, .inl (cI, 7, .inl mq2))]) A) (fr := fun A => A) (by decide) (Nat.le_of_ble_eq_true rfl) ?_
  intro p e s m below meth c ls A hF hr hlk hin hsz hP hK hD hN hZ hA hS hl
  have hF : CallFix p m c cX9_write 8 s _ _ RX9 := hF
  have hx := hF.1
  have hb := hF.2.1
  have hml := hF.2.2.1
  have hown := hF.2.2.2.1
  have hu : ∀ w ∈ wsU, w.before _ s = true := fun w h => hF.2.2.2.2 w (List.mem_cons_of_mem _ h)
  have hl : lv_has ls 8 [(0, .ref h0), (1, .int 3), (2, .int p1), (3, .long p2)] := hl
  refine lv_aload_n hx hb dX9_write_0 rfl (lv_at hl 0 rfl) ?_
  refine lv_iload_n hx hb dX9_write_1 rfl (lv_at hl 1 rfl) ?_
  refine xc_Vr hF (c_X9_wrong_3 l D cI cJ cZ cS ta sa sv s.heap.size h0 ys yk yo yt mk0 yfa yfe mL mS mM yro yhe ygr mF mC mY yta mz mf mt mv mw ywa ybi ysi ynu ymo bi ) kv_X9_310 ⟨rfl, rfl, Nat.le_of_ble_eq_true rfl, Nat.le_of_ble_eq_true rfl⟩ ⟨Nat.le_of_ble_eq_true rfl, Nat.le_of_ble_eq_true rfl⟩ hK hN hZ hP hD hS hA [0, 1] rfl rfl 0 rfl rfl rfl rfl hl.1 rfl (Nat.le_of_ble_eq_true rfl) dX9_write_2 (fun r_1 hw_r_1 => ?_)
  rcases hw_r_1 with ⟨rfl, h_2⟩ | ⟨rfl, h_3⟩
  · skip
    refine lv_istore (lv' := [(5, .int (-1000000006)), (0, .ref h0), (1, .int 3), (2, .int p1), (3, .long p2)]) hx hb dX9_write_5 hl (by decide) rfl (fun ls hl => ?_)
    refine lv_iload hx hb dX9_write_7 (lv_at hl 0 rfl) ?_
    refine lv_if_eq (tgt := 20) hx hb dX9_write_9 (by decide) (fun c_4 => absurd c_4 (by decide)) (fun c_4 => ?_)
    refine lv_aload_n hx hb dX9_write_12 rfl (lv_at hl 1 rfl) ?_
    refine lv_iload hx hb dX9_write_13 (lv_at hl 0 rfl) ?_
    refine xc_Vi (wr := [(ybi, .inl (cI, 4, .inl bi)), (ysi, .inl (cI, 4, .inl sq)), (ynu, .inl (cJ, 160, .inr (.inl nb)))]) hF (c_X9_finds_M l D cI cJ cZ cS ta sa sv s.heap.size h0 ys yk yo yt mk0 yfa yfe mL mS mM yro yhe ygr mF mC mY yta mz mf mt mv mw ywa ybi ysi ynu ymo mq ) kv_X9_70 ⟨rfl, rfl, Nat.le_of_ble_eq_true rfl, Nat.le_of_ble_eq_true rfl⟩ ⟨Nat.le_of_ble_eq_true rfl, Nat.le_of_ble_eq_true rfl⟩ hK hN hZ hP hD hS hA [0, 4] [1, 2, 3] rfl rfl rfl rfl (by decide) 0 rfl rfl rfl rfl hl.1 rfl (Nat.le_of_ble_eq_true rfl) dX9_write_15 (fun r_5 u_r_5 H locs hw_r_5 hP hD hS => ?_)
    obtain ⟨mq2_6, rfl⟩ : ∃ z, z = u_r_5 := ⟨_, rfl⟩
    try dsimp only at hw_r_5
    have hP : va_P D vwCl [(ybi, .inl (cI, 4, .inl bi)), (ysi, .inl (cI, 4, .inl sq)), (ynu, .inl (cJ, 160, .inr (.inl nb))), (h0, .inr (9, [.ref ys, .ref yk, .ref yo, .ref yt, .int mk0, .ref yfa, .ref yfe, .int mL, .int mS, .int mM, .ref yro, .ref yhe, .ref ygr, .int mF, .int mC, .int mY, .ref yta, .int (nI (mz)), .int (nI (mf)), .int (nI (mt)), .int mv, .int mw, .ref ywa, .ref ybi, .ref ysi, .ref ynu, .ref ymo])), (yt, .inl (cI, 7, .inl mq2_6))] H := hP
    have hD : va_D A [(ybi, .inl (cI, 4, .inl bi)), (ysi, .inl (cI, 4, .inl sq)), (ynu, .inl (cJ, 160, .inr (.inl nb))), (h0, .inr (9, [.ref ys, .ref yk, .ref yo, .ref yt, .int mk0, .ref yfa, .ref yfe, .int mL, .int mS, .int mM, .ref yro, .ref yhe, .ref ygr, .int mF, .int mC, .int mY, .ref yta, .int (nI (mz)), .int (nI (mf)), .int (nI (mt)), .int mv, .int mw, .ref ywa, .ref ybi, .ref ysi, .ref ynu, .ref ymo])), (yt, .inl (cI, 7, .inl mq2_6))] := hD
    subst hw_r_5
    refine lv_i2l (v := (-1000000006)) hx hb dX9_write_18 (by decide) ?_
    exact W.lret (v := (-1000000006)) hx hb hr (fun t ht hW => ⟨⟨(-1000000006), (nb, mq2_6), rfl, ⟨(sp_wr1 h_2), (fun j _ => sp_w1 h_2), (fun _ _ => rfl)⟩, by rw [ht]; exact hP.sub [3, 0, 1, 2, 4] rfl, hD.sub [3, 0, 1, 2, 4] (by decide +kernel) rfl⟩, hS.F ht⟩) hS.2.2 dX9_write_19 hlk
  · skip
    refine lv_istore (lv' := [(5, .int 0), (0, .ref h0), (1, .int 3), (2, .int p1), (3, .long p2)]) hx hb dX9_write_5 hl (by decide) rfl (fun ls hl => ?_)
    refine lv_iload hx hb dX9_write_7 (lv_at hl 0 rfl) ?_
    refine lv_if_eq (tgt := 20) hx hb dX9_write_9 (by decide) (fun c_7 => ?_) (fun c_7 => absurd (by decide) c_7)
    refine lv_iload_n hx hb dX9_write_20 rfl (lv_at hl 3 rfl) ?_
    refine lv_i2l (v := p1.toInt64) hx hb dX9_write_21 rfl ?_
    refine lv_lconst (v := 0) hx hb dX9_write_22 (by decide) ?_
    refine xl_l (y := (0 : Int32).toInt64) (by decide) ?_
    refine lv_aload_n hx hb dX9_write_23 rfl (lv_at hl 1 rfl) ?_
    refine xg hF kf_X9_46 hK hP 0 rfl rfl dX9_write_24 ?_
    refine lv_iload_n hx hb dX9_write_27 rfl (lv_at hl 2 rfl) ?_
    refine va_iald hx hb hK hP 2 0 rfl rfl (xin 3 4 (by decide) (by decide)) dX9_write_28 ?_
    refine xl_i (y := sq 3) (congrArg sq rfl) ?_
    refine xl_i (y := nI (zq)) ez ?_
    refine lv_iconst (v := 1) hx hb dX9_write_29 (by decide) ?_
    refine lv_isub hx hb dX9_write_30 ?_
    refine lv_topi (fun x_8 ex_8 => ?_)
    refine lv_i2l (v := x_8.toInt64) hx hb dX9_write_31 rfl ?_
    refine xc_Sr hF (c_X9_in l D cI cJ cZ cS ta sa sv s.heap.size p1 0 x_8 ) ks_X9_57 ⟨rfl, rfl, Nat.le_of_ble_eq_true rfl, Nat.le_of_ble_eq_true rfl⟩ ⟨Nat.le_of_ble_eq_true rfl, Nat.le_of_ble_eq_true rfl⟩ hK hN hZ hP hD hS hA [] rfl rfl rfl hl.1 rfl (Nat.le_of_ble_eq_true rfl) dX9_write_32 (fun r_9 hw_r_9 => ?_)
    rcases hw_r_9 with ⟨rfl, h_10, h_11⟩ | ⟨rfl, h_12⟩
    · skip
      refine lv_if_ne (tgt := 46) hx hb dX9_write_35 (by decide) (fun c_13 => ?_) (fun c_13 => absurd c_13 (by decide))
      obtain ⟨y_14, hy_14, rfl⟩ := x_pl3 (by omega) ex_8 h_10 h_11
      refine lv_aload_n hx hb dX9_write_46 rfl (lv_at hl 1 rfl) ?_
      refine xg hF kf_X9_49 hK hP 0 rfl rfl dX9_write_47 ?_
      refine lv_bipush (v := 40) hx hb dX9_write_50 (by decide) ?_
      refine lv_iload_n hx hb dX9_write_52 rfl (lv_at hl 2 rfl) ?_
      refine lv_imul hx hb dX9_write_53 ?_
      refine xl_i (y := 120) (by decide) ?_
      refine lv_iload_n hx hb dX9_write_54 rfl (lv_at hl 3 rfl) ?_
      refine lv_iadd hx hb dX9_write_55 ?_
      refine xl_i (y := nI (120 + y_14)) (nI_add 120 y_14) ?_
      refine va_lald hx hb hK hP 3 1 rfl rfl (vp_in_nI (show 120 + y_14 < 160 by omega) (by decide)) dX9_write_56 ?_
      refine xl_l (y := nb (120 + y_14)) (congrArg nb (nI_clamp (show 120 + y_14 < 2 ^ 31 by omega))) ?_
      refine lv_lstore (lv' := [(6, .long (nb (120 + y_14))), (5, .int 0), (0, .ref h0), (1, .int 3), (2, .int (nI (y_14))), (3, .long p2)]) hx hb dX9_write_57 hl (by decide) rfl (fun ls hl => ?_)
      refine lv_aload_n hx hb dX9_write_59 rfl (lv_at hl 2 rfl) ?_
      refine xg hF kf_X9_49 hK hP 0 rfl rfl dX9_write_60 ?_
      refine lv_bipush (v := 40) hx hb dX9_write_63 (by decide) ?_
      refine lv_iload_n hx hb dX9_write_65 rfl (lv_at hl 3 rfl) ?_
      refine lv_imul hx hb dX9_write_66 ?_
      refine xl_i (y := 120) (by decide) ?_
      refine lv_iload_n hx hb dX9_write_67 rfl (lv_at hl 4 rfl) ?_
      refine lv_iadd hx hb dX9_write_68 ?_
      refine xl_i (y := nI (120 + y_14)) (nI_add 120 y_14) ?_
      refine lv_aload_n hx hb dX9_write_69 rfl (lv_at hl 2 rfl) ?_
      refine xg hF kf_X9_43 hK hP 0 rfl rfl dX9_write_70 ?_
      refine lv_iload_n hx hb dX9_write_73 rfl (lv_at hl 3 rfl) ?_
      refine va_iald hx hb hK hP 1 0 rfl rfl (xin 3 4 (by decide) (by decide)) dX9_write_74 ?_
      refine xl_i (y := bi 3) (congrArg bi rfl) ?_
      refine lv_lload_n hx hb dX9_write_75 rfl (lv_at hl 5 rfl) ?_
      refine xc_Srl hF (c_X9_narrowed l D cI cJ cZ cS ta sa sv s.heap.size (bi 3) p2 ) ks_X9_313 ⟨rfl, rfl, Nat.le_of_ble_eq_true rfl, Nat.le_of_ble_eq_true rfl⟩ ⟨Nat.le_of_ble_eq_true rfl, Nat.le_of_ble_eq_true rfl⟩ hK hN hZ hP hD hS hA [] rfl rfl rfl hl.1 rfl (Nat.le_of_ble_eq_true rfl) dX9_write_76 (fun r_15 hw_r_15 => ?_)
      subst hw_r_15
      refine va_last hx hb hK hP hD hS 3 1 rfl rfl (vp_in_nI (show 120 + y_14 < 160 by omega) (by decide)) dX9_write_79 (fun H locs hP hD hS => ?_)
      rw [nI_clamp (show 120 + y_14 < 2 ^ 31 by omega)] at hP hD
      obtain ⟨f_16, ef_16⟩ : ∃ g, g = vp_updL nb (120 + y_14) (sp_low (bi 3) p2) := ⟨_, rfl⟩
      rw [← ef_16] at hP hD
      have hP : va_P D vwCl [(h0, .inr (9, [.ref ys, .ref yk, .ref yo, .ref yt, .int mk0, .ref yfa, .ref yfe, .int mL, .int mS, .int mM, .ref yro, .ref yhe, .ref ygr, .int mF, .int mC, .int mY, .ref yta, .int (nI (mz)), .int (nI (mf)), .int (nI (mt)), .int mv, .int mw, .ref ywa, .ref ybi, .ref ysi, .ref ynu, .ref ymo])), (ybi, .inl (cI, 4, .inl bi)), (ysi, .inl (cI, 4, .inl sq)), (ynu, .inl (cJ, 160, .inr (.inl f_16))), (yt, .inl (cI, 7, .inl mq))] H := hP
      have hD : va_D A [(h0, .inr (9, [.ref ys, .ref yk, .ref yo, .ref yt, .int mk0, .ref yfa, .ref yfe, .int mL, .int mS, .int mM, .ref yro, .ref yhe, .ref ygr, .int mF, .int mC, .int mY, .ref yta, .int (nI (mz)), .int (nI (mf)), .int (nI (mt)), .int mv, .int mw, .ref ywa, .ref ybi, .ref ysi, .ref ynu, .ref ymo])), (ybi, .inl (cI, 4, .inl bi)), (ysi, .inl (cI, 4, .inl sq)), (ynu, .inl (cJ, 160, .inr (.inl f_16))), (yt, .inl (cI, 7, .inl mq))] := hD
      refine lv_lload hx hb dX9_write_80 (lv_at hl 0 rfl) ?_
      exact W.lret (v := nb (120 + y_14)) hx hb hr (fun t ht hW => ⟨⟨nb (120 + y_14), (f_16, mq), rfl, ⟨(sp_wr3 (f := fun j => nb (120 + j)) h_3 (by omega) (by omega)), (fun j _ => sp_w3 (K := 120) h_3 (by omega) (by omega) ef_16), (fun j hj => by rw [ef_16]; exact pk_uLn (by omega))⟩, by rw [ht]; exact hP.sub [0, 1, 2, 3, 4] rfl, hD.sub [0, 1, 2, 3, 4] (by decide +kernel) rfl⟩, hS.F ht⟩) hS.2.2 dX9_write_82 hlk
    · skip
      refine lv_if_ne (tgt := 46) hx hb dX9_write_35 (by decide) (fun c_17 => absurd (by decide) c_17) (fun c_17 => ?_)
      refine lv_aload_n hx hb dX9_write_38 rfl (lv_at hl 1 rfl) ?_
      refine lv_ldc (v := (-1000000001)) hx hb hown (hu _ uw648) dX9_write_39 ?_
      refine xc_Vi (wr := [(ybi, .inl (cI, 4, .inl bi)), (ysi, .inl (cI, 4, .inl sq)), (ynu, .inl (cJ, 160, .inr (.inl nb)))]) hF (c_X9_finds_B l D cI cJ cZ cS ta sa sv s.heap.size h0 ys yk yo yt mk0 yfa yfe mL mS mM yro yhe ygr mF mC mY yta mz mf mt mv mw ywa ybi ysi ynu ymo mq ) kv_X9_70 ⟨rfl, rfl, Nat.le_of_ble_eq_true rfl, Nat.le_of_ble_eq_true rfl⟩ ⟨Nat.le_of_ble_eq_true rfl, Nat.le_of_ble_eq_true rfl⟩ hK hN hZ hP hD hS hA [0, 4] [1, 2, 3] rfl rfl rfl rfl (by decide) 0 rfl rfl rfl rfl hl.1 rfl (Nat.le_of_ble_eq_true rfl) dX9_write_41 (fun r_18 u_r_18 H locs hw_r_18 hP hD hS => ?_)
      obtain ⟨mq2_19, rfl⟩ : ∃ z, z = u_r_18 := ⟨_, rfl⟩
      try dsimp only at hw_r_18
      have hP : va_P D vwCl [(ybi, .inl (cI, 4, .inl bi)), (ysi, .inl (cI, 4, .inl sq)), (ynu, .inl (cJ, 160, .inr (.inl nb))), (h0, .inr (9, [.ref ys, .ref yk, .ref yo, .ref yt, .int mk0, .ref yfa, .ref yfe, .int mL, .int mS, .int mM, .ref yro, .ref yhe, .ref ygr, .int mF, .int mC, .int mY, .ref yta, .int (nI (mz)), .int (nI (mf)), .int (nI (mt)), .int mv, .int mw, .ref ywa, .ref ybi, .ref ysi, .ref ynu, .ref ymo])), (yt, .inl (cI, 7, .inl mq2_19))] H := hP
      have hD : va_D A [(ybi, .inl (cI, 4, .inl bi)), (ysi, .inl (cI, 4, .inl sq)), (ynu, .inl (cJ, 160, .inr (.inl nb))), (h0, .inr (9, [.ref ys, .ref yk, .ref yo, .ref yt, .int mk0, .ref yfa, .ref yfe, .int mL, .int mS, .int mM, .ref yro, .ref yhe, .ref ygr, .int mF, .int mC, .int mY, .ref yta, .int (nI (mz)), .int (nI (mf)), .int (nI (mt)), .int mv, .int mw, .ref ywa, .ref ybi, .ref ysi, .ref ynu, .ref ymo])), (yt, .inl (cI, 7, .inl mq2_19))] := hD
      subst hw_r_18
      refine lv_i2l (v := (-1000000001)) hx hb dX9_write_44 (by decide) ?_
      exact W.lret (v := (-1000000001)) hx hb hr (fun t ht hW => ⟨⟨(-1000000001), (nb, mq2_19), rfl, ⟨(sp_wr2 h_3 (sp_w5 hzq ex_8 h_12)), (fun j _ => sp_w2 (sp_w5 hzq ex_8 h_12)), (fun _ _ => rfl)⟩, by rw [ht]; exact hP.sub [3, 0, 1, 2, 4] rfl, hD.sub [3, 0, 1, 2, 4] (by decide +kernel) rfl⟩, hS.F ht⟩) hS.2.2 dX9_write_45 hlk
