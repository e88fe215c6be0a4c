def LRX9_sheet_8 : List UInt8 := []
def LBX9_sheet_7 : List UInt8 := [0x2a, 0xb4, 0x00, 0x2e, 0x1b, 0x2e, 0xac]
def LRX9_sheet_7 : List UInt8 := LBX9_sheet_7 ++ LRX9_sheet_8
def LBX9_sheet_6 : List UInt8 := [0x31, 0x10, 0x28, 0x1b, 0x68, 0x15, 0x04, 0x60, 0x09, 0x50, 0x84, 0x04, 0x01, 0xa7, 0xff, 0xe9]
def LRX9_sheet_6 : List UInt8 := LBX9_sheet_6 ++ LRX9_sheet_7
def LBX9_sheet_5 : List UInt8 := [0x04, 0x1d, 0x4f, 0x03, 0x36, 0x04, 0x15, 0x04, 0x10, 0x28, 0xa2, 0x00, 0x16, 0x2a, 0xb4, 0x00]
def LRX9_sheet_5 : List UInt8 := LBX9_sheet_5 ++ LRX9_sheet_6
def LBX9_sheet_4 : List UInt8 := [0x2b, 0x1b, 0x1c, 0x4f, 0x2a, 0xb4, 0x00, 0x2e, 0x1b, 0x1c, 0x9a, 0x00, 0x07, 0x03, 0xa7, 0x00]
def LRX9_sheet_4 : List UInt8 := LBX9_sheet_4 ++ LRX9_sheet_5
def LBX9_sheet_3 : List UInt8 := [0x1d, 0x10, 0x28, 0xa4, 0x00, 0x0a, 0x2a, 0x12, 0x38, 0xb6, 0x00, 0x46, 0xac, 0x2a, 0xb4, 0x00]
def LRX9_sheet_3 : List UInt8 := LBX9_sheet_3 ++ LRX9_sheet_4
def LBX9_sheet_2 : List UInt8 := [0xb6, 0x00, 0x46, 0xac, 0x1d, 0x9c, 0x00, 0x0b, 0x2a, 0x13, 0x01, 0x34, 0xb6, 0x00, 0x46, 0xac]
def LRX9_sheet_2 : List UInt8 := LBX9_sheet_2 ++ LRX9_sheet_3
def LBX9_sheet_1 : List UInt8 := [0x16, 0x1c, 0x10, 0x10, 0x9f, 0x00, 0x10, 0x1c, 0x10, 0x40, 0x9f, 0x00, 0x0a, 0x2a, 0x12, 0x38]
def LRX9_sheet_1 : List UInt8 := LBX9_sheet_1 ++ LRX9_sheet_2
def LBX9_sheet_0 : List UInt8 := [0x1b, 0xb8, 0x01, 0x31, 0x99, 0x00, 0x19, 0x1c, 0x99, 0x00, 0x1c, 0x1c, 0x10, 0x08, 0x9f, 0x00]
def LRX9_sheet_0 : List UInt8 := LBX9_sheet_0 ++ LRX9_sheet_1
set_option maxRecDepth 100000 in
theorem LBX9_sheet_eq : cX9_sheet.data.toList = LRX9_sheet_0 := by decide +kernel
theorem LBX9_sheetr_0 (k : Nat) : cX9_sheet.data.toList[0 + k]? = LRX9_sheet_0[k]? := by rw [LBX9_sheet_eq, Nat.zero_add]
theorem LBX9_sheetr_1 (k : Nat) : cX9_sheet.data.toList[16 + k]? = LRX9_sheet_1[k]? := by
  have h := LBX9_sheetr_0 (16 + k)
  rw [show 0 + (16 + k) = 16 + k by omega] at h
  rw [h]
  exact (List.getElem?_append_right (l₁ := LBX9_sheet_0) (l₂ := LRX9_sheet_1) (show 16 ≤ 16 + k by omega)).trans (congrArg (fun i => LRX9_sheet_1[i]?) (show 16 + k - 16 = k by omega))
theorem LBX9_sheetr_2 (k : Nat) : cX9_sheet.data.toList[32 + k]? = LRX9_sheet_2[k]? := by
  have h := LBX9_sheetr_1 (16 + k)
  rw [show 16 + (16 + k) = 32 + k by omega] at h
  rw [h]
  exact (List.getElem?_append_right (l₁ := LBX9_sheet_1) (l₂ := LRX9_sheet_2) (show 16 ≤ 16 + k by omega)).trans (congrArg (fun i => LRX9_sheet_2[i]?) (show 16 + k - 16 = k by omega))
theorem LBX9_sheetr_3 (k : Nat) : cX9_sheet.data.toList[48 + k]? = LRX9_sheet_3[k]? := by
  have h := LBX9_sheetr_2 (16 + k)
  rw [show 32 + (16 + k) = 48 + k by omega] at h
  rw [h]
  exact (List.getElem?_append_right (l₁ := LBX9_sheet_2) (l₂ := LRX9_sheet_3) (show 16 ≤ 16 + k by omega)).trans (congrArg (fun i => LRX9_sheet_3[i]?) (show 16 + k - 16 = k by omega))
theorem LBX9_sheetr_4 (k : Nat) : cX9_sheet.data.toList[64 + k]? = LRX9_sheet_4[k]? := by
  have h := LBX9_sheetr_3 (16 + k)
  rw [show 48 + (16 + k) = 64 + k by omega] at h
  rw [h]
  exact (List.getElem?_append_right (l₁ := LBX9_sheet_3) (l₂ := LRX9_sheet_4) (show 16 ≤ 16 + k by omega)).trans (congrArg (fun i => LRX9_sheet_4[i]?) (show 16 + k - 16 = k by omega))
theorem LBX9_sheetr_5 (k : Nat) : cX9_sheet.data.toList[80 + k]? = LRX9_sheet_5[k]? := by
  have h := LBX9_sheetr_4 (16 + k)
  rw [show 64 + (16 + k) = 80 + k by omega] at h
  rw [h]
  exact (List.getElem?_append_right (l₁ := LBX9_sheet_4) (l₂ := LRX9_sheet_5) (show 16 ≤ 16 + k by omega)).trans (congrArg (fun i => LRX9_sheet_5[i]?) (show 16 + k - 16 = k by omega))
theorem LBX9_sheetr_6 (k : Nat) : cX9_sheet.data.toList[96 + k]? = LRX9_sheet_6[k]? := by
  have h := LBX9_sheetr_5 (16 + k)
  rw [show 80 + (16 + k) = 96 + k by omega] at h
  rw [h]
  exact (List.getElem?_append_right (l₁ := LBX9_sheet_5) (l₂ := LRX9_sheet_6) (show 16 ≤ 16 + k by omega)).trans (congrArg (fun i => LRX9_sheet_6[i]?) (show 16 + k - 16 = k by omega))
theorem LBX9_sheetr_7 (k : Nat) : cX9_sheet.data.toList[112 + k]? = LRX9_sheet_7[k]? := by
  have h := LBX9_sheetr_6 (16 + k)
  rw [show 96 + (16 + k) = 112 + k by omega] at h
  rw [h]
  exact (List.getElem?_append_right (l₁ := LBX9_sheet_6) (l₂ := LRX9_sheet_7) (show 16 ≤ 16 + k by omega)).trans (congrArg (fun i => LRX9_sheet_7[i]?) (show 16 + k - 16 = k by omega))
theorem dX9_sheet_0 : decode cX9_sheet 0 = .ok (.iload_n 1, 1) := dk_27_ (show cX9_sheet.data.toList[0]? = some 0x1b from (LBX9_sheetr_0 0).trans (by decide +kernel))
theorem dX9_sheet_1 : decode cX9_sheet 1 = .ok (.invokestatic 305, 3) := dk_184_ (show cX9_sheet.data.toList[1]? = some 0xb8 from (LBX9_sheetr_0 1).trans (by decide +kernel)) (show cX9_sheet.data.toList[2]? = some 0x01 from (LBX9_sheetr_0 2).trans (by decide +kernel)) (show cX9_sheet.data.toList[3]? = some 0x31 from (LBX9_sheetr_0 3).trans (by decide +kernel)) (by decide)
theorem dX9_sheet_4 : decode cX9_sheet 4 = .ok (.ifCond .eq 25, 3) := dk_153_ (show cX9_sheet.data.toList[4]? = some 0x99 from (LBX9_sheetr_0 4).trans (by decide +kernel)) (show cX9_sheet.data.toList[5]? = some 0x00 from (LBX9_sheetr_0 5).trans (by decide +kernel)) (show cX9_sheet.data.toList[6]? = some 0x19 from (LBX9_sheetr_0 6).trans (by decide +kernel)) (by decide)
theorem dX9_sheet_7 : decode cX9_sheet 7 = .ok (.iload_n 2, 1) := dk_28_ (show cX9_sheet.data.toList[7]? = some 0x1c from (LBX9_sheetr_0 7).trans (by decide +kernel))
theorem dX9_sheet_8 : decode cX9_sheet 8 = .ok (.ifCond .eq 28, 3) := dk_153_ (show cX9_sheet.data.toList[8]? = some 0x99 from (LBX9_sheetr_0 8).trans (by decide +kernel)) (show cX9_sheet.data.toList[9]? = some 0x00 from (LBX9_sheetr_0 9).trans (by decide +kernel)) (show cX9_sheet.data.toList[10]? = some 0x1c from (LBX9_sheetr_0 10).trans (by decide +kernel)) (by decide)
theorem dX9_sheet_11 : decode cX9_sheet 11 = .ok (.iload_n 2, 1) := dk_28_ (show cX9_sheet.data.toList[11]? = some 0x1c from (LBX9_sheetr_0 11).trans (by decide +kernel))
theorem dX9_sheet_12 : decode cX9_sheet 12 = .ok (.bipush 8, 2) := dk_16_ (show cX9_sheet.data.toList[12]? = some 0x10 from (LBX9_sheetr_0 12).trans (by decide +kernel)) (show cX9_sheet.data.toList[13]? = some 0x08 from (LBX9_sheetr_0 13).trans (by decide +kernel)) (by decide)
theorem dX9_sheet_14 : decode cX9_sheet 14 = .ok (.if_icmp .eq 22, 3) := dk_159_ (show cX9_sheet.data.toList[14]? = some 0x9f from (LBX9_sheetr_0 14).trans (by decide +kernel)) (show cX9_sheet.data.toList[15]? = some 0x00 from (LBX9_sheetr_0 15).trans (by decide +kernel)) (show cX9_sheet.data.toList[16]? = some 0x16 from (LBX9_sheetr_1 0).trans (by decide +kernel)) (by decide)
theorem dX9_sheet_17 : decode cX9_sheet 17 = .ok (.iload_n 2, 1) := dk_28_ (show cX9_sheet.data.toList[17]? = some 0x1c from (LBX9_sheetr_1 1).trans (by decide +kernel))
theorem dX9_sheet_18 : decode cX9_sheet 18 = .ok (.bipush 16, 2) := dk_16_ (show cX9_sheet.data.toList[18]? = some 0x10 from (LBX9_sheetr_1 2).trans (by decide +kernel)) (show cX9_sheet.data.toList[19]? = some 0x10 from (LBX9_sheetr_1 3).trans (by decide +kernel)) (by decide)
theorem dX9_sheet_20 : decode cX9_sheet 20 = .ok (.if_icmp .eq 16, 3) := dk_159_ (show cX9_sheet.data.toList[20]? = some 0x9f from (LBX9_sheetr_1 4).trans (by decide +kernel)) (show cX9_sheet.data.toList[21]? = some 0x00 from (LBX9_sheetr_1 5).trans (by decide +kernel)) (show cX9_sheet.data.toList[22]? = some 0x10 from (LBX9_sheetr_1 6).trans (by decide +kernel)) (by decide)
theorem dX9_sheet_23 : decode cX9_sheet 23 = .ok (.iload_n 2, 1) := dk_28_ (show cX9_sheet.data.toList[23]? = some 0x1c from (LBX9_sheetr_1 7).trans (by decide +kernel))
theorem dX9_sheet_24 : decode cX9_sheet 24 = .ok (.bipush 64, 2) := dk_16_ (show cX9_sheet.data.toList[24]? = some 0x10 from (LBX9_sheetr_1 8).trans (by decide +kernel)) (show cX9_sheet.data.toList[25]? = some 0x40 from (LBX9_sheetr_1 9).trans (by decide +kernel)) (by decide)
theorem dX9_sheet_26 : decode cX9_sheet 26 = .ok (.if_icmp .eq 10, 3) := dk_159_ (show cX9_sheet.data.toList[26]? = some 0x9f from (LBX9_sheetr_1 10).trans (by decide +kernel)) (show cX9_sheet.data.toList[27]? = some 0x00 from (LBX9_sheetr_1 11).trans (by decide +kernel)) (show cX9_sheet.data.toList[28]? = some 0x0a from (LBX9_sheetr_1 12).trans (by decide +kernel)) (by decide)
theorem dX9_sheet_29 : decode cX9_sheet 29 = .ok (.aload_n 0, 1) := dk_42_ (show cX9_sheet.data.toList[29]? = some 0x2a from (LBX9_sheetr_1 13).trans (by decide +kernel))
theorem dX9_sheet_30 : decode cX9_sheet 30 = .ok (.ldc 56, 2) := dk_18_ (show cX9_sheet.data.toList[30]? = some 0x12 from (LBX9_sheetr_1 14).trans (by decide +kernel)) (show cX9_sheet.data.toList[31]? = some 0x38 from (LBX9_sheetr_1 15).trans (by decide +kernel)) (by decide)
theorem dX9_sheet_32 : decode cX9_sheet 32 = .ok (.invokevirtual 70, 3) := dk_182_ (show cX9_sheet.data.toList[32]? = some 0xb6 from (LBX9_sheetr_2 0).trans (by decide +kernel)) (show cX9_sheet.data.toList[33]? = some 0x00 from (LBX9_sheetr_2 1).trans (by decide +kernel)) (show cX9_sheet.data.toList[34]? = some 0x46 from (LBX9_sheetr_2 2).trans (by decide +kernel)) (by decide)
theorem dX9_sheet_35 : decode cX9_sheet 35 = .ok (.ireturn, 1) := dk_172_ (show cX9_sheet.data.toList[35]? = some 0xac from (LBX9_sheetr_2 3).trans (by decide +kernel))
theorem dX9_sheet_36 : decode cX9_sheet 36 = .ok (.iload_n 3, 1) := dk_29_ (show cX9_sheet.data.toList[36]? = some 0x1d from (LBX9_sheetr_2 4).trans (by decide +kernel))
theorem dX9_sheet_37 : decode cX9_sheet 37 = .ok (.ifCond .ge 11, 3) := dk_156_ (show cX9_sheet.data.toList[37]? = some 0x9c from (LBX9_sheetr_2 5).trans (by decide +kernel)) (show cX9_sheet.data.toList[38]? = some 0x00 from (LBX9_sheetr_2 6).trans (by decide +kernel)) (show cX9_sheet.data.toList[39]? = some 0x0b from (LBX9_sheetr_2 7).trans (by decide +kernel)) (by decide)
theorem dX9_sheet_40 : decode cX9_sheet 40 = .ok (.aload_n 0, 1) := dk_42_ (show cX9_sheet.data.toList[40]? = some 0x2a from (LBX9_sheetr_2 8).trans (by decide +kernel))
theorem dX9_sheet_41 : decode cX9_sheet 41 = .ok (.ldc_w 308, 3) := dk_19_ (show cX9_sheet.data.toList[41]? = some 0x13 from (LBX9_sheetr_2 9).trans (by decide +kernel)) (show cX9_sheet.data.toList[42]? = some 0x01 from (LBX9_sheetr_2 10).trans (by decide +kernel)) (show cX9_sheet.data.toList[43]? = some 0x34 from (LBX9_sheetr_2 11).trans (by decide +kernel)) (by decide)
theorem dX9_sheet_44 : decode cX9_sheet 44 = .ok (.invokevirtual 70, 3) := dk_182_ (show cX9_sheet.data.toList[44]? = some 0xb6 from (LBX9_sheetr_2 12).trans (by decide +kernel)) (show cX9_sheet.data.toList[45]? = some 0x00 from (LBX9_sheetr_2 13).trans (by decide +kernel)) (show cX9_sheet.data.toList[46]? = some 0x46 from (LBX9_sheetr_2 14).trans (by decide +kernel)) (by decide)
theorem dX9_sheet_47 : decode cX9_sheet 47 = .ok (.ireturn, 1) := dk_172_ (show cX9_sheet.data.toList[47]? = some 0xac from (LBX9_sheetr_2 15).trans (by decide +kernel))
theorem dX9_sheet_48 : decode cX9_sheet 48 = .ok (.iload_n 3, 1) := dk_29_ (show cX9_sheet.data.toList[48]? = some 0x1d from (LBX9_sheetr_3 0).trans (by decide +kernel))
theorem dX9_sheet_49 : decode cX9_sheet 49 = .ok (.bipush 40, 2) := dk_16_ (show cX9_sheet.data.toList[49]? = some 0x10 from (LBX9_sheetr_3 1).trans (by decide +kernel)) (show cX9_sheet.data.toList[50]? = some 0x28 from (LBX9_sheetr_3 2).trans (by decide +kernel)) (by decide)
theorem dX9_sheet_51 : decode cX9_sheet 51 = .ok (.if_icmp .le 10, 3) := dk_164_ (show cX9_sheet.data.toList[51]? = some 0xa4 from (LBX9_sheetr_3 3).trans (by decide +kernel)) (show cX9_sheet.data.toList[52]? = some 0x00 from (LBX9_sheetr_3 4).trans (by decide +kernel)) (show cX9_sheet.data.toList[53]? = some 0x0a from (LBX9_sheetr_3 5).trans (by decide +kernel)) (by decide)
theorem dX9_sheet_54 : decode cX9_sheet 54 = .ok (.aload_n 0, 1) := dk_42_ (show cX9_sheet.data.toList[54]? = some 0x2a from (LBX9_sheetr_3 6).trans (by decide +kernel))
theorem dX9_sheet_55 : decode cX9_sheet 55 = .ok (.ldc 56, 2) := dk_18_ (show cX9_sheet.data.toList[55]? = some 0x12 from (LBX9_sheetr_3 7).trans (by decide +kernel)) (show cX9_sheet.data.toList[56]? = some 0x38 from (LBX9_sheetr_3 8).trans (by decide +kernel)) (by decide)
theorem dX9_sheet_57 : decode cX9_sheet 57 = .ok (.invokevirtual 70, 3) := dk_182_ (show cX9_sheet.data.toList[57]? = some 0xb6 from (LBX9_sheetr_3 9).trans (by decide +kernel)) (show cX9_sheet.data.toList[58]? = some 0x00 from (LBX9_sheetr_3 10).trans (by decide +kernel)) (show cX9_sheet.data.toList[59]? = some 0x46 from (LBX9_sheetr_3 11).trans (by decide +kernel)) (by decide)
theorem dX9_sheet_60 : decode cX9_sheet 60 = .ok (.ireturn, 1) := dk_172_ (show cX9_sheet.data.toList[60]? = some 0xac from (LBX9_sheetr_3 12).trans (by decide +kernel))
theorem dX9_sheet_61 : decode cX9_sheet 61 = .ok (.aload_n 0, 1) := dk_42_ (show cX9_sheet.data.toList[61]? = some 0x2a from (LBX9_sheetr_3 13).trans (by decide +kernel))
theorem dX9_sheet_62 : decode cX9_sheet 62 = .ok (.getfield 43, 3) := dk_180_ (show cX9_sheet.data.toList[62]? = some 0xb4 from (LBX9_sheetr_3 14).trans (by decide +kernel)) (show cX9_sheet.data.toList[63]? = some 0x00 from (LBX9_sheetr_3 15).trans (by decide +kernel)) (show cX9_sheet.data.toList[64]? = some 0x2b from (LBX9_sheetr_4 0).trans (by decide +kernel)) (by decide)
theorem dX9_sheet_65 : decode cX9_sheet 65 = .ok (.iload_n 1, 1) := dk_27_ (show cX9_sheet.data.toList[65]? = some 0x1b from (LBX9_sheetr_4 1).trans (by decide +kernel))
theorem dX9_sheet_66 : decode cX9_sheet 66 = .ok (.iload_n 2, 1) := dk_28_ (show cX9_sheet.data.toList[66]? = some 0x1c from (LBX9_sheetr_4 2).trans (by decide +kernel))
theorem dX9_sheet_67 : decode cX9_sheet 67 = .ok (.iastore, 1) := dk_79_ (show cX9_sheet.data.toList[67]? = some 0x4f from (LBX9_sheetr_4 3).trans (by decide +kernel))
theorem dX9_sheet_68 : decode cX9_sheet 68 = .ok (.aload_n 0, 1) := dk_42_ (show cX9_sheet.data.toList[68]? = some 0x2a from (LBX9_sheetr_4 4).trans (by decide +kernel))
theorem dX9_sheet_69 : decode cX9_sheet 69 = .ok (.getfield 46, 3) := dk_180_ (show cX9_sheet.data.toList[69]? = some 0xb4 from (LBX9_sheetr_4 5).trans (by decide +kernel)) (show cX9_sheet.data.toList[70]? = some 0x00 from (LBX9_sheetr_4 6).trans (by decide +kernel)) (show cX9_sheet.data.toList[71]? = some 0x2e from (LBX9_sheetr_4 7).trans (by decide +kernel)) (by decide)
theorem dX9_sheet_72 : decode cX9_sheet 72 = .ok (.iload_n 1, 1) := dk_27_ (show cX9_sheet.data.toList[72]? = some 0x1b from (LBX9_sheetr_4 8).trans (by decide +kernel))
theorem dX9_sheet_73 : decode cX9_sheet 73 = .ok (.iload_n 2, 1) := dk_28_ (show cX9_sheet.data.toList[73]? = some 0x1c from (LBX9_sheetr_4 9).trans (by decide +kernel))
theorem dX9_sheet_74 : decode cX9_sheet 74 = .ok (.ifCond .ne 7, 3) := dk_154_ (show cX9_sheet.data.toList[74]? = some 0x9a from (LBX9_sheetr_4 10).trans (by decide +kernel)) (show cX9_sheet.data.toList[75]? = some 0x00 from (LBX9_sheetr_4 11).trans (by decide +kernel)) (show cX9_sheet.data.toList[76]? = some 0x07 from (LBX9_sheetr_4 12).trans (by decide +kernel)) (by decide)
theorem dX9_sheet_77 : decode cX9_sheet 77 = .ok (.iconst 0, 1) := dk_3_ (show cX9_sheet.data.toList[77]? = some 0x03 from (LBX9_sheetr_4 13).trans (by decide +kernel))
theorem dX9_sheet_78 : decode cX9_sheet 78 = .ok (.goto 4, 3) := dk_167_ (show cX9_sheet.data.toList[78]? = some 0xa7 from (LBX9_sheetr_4 14).trans (by decide +kernel)) (show cX9_sheet.data.toList[79]? = some 0x00 from (LBX9_sheetr_4 15).trans (by decide +kernel)) (show cX9_sheet.data.toList[80]? = some 0x04 from (LBX9_sheetr_5 0).trans (by decide +kernel)) (by decide)
theorem dX9_sheet_81 : decode cX9_sheet 81 = .ok (.iload_n 3, 1) := dk_29_ (show cX9_sheet.data.toList[81]? = some 0x1d from (LBX9_sheetr_5 1).trans (by decide +kernel))
theorem dX9_sheet_82 : decode cX9_sheet 82 = .ok (.iastore, 1) := dk_79_ (show cX9_sheet.data.toList[82]? = some 0x4f from (LBX9_sheetr_5 2).trans (by decide +kernel))
theorem dX9_sheet_83 : decode cX9_sheet 83 = .ok (.iconst 0, 1) := dk_3_ (show cX9_sheet.data.toList[83]? = some 0x03 from (LBX9_sheetr_5 3).trans (by decide +kernel))
theorem dX9_sheet_84 : decode cX9_sheet 84 = .ok (.istore 4, 2) := dk_54_ (show cX9_sheet.data.toList[84]? = some 0x36 from (LBX9_sheetr_5 4).trans (by decide +kernel)) (show cX9_sheet.data.toList[85]? = some 0x04 from (LBX9_sheetr_5 5).trans (by decide +kernel)) (by decide)
theorem dX9_sheet_86 : decode cX9_sheet 86 = .ok (.iload 4, 2) := dk_21_ (show cX9_sheet.data.toList[86]? = some 0x15 from (LBX9_sheetr_5 6).trans (by decide +kernel)) (show cX9_sheet.data.toList[87]? = some 0x04 from (LBX9_sheetr_5 7).trans (by decide +kernel)) (by decide)
theorem dX9_sheet_88 : decode cX9_sheet 88 = .ok (.bipush 40, 2) := dk_16_ (show cX9_sheet.data.toList[88]? = some 0x10 from (LBX9_sheetr_5 8).trans (by decide +kernel)) (show cX9_sheet.data.toList[89]? = some 0x28 from (LBX9_sheetr_5 9).trans (by decide +kernel)) (by decide)
theorem dX9_sheet_90 : decode cX9_sheet 90 = .ok (.if_icmp .ge 22, 3) := dk_162_ (show cX9_sheet.data.toList[90]? = some 0xa2 from (LBX9_sheetr_5 10).trans (by decide +kernel)) (show cX9_sheet.data.toList[91]? = some 0x00 from (LBX9_sheetr_5 11).trans (by decide +kernel)) (show cX9_sheet.data.toList[92]? = some 0x16 from (LBX9_sheetr_5 12).trans (by decide +kernel)) (by decide)
theorem dX9_sheet_93 : decode cX9_sheet 93 = .ok (.aload_n 0, 1) := dk_42_ (show cX9_sheet.data.toList[93]? = some 0x2a from (LBX9_sheetr_5 13).trans (by decide +kernel))
theorem dX9_sheet_94 : decode cX9_sheet 94 = .ok (.getfield 49, 3) := dk_180_ (show cX9_sheet.data.toList[94]? = some 0xb4 from (LBX9_sheetr_5 14).trans (by decide +kernel)) (show cX9_sheet.data.toList[95]? = some 0x00 from (LBX9_sheetr_5 15).trans (by decide +kernel)) (show cX9_sheet.data.toList[96]? = some 0x31 from (LBX9_sheetr_6 0).trans (by decide +kernel)) (by decide)
theorem dX9_sheet_97 : decode cX9_sheet 97 = .ok (.bipush 40, 2) := dk_16_ (show cX9_sheet.data.toList[97]? = some 0x10 from (LBX9_sheetr_6 1).trans (by decide +kernel)) (show cX9_sheet.data.toList[98]? = some 0x28 from (LBX9_sheetr_6 2).trans (by decide +kernel)) (by decide)
theorem dX9_sheet_99 : decode cX9_sheet 99 = .ok (.iload_n 1, 1) := dk_27_ (show cX9_sheet.data.toList[99]? = some 0x1b from (LBX9_sheetr_6 3).trans (by decide +kernel))
theorem dX9_sheet_100 : decode cX9_sheet 100 = .ok (.imul, 1) := dk_104_ (show cX9_sheet.data.toList[100]? = some 0x68 from (LBX9_sheetr_6 4).trans (by decide +kernel))
theorem dX9_sheet_101 : decode cX9_sheet 101 = .ok (.iload 4, 2) := dk_21_ (show cX9_sheet.data.toList[101]? = some 0x15 from (LBX9_sheetr_6 5).trans (by decide +kernel)) (show cX9_sheet.data.toList[102]? = some 0x04 from (LBX9_sheetr_6 6).trans (by decide +kernel)) (by decide)
theorem dX9_sheet_103 : decode cX9_sheet 103 = .ok (.iadd, 1) := dk_96_ (show cX9_sheet.data.toList[103]? = some 0x60 from (LBX9_sheetr_6 7).trans (by decide +kernel))
theorem dX9_sheet_104 : decode cX9_sheet 104 = .ok (.lconst 0, 1) := dk_9_ (show cX9_sheet.data.toList[104]? = some 0x09 from (LBX9_sheetr_6 8).trans (by decide +kernel))
theorem dX9_sheet_105 : decode cX9_sheet 105 = .ok (.lastore, 1) := dk_80_ (show cX9_sheet.data.toList[105]? = some 0x50 from (LBX9_sheetr_6 9).trans (by decide +kernel))
theorem dX9_sheet_106 : decode cX9_sheet 106 = .ok (.iinc 4 1, 3) := dk_132_ (show cX9_sheet.data.toList[106]? = some 0x84 from (LBX9_sheetr_6 10).trans (by decide +kernel)) (show cX9_sheet.data.toList[107]? = some 0x04 from (LBX9_sheetr_6 11).trans (by decide +kernel)) (show cX9_sheet.data.toList[108]? = some 0x01 from (LBX9_sheetr_6 12).trans (by decide +kernel)) (by decide) (by decide)
theorem dX9_sheet_109 : decode cX9_sheet 109 = .ok (.goto (-23), 3) := dk_167_ (show cX9_sheet.data.toList[109]? = some 0xa7 from (LBX9_sheetr_6 13).trans (by decide +kernel)) (show cX9_sheet.data.toList[110]? = some 0xff from (LBX9_sheetr_6 14).trans (by decide +kernel)) (show cX9_sheet.data.toList[111]? = some 0xe9 from (LBX9_sheetr_6 15).trans (by decide +kernel)) (by decide)
theorem dX9_sheet_112 : decode cX9_sheet 112 = .ok (.aload_n 0, 1) := dk_42_ (show cX9_sheet.data.toList[112]? = some 0x2a from (LBX9_sheetr_7 0).trans (by decide +kernel))
theorem dX9_sheet_113 : decode cX9_sheet 113 = .ok (.getfield 46, 3) := dk_180_ (show cX9_sheet.data.toList[113]? = some 0xb4 from (LBX9_sheetr_7 1).trans (by decide +kernel)) (show cX9_sheet.data.toList[114]? = some 0x00 from (LBX9_sheetr_7 2).trans (by decide +kernel)) (show cX9_sheet.data.toList[115]? = some 0x2e from (LBX9_sheetr_7 3).trans (by decide +kernel)) (by decide)
theorem dX9_sheet_116 : decode cX9_sheet 116 = .ok (.iload_n 1, 1) := dk_27_ (show cX9_sheet.data.toList[116]? = some 0x1b from (LBX9_sheetr_7 4).trans (by decide +kernel))
theorem dX9_sheet_117 : decode cX9_sheet 117 = .ok (.iaload, 1) := dk_46_ (show cX9_sheet.data.toList[117]? = some 0x2e from (LBX9_sheetr_7 5).trans (by decide +kernel))
theorem dX9_sheet_118 : decode cX9_sheet 118 = .ok (.ireturn, 1) := dk_172_ (show cX9_sheet.data.toList[118]? = some 0xac from (LBX9_sheetr_7 6).trans (by decide +kernel))
def LRX9_narrowed_2 : List UInt8 := []
def LBX9_narrowed_1 : List UInt8 := [0xa0, 0x00, 0x0a, 0x1f, 0x88, 0x93, 0x85, 0xa7, 0x00, 0x04, 0x1f, 0xad]
def LRX9_narrowed_1 : List UInt8 := LBX9_narrowed_1 ++ LRX9_narrowed_2
def LBX9_narrowed_0 : List UInt8 := [0x1a, 0x10, 0x08, 0xa0, 0x00, 0x0a, 0x1f, 0x88, 0x91, 0x85, 0xa7, 0x00, 0x11, 0x1a, 0x10, 0x10]
def LRX9_narrowed_0 : List UInt8 := LBX9_narrowed_0 ++ LRX9_narrowed_1
set_option maxRecDepth 100000 in
theorem LBX9_narrowed_eq : cX9_narrowed.data.toList = LRX9_narrowed_0 := by decide +kernel
theorem LBX9_narrowedr_0 (k : Nat) : cX9_narrowed.data.toList[0 + k]? = LRX9_narrowed_0[k]? := by rw [LBX9_narrowed_eq, Nat.zero_add]
theorem LBX9_narrowedr_1 (k : Nat) : cX9_narrowed.data.toList[16 + k]? = LRX9_narrowed_1[k]? := by
  have h := LBX9_narrowedr_0 (16 + k)
  rw [show 0 + (16 + k) = 16 + k by omega] at h
  rw [h]
  exact (List.getElem?_append_right (l₁ := LBX9_narrowed_0) (l₂ := LRX9_narrowed_1) (show 16 ≤ 16 + k by omega)).trans (congrArg (fun i => LRX9_narrowed_1[i]?) (show 16 + k - 16 = k by omega))
theorem dX9_narrowed_0 : decode cX9_narrowed 0 = .ok (.iload_n 0, 1) := dk_26_ (show cX9_narrowed.data.toList[0]? = some 0x1a from (LBX9_narrowedr_0 0).trans (by decide +kernel))
theorem dX9_narrowed_1 : decode cX9_narrowed 1 = .ok (.bipush 8, 2) := dk_16_ (show cX9_narrowed.data.toList[1]? = some 0x10 from (LBX9_narrowedr_0 1).trans (by decide +kernel)) (show cX9_narrowed.data.toList[2]? = some 0x08 from (LBX9_narrowedr_0 2).trans (by decide +kernel)) (by decide)
theorem dX9_narrowed_3 : decode cX9_narrowed 3 = .ok (.if_icmp .ne 10, 3) := dk_160_ (show cX9_narrowed.data.toList[3]? = some 0xa0 from (LBX9_narrowedr_0 3).trans (by decide +kernel)) (show cX9_narrowed.data.toList[4]? = some 0x00 from (LBX9_narrowedr_0 4).trans (by decide +kernel)) (show cX9_narrowed.data.toList[5]? = some 0x0a from (LBX9_narrowedr_0 5).trans (by decide +kernel)) (by decide)
theorem dX9_narrowed_6 : decode cX9_narrowed 6 = .ok (.lload_n 1, 1) := dk_31_ (show cX9_narrowed.data.toList[6]? = some 0x1f from (LBX9_narrowedr_0 6).trans (by decide +kernel))
theorem dX9_narrowed_7 : decode cX9_narrowed 7 = .ok (.l2i, 1) := dk_136_ (show cX9_narrowed.data.toList[7]? = some 0x88 from (LBX9_narrowedr_0 7).trans (by decide +kernel))
theorem dX9_narrowed_8 : decode cX9_narrowed 8 = .ok (.i2b, 1) := dk_145_ (show cX9_narrowed.data.toList[8]? = some 0x91 from (LBX9_narrowedr_0 8).trans (by decide +kernel))
theorem dX9_narrowed_9 : decode cX9_narrowed 9 = .ok (.i2l, 1) := dk_133_ (show cX9_narrowed.data.toList[9]? = some 0x85 from (LBX9_narrowedr_0 9).trans (by decide +kernel))
theorem dX9_narrowed_10 : decode cX9_narrowed 10 = .ok (.goto 17, 3) := dk_167_ (show cX9_narrowed.data.toList[10]? = some 0xa7 from (LBX9_narrowedr_0 10).trans (by decide +kernel)) (show cX9_narrowed.data.toList[11]? = some 0x00 from (LBX9_narrowedr_0 11).trans (by decide +kernel)) (show cX9_narrowed.data.toList[12]? = some 0x11 from (LBX9_narrowedr_0 12).trans (by decide +kernel)) (by decide)
theorem dX9_narrowed_13 : decode cX9_narrowed 13 = .ok (.iload_n 0, 1) := dk_26_ (show cX9_narrowed.data.toList[13]? = some 0x1a from (LBX9_narrowedr_0 13).trans (by decide +kernel))
theorem dX9_narrowed_14 : decode cX9_narrowed 14 = .ok (.bipush 16, 2) := dk_16_ (show cX9_narrowed.data.toList[14]? = some 0x10 from (LBX9_narrowedr_0 14).trans (by decide +kernel)) (show cX9_narrowed.data.toList[15]? = some 0x10 from (LBX9_narrowedr_0 15).trans (by decide +kernel)) (by decide)
theorem dX9_narrowed_16 : decode cX9_narrowed 16 = .ok (.if_icmp .ne 10, 3) := dk_160_ (show cX9_narrowed.data.toList[16]? = some 0xa0 from (LBX9_narrowedr_1 0).trans (by decide +kernel)) (show cX9_narrowed.data.toList[17]? = some 0x00 from (LBX9_narrowedr_1 1).trans (by decide +kernel)) (show cX9_narrowed.data.toList[18]? = some 0x0a from (LBX9_narrowedr_1 2).trans (by decide +kernel)) (by decide)
theorem dX9_narrowed_19 : decode cX9_narrowed 19 = .ok (.lload_n 1, 1) := dk_31_ (show cX9_narrowed.data.toList[19]? = some 0x1f from (LBX9_narrowedr_1 3).trans (by decide +kernel))
theorem dX9_narrowed_20 : decode cX9_narrowed 20 = .ok (.l2i, 1) := dk_136_ (show cX9_narrowed.data.toList[20]? = some 0x88 from (LBX9_narrowedr_1 4).trans (by decide +kernel))
theorem dX9_narrowed_21 : decode cX9_narrowed 21 = .ok (.i2s, 1) := dk_147_ (show cX9_narrowed.data.toList[21]? = some 0x93 from (LBX9_narrowedr_1 5).trans (by decide +kernel))
theorem dX9_narrowed_22 : decode cX9_narrowed 22 = .ok (.i2l, 1) := dk_133_ (show cX9_narrowed.data.toList[22]? = some 0x85 from (LBX9_narrowedr_1 6).trans (by decide +kernel))
theorem dX9_narrowed_23 : decode cX9_narrowed 23 = .ok (.goto 4, 3) := dk_167_ (show cX9_narrowed.data.toList[23]? = some 0xa7 from (LBX9_narrowedr_1 7).trans (by decide +kernel)) (show cX9_narrowed.data.toList[24]? = some 0x00 from (LBX9_narrowedr_1 8).trans (by decide +kernel)) (show cX9_narrowed.data.toList[25]? = some 0x04 from (LBX9_narrowedr_1 9).trans (by decide +kernel)) (by decide)
theorem dX9_narrowed_26 : decode cX9_narrowed 26 = .ok (.lload_n 1, 1) := dk_31_ (show cX9_narrowed.data.toList[26]? = some 0x1f from (LBX9_narrowedr_1 10).trans (by decide +kernel))
theorem dX9_narrowed_27 : decode cX9_narrowed 27 = .ok (.lreturn, 1) := dk_173_ (show cX9_narrowed.data.toList[27]? = some 0xad from (LBX9_narrowedr_1 11).trans (by decide +kernel))
def LRX9_wrong_2 : List UInt8 := []
def LBX9_wrong_1 : List UInt8 := [0x1b, 0x2e, 0x9a, 0x00, 0x09, 0x13, 0x01, 0x35, 0xa7, 0x00, 0x04, 0x03, 0xac]
def LRX9_wrong_1 : List UInt8 := LBX9_wrong_1 ++ LRX9_wrong_2
def LBX9_wrong_0 : List UInt8 := [0x1b, 0xb8, 0x01, 0x31, 0x9a, 0x00, 0x08, 0x12, 0x38, 0xa7, 0x00, 0x13, 0x2a, 0xb4, 0x00, 0x2b]
def LRX9_wrong_0 : List UInt8 := LBX9_wrong_0 ++ LRX9_wrong_1
set_option maxRecDepth 100000 in
theorem LBX9_wrong_eq : cX9_wrong.data.toList = LRX9_wrong_0 := by decide +kernel
theorem LBX9_wrongr_0 (k : Nat) : cX9_wrong.data.toList[0 + k]? = LRX9_wrong_0[k]? := by rw [LBX9_wrong_eq, Nat.zero_add]
theorem LBX9_wrongr_1 (k : Nat) : cX9_wrong.data.toList[16 + k]? = LRX9_wrong_1[k]? := by
  have h := LBX9_wrongr_0 (16 + k)
  rw [show 0 + (16 + k) = 16 + k by omega] at h
  rw [h]
  exact (List.getElem?_append_right (l₁ := LBX9_wrong_0) (l₂ := LRX9_wrong_1) (show 16 ≤ 16 + k by omega)).trans (congrArg (fun i => LRX9_wrong_1[i]?) (show 16 + k - 16 = k by omega))
theorem dX9_wrong_0 : decode cX9_wrong 0 = .ok (.iload_n 1, 1) := dk_27_ (show cX9_wrong.data.toList[0]? = some 0x1b from (LBX9_wrongr_0 0).trans (by decide +kernel))
theorem dX9_wrong_1 : decode cX9_wrong 1 = .ok (.invokestatic 305, 3) := dk_184_ (show cX9_wrong.data.toList[1]? = some 0xb8 from (LBX9_wrongr_0 1).trans (by decide +kernel)) (show cX9_wrong.data.toList[2]? = some 0x01 from (LBX9_wrongr_0 2).trans (by decide +kernel)) (show cX9_wrong.data.toList[3]? = some 0x31 from (LBX9_wrongr_0 3).trans (by decide +kernel)) (by decide)
theorem dX9_wrong_4 : decode cX9_wrong 4 = .ok (.ifCond .ne 8, 3) := dk_154_ (show cX9_wrong.data.toList[4]? = some 0x9a from (LBX9_wrongr_0 4).trans (by decide +kernel)) (show cX9_wrong.data.toList[5]? = some 0x00 from (LBX9_wrongr_0 5).trans (by decide +kernel)) (show cX9_wrong.data.toList[6]? = some 0x08 from (LBX9_wrongr_0 6).trans (by decide +kernel)) (by decide)
theorem dX9_wrong_7 : decode cX9_wrong 7 = .ok (.ldc 56, 2) := dk_18_ (show cX9_wrong.data.toList[7]? = some 0x12 from (LBX9_wrongr_0 7).trans (by decide +kernel)) (show cX9_wrong.data.toList[8]? = some 0x38 from (LBX9_wrongr_0 8).trans (by decide +kernel)) (by decide)
theorem dX9_wrong_9 : decode cX9_wrong 9 = .ok (.goto 19, 3) := dk_167_ (show cX9_wrong.data.toList[9]? = some 0xa7 from (LBX9_wrongr_0 9).trans (by decide +kernel)) (show cX9_wrong.data.toList[10]? = some 0x00 from (LBX9_wrongr_0 10).trans (by decide +kernel)) (show cX9_wrong.data.toList[11]? = some 0x13 from (LBX9_wrongr_0 11).trans (by decide +kernel)) (by decide)
theorem dX9_wrong_12 : decode cX9_wrong 12 = .ok (.aload_n 0, 1) := dk_42_ (show cX9_wrong.data.toList[12]? = some 0x2a from (LBX9_wrongr_0 12).trans (by decide +kernel))
theorem dX9_wrong_13 : decode cX9_wrong 13 = .ok (.getfield 43, 3) := dk_180_ (show cX9_wrong.data.toList[13]? = some 0xb4 from (LBX9_wrongr_0 13).trans (by decide +kernel)) (show cX9_wrong.data.toList[14]? = some 0x00 from (LBX9_wrongr_0 14).trans (by decide +kernel)) (show cX9_wrong.data.toList[15]? = some 0x2b from (LBX9_wrongr_0 15).trans (by decide +kernel)) (by decide)
theorem dX9_wrong_16 : decode cX9_wrong 16 = .ok (.iload_n 1, 1) := dk_27_ (show cX9_wrong.data.toList[16]? = some 0x1b from (LBX9_wrongr_1 0).trans (by decide +kernel))
theorem dX9_wrong_17 : decode cX9_wrong 17 = .ok (.iaload, 1) := dk_46_ (show cX9_wrong.data.toList[17]? = some 0x2e from (LBX9_wrongr_1 1).trans (by decide +kernel))
theorem dX9_wrong_18 : decode cX9_wrong 18 = .ok (.ifCond .ne 9, 3) := dk_154_ (show cX9_wrong.data.toList[18]? = some 0x9a from (LBX9_wrongr_1 2).trans (by decide +kernel)) (show cX9_wrong.data.toList[19]? = some 0x00 from (LBX9_wrongr_1 3).trans (by decide +kernel)) (show cX9_wrong.data.toList[20]? = some 0x09 from (LBX9_wrongr_1 4).trans (by decide +kernel)) (by decide)
theorem dX9_wrong_21 : decode cX9_wrong 21 = .ok (.ldc_w 309, 3) := dk_19_ (show cX9_wrong.data.toList[21]? = some 0x13 from (LBX9_wrongr_1 5).trans (by decide +kernel)) (show cX9_wrong.data.toList[22]? = some 0x01 from (LBX9_wrongr_1 6).trans (by decide +kernel)) (show cX9_wrong.data.toList[23]? = some 0x35 from (LBX9_wrongr_1 7).trans (by decide +kernel)) (by decide)
theorem dX9_wrong_24 : decode cX9_wrong 24 = .ok (.goto 4, 3) := dk_167_ (show cX9_wrong.data.toList[24]? = some 0xa7 from (LBX9_wrongr_1 8).trans (by decide +kernel)) (show cX9_wrong.data.toList[25]? = some 0x00 from (LBX9_wrongr_1 9).trans (by decide +kernel)) (show cX9_wrong.data.toList[26]? = some 0x04 from (LBX9_wrongr_1 10).trans (by decide +kernel)) (by decide)
theorem dX9_wrong_27 : decode cX9_wrong 27 = .ok (.iconst 0, 1) := dk_3_ (show cX9_wrong.data.toList[27]? = some 0x03 from (LBX9_wrongr_1 11).trans (by decide +kernel))
theorem dX9_wrong_28 : decode cX9_wrong 28 = .ok (.ireturn, 1) := dk_172_ (show cX9_wrong.data.toList[28]? = some 0xac from (LBX9_wrongr_1 12).trans (by decide +kernel))
def LRX9_write_6 : List UInt8 := []
def LBX9_write_5 : List UInt8 := [0x16, 0x06, 0xad]
def LRX9_write_5 : List UInt8 := LBX9_write_5 ++ LRX9_write_6
def LBX9_write_4 : List UInt8 := [0x28, 0x1b, 0x68, 0x1c, 0x60, 0x2a, 0xb4, 0x00, 0x2b, 0x1b, 0x2e, 0x21, 0xb8, 0x01, 0x39, 0x50]
def LRX9_write_4 : List UInt8 := LBX9_write_4 ++ LRX9_write_5
def LBX9_write_3 : List UInt8 := [0x00, 0x31, 0x10, 0x28, 0x1b, 0x68, 0x1c, 0x60, 0x2f, 0x37, 0x06, 0x2a, 0xb4, 0x00, 0x31, 0x10]
def LRX9_write_3 : List UInt8 := LBX9_write_3 ++ LRX9_write_4
def LBX9_write_2 : List UInt8 := [0xb8, 0x00, 0x39, 0x9a, 0x00, 0x0b, 0x2a, 0x12, 0x38, 0xb6, 0x00, 0x46, 0x85, 0xad, 0x2a, 0xb4]
def LRX9_write_2 : List UInt8 := LBX9_write_2 ++ LRX9_write_3
def LBX9_write_1 : List UInt8 := [0x00, 0x46, 0x85, 0xad, 0x1c, 0x85, 0x09, 0x2a, 0xb4, 0x00, 0x2e, 0x1b, 0x2e, 0x04, 0x64, 0x85]
def LRX9_write_1 : List UInt8 := LBX9_write_1 ++ LRX9_write_2
def LBX9_write_0 : List UInt8 := [0x2a, 0x1b, 0xb6, 0x01, 0x36, 0x36, 0x05, 0x15, 0x05, 0x99, 0x00, 0x0b, 0x2a, 0x15, 0x05, 0xb6]
def LRX9_write_0 : List UInt8 := LBX9_write_0 ++ LRX9_write_1
set_option maxRecDepth 100000 in
theorem LBX9_write_eq : cX9_write.data.toList = LRX9_write_0 := by decide +kernel
theorem LBX9_writer_0 (k : Nat) : cX9_write.data.toList[0 + k]? = LRX9_write_0[k]? := by rw [LBX9_write_eq, Nat.zero_add]
theorem LBX9_writer_1 (k : Nat) : cX9_write.data.toList[16 + k]? = LRX9_write_1[k]? := by
  have h := LBX9_writer_0 (16 + k)
  rw [show 0 + (16 + k) = 16 + k by omega] at h
  rw [h]
  exact (List.getElem?_append_right (l₁ := LBX9_write_0) (l₂ := LRX9_write_1) (show 16 ≤ 16 + k by omega)).trans (congrArg (fun i => LRX9_write_1[i]?) (show 16 + k - 16 = k by omega))
theorem LBX9_writer_2 (k : Nat) : cX9_write.data.toList[32 + k]? = LRX9_write_2[k]? := by
  have h := LBX9_writer_1 (16 + k)
  rw [show 16 + (16 + k) = 32 + k by omega] at h
  rw [h]
  exact (List.getElem?_append_right (l₁ := LBX9_write_1) (l₂ := LRX9_write_2) (show 16 ≤ 16 + k by omega)).trans (congrArg (fun i => LRX9_write_2[i]?) (show 16 + k - 16 = k by omega))
theorem LBX9_writer_3 (k : Nat) : cX9_write.data.toList[48 + k]? = LRX9_write_3[k]? := by
  have h := LBX9_writer_2 (16 + k)
  rw [show 32 + (16 + k) = 48 + k by omega] at h
  rw [h]
  exact (List.getElem?_append_right (l₁ := LBX9_write_2) (l₂ := LRX9_write_3) (show 16 ≤ 16 + k by omega)).trans (congrArg (fun i => LRX9_write_3[i]?) (show 16 + k - 16 = k by omega))
theorem LBX9_writer_4 (k : Nat) : cX9_write.data.toList[64 + k]? = LRX9_write_4[k]? := by
  have h := LBX9_writer_3 (16 + k)
  rw [show 48 + (16 + k) = 64 + k by omega] at h
  rw [h]
  exact (List.getElem?_append_right (l₁ := LBX9_write_3) (l₂ := LRX9_write_4) (show 16 ≤ 16 + k by omega)).trans (congrArg (fun i => LRX9_write_4[i]?) (show 16 + k - 16 = k by omega))
theorem LBX9_writer_5 (k : Nat) : cX9_write.data.toList[80 + k]? = LRX9_write_5[k]? := by
  have h := LBX9_writer_4 (16 + k)
  rw [show 64 + (16 + k) = 80 + k by omega] at h
  rw [h]
  exact (List.getElem?_append_right (l₁ := LBX9_write_4) (l₂ := LRX9_write_5) (show 16 ≤ 16 + k by omega)).trans (congrArg (fun i => LRX9_write_5[i]?) (show 16 + k - 16 = k by omega))
theorem dX9_write_0 : decode cX9_write 0 = .ok (.aload_n 0, 1) := dk_42_ (show cX9_write.data.toList[0]? = some 0x2a from (LBX9_writer_0 0).trans (by decide +kernel))
theorem dX9_write_1 : decode cX9_write 1 = .ok (.iload_n 1, 1) := dk_27_ (show cX9_write.data.toList[1]? = some 0x1b from (LBX9_writer_0 1).trans (by decide +kernel))
theorem dX9_write_2 : decode cX9_write 2 = .ok (.invokevirtual 310, 3) := dk_182_ (show cX9_write.data.toList[2]? = some 0xb6 from (LBX9_writer_0 2).trans (by decide +kernel)) (show cX9_write.data.toList[3]? = some 0x01 from (LBX9_writer_0 3).trans (by decide +kernel)) (show cX9_write.data.toList[4]? = some 0x36 from (LBX9_writer_0 4).trans (by decide +kernel)) (by decide)
theorem dX9_write_5 : decode cX9_write 5 = .ok (.istore 5, 2) := dk_54_ (show cX9_write.data.toList[5]? = some 0x36 from (LBX9_writer_0 5).trans (by decide +kernel)) (show cX9_write.data.toList[6]? = some 0x05 from (LBX9_writer_0 6).trans (by decide +kernel)) (by decide)
theorem dX9_write_7 : decode cX9_write 7 = .ok (.iload 5, 2) := dk_21_ (show cX9_write.data.toList[7]? = some 0x15 from (LBX9_writer_0 7).trans (by decide +kernel)) (show cX9_write.data.toList[8]? = some 0x05 from (LBX9_writer_0 8).trans (by decide +kernel)) (by decide)
theorem dX9_write_9 : decode cX9_write 9 = .ok (.ifCond .eq 11, 3) := dk_153_ (show cX9_write.data.toList[9]? = some 0x99 from (LBX9_writer_0 9).trans (by decide +kernel)) (show cX9_write.data.toList[10]? = some 0x00 from (LBX9_writer_0 10).trans (by decide +kernel)) (show cX9_write.data.toList[11]? = some 0x0b from (LBX9_writer_0 11).trans (by decide +kernel)) (by decide)
theorem dX9_write_12 : decode cX9_write 12 = .ok (.aload_n 0, 1) := dk_42_ (show cX9_write.data.toList[12]? = some 0x2a from (LBX9_writer_0 12).trans (by decide +kernel))
theorem dX9_write_13 : decode cX9_write 13 = .ok (.iload 5, 2) := dk_21_ (show cX9_write.data.toList[13]? = some 0x15 from (LBX9_writer_0 13).trans (by decide +kernel)) (show cX9_write.data.toList[14]? = some 0x05 from (LBX9_writer_0 14).trans (by decide +kernel)) (by decide)
theorem dX9_write_15 : decode cX9_write 15 = .ok (.invokevirtual 70, 3) := dk_182_ (show cX9_write.data.toList[15]? = some 0xb6 from (LBX9_writer_0 15).trans (by decide +kernel)) (show cX9_write.data.toList[16]? = some 0x00 from (LBX9_writer_1 0).trans (by decide +kernel)) (show cX9_write.data.toList[17]? = some 0x46 from (LBX9_writer_1 1).trans (by decide +kernel)) (by decide)
theorem dX9_write_18 : decode cX9_write 18 = .ok (.i2l, 1) := dk_133_ (show cX9_write.data.toList[18]? = some 0x85 from (LBX9_writer_1 2).trans (by decide +kernel))
theorem dX9_write_19 : decode cX9_write 19 = .ok (.lreturn, 1) := dk_173_ (show cX9_write.data.toList[19]? = some 0xad from (LBX9_writer_1 3).trans (by decide +kernel))
theorem dX9_write_20 : decode cX9_write 20 = .ok (.iload_n 2, 1) := dk_28_ (show cX9_write.data.toList[20]? = some 0x1c from (LBX9_writer_1 4).trans (by decide +kernel))
theorem dX9_write_21 : decode cX9_write 21 = .ok (.i2l, 1) := dk_133_ (show cX9_write.data.toList[21]? = some 0x85 from (LBX9_writer_1 5).trans (by decide +kernel))
theorem dX9_write_22 : decode cX9_write 22 = .ok (.lconst 0, 1) := dk_9_ (show cX9_write.data.toList[22]? = some 0x09 from (LBX9_writer_1 6).trans (by decide +kernel))
theorem dX9_write_23 : decode cX9_write 23 = .ok (.aload_n 0, 1) := dk_42_ (show cX9_write.data.toList[23]? = some 0x2a from (LBX9_writer_1 7).trans (by decide +kernel))
theorem dX9_write_24 : decode cX9_write 24 = .ok (.getfield 46, 3) := dk_180_ (show cX9_write.data.toList[24]? = some 0xb4 from (LBX9_writer_1 8).trans (by decide +kernel)) (show cX9_write.data.toList[25]? = some 0x00 from (LBX9_writer_1 9).trans (by decide +kernel)) (show cX9_write.data.toList[26]? = some 0x2e from (LBX9_writer_1 10).trans (by decide +kernel)) (by decide)
theorem dX9_write_27 : decode cX9_write 27 = .ok (.iload_n 1, 1) := dk_27_ (show cX9_write.data.toList[27]? = some 0x1b from (LBX9_writer_1 11).trans (by decide +kernel))
theorem dX9_write_28 : decode cX9_write 28 = .ok (.iaload, 1) := dk_46_ (show cX9_write.data.toList[28]? = some 0x2e from (LBX9_writer_1 12).trans (by decide +kernel))
theorem dX9_write_29 : decode cX9_write 29 = .ok (.iconst 1, 1) := dk_4_ (show cX9_write.data.toList[29]? = some 0x04 from (LBX9_writer_1 13).trans (by decide +kernel))
theorem dX9_write_30 : decode cX9_write 30 = .ok (.isub, 1) := dk_100_ (show cX9_write.data.toList[30]? = some 0x64 from (LBX9_writer_1 14).trans (by decide +kernel))
theorem dX9_write_31 : decode cX9_write 31 = .ok (.i2l, 1) := dk_133_ (show cX9_write.data.toList[31]? = some 0x85 from (LBX9_writer_1 15).trans (by decide +kernel))
theorem dX9_write_32 : decode cX9_write 32 = .ok (.invokestatic 57, 3) := dk_184_ (show cX9_write.data.toList[32]? = some 0xb8 from (LBX9_writer_2 0).trans (by decide +kernel)) (show cX9_write.data.toList[33]? = some 0x00 from (LBX9_writer_2 1).trans (by decide +kernel)) (show cX9_write.data.toList[34]? = some 0x39 from (LBX9_writer_2 2).trans (by decide +kernel)) (by decide)
theorem dX9_write_35 : decode cX9_write 35 = .ok (.ifCond .ne 11, 3) := dk_154_ (show cX9_write.data.toList[35]? = some 0x9a from (LBX9_writer_2 3).trans (by decide +kernel)) (show cX9_write.data.toList[36]? = some 0x00 from (LBX9_writer_2 4).trans (by decide +kernel)) (show cX9_write.data.toList[37]? = some 0x0b from (LBX9_writer_2 5).trans (by decide +kernel)) (by decide)
theorem dX9_write_38 : decode cX9_write 38 = .ok (.aload_n 0, 1) := dk_42_ (show cX9_write.data.toList[38]? = some 0x2a from (LBX9_writer_2 6).trans (by decide +kernel))
theorem dX9_write_39 : decode cX9_write 39 = .ok (.ldc 56, 2) := dk_18_ (show cX9_write.data.toList[39]? = some 0x12 from (LBX9_writer_2 7).trans (by decide +kernel)) (show cX9_write.data.toList[40]? = some 0x38 from (LBX9_writer_2 8).trans (by decide +kernel)) (by decide)
theorem dX9_write_41 : decode cX9_write 41 = .ok (.invokevirtual 70, 3) := dk_182_ (show cX9_write.data.toList[41]? = some 0xb6 from (LBX9_writer_2 9).trans (by decide +kernel)) (show cX9_write.data.toList[42]? = some 0x00 from (LBX9_writer_2 10).trans (by decide +kernel)) (show cX9_write.data.toList[43]? = some 0x46 from (LBX9_writer_2 11).trans (by decide +kernel)) (by decide)
theorem dX9_write_44 : decode cX9_write 44 = .ok (.i2l, 1) := dk_133_ (show cX9_write.data.toList[44]? = some 0x85 from (LBX9_writer_2 12).trans (by decide +kernel))
theorem dX9_write_45 : decode cX9_write 45 = .ok (.lreturn, 1) := dk_173_ (show cX9_write.data.toList[45]? = some 0xad from (LBX9_writer_2 13).trans (by decide +kernel))
theorem dX9_write_46 : decode cX9_write 46 = .ok (.aload_n 0, 1) := dk_42_ (show cX9_write.data.toList[46]? = some 0x2a from (LBX9_writer_2 14).trans (by decide +kernel))
theorem dX9_write_47 : decode cX9_write 47 = .ok (.getfield 49, 3) := dk_180_ (show cX9_write.data.toList[47]? = some 0xb4 from (LBX9_writer_2 15).trans (by decide +kernel)) (show cX9_write.data.toList[48]? = some 0x00 from (LBX9_writer_3 0).trans (by decide +kernel)) (show cX9_write.data.toList[49]? = some 0x31 from (LBX9_writer_3 1).trans (by decide +kernel)) (by decide)
theorem dX9_write_50 : decode cX9_write 50 = .ok (.bipush 40, 2) := dk_16_ (show cX9_write.data.toList[50]? = some 0x10 from (LBX9_writer_3 2).trans (by decide +kernel)) (show cX9_write.data.toList[51]? = some 0x28 from (LBX9_writer_3 3).trans (by decide +kernel)) (by decide)
theorem dX9_write_52 : decode cX9_write 52 = .ok (.iload_n 1, 1) := dk_27_ (show cX9_write.data.toList[52]? = some 0x1b from (LBX9_writer_3 4).trans (by decide +kernel))
theorem dX9_write_53 : decode cX9_write 53 = .ok (.imul, 1) := dk_104_ (show cX9_write.data.toList[53]? = some 0x68 from (LBX9_writer_3 5).trans (by decide +kernel))
theorem dX9_write_54 : decode cX9_write 54 = .ok (.iload_n 2, 1) := dk_28_ (show cX9_write.data.toList[54]? = some 0x1c from (LBX9_writer_3 6).trans (by decide +kernel))
theorem dX9_write_55 : decode cX9_write 55 = .ok (.iadd, 1) := dk_96_ (show cX9_write.data.toList[55]? = some 0x60 from (LBX9_writer_3 7).trans (by decide +kernel))
theorem dX9_write_56 : decode cX9_write 56 = .ok (.laload, 1) := dk_47_ (show cX9_write.data.toList[56]? = some 0x2f from (LBX9_writer_3 8).trans (by decide +kernel))
theorem dX9_write_57 : decode cX9_write 57 = .ok (.lstore 6, 2) := dk_55_ (show cX9_write.data.toList[57]? = some 0x37 from (LBX9_writer_3 9).trans (by decide +kernel)) (show cX9_write.data.toList[58]? = some 0x06 from (LBX9_writer_3 10).trans (by decide +kernel)) (by decide)
theorem dX9_write_59 : decode cX9_write 59 = .ok (.aload_n 0, 1) := dk_42_ (show cX9_write.data.toList[59]? = some 0x2a from (LBX9_writer_3 11).trans (by decide +kernel))
theorem dX9_write_60 : decode cX9_write 60 = .ok (.getfield 49, 3) := dk_180_ (show cX9_write.data.toList[60]? = some 0xb4 from (LBX9_writer_3 12).trans (by decide +kernel)) (show cX9_write.data.toList[61]? = some 0x00 from (LBX9_writer_3 13).trans (by decide +kernel)) (show cX9_write.data.toList[62]? = some 0x31 from (LBX9_writer_3 14).trans (by decide +kernel)) (by decide)
theorem dX9_write_63 : decode cX9_write 63 = .ok (.bipush 40, 2) := dk_16_ (show cX9_write.data.toList[63]? = some 0x10 from (LBX9_writer_3 15).trans (by decide +kernel)) (show cX9_write.data.toList[64]? = some 0x28 from (LBX9_writer_4 0).trans (by decide +kernel)) (by decide)
theorem dX9_write_65 : decode cX9_write 65 = .ok (.iload_n 1, 1) := dk_27_ (show cX9_write.data.toList[65]? = some 0x1b from (LBX9_writer_4 1).trans (by decide +kernel))
theorem dX9_write_66 : decode cX9_write 66 = .ok (.imul, 1) := dk_104_ (show cX9_write.data.toList[66]? = some 0x68 from (LBX9_writer_4 2).trans (by decide +kernel))
theorem dX9_write_67 : decode cX9_write 67 = .ok (.iload_n 2, 1) := dk_28_ (show cX9_write.data.toList[67]? = some 0x1c from (LBX9_writer_4 3).trans (by decide +kernel))
theorem dX9_write_68 : decode cX9_write 68 = .ok (.iadd, 1) := dk_96_ (show cX9_write.data.toList[68]? = some 0x60 from (LBX9_writer_4 4).trans (by decide +kernel))
theorem dX9_write_69 : decode cX9_write 69 = .ok (.aload_n 0, 1) := dk_42_ (show cX9_write.data.toList[69]? = some 0x2a from (LBX9_writer_4 5).trans (by decide +kernel))
theorem dX9_write_70 : decode cX9_write 70 = .ok (.getfield 43, 3) := dk_180_ (show cX9_write.data.toList[70]? = some 0xb4 from (LBX9_writer_4 6).trans (by decide +kernel)) (show cX9_write.data.toList[71]? = some 0x00 from (LBX9_writer_4 7).trans (by decide +kernel)) (show cX9_write.data.toList[72]? = some 0x2b from (LBX9_writer_4 8).trans (by decide +kernel)) (by decide)
theorem dX9_write_73 : decode cX9_write 73 = .ok (.iload_n 1, 1) := dk_27_ (show cX9_write.data.toList[73]? = some 0x1b from (LBX9_writer_4 9).trans (by decide +kernel))
theorem dX9_write_74 : decode cX9_write 74 = .ok (.iaload, 1) := dk_46_ (show cX9_write.data.toList[74]? = some 0x2e from (LBX9_writer_4 10).trans (by decide +kernel))
theorem dX9_write_75 : decode cX9_write 75 = .ok (.lload_n 3, 1) := dk_33_ (show cX9_write.data.toList[75]? = some 0x21 from (LBX9_writer_4 11).trans (by decide +kernel))
theorem dX9_write_76 : decode cX9_write 76 = .ok (.invokestatic 313, 3) := dk_184_ (show cX9_write.data.toList[76]? = some 0xb8 from (LBX9_writer_4 12).trans (by decide +kernel)) (show cX9_write.data.toList[77]? = some 0x01 from (LBX9_writer_4 13).trans (by decide +kernel)) (show cX9_write.data.toList[78]? = some 0x39 from (LBX9_writer_4 14).trans (by decide +kernel)) (by decide)
theorem dX9_write_79 : decode cX9_write 79 = .ok (.lastore, 1) := dk_80_ (show cX9_write.data.toList[79]? = some 0x50 from (LBX9_writer_4 15).trans (by decide +kernel))
theorem dX9_write_80 : decode cX9_write 80 = .ok (.lload 6, 2) := dk_22_ (show cX9_write.data.toList[80]? = some 0x16 from (LBX9_writer_5 0).trans (by decide +kernel)) (show cX9_write.data.toList[81]? = some 0x06 from (LBX9_writer_5 1).trans (by decide +kernel)) (by decide)
theorem dX9_write_82 : decode cX9_write 82 = .ok (.lreturn, 1) := dk_173_ (show cX9_write.data.toList[82]? = some 0xad from (LBX9_writer_5 2).trans (by decide +kernel))
def LRX9_copy_13 : List UInt8 := []
def LBX9_copy_12 : List UInt8 := [0x15, 0x05, 0xac]
def LRX9_copy_12 : List UInt8 := LBX9_copy_12 ++ LRX9_copy_13
def LBX9_copy_11 : List UInt8 := [0x06, 0x60, 0x2a, 0xb4, 0x00, 0x35, 0x15, 0x06, 0x2f, 0x50, 0x84, 0x06, 0x01, 0xa7, 0xff, 0xe0]
def LRX9_copy_11 : List UInt8 := LBX9_copy_11 ++ LRX9_copy_12
def LBX9_copy_10 : List UInt8 := [0x05, 0xa2, 0x00, 0x1f, 0x2a, 0xb4, 0x00, 0x31, 0x10, 0x28, 0x1d, 0x68, 0x15, 0x04, 0x60, 0x15]
def LRX9_copy_10 : List UInt8 := LBX9_copy_10 ++ LRX9_copy_11
def LBX9_copy_9 : List UInt8 := [0x06, 0x60, 0x2f, 0x50, 0x84, 0x06, 0x01, 0xa7, 0xff, 0xe1, 0x03, 0x36, 0x06, 0x15, 0x06, 0x15]
def LRX9_copy_9 : List UInt8 := LBX9_copy_9 ++ LRX9_copy_10
def LBX9_copy_8 : List UInt8 := [0xb4, 0x00, 0x35, 0x15, 0x06, 0x2a, 0xb4, 0x00, 0x31, 0x10, 0x28, 0x1b, 0x68, 0x1c, 0x60, 0x15]
def LRX9_copy_8 : List UInt8 := LBX9_copy_8 ++ LRX9_copy_9
def LBX9_copy_7 : List UInt8 := [0x38, 0xb6, 0x00, 0x46, 0xac, 0x03, 0x36, 0x06, 0x15, 0x06, 0x15, 0x05, 0xa2, 0x00, 0x1e, 0x2a]
def LRX9_copy_7 : List UInt8 := LBX9_copy_7 ++ LRX9_copy_8
def LBX9_copy_6 : List UInt8 := [0x15, 0x05, 0x2a, 0xb4, 0x00, 0x2e, 0x1d, 0x2e, 0x15, 0x04, 0x64, 0xa4, 0x00, 0x0a, 0x2a, 0x12]
def LRX9_copy_6 : List UInt8 := LBX9_copy_6 ++ LRX9_copy_7
def LBX9_copy_5 : List UInt8 := [0x9b, 0x00, 0x1e, 0x15, 0x05, 0x2a, 0xb4, 0x00, 0x2e, 0x1b, 0x2e, 0x1c, 0x64, 0xa3, 0x00, 0x11]
def LRX9_copy_5 : List UInt8 := LBX9_copy_5 ++ LRX9_copy_6
def LBX9_copy_4 : List UInt8 := [0xa7, 0xb6, 0x00, 0x46, 0xac, 0x1c, 0x9b, 0x00, 0x28, 0x15, 0x04, 0x9b, 0x00, 0x23, 0x15, 0x05]
def LRX9_copy_4 : List UInt8 := LBX9_copy_4 ++ LRX9_copy_5
def LBX9_copy_3 : List UInt8 := [0xb4, 0x00, 0x2b, 0x1b, 0x2e, 0x2a, 0xb4, 0x00, 0x2b, 0x1d, 0x2e, 0x9f, 0x00, 0x0a, 0x2a, 0x12]
def LRX9_copy_3 : List UInt8 := LBX9_copy_3 ++ LRX9_copy_4
def LBX9_copy_2 : List UInt8 := [0x00, 0x2b, 0x1d, 0x2e, 0x9a, 0x00, 0x0b, 0x2a, 0x13, 0x01, 0x35, 0xb6, 0x00, 0x46, 0xac, 0x2a]
def LRX9_copy_2 : List UInt8 := LBX9_copy_2 ++ LRX9_copy_3
def LBX9_copy_1 : List UInt8 := [0x38, 0xb6, 0x00, 0x46, 0xac, 0x2a, 0xb4, 0x00, 0x2b, 0x1b, 0x2e, 0x99, 0x00, 0x0c, 0x2a, 0xb4]
def LRX9_copy_1 : List UInt8 := LBX9_copy_1 ++ LRX9_copy_2
def LBX9_copy_0 : List UInt8 := [0x1b, 0xb8, 0x01, 0x31, 0x99, 0x00, 0x0a, 0x1d, 0xb8, 0x01, 0x31, 0x9a, 0x00, 0x0a, 0x2a, 0x12]
def LRX9_copy_0 : List UInt8 := LBX9_copy_0 ++ LRX9_copy_1
set_option maxRecDepth 100000 in
theorem LBX9_copy_eq : cX9_copy.data.toList = LRX9_copy_0 := by decide +kernel
theorem LBX9_copyr_0 (k : Nat) : cX9_copy.data.toList[0 + k]? = LRX9_copy_0[k]? := by rw [LBX9_copy_eq, Nat.zero_add]
theorem LBX9_copyr_1 (k : Nat) : cX9_copy.data.toList[16 + k]? = LRX9_copy_1[k]? := by
  have h := LBX9_copyr_0 (16 + k)
  rw [show 0 + (16 + k) = 16 + k by omega] at h
  rw [h]
  exact (List.getElem?_append_right (l₁ := LBX9_copy_0) (l₂ := LRX9_copy_1) (show 16 ≤ 16 + k by omega)).trans (congrArg (fun i => LRX9_copy_1[i]?) (show 16 + k - 16 = k by omega))
theorem LBX9_copyr_2 (k : Nat) : cX9_copy.data.toList[32 + k]? = LRX9_copy_2[k]? := by
  have h := LBX9_copyr_1 (16 + k)
  rw [show 16 + (16 + k) = 32 + k by omega] at h
  rw [h]
  exact (List.getElem?_append_right (l₁ := LBX9_copy_1) (l₂ := LRX9_copy_2) (show 16 ≤ 16 + k by omega)).trans (congrArg (fun i => LRX9_copy_2[i]?) (show 16 + k - 16 = k by omega))
theorem LBX9_copyr_3 (k : Nat) : cX9_copy.data.toList[48 + k]? = LRX9_copy_3[k]? := by
  have h := LBX9_copyr_2 (16 + k)
  rw [show 32 + (16 + k) = 48 + k by omega] at h
  rw [h]
  exact (List.getElem?_append_right (l₁ := LBX9_copy_2) (l₂ := LRX9_copy_3) (show 16 ≤ 16 + k by omega)).trans (congrArg (fun i => LRX9_copy_3[i]?) (show 16 + k - 16 = k by omega))
theorem LBX9_copyr_4 (k : Nat) : cX9_copy.data.toList[64 + k]? = LRX9_copy_4[k]? := by
  have h := LBX9_copyr_3 (16 + k)
  rw [show 48 + (16 + k) = 64 + k by omega] at h
  rw [h]
  exact (List.getElem?_append_right (l₁ := LBX9_copy_3) (l₂ := LRX9_copy_4) (show 16 ≤ 16 + k by omega)).trans (congrArg (fun i => LRX9_copy_4[i]?) (show 16 + k - 16 = k by omega))
theorem LBX9_copyr_5 (k : Nat) : cX9_copy.data.toList[80 + k]? = LRX9_copy_5[k]? := by
  have h := LBX9_copyr_4 (16 + k)
  rw [show 64 + (16 + k) = 80 + k by omega] at h
  rw [h]
  exact (List.getElem?_append_right (l₁ := LBX9_copy_4) (l₂ := LRX9_copy_5) (show 16 ≤ 16 + k by omega)).trans (congrArg (fun i => LRX9_copy_5[i]?) (show 16 + k - 16 = k by omega))
theorem LBX9_copyr_6 (k : Nat) : cX9_copy.data.toList[96 + k]? = LRX9_copy_6[k]? := by
  have h := LBX9_copyr_5 (16 + k)
  rw [show 80 + (16 + k) = 96 + k by omega] at h
  rw [h]
  exact (List.getElem?_append_right (l₁ := LBX9_copy_5) (l₂ := LRX9_copy_6) (show 16 ≤ 16 + k by omega)).trans (congrArg (fun i => LRX9_copy_6[i]?) (show 16 + k - 16 = k by omega))
theorem LBX9_copyr_7 (k : Nat) : cX9_copy.data.toList[112 + k]? = LRX9_copy_7[k]? := by
  have h := LBX9_copyr_6 (16 + k)
  rw [show 96 + (16 + k) = 112 + k by omega] at h
  rw [h]
  exact (List.getElem?_append_right (l₁ := LBX9_copy_6) (l₂ := LRX9_copy_7) (show 16 ≤ 16 + k by omega)).trans (congrArg (fun i => LRX9_copy_7[i]?) (show 16 + k - 16 = k by omega))
theorem LBX9_copyr_8 (k : Nat) : cX9_copy.data.toList[128 + k]? = LRX9_copy_8[k]? := by
  have h := LBX9_copyr_7 (16 + k)
  rw [show 112 + (16 + k) = 128 + k by omega] at h
  rw [h]
  exact (List.getElem?_append_right (l₁ := LBX9_copy_7) (l₂ := LRX9_copy_8) (show 16 ≤ 16 + k by omega)).trans (congrArg (fun i => LRX9_copy_8[i]?) (show 16 + k - 16 = k by omega))
theorem LBX9_copyr_9 (k : Nat) : cX9_copy.data.toList[144 + k]? = LRX9_copy_9[k]? := by
  have h := LBX9_copyr_8 (16 + k)
  rw [show 128 + (16 + k) = 144 + k by omega] at h
  rw [h]
  exact (List.getElem?_append_right (l₁ := LBX9_copy_8) (l₂ := LRX9_copy_9) (show 16 ≤ 16 + k by omega)).trans (congrArg (fun i => LRX9_copy_9[i]?) (show 16 + k - 16 = k by omega))
theorem LBX9_copyr_10 (k : Nat) : cX9_copy.data.toList[160 + k]? = LRX9_copy_10[k]? := by
  have h := LBX9_copyr_9 (16 + k)
  rw [show 144 + (16 + k) = 160 + k by omega] at h
  rw [h]
  exact (List.getElem?_append_right (l₁ := LBX9_copy_9) (l₂ := LRX9_copy_10) (show 16 ≤ 16 + k by omega)).trans (congrArg (fun i => LRX9_copy_10[i]?) (show 16 + k - 16 = k by omega))
theorem LBX9_copyr_11 (k : Nat) : cX9_copy.data.toList[176 + k]? = LRX9_copy_11[k]? := by
  have h := LBX9_copyr_10 (16 + k)
  rw [show 160 + (16 + k) = 176 + k by omega] at h
  rw [h]
  exact (List.getElem?_append_right (l₁ := LBX9_copy_10) (l₂ := LRX9_copy_11) (show 16 ≤ 16 + k by omega)).trans (congrArg (fun i => LRX9_copy_11[i]?) (show 16 + k - 16 = k by omega))
theorem LBX9_copyr_12 (k : Nat) : cX9_copy.data.toList[192 + k]? = LRX9_copy_12[k]? := by
  have h := LBX9_copyr_11 (16 + k)
  rw [show 176 + (16 + k) = 192 + k by omega] at h
  rw [h]
  exact (List.getElem?_append_right (l₁ := LBX9_copy_11) (l₂ := LRX9_copy_12) (show 16 ≤ 16 + k by omega)).trans (congrArg (fun i => LRX9_copy_12[i]?) (show 16 + k - 16 = k by omega))
theorem dX9_copy_0 : decode cX9_copy 0 = .ok (.iload_n 1, 1) := dk_27_ (show cX9_copy.data.toList[0]? = some 0x1b from (LBX9_copyr_0 0).trans (by decide +kernel))
theorem dX9_copy_1 : decode cX9_copy 1 = .ok (.invokestatic 305, 3) := dk_184_ (show cX9_copy.data.toList[1]? = some 0xb8 from (LBX9_copyr_0 1).trans (by decide +kernel)) (show cX9_copy.data.toList[2]? = some 0x01 from (LBX9_copyr_0 2).trans (by decide +kernel)) (show cX9_copy.data.toList[3]? = some 0x31 from (LBX9_copyr_0 3).trans (by decide +kernel)) (by decide)
theorem dX9_copy_4 : decode cX9_copy 4 = .ok (.ifCond .eq 10, 3) := dk_153_ (show cX9_copy.data.toList[4]? = some 0x99 from (LBX9_copyr_0 4).trans (by decide +kernel)) (show cX9_copy.data.toList[5]? = some 0x00 from (LBX9_copyr_0 5).trans (by decide +kernel)) (show cX9_copy.data.toList[6]? = some 0x0a from (LBX9_copyr_0 6).trans (by decide +kernel)) (by decide)
theorem dX9_copy_7 : decode cX9_copy 7 = .ok (.iload_n 3, 1) := dk_29_ (show cX9_copy.data.toList[7]? = some 0x1d from (LBX9_copyr_0 7).trans (by decide +kernel))
theorem dX9_copy_8 : decode cX9_copy 8 = .ok (.invokestatic 305, 3) := dk_184_ (show cX9_copy.data.toList[8]? = some 0xb8 from (LBX9_copyr_0 8).trans (by decide +kernel)) (show cX9_copy.data.toList[9]? = some 0x01 from (LBX9_copyr_0 9).trans (by decide +kernel)) (show cX9_copy.data.toList[10]? = some 0x31 from (LBX9_copyr_0 10).trans (by decide +kernel)) (by decide)
theorem dX9_copy_11 : decode cX9_copy 11 = .ok (.ifCond .ne 10, 3) := dk_154_ (show cX9_copy.data.toList[11]? = some 0x9a from (LBX9_copyr_0 11).trans (by decide +kernel)) (show cX9_copy.data.toList[12]? = some 0x00 from (LBX9_copyr_0 12).trans (by decide +kernel)) (show cX9_copy.data.toList[13]? = some 0x0a from (LBX9_copyr_0 13).trans (by decide +kernel)) (by decide)
theorem dX9_copy_14 : decode cX9_copy 14 = .ok (.aload_n 0, 1) := dk_42_ (show cX9_copy.data.toList[14]? = some 0x2a from (LBX9_copyr_0 14).trans (by decide +kernel))
theorem dX9_copy_15 : decode cX9_copy 15 = .ok (.ldc 56, 2) := dk_18_ (show cX9_copy.data.toList[15]? = some 0x12 from (LBX9_copyr_0 15).trans (by decide +kernel)) (show cX9_copy.data.toList[16]? = some 0x38 from (LBX9_copyr_1 0).trans (by decide +kernel)) (by decide)
theorem dX9_copy_17 : decode cX9_copy 17 = .ok (.invokevirtual 70, 3) := dk_182_ (show cX9_copy.data.toList[17]? = some 0xb6 from (LBX9_copyr_1 1).trans (by decide +kernel)) (show cX9_copy.data.toList[18]? = some 0x00 from (LBX9_copyr_1 2).trans (by decide +kernel)) (show cX9_copy.data.toList[19]? = some 0x46 from (LBX9_copyr_1 3).trans (by decide +kernel)) (by decide)
theorem dX9_copy_20 : decode cX9_copy 20 = .ok (.ireturn, 1) := dk_172_ (show cX9_copy.data.toList[20]? = some 0xac from (LBX9_copyr_1 4).trans (by decide +kernel))
theorem dX9_copy_21 : decode cX9_copy 21 = .ok (.aload_n 0, 1) := dk_42_ (show cX9_copy.data.toList[21]? = some 0x2a from (LBX9_copyr_1 5).trans (by decide +kernel))
theorem dX9_copy_22 : decode cX9_copy 22 = .ok (.getfield 43, 3) := dk_180_ (show cX9_copy.data.toList[22]? = some 0xb4 from (LBX9_copyr_1 6).trans (by decide +kernel)) (show cX9_copy.data.toList[23]? = some 0x00 from (LBX9_copyr_1 7).trans (by decide +kernel)) (show cX9_copy.data.toList[24]? = some 0x2b from (LBX9_copyr_1 8).trans (by decide +kernel)) (by decide)
theorem dX9_copy_25 : decode cX9_copy 25 = .ok (.iload_n 1, 1) := dk_27_ (show cX9_copy.data.toList[25]? = some 0x1b from (LBX9_copyr_1 9).trans (by decide +kernel))
theorem dX9_copy_26 : decode cX9_copy 26 = .ok (.iaload, 1) := dk_46_ (show cX9_copy.data.toList[26]? = some 0x2e from (LBX9_copyr_1 10).trans (by decide +kernel))
theorem dX9_copy_27 : decode cX9_copy 27 = .ok (.ifCond .eq 12, 3) := dk_153_ (show cX9_copy.data.toList[27]? = some 0x99 from (LBX9_copyr_1 11).trans (by decide +kernel)) (show cX9_copy.data.toList[28]? = some 0x00 from (LBX9_copyr_1 12).trans (by decide +kernel)) (show cX9_copy.data.toList[29]? = some 0x0c from (LBX9_copyr_1 13).trans (by decide +kernel)) (by decide)
theorem dX9_copy_30 : decode cX9_copy 30 = .ok (.aload_n 0, 1) := dk_42_ (show cX9_copy.data.toList[30]? = some 0x2a from (LBX9_copyr_1 14).trans (by decide +kernel))
theorem dX9_copy_31 : decode cX9_copy 31 = .ok (.getfield 43, 3) := dk_180_ (show cX9_copy.data.toList[31]? = some 0xb4 from (LBX9_copyr_1 15).trans (by decide +kernel)) (show cX9_copy.data.toList[32]? = some 0x00 from (LBX9_copyr_2 0).trans (by decide +kernel)) (show cX9_copy.data.toList[33]? = some 0x2b from (LBX9_copyr_2 1).trans (by decide +kernel)) (by decide)
theorem dX9_copy_34 : decode cX9_copy 34 = .ok (.iload_n 3, 1) := dk_29_ (show cX9_copy.data.toList[34]? = some 0x1d from (LBX9_copyr_2 2).trans (by decide +kernel))
theorem dX9_copy_35 : decode cX9_copy 35 = .ok (.iaload, 1) := dk_46_ (show cX9_copy.data.toList[35]? = some 0x2e from (LBX9_copyr_2 3).trans (by decide +kernel))
theorem dX9_copy_36 : decode cX9_copy 36 = .ok (.ifCond .ne 11, 3) := dk_154_ (show cX9_copy.data.toList[36]? = some 0x9a from (LBX9_copyr_2 4).trans (by decide +kernel)) (show cX9_copy.data.toList[37]? = some 0x00 from (LBX9_copyr_2 5).trans (by decide +kernel)) (show cX9_copy.data.toList[38]? = some 0x0b from (LBX9_copyr_2 6).trans (by decide +kernel)) (by decide)
theorem dX9_copy_39 : decode cX9_copy 39 = .ok (.aload_n 0, 1) := dk_42_ (show cX9_copy.data.toList[39]? = some 0x2a from (LBX9_copyr_2 7).trans (by decide +kernel))
theorem dX9_copy_40 : decode cX9_copy 40 = .ok (.ldc_w 309, 3) := dk_19_ (show cX9_copy.data.toList[40]? = some 0x13 from (LBX9_copyr_2 8).trans (by decide +kernel)) (show cX9_copy.data.toList[41]? = some 0x01 from (LBX9_copyr_2 9).trans (by decide +kernel)) (show cX9_copy.data.toList[42]? = some 0x35 from (LBX9_copyr_2 10).trans (by decide +kernel)) (by decide)
theorem dX9_copy_43 : decode cX9_copy 43 = .ok (.invokevirtual 70, 3) := dk_182_ (show cX9_copy.data.toList[43]? = some 0xb6 from (LBX9_copyr_2 11).trans (by decide +kernel)) (show cX9_copy.data.toList[44]? = some 0x00 from (LBX9_copyr_2 12).trans (by decide +kernel)) (show cX9_copy.data.toList[45]? = some 0x46 from (LBX9_copyr_2 13).trans (by decide +kernel)) (by decide)
theorem dX9_copy_46 : decode cX9_copy 46 = .ok (.ireturn, 1) := dk_172_ (show cX9_copy.data.toList[46]? = some 0xac from (LBX9_copyr_2 14).trans (by decide +kernel))
theorem dX9_copy_47 : decode cX9_copy 47 = .ok (.aload_n 0, 1) := dk_42_ (show cX9_copy.data.toList[47]? = some 0x2a from (LBX9_copyr_2 15).trans (by decide +kernel))
theorem dX9_copy_48 : decode cX9_copy 48 = .ok (.getfield 43, 3) := dk_180_ (show cX9_copy.data.toList[48]? = some 0xb4 from (LBX9_copyr_3 0).trans (by decide +kernel)) (show cX9_copy.data.toList[49]? = some 0x00 from (LBX9_copyr_3 1).trans (by decide +kernel)) (show cX9_copy.data.toList[50]? = some 0x2b from (LBX9_copyr_3 2).trans (by decide +kernel)) (by decide)
theorem dX9_copy_51 : decode cX9_copy 51 = .ok (.iload_n 1, 1) := dk_27_ (show cX9_copy.data.toList[51]? = some 0x1b from (LBX9_copyr_3 3).trans (by decide +kernel))
theorem dX9_copy_52 : decode cX9_copy 52 = .ok (.iaload, 1) := dk_46_ (show cX9_copy.data.toList[52]? = some 0x2e from (LBX9_copyr_3 4).trans (by decide +kernel))
theorem dX9_copy_53 : decode cX9_copy 53 = .ok (.aload_n 0, 1) := dk_42_ (show cX9_copy.data.toList[53]? = some 0x2a from (LBX9_copyr_3 5).trans (by decide +kernel))
theorem dX9_copy_54 : decode cX9_copy 54 = .ok (.getfield 43, 3) := dk_180_ (show cX9_copy.data.toList[54]? = some 0xb4 from (LBX9_copyr_3 6).trans (by decide +kernel)) (show cX9_copy.data.toList[55]? = some 0x00 from (LBX9_copyr_3 7).trans (by decide +kernel)) (show cX9_copy.data.toList[56]? = some 0x2b from (LBX9_copyr_3 8).trans (by decide +kernel)) (by decide)
theorem dX9_copy_57 : decode cX9_copy 57 = .ok (.iload_n 3, 1) := dk_29_ (show cX9_copy.data.toList[57]? = some 0x1d from (LBX9_copyr_3 9).trans (by decide +kernel))
theorem dX9_copy_58 : decode cX9_copy 58 = .ok (.iaload, 1) := dk_46_ (show cX9_copy.data.toList[58]? = some 0x2e from (LBX9_copyr_3 10).trans (by decide +kernel))
theorem dX9_copy_59 : decode cX9_copy 59 = .ok (.if_icmp .eq 10, 3) := dk_159_ (show cX9_copy.data.toList[59]? = some 0x9f from (LBX9_copyr_3 11).trans (by decide +kernel)) (show cX9_copy.data.toList[60]? = some 0x00 from (LBX9_copyr_3 12).trans (by decide +kernel)) (show cX9_copy.data.toList[61]? = some 0x0a from (LBX9_copyr_3 13).trans (by decide +kernel)) (by decide)
theorem dX9_copy_62 : decode cX9_copy 62 = .ok (.aload_n 0, 1) := dk_42_ (show cX9_copy.data.toList[62]? = some 0x2a from (LBX9_copyr_3 14).trans (by decide +kernel))
theorem dX9_copy_63 : decode cX9_copy 63 = .ok (.ldc 167, 2) := dk_18_ (show cX9_copy.data.toList[63]? = some 0x12 from (LBX9_copyr_3 15).trans (by decide +kernel)) (show cX9_copy.data.toList[64]? = some 0xa7 from (LBX9_copyr_4 0).trans (by decide +kernel)) (by decide)
theorem dX9_copy_65 : decode cX9_copy 65 = .ok (.invokevirtual 70, 3) := dk_182_ (show cX9_copy.data.toList[65]? = some 0xb6 from (LBX9_copyr_4 1).trans (by decide +kernel)) (show cX9_copy.data.toList[66]? = some 0x00 from (LBX9_copyr_4 2).trans (by decide +kernel)) (show cX9_copy.data.toList[67]? = some 0x46 from (LBX9_copyr_4 3).trans (by decide +kernel)) (by decide)
theorem dX9_copy_68 : decode cX9_copy 68 = .ok (.ireturn, 1) := dk_172_ (show cX9_copy.data.toList[68]? = some 0xac from (LBX9_copyr_4 4).trans (by decide +kernel))
theorem dX9_copy_69 : decode cX9_copy 69 = .ok (.iload_n 2, 1) := dk_28_ (show cX9_copy.data.toList[69]? = some 0x1c from (LBX9_copyr_4 5).trans (by decide +kernel))
theorem dX9_copy_70 : decode cX9_copy 70 = .ok (.ifCond .lt 40, 3) := dk_155_ (show cX9_copy.data.toList[70]? = some 0x9b from (LBX9_copyr_4 6).trans (by decide +kernel)) (show cX9_copy.data.toList[71]? = some 0x00 from (LBX9_copyr_4 7).trans (by decide +kernel)) (show cX9_copy.data.toList[72]? = some 0x28 from (LBX9_copyr_4 8).trans (by decide +kernel)) (by decide)
theorem dX9_copy_73 : decode cX9_copy 73 = .ok (.iload 4, 2) := dk_21_ (show cX9_copy.data.toList[73]? = some 0x15 from (LBX9_copyr_4 9).trans (by decide +kernel)) (show cX9_copy.data.toList[74]? = some 0x04 from (LBX9_copyr_4 10).trans (by decide +kernel)) (by decide)
theorem dX9_copy_75 : decode cX9_copy 75 = .ok (.ifCond .lt 35, 3) := dk_155_ (show cX9_copy.data.toList[75]? = some 0x9b from (LBX9_copyr_4 11).trans (by decide +kernel)) (show cX9_copy.data.toList[76]? = some 0x00 from (LBX9_copyr_4 12).trans (by decide +kernel)) (show cX9_copy.data.toList[77]? = some 0x23 from (LBX9_copyr_4 13).trans (by decide +kernel)) (by decide)
theorem dX9_copy_78 : decode cX9_copy 78 = .ok (.iload 5, 2) := dk_21_ (show cX9_copy.data.toList[78]? = some 0x15 from (LBX9_copyr_4 14).trans (by decide +kernel)) (show cX9_copy.data.toList[79]? = some 0x05 from (LBX9_copyr_4 15).trans (by decide +kernel)) (by decide)
theorem dX9_copy_80 : decode cX9_copy 80 = .ok (.ifCond .lt 30, 3) := dk_155_ (show cX9_copy.data.toList[80]? = some 0x9b from (LBX9_copyr_5 0).trans (by decide +kernel)) (show cX9_copy.data.toList[81]? = some 0x00 from (LBX9_copyr_5 1).trans (by decide +kernel)) (show cX9_copy.data.toList[82]? = some 0x1e from (LBX9_copyr_5 2).trans (by decide +kernel)) (by decide)
theorem dX9_copy_83 : decode cX9_copy 83 = .ok (.iload 5, 2) := dk_21_ (show cX9_copy.data.toList[83]? = some 0x15 from (LBX9_copyr_5 3).trans (by decide +kernel)) (show cX9_copy.data.toList[84]? = some 0x05 from (LBX9_copyr_5 4).trans (by decide +kernel)) (by decide)
theorem dX9_copy_85 : decode cX9_copy 85 = .ok (.aload_n 0, 1) := dk_42_ (show cX9_copy.data.toList[85]? = some 0x2a from (LBX9_copyr_5 5).trans (by decide +kernel))
theorem dX9_copy_86 : decode cX9_copy 86 = .ok (.getfield 46, 3) := dk_180_ (show cX9_copy.data.toList[86]? = some 0xb4 from (LBX9_copyr_5 6).trans (by decide +kernel)) (show cX9_copy.data.toList[87]? = some 0x00 from (LBX9_copyr_5 7).trans (by decide +kernel)) (show cX9_copy.data.toList[88]? = some 0x2e from (LBX9_copyr_5 8).trans (by decide +kernel)) (by decide)
theorem dX9_copy_89 : decode cX9_copy 89 = .ok (.iload_n 1, 1) := dk_27_ (show cX9_copy.data.toList[89]? = some 0x1b from (LBX9_copyr_5 9).trans (by decide +kernel))
theorem dX9_copy_90 : decode cX9_copy 90 = .ok (.iaload, 1) := dk_46_ (show cX9_copy.data.toList[90]? = some 0x2e from (LBX9_copyr_5 10).trans (by decide +kernel))
theorem dX9_copy_91 : decode cX9_copy 91 = .ok (.iload_n 2, 1) := dk_28_ (show cX9_copy.data.toList[91]? = some 0x1c from (LBX9_copyr_5 11).trans (by decide +kernel))
theorem dX9_copy_92 : decode cX9_copy 92 = .ok (.isub, 1) := dk_100_ (show cX9_copy.data.toList[92]? = some 0x64 from (LBX9_copyr_5 12).trans (by decide +kernel))
theorem dX9_copy_93 : decode cX9_copy 93 = .ok (.if_icmp .gt 17, 3) := dk_163_ (show cX9_copy.data.toList[93]? = some 0xa3 from (LBX9_copyr_5 13).trans (by decide +kernel)) (show cX9_copy.data.toList[94]? = some 0x00 from (LBX9_copyr_5 14).trans (by decide +kernel)) (show cX9_copy.data.toList[95]? = some 0x11 from (LBX9_copyr_5 15).trans (by decide +kernel)) (by decide)
theorem dX9_copy_96 : decode cX9_copy 96 = .ok (.iload 5, 2) := dk_21_ (show cX9_copy.data.toList[96]? = some 0x15 from (LBX9_copyr_6 0).trans (by decide +kernel)) (show cX9_copy.data.toList[97]? = some 0x05 from (LBX9_copyr_6 1).trans (by decide +kernel)) (by decide)
theorem dX9_copy_98 : decode cX9_copy 98 = .ok (.aload_n 0, 1) := dk_42_ (show cX9_copy.data.toList[98]? = some 0x2a from (LBX9_copyr_6 2).trans (by decide +kernel))
theorem dX9_copy_99 : decode cX9_copy 99 = .ok (.getfield 46, 3) := dk_180_ (show cX9_copy.data.toList[99]? = some 0xb4 from (LBX9_copyr_6 3).trans (by decide +kernel)) (show cX9_copy.data.toList[100]? = some 0x00 from (LBX9_copyr_6 4).trans (by decide +kernel)) (show cX9_copy.data.toList[101]? = some 0x2e from (LBX9_copyr_6 5).trans (by decide +kernel)) (by decide)
theorem dX9_copy_102 : decode cX9_copy 102 = .ok (.iload_n 3, 1) := dk_29_ (show cX9_copy.data.toList[102]? = some 0x1d from (LBX9_copyr_6 6).trans (by decide +kernel))
theorem dX9_copy_103 : decode cX9_copy 103 = .ok (.iaload, 1) := dk_46_ (show cX9_copy.data.toList[103]? = some 0x2e from (LBX9_copyr_6 7).trans (by decide +kernel))
theorem dX9_copy_104 : decode cX9_copy 104 = .ok (.iload 4, 2) := dk_21_ (show cX9_copy.data.toList[104]? = some 0x15 from (LBX9_copyr_6 8).trans (by decide +kernel)) (show cX9_copy.data.toList[105]? = some 0x04 from (LBX9_copyr_6 9).trans (by decide +kernel)) (by decide)
theorem dX9_copy_106 : decode cX9_copy 106 = .ok (.isub, 1) := dk_100_ (show cX9_copy.data.toList[106]? = some 0x64 from (LBX9_copyr_6 10).trans (by decide +kernel))
theorem dX9_copy_107 : decode cX9_copy 107 = .ok (.if_icmp .le 10, 3) := dk_164_ (show cX9_copy.data.toList[107]? = some 0xa4 from (LBX9_copyr_6 11).trans (by decide +kernel)) (show cX9_copy.data.toList[108]? = some 0x00 from (LBX9_copyr_6 12).trans (by decide +kernel)) (show cX9_copy.data.toList[109]? = some 0x0a from (LBX9_copyr_6 13).trans (by decide +kernel)) (by decide)
theorem dX9_copy_110 : decode cX9_copy 110 = .ok (.aload_n 0, 1) := dk_42_ (show cX9_copy.data.toList[110]? = some 0x2a from (LBX9_copyr_6 14).trans (by decide +kernel))
theorem dX9_copy_111 : decode cX9_copy 111 = .ok (.ldc 56, 2) := dk_18_ (show cX9_copy.data.toList[111]? = some 0x12 from (LBX9_copyr_6 15).trans (by decide +kernel)) (show cX9_copy.data.toList[112]? = some 0x38 from (LBX9_copyr_7 0).trans (by decide +kernel)) (by decide)
theorem dX9_copy_113 : decode cX9_copy 113 = .ok (.invokevirtual 70, 3) := dk_182_ (show cX9_copy.data.toList[113]? = some 0xb6 from (LBX9_copyr_7 1).trans (by decide +kernel)) (show cX9_copy.data.toList[114]? = some 0x00 from (LBX9_copyr_7 2).trans (by decide +kernel)) (show cX9_copy.data.toList[115]? = some 0x46 from (LBX9_copyr_7 3).trans (by decide +kernel)) (by decide)
theorem dX9_copy_116 : decode cX9_copy 116 = .ok (.ireturn, 1) := dk_172_ (show cX9_copy.data.toList[116]? = some 0xac from (LBX9_copyr_7 4).trans (by decide +kernel))
theorem dX9_copy_117 : decode cX9_copy 117 = .ok (.iconst 0, 1) := dk_3_ (show cX9_copy.data.toList[117]? = some 0x03 from (LBX9_copyr_7 5).trans (by decide +kernel))
theorem dX9_copy_118 : decode cX9_copy 118 = .ok (.istore 6, 2) := dk_54_ (show cX9_copy.data.toList[118]? = some 0x36 from (LBX9_copyr_7 6).trans (by decide +kernel)) (show cX9_copy.data.toList[119]? = some 0x06 from (LBX9_copyr_7 7).trans (by decide +kernel)) (by decide)
theorem dX9_copy_120 : decode cX9_copy 120 = .ok (.iload 6, 2) := dk_21_ (show cX9_copy.data.toList[120]? = some 0x15 from (LBX9_copyr_7 8).trans (by decide +kernel)) (show cX9_copy.data.toList[121]? = some 0x06 from (LBX9_copyr_7 9).trans (by decide +kernel)) (by decide)
theorem dX9_copy_122 : decode cX9_copy 122 = .ok (.iload 5, 2) := dk_21_ (show cX9_copy.data.toList[122]? = some 0x15 from (LBX9_copyr_7 10).trans (by decide +kernel)) (show cX9_copy.data.toList[123]? = some 0x05 from (LBX9_copyr_7 11).trans (by decide +kernel)) (by decide)
theorem dX9_copy_124 : decode cX9_copy 124 = .ok (.if_icmp .ge 30, 3) := dk_162_ (show cX9_copy.data.toList[124]? = some 0xa2 from (LBX9_copyr_7 12).trans (by decide +kernel)) (show cX9_copy.data.toList[125]? = some 0x00 from (LBX9_copyr_7 13).trans (by decide +kernel)) (show cX9_copy.data.toList[126]? = some 0x1e from (LBX9_copyr_7 14).trans (by decide +kernel)) (by decide)
theorem dX9_copy_127 : decode cX9_copy 127 = .ok (.aload_n 0, 1) := dk_42_ (show cX9_copy.data.toList[127]? = some 0x2a from (LBX9_copyr_7 15).trans (by decide +kernel))
theorem dX9_copy_128 : decode cX9_copy 128 = .ok (.getfield 53, 3) := dk_180_ (show cX9_copy.data.toList[128]? = some 0xb4 from (LBX9_copyr_8 0).trans (by decide +kernel)) (show cX9_copy.data.toList[129]? = some 0x00 from (LBX9_copyr_8 1).trans (by decide +kernel)) (show cX9_copy.data.toList[130]? = some 0x35 from (LBX9_copyr_8 2).trans (by decide +kernel)) (by decide)
theorem dX9_copy_131 : decode cX9_copy 131 = .ok (.iload 6, 2) := dk_21_ (show cX9_copy.data.toList[131]? = some 0x15 from (LBX9_copyr_8 3).trans (by decide +kernel)) (show cX9_copy.data.toList[132]? = some 0x06 from (LBX9_copyr_8 4).trans (by decide +kernel)) (by decide)
theorem dX9_copy_133 : decode cX9_copy 133 = .ok (.aload_n 0, 1) := dk_42_ (show cX9_copy.data.toList[133]? = some 0x2a from (LBX9_copyr_8 5).trans (by decide +kernel))
theorem dX9_copy_134 : decode cX9_copy 134 = .ok (.getfield 49, 3) := dk_180_ (show cX9_copy.data.toList[134]? = some 0xb4 from (LBX9_copyr_8 6).trans (by decide +kernel)) (show cX9_copy.data.toList[135]? = some 0x00 from (LBX9_copyr_8 7).trans (by decide +kernel)) (show cX9_copy.data.toList[136]? = some 0x31 from (LBX9_copyr_8 8).trans (by decide +kernel)) (by decide)
theorem dX9_copy_137 : decode cX9_copy 137 = .ok (.bipush 40, 2) := dk_16_ (show cX9_copy.data.toList[137]? = some 0x10 from (LBX9_copyr_8 9).trans (by decide +kernel)) (show cX9_copy.data.toList[138]? = some 0x28 from (LBX9_copyr_8 10).trans (by decide +kernel)) (by decide)
theorem dX9_copy_139 : decode cX9_copy 139 = .ok (.iload_n 1, 1) := dk_27_ (show cX9_copy.data.toList[139]? = some 0x1b from (LBX9_copyr_8 11).trans (by decide +kernel))
theorem dX9_copy_140 : decode cX9_copy 140 = .ok (.imul, 1) := dk_104_ (show cX9_copy.data.toList[140]? = some 0x68 from (LBX9_copyr_8 12).trans (by decide +kernel))
theorem dX9_copy_141 : decode cX9_copy 141 = .ok (.iload_n 2, 1) := dk_28_ (show cX9_copy.data.toList[141]? = some 0x1c from (LBX9_copyr_8 13).trans (by decide +kernel))
theorem dX9_copy_142 : decode cX9_copy 142 = .ok (.iadd, 1) := dk_96_ (show cX9_copy.data.toList[142]? = some 0x60 from (LBX9_copyr_8 14).trans (by decide +kernel))
theorem dX9_copy_143 : decode cX9_copy 143 = .ok (.iload 6, 2) := dk_21_ (show cX9_copy.data.toList[143]? = some 0x15 from (LBX9_copyr_8 15).trans (by decide +kernel)) (show cX9_copy.data.toList[144]? = some 0x06 from (LBX9_copyr_9 0).trans (by decide +kernel)) (by decide)
theorem dX9_copy_145 : decode cX9_copy 145 = .ok (.iadd, 1) := dk_96_ (show cX9_copy.data.toList[145]? = some 0x60 from (LBX9_copyr_9 1).trans (by decide +kernel))
theorem dX9_copy_146 : decode cX9_copy 146 = .ok (.laload, 1) := dk_47_ (show cX9_copy.data.toList[146]? = some 0x2f from (LBX9_copyr_9 2).trans (by decide +kernel))
theorem dX9_copy_147 : decode cX9_copy 147 = .ok (.lastore, 1) := dk_80_ (show cX9_copy.data.toList[147]? = some 0x50 from (LBX9_copyr_9 3).trans (by decide +kernel))
theorem dX9_copy_148 : decode cX9_copy 148 = .ok (.iinc 6 1, 3) := dk_132_ (show cX9_copy.data.toList[148]? = some 0x84 from (LBX9_copyr_9 4).trans (by decide +kernel)) (show cX9_copy.data.toList[149]? = some 0x06 from (LBX9_copyr_9 5).trans (by decide +kernel)) (show cX9_copy.data.toList[150]? = some 0x01 from (LBX9_copyr_9 6).trans (by decide +kernel)) (by decide) (by decide)
theorem dX9_copy_151 : decode cX9_copy 151 = .ok (.goto (-31), 3) := dk_167_ (show cX9_copy.data.toList[151]? = some 0xa7 from (LBX9_copyr_9 7).trans (by decide +kernel)) (show cX9_copy.data.toList[152]? = some 0xff from (LBX9_copyr_9 8).trans (by decide +kernel)) (show cX9_copy.data.toList[153]? = some 0xe1 from (LBX9_copyr_9 9).trans (by decide +kernel)) (by decide)
theorem dX9_copy_154 : decode cX9_copy 154 = .ok (.iconst 0, 1) := dk_3_ (show cX9_copy.data.toList[154]? = some 0x03 from (LBX9_copyr_9 10).trans (by decide +kernel))
theorem dX9_copy_155 : decode cX9_copy 155 = .ok (.istore 6, 2) := dk_54_ (show cX9_copy.data.toList[155]? = some 0x36 from (LBX9_copyr_9 11).trans (by decide +kernel)) (show cX9_copy.data.toList[156]? = some 0x06 from (LBX9_copyr_9 12).trans (by decide +kernel)) (by decide)
theorem dX9_copy_157 : decode cX9_copy 157 = .ok (.iload 6, 2) := dk_21_ (show cX9_copy.data.toList[157]? = some 0x15 from (LBX9_copyr_9 13).trans (by decide +kernel)) (show cX9_copy.data.toList[158]? = some 0x06 from (LBX9_copyr_9 14).trans (by decide +kernel)) (by decide)
theorem dX9_copy_159 : decode cX9_copy 159 = .ok (.iload 5, 2) := dk_21_ (show cX9_copy.data.toList[159]? = some 0x15 from (LBX9_copyr_9 15).trans (by decide +kernel)) (show cX9_copy.data.toList[160]? = some 0x05 from (LBX9_copyr_10 0).trans (by decide +kernel)) (by decide)
theorem dX9_copy_161 : decode cX9_copy 161 = .ok (.if_icmp .ge 31, 3) := dk_162_ (show cX9_copy.data.toList[161]? = some 0xa2 from (LBX9_copyr_10 1).trans (by decide +kernel)) (show cX9_copy.data.toList[162]? = some 0x00 from (LBX9_copyr_10 2).trans (by decide +kernel)) (show cX9_copy.data.toList[163]? = some 0x1f from (LBX9_copyr_10 3).trans (by decide +kernel)) (by decide)
theorem dX9_copy_164 : decode cX9_copy 164 = .ok (.aload_n 0, 1) := dk_42_ (show cX9_copy.data.toList[164]? = some 0x2a from (LBX9_copyr_10 4).trans (by decide +kernel))
theorem dX9_copy_165 : decode cX9_copy 165 = .ok (.getfield 49, 3) := dk_180_ (show cX9_copy.data.toList[165]? = some 0xb4 from (LBX9_copyr_10 5).trans (by decide +kernel)) (show cX9_copy.data.toList[166]? = some 0x00 from (LBX9_copyr_10 6).trans (by decide +kernel)) (show cX9_copy.data.toList[167]? = some 0x31 from (LBX9_copyr_10 7).trans (by decide +kernel)) (by decide)
theorem dX9_copy_168 : decode cX9_copy 168 = .ok (.bipush 40, 2) := dk_16_ (show cX9_copy.data.toList[168]? = some 0x10 from (LBX9_copyr_10 8).trans (by decide +kernel)) (show cX9_copy.data.toList[169]? = some 0x28 from (LBX9_copyr_10 9).trans (by decide +kernel)) (by decide)
theorem dX9_copy_170 : decode cX9_copy 170 = .ok (.iload_n 3, 1) := dk_29_ (show cX9_copy.data.toList[170]? = some 0x1d from (LBX9_copyr_10 10).trans (by decide +kernel))
theorem dX9_copy_171 : decode cX9_copy 171 = .ok (.imul, 1) := dk_104_ (show cX9_copy.data.toList[171]? = some 0x68 from (LBX9_copyr_10 11).trans (by decide +kernel))
theorem dX9_copy_172 : decode cX9_copy 172 = .ok (.iload 4, 2) := dk_21_ (show cX9_copy.data.toList[172]? = some 0x15 from (LBX9_copyr_10 12).trans (by decide +kernel)) (show cX9_copy.data.toList[173]? = some 0x04 from (LBX9_copyr_10 13).trans (by decide +kernel)) (by decide)
theorem dX9_copy_174 : decode cX9_copy 174 = .ok (.iadd, 1) := dk_96_ (show cX9_copy.data.toList[174]? = some 0x60 from (LBX9_copyr_10 14).trans (by decide +kernel))
theorem dX9_copy_175 : decode cX9_copy 175 = .ok (.iload 6, 2) := dk_21_ (show cX9_copy.data.toList[175]? = some 0x15 from (LBX9_copyr_10 15).trans (by decide +kernel)) (show cX9_copy.data.toList[176]? = some 0x06 from (LBX9_copyr_11 0).trans (by decide +kernel)) (by decide)
theorem dX9_copy_177 : decode cX9_copy 177 = .ok (.iadd, 1) := dk_96_ (show cX9_copy.data.toList[177]? = some 0x60 from (LBX9_copyr_11 1).trans (by decide +kernel))
theorem dX9_copy_178 : decode cX9_copy 178 = .ok (.aload_n 0, 1) := dk_42_ (show cX9_copy.data.toList[178]? = some 0x2a from (LBX9_copyr_11 2).trans (by decide +kernel))
theorem dX9_copy_179 : decode cX9_copy 179 = .ok (.getfield 53, 3) := dk_180_ (show cX9_copy.data.toList[179]? = some 0xb4 from (LBX9_copyr_11 3).trans (by decide +kernel)) (show cX9_copy.data.toList[180]? = some 0x00 from (LBX9_copyr_11 4).trans (by decide +kernel)) (show cX9_copy.data.toList[181]? = some 0x35 from (LBX9_copyr_11 5).trans (by decide +kernel)) (by decide)
theorem dX9_copy_182 : decode cX9_copy 182 = .ok (.iload 6, 2) := dk_21_ (show cX9_copy.data.toList[182]? = some 0x15 from (LBX9_copyr_11 6).trans (by decide +kernel)) (show cX9_copy.data.toList[183]? = some 0x06 from (LBX9_copyr_11 7).trans (by decide +kernel)) (by decide)
theorem dX9_copy_184 : decode cX9_copy 184 = .ok (.laload, 1) := dk_47_ (show cX9_copy.data.toList[184]? = some 0x2f from (LBX9_copyr_11 8).trans (by decide +kernel))
theorem dX9_copy_185 : decode cX9_copy 185 = .ok (.lastore, 1) := dk_80_ (show cX9_copy.data.toList[185]? = some 0x50 from (LBX9_copyr_11 9).trans (by decide +kernel))
theorem dX9_copy_186 : decode cX9_copy 186 = .ok (.iinc 6 1, 3) := dk_132_ (show cX9_copy.data.toList[186]? = some 0x84 from (LBX9_copyr_11 10).trans (by decide +kernel)) (show cX9_copy.data.toList[187]? = some 0x06 from (LBX9_copyr_11 11).trans (by decide +kernel)) (show cX9_copy.data.toList[188]? = some 0x01 from (LBX9_copyr_11 12).trans (by decide +kernel)) (by decide) (by decide)
theorem dX9_copy_189 : decode cX9_copy 189 = .ok (.goto (-32), 3) := dk_167_ (show cX9_copy.data.toList[189]? = some 0xa7 from (LBX9_copyr_11 13).trans (by decide +kernel)) (show cX9_copy.data.toList[190]? = some 0xff from (LBX9_copyr_11 14).trans (by decide +kernel)) (show cX9_copy.data.toList[191]? = some 0xe0 from (LBX9_copyr_11 15).trans (by decide +kernel)) (by decide)
theorem dX9_copy_192 : decode cX9_copy 192 = .ok (.iload 5, 2) := dk_21_ (show cX9_copy.data.toList[192]? = some 0x15 from (LBX9_copyr_12 0).trans (by decide +kernel)) (show cX9_copy.data.toList[193]? = some 0x05 from (LBX9_copyr_12 1).trans (by decide +kernel)) (by decide)
theorem dX9_copy_194 : decode cX9_copy 194 = .ok (.ireturn, 1) := dk_172_ (show cX9_copy.data.toList[194]? = some 0xac from (LBX9_copyr_12 2).trans (by decide +kernel))
def LRX9_lays_8 : List UInt8 := []
def LBX9_lays_7 : List UInt8 := [0xa7, 0xff, 0xb5, 0x15, 0x04, 0xac]
def LRX9_lays_7 : List UInt8 := LBX9_lays_7 ++ LRX9_lays_8
def LBX9_lays_6 : List UInt8 := [0x06, 0x88, 0x16, 0x06, 0x88, 0xb6, 0x00, 0x57, 0x36, 0x08, 0x84, 0x04, 0x01, 0x84, 0x05, 0x01]
def LRX9_lays_6 : List UInt8 := LBX9_lays_6 ++ LRX9_lays_7
def LBX9_lays_5 : List UInt8 := [0x00, 0x41, 0x14, 0x00, 0x43, 0xb8, 0x00, 0x39, 0x99, 0x00, 0x15, 0x2a, 0x1c, 0x15, 0x05, 0x16]
def LRX9_lays_5 : List UInt8 := LBX9_lays_5 ++ LRX9_lays_6
def LBX9_lays_4 : List UInt8 := [0x05, 0xb6, 0x00, 0x3d, 0x99, 0x00, 0x29, 0x15, 0x05, 0x1c, 0x9f, 0x00, 0x23, 0x16, 0x06, 0x14]
def LRX9_lays_4 : List UInt8 := LBX9_lays_4 ++ LRX9_lays_5
def LBX9_lays_3 : List UInt8 := [0x2a, 0xb4, 0x00, 0x31, 0x10, 0x28, 0x1b, 0x68, 0x15, 0x05, 0x60, 0x2f, 0x37, 0x06, 0x2a, 0x15]
def LRX9_lays_3 : List UInt8 := LBX9_lays_3 ++ LRX9_lays_4
def LBX9_lays_2 : List UInt8 := [0x36, 0x04, 0x03, 0x36, 0x05, 0x15, 0x05, 0x2a, 0xb4, 0x00, 0x2e, 0x1b, 0x2e, 0xa2, 0x00, 0x46]
def LRX9_lays_2 : List UInt8 := LBX9_lays_2 ++ LRX9_lays_3
def LBX9_lays_1 : List UInt8 := [0x2a, 0x1c, 0xb6, 0x00, 0x3d, 0x9a, 0x00, 0x0a, 0x2a, 0x12, 0x38, 0xb6, 0x00, 0x46, 0xac, 0x03]
def LRX9_lays_1 : List UInt8 := LBX9_lays_1 ++ LRX9_lays_2
def LBX9_lays_0 : List UInt8 := [0x2a, 0x1b, 0xb6, 0x01, 0x36, 0x3e, 0x1d, 0x99, 0x00, 0x09, 0x2a, 0x1d, 0xb6, 0x00, 0x46, 0xac]
def LRX9_lays_0 : List UInt8 := LBX9_lays_0 ++ LRX9_lays_1
set_option maxRecDepth 100000 in
theorem LBX9_lays_eq : cX9_lays.data.toList = LRX9_lays_0 := by decide +kernel
theorem LBX9_laysr_0 (k : Nat) : cX9_lays.data.toList[0 + k]? = LRX9_lays_0[k]? := by rw [LBX9_lays_eq, Nat.zero_add]
theorem LBX9_laysr_1 (k : Nat) : cX9_lays.data.toList[16 + k]? = LRX9_lays_1[k]? := by
  have h := LBX9_laysr_0 (16 + k)
  rw [show 0 + (16 + k) = 16 + k by omega] at h
  rw [h]
  exact (List.getElem?_append_right (l₁ := LBX9_lays_0) (l₂ := LRX9_lays_1) (show 16 ≤ 16 + k by omega)).trans (congrArg (fun i => LRX9_lays_1[i]?) (show 16 + k - 16 = k by omega))
theorem LBX9_laysr_2 (k : Nat) : cX9_lays.data.toList[32 + k]? = LRX9_lays_2[k]? := by
  have h := LBX9_laysr_1 (16 + k)
  rw [show 16 + (16 + k) = 32 + k by omega] at h
  rw [h]
  exact (List.getElem?_append_right (l₁ := LBX9_lays_1) (l₂ := LRX9_lays_2) (show 16 ≤ 16 + k by omega)).trans (congrArg (fun i => LRX9_lays_2[i]?) (show 16 + k - 16 = k by omega))
theorem LBX9_laysr_3 (k : Nat) : cX9_lays.data.toList[48 + k]? = LRX9_lays_3[k]? := by
  have h := LBX9_laysr_2 (16 + k)
  rw [show 32 + (16 + k) = 48 + k by omega] at h
  rw [h]
  exact (List.getElem?_append_right (l₁ := LBX9_lays_2) (l₂ := LRX9_lays_3) (show 16 ≤ 16 + k by omega)).trans (congrArg (fun i => LRX9_lays_3[i]?) (show 16 + k - 16 = k by omega))
theorem LBX9_laysr_4 (k : Nat) : cX9_lays.data.toList[64 + k]? = LRX9_lays_4[k]? := by
  have h := LBX9_laysr_3 (16 + k)
  rw [show 48 + (16 + k) = 64 + k by omega] at h
  rw [h]
  exact (List.getElem?_append_right (l₁ := LBX9_lays_3) (l₂ := LRX9_lays_4) (show 16 ≤ 16 + k by omega)).trans (congrArg (fun i => LRX9_lays_4[i]?) (show 16 + k - 16 = k by omega))
theorem LBX9_laysr_5 (k : Nat) : cX9_lays.data.toList[80 + k]? = LRX9_lays_5[k]? := by
  have h := LBX9_laysr_4 (16 + k)
  rw [show 64 + (16 + k) = 80 + k by omega] at h
  rw [h]
  exact (List.getElem?_append_right (l₁ := LBX9_lays_4) (l₂ := LRX9_lays_5) (show 16 ≤ 16 + k by omega)).trans (congrArg (fun i => LRX9_lays_5[i]?) (show 16 + k - 16 = k by omega))
theorem LBX9_laysr_6 (k : Nat) : cX9_lays.data.toList[96 + k]? = LRX9_lays_6[k]? := by
  have h := LBX9_laysr_5 (16 + k)
  rw [show 80 + (16 + k) = 96 + k by omega] at h
  rw [h]
  exact (List.getElem?_append_right (l₁ := LBX9_lays_5) (l₂ := LRX9_lays_6) (show 16 ≤ 16 + k by omega)).trans (congrArg (fun i => LRX9_lays_6[i]?) (show 16 + k - 16 = k by omega))
theorem LBX9_laysr_7 (k : Nat) : cX9_lays.data.toList[112 + k]? = LRX9_lays_7[k]? := by
  have h := LBX9_laysr_6 (16 + k)
  rw [show 96 + (16 + k) = 112 + k by omega] at h
  rw [h]
  exact (List.getElem?_append_right (l₁ := LBX9_lays_6) (l₂ := LRX9_lays_7) (show 16 ≤ 16 + k by omega)).trans (congrArg (fun i => LRX9_lays_7[i]?) (show 16 + k - 16 = k by omega))
theorem dX9_lays_0 : decode cX9_lays 0 = .ok (.aload_n 0, 1) := dk_42_ (show cX9_lays.data.toList[0]? = some 0x2a from (LBX9_laysr_0 0).trans (by decide +kernel))
theorem dX9_lays_1 : decode cX9_lays 1 = .ok (.iload_n 1, 1) := dk_27_ (show cX9_lays.data.toList[1]? = some 0x1b from (LBX9_laysr_0 1).trans (by decide +kernel))
theorem dX9_lays_2 : decode cX9_lays 2 = .ok (.invokevirtual 310, 3) := dk_182_ (show cX9_lays.data.toList[2]? = some 0xb6 from (LBX9_laysr_0 2).trans (by decide +kernel)) (show cX9_lays.data.toList[3]? = some 0x01 from (LBX9_laysr_0 3).trans (by decide +kernel)) (show cX9_lays.data.toList[4]? = some 0x36 from (LBX9_laysr_0 4).trans (by decide +kernel)) (by decide)
theorem dX9_lays_5 : decode cX9_lays 5 = .ok (.istore_n 3, 1) := dk_62_ (show cX9_lays.data.toList[5]? = some 0x3e from (LBX9_laysr_0 5).trans (by decide +kernel))
theorem dX9_lays_6 : decode cX9_lays 6 = .ok (.iload_n 3, 1) := dk_29_ (show cX9_lays.data.toList[6]? = some 0x1d from (LBX9_laysr_0 6).trans (by decide +kernel))
theorem dX9_lays_7 : decode cX9_lays 7 = .ok (.ifCond .eq 9, 3) := dk_153_ (show cX9_lays.data.toList[7]? = some 0x99 from (LBX9_laysr_0 7).trans (by decide +kernel)) (show cX9_lays.data.toList[8]? = some 0x00 from (LBX9_laysr_0 8).trans (by decide +kernel)) (show cX9_lays.data.toList[9]? = some 0x09 from (LBX9_laysr_0 9).trans (by decide +kernel)) (by decide)
theorem dX9_lays_10 : decode cX9_lays 10 = .ok (.aload_n 0, 1) := dk_42_ (show cX9_lays.data.toList[10]? = some 0x2a from (LBX9_laysr_0 10).trans (by decide +kernel))
theorem dX9_lays_11 : decode cX9_lays 11 = .ok (.iload_n 3, 1) := dk_29_ (show cX9_lays.data.toList[11]? = some 0x1d from (LBX9_laysr_0 11).trans (by decide +kernel))
theorem dX9_lays_12 : decode cX9_lays 12 = .ok (.invokevirtual 70, 3) := dk_182_ (show cX9_lays.data.toList[12]? = some 0xb6 from (LBX9_laysr_0 12).trans (by decide +kernel)) (show cX9_lays.data.toList[13]? = some 0x00 from (LBX9_laysr_0 13).trans (by decide +kernel)) (show cX9_lays.data.toList[14]? = some 0x46 from (LBX9_laysr_0 14).trans (by decide +kernel)) (by decide)
theorem dX9_lays_15 : decode cX9_lays 15 = .ok (.ireturn, 1) := dk_172_ (show cX9_lays.data.toList[15]? = some 0xac from (LBX9_laysr_0 15).trans (by decide +kernel))
theorem dX9_lays_16 : decode cX9_lays 16 = .ok (.aload_n 0, 1) := dk_42_ (show cX9_lays.data.toList[16]? = some 0x2a from (LBX9_laysr_1 0).trans (by decide +kernel))
theorem dX9_lays_17 : decode cX9_lays 17 = .ok (.iload_n 2, 1) := dk_28_ (show cX9_lays.data.toList[17]? = some 0x1c from (LBX9_laysr_1 1).trans (by decide +kernel))
theorem dX9_lays_18 : decode cX9_lays 18 = .ok (.invokevirtual 61, 3) := dk_182_ (show cX9_lays.data.toList[18]? = some 0xb6 from (LBX9_laysr_1 2).trans (by decide +kernel)) (show cX9_lays.data.toList[19]? = some 0x00 from (LBX9_laysr_1 3).trans (by decide +kernel)) (show cX9_lays.data.toList[20]? = some 0x3d from (LBX9_laysr_1 4).trans (by decide +kernel)) (by decide)
theorem dX9_lays_21 : decode cX9_lays 21 = .ok (.ifCond .ne 10, 3) := dk_154_ (show cX9_lays.data.toList[21]? = some 0x9a from (LBX9_laysr_1 5).trans (by decide +kernel)) (show cX9_lays.data.toList[22]? = some 0x00 from (LBX9_laysr_1 6).trans (by decide +kernel)) (show cX9_lays.data.toList[23]? = some 0x0a from (LBX9_laysr_1 7).trans (by decide +kernel)) (by decide)
theorem dX9_lays_24 : decode cX9_lays 24 = .ok (.aload_n 0, 1) := dk_42_ (show cX9_lays.data.toList[24]? = some 0x2a from (LBX9_laysr_1 8).trans (by decide +kernel))
theorem dX9_lays_25 : decode cX9_lays 25 = .ok (.ldc 56, 2) := dk_18_ (show cX9_lays.data.toList[25]? = some 0x12 from (LBX9_laysr_1 9).trans (by decide +kernel)) (show cX9_lays.data.toList[26]? = some 0x38 from (LBX9_laysr_1 10).trans (by decide +kernel)) (by decide)
theorem dX9_lays_27 : decode cX9_lays 27 = .ok (.invokevirtual 70, 3) := dk_182_ (show cX9_lays.data.toList[27]? = some 0xb6 from (LBX9_laysr_1 11).trans (by decide +kernel)) (show cX9_lays.data.toList[28]? = some 0x00 from (LBX9_laysr_1 12).trans (by decide +kernel)) (show cX9_lays.data.toList[29]? = some 0x46 from (LBX9_laysr_1 13).trans (by decide +kernel)) (by decide)
theorem dX9_lays_30 : decode cX9_lays 30 = .ok (.ireturn, 1) := dk_172_ (show cX9_lays.data.toList[30]? = some 0xac from (LBX9_laysr_1 14).trans (by decide +kernel))
theorem dX9_lays_31 : decode cX9_lays 31 = .ok (.iconst 0, 1) := dk_3_ (show cX9_lays.data.toList[31]? = some 0x03 from (LBX9_laysr_1 15).trans (by decide +kernel))
theorem dX9_lays_32 : decode cX9_lays 32 = .ok (.istore 4, 2) := dk_54_ (show cX9_lays.data.toList[32]? = some 0x36 from (LBX9_laysr_2 0).trans (by decide +kernel)) (show cX9_lays.data.toList[33]? = some 0x04 from (LBX9_laysr_2 1).trans (by decide +kernel)) (by decide)
theorem dX9_lays_34 : decode cX9_lays 34 = .ok (.iconst 0, 1) := dk_3_ (show cX9_lays.data.toList[34]? = some 0x03 from (LBX9_laysr_2 2).trans (by decide +kernel))
theorem dX9_lays_35 : decode cX9_lays 35 = .ok (.istore 5, 2) := dk_54_ (show cX9_lays.data.toList[35]? = some 0x36 from (LBX9_laysr_2 3).trans (by decide +kernel)) (show cX9_lays.data.toList[36]? = some 0x05 from (LBX9_laysr_2 4).trans (by decide +kernel)) (by decide)
theorem dX9_lays_37 : decode cX9_lays 37 = .ok (.iload 5, 2) := dk_21_ (show cX9_lays.data.toList[37]? = some 0x15 from (LBX9_laysr_2 5).trans (by decide +kernel)) (show cX9_lays.data.toList[38]? = some 0x05 from (LBX9_laysr_2 6).trans (by decide +kernel)) (by decide)
theorem dX9_lays_39 : decode cX9_lays 39 = .ok (.aload_n 0, 1) := dk_42_ (show cX9_lays.data.toList[39]? = some 0x2a from (LBX9_laysr_2 7).trans (by decide +kernel))
theorem dX9_lays_40 : decode cX9_lays 40 = .ok (.getfield 46, 3) := dk_180_ (show cX9_lays.data.toList[40]? = some 0xb4 from (LBX9_laysr_2 8).trans (by decide +kernel)) (show cX9_lays.data.toList[41]? = some 0x00 from (LBX9_laysr_2 9).trans (by decide +kernel)) (show cX9_lays.data.toList[42]? = some 0x2e from (LBX9_laysr_2 10).trans (by decide +kernel)) (by decide)
theorem dX9_lays_43 : decode cX9_lays 43 = .ok (.iload_n 1, 1) := dk_27_ (show cX9_lays.data.toList[43]? = some 0x1b from (LBX9_laysr_2 11).trans (by decide +kernel))
theorem dX9_lays_44 : decode cX9_lays 44 = .ok (.iaload, 1) := dk_46_ (show cX9_lays.data.toList[44]? = some 0x2e from (LBX9_laysr_2 12).trans (by decide +kernel))
theorem dX9_lays_45 : decode cX9_lays 45 = .ok (.if_icmp .ge 70, 3) := dk_162_ (show cX9_lays.data.toList[45]? = some 0xa2 from (LBX9_laysr_2 13).trans (by decide +kernel)) (show cX9_lays.data.toList[46]? = some 0x00 from (LBX9_laysr_2 14).trans (by decide +kernel)) (show cX9_lays.data.toList[47]? = some 0x46 from (LBX9_laysr_2 15).trans (by decide +kernel)) (by decide)
theorem dX9_lays_48 : decode cX9_lays 48 = .ok (.aload_n 0, 1) := dk_42_ (show cX9_lays.data.toList[48]? = some 0x2a from (LBX9_laysr_3 0).trans (by decide +kernel))
theorem dX9_lays_49 : decode cX9_lays 49 = .ok (.getfield 49, 3) := dk_180_ (show cX9_lays.data.toList[49]? = some 0xb4 from (LBX9_laysr_3 1).trans (by decide +kernel)) (show cX9_lays.data.toList[50]? = some 0x00 from (LBX9_laysr_3 2).trans (by decide +kernel)) (show cX9_lays.data.toList[51]? = some 0x31 from (LBX9_laysr_3 3).trans (by decide +kernel)) (by decide)
theorem dX9_lays_52 : decode cX9_lays 52 = .ok (.bipush 40, 2) := dk_16_ (show cX9_lays.data.toList[52]? = some 0x10 from (LBX9_laysr_3 4).trans (by decide +kernel)) (show cX9_lays.data.toList[53]? = some 0x28 from (LBX9_laysr_3 5).trans (by decide +kernel)) (by decide)
theorem dX9_lays_54 : decode cX9_lays 54 = .ok (.iload_n 1, 1) := dk_27_ (show cX9_lays.data.toList[54]? = some 0x1b from (LBX9_laysr_3 6).trans (by decide +kernel))
theorem dX9_lays_55 : decode cX9_lays 55 = .ok (.imul, 1) := dk_104_ (show cX9_lays.data.toList[55]? = some 0x68 from (LBX9_laysr_3 7).trans (by decide +kernel))
theorem dX9_lays_56 : decode cX9_lays 56 = .ok (.iload 5, 2) := dk_21_ (show cX9_lays.data.toList[56]? = some 0x15 from (LBX9_laysr_3 8).trans (by decide +kernel)) (show cX9_lays.data.toList[57]? = some 0x05 from (LBX9_laysr_3 9).trans (by decide +kernel)) (by decide)
theorem dX9_lays_58 : decode cX9_lays 58 = .ok (.iadd, 1) := dk_96_ (show cX9_lays.data.toList[58]? = some 0x60 from (LBX9_laysr_3 10).trans (by decide +kernel))
theorem dX9_lays_59 : decode cX9_lays 59 = .ok (.laload, 1) := dk_47_ (show cX9_lays.data.toList[59]? = some 0x2f from (LBX9_laysr_3 11).trans (by decide +kernel))
theorem dX9_lays_60 : decode cX9_lays 60 = .ok (.lstore 6, 2) := dk_55_ (show cX9_lays.data.toList[60]? = some 0x37 from (LBX9_laysr_3 12).trans (by decide +kernel)) (show cX9_lays.data.toList[61]? = some 0x06 from (LBX9_laysr_3 13).trans (by decide +kernel)) (by decide)
theorem dX9_lays_62 : decode cX9_lays 62 = .ok (.aload_n 0, 1) := dk_42_ (show cX9_lays.data.toList[62]? = some 0x2a from (LBX9_laysr_3 14).trans (by decide +kernel))
theorem dX9_lays_63 : decode cX9_lays 63 = .ok (.iload 5, 2) := dk_21_ (show cX9_lays.data.toList[63]? = some 0x15 from (LBX9_laysr_3 15).trans (by decide +kernel)) (show cX9_lays.data.toList[64]? = some 0x05 from (LBX9_laysr_4 0).trans (by decide +kernel)) (by decide)
theorem dX9_lays_65 : decode cX9_lays 65 = .ok (.invokevirtual 61, 3) := dk_182_ (show cX9_lays.data.toList[65]? = some 0xb6 from (LBX9_laysr_4 1).trans (by decide +kernel)) (show cX9_lays.data.toList[66]? = some 0x00 from (LBX9_laysr_4 2).trans (by decide +kernel)) (show cX9_lays.data.toList[67]? = some 0x3d from (LBX9_laysr_4 3).trans (by decide +kernel)) (by decide)
theorem dX9_lays_68 : decode cX9_lays 68 = .ok (.ifCond .eq 41, 3) := dk_153_ (show cX9_lays.data.toList[68]? = some 0x99 from (LBX9_laysr_4 4).trans (by decide +kernel)) (show cX9_lays.data.toList[69]? = some 0x00 from (LBX9_laysr_4 5).trans (by decide +kernel)) (show cX9_lays.data.toList[70]? = some 0x29 from (LBX9_laysr_4 6).trans (by decide +kernel)) (by decide)
theorem dX9_lays_71 : decode cX9_lays 71 = .ok (.iload 5, 2) := dk_21_ (show cX9_lays.data.toList[71]? = some 0x15 from (LBX9_laysr_4 7).trans (by decide +kernel)) (show cX9_lays.data.toList[72]? = some 0x05 from (LBX9_laysr_4 8).trans (by decide +kernel)) (by decide)
theorem dX9_lays_73 : decode cX9_lays 73 = .ok (.iload_n 2, 1) := dk_28_ (show cX9_lays.data.toList[73]? = some 0x1c from (LBX9_laysr_4 9).trans (by decide +kernel))
theorem dX9_lays_74 : decode cX9_lays 74 = .ok (.if_icmp .eq 35, 3) := dk_159_ (show cX9_lays.data.toList[74]? = some 0x9f from (LBX9_laysr_4 10).trans (by decide +kernel)) (show cX9_lays.data.toList[75]? = some 0x00 from (LBX9_laysr_4 11).trans (by decide +kernel)) (show cX9_lays.data.toList[76]? = some 0x23 from (LBX9_laysr_4 12).trans (by decide +kernel)) (by decide)
theorem dX9_lays_77 : decode cX9_lays 77 = .ok (.lload 6, 2) := dk_22_ (show cX9_lays.data.toList[77]? = some 0x16 from (LBX9_laysr_4 13).trans (by decide +kernel)) (show cX9_lays.data.toList[78]? = some 0x06 from (LBX9_laysr_4 14).trans (by decide +kernel)) (by decide)
theorem dX9_lays_79 : decode cX9_lays 79 = .ok (.ldc2_w 65, 3) := dk_20_ (show cX9_lays.data.toList[79]? = some 0x14 from (LBX9_laysr_4 15).trans (by decide +kernel)) (show cX9_lays.data.toList[80]? = some 0x00 from (LBX9_laysr_5 0).trans (by decide +kernel)) (show cX9_lays.data.toList[81]? = some 0x41 from (LBX9_laysr_5 1).trans (by decide +kernel)) (by decide)
theorem dX9_lays_82 : decode cX9_lays 82 = .ok (.ldc2_w 67, 3) := dk_20_ (show cX9_lays.data.toList[82]? = some 0x14 from (LBX9_laysr_5 2).trans (by decide +kernel)) (show cX9_lays.data.toList[83]? = some 0x00 from (LBX9_laysr_5 3).trans (by decide +kernel)) (show cX9_lays.data.toList[84]? = some 0x43 from (LBX9_laysr_5 4).trans (by decide +kernel)) (by decide)
theorem dX9_lays_85 : decode cX9_lays 85 = .ok (.invokestatic 57, 3) := dk_184_ (show cX9_lays.data.toList[85]? = some 0xb8 from (LBX9_laysr_5 5).trans (by decide +kernel)) (show cX9_lays.data.toList[86]? = some 0x00 from (LBX9_laysr_5 6).trans (by decide +kernel)) (show cX9_lays.data.toList[87]? = some 0x39 from (LBX9_laysr_5 7).trans (by decide +kernel)) (by decide)
theorem dX9_lays_88 : decode cX9_lays 88 = .ok (.ifCond .eq 21, 3) := dk_153_ (show cX9_lays.data.toList[88]? = some 0x99 from (LBX9_laysr_5 8).trans (by decide +kernel)) (show cX9_lays.data.toList[89]? = some 0x00 from (LBX9_laysr_5 9).trans (by decide +kernel)) (show cX9_lays.data.toList[90]? = some 0x15 from (LBX9_laysr_5 10).trans (by decide +kernel)) (by decide)
theorem dX9_lays_91 : decode cX9_lays 91 = .ok (.aload_n 0, 1) := dk_42_ (show cX9_lays.data.toList[91]? = some 0x2a from (LBX9_laysr_5 11).trans (by decide +kernel))
theorem dX9_lays_92 : decode cX9_lays 92 = .ok (.iload_n 2, 1) := dk_28_ (show cX9_lays.data.toList[92]? = some 0x1c from (LBX9_laysr_5 12).trans (by decide +kernel))
theorem dX9_lays_93 : decode cX9_lays 93 = .ok (.iload 5, 2) := dk_21_ (show cX9_lays.data.toList[93]? = some 0x15 from (LBX9_laysr_5 13).trans (by decide +kernel)) (show cX9_lays.data.toList[94]? = some 0x05 from (LBX9_laysr_5 14).trans (by decide +kernel)) (by decide)
theorem dX9_lays_95 : decode cX9_lays 95 = .ok (.lload 6, 2) := dk_22_ (show cX9_lays.data.toList[95]? = some 0x16 from (LBX9_laysr_5 15).trans (by decide +kernel)) (show cX9_lays.data.toList[96]? = some 0x06 from (LBX9_laysr_6 0).trans (by decide +kernel)) (by decide)
theorem dX9_lays_97 : decode cX9_lays 97 = .ok (.l2i, 1) := dk_136_ (show cX9_lays.data.toList[97]? = some 0x88 from (LBX9_laysr_6 1).trans (by decide +kernel))
theorem dX9_lays_98 : decode cX9_lays 98 = .ok (.lload 6, 2) := dk_22_ (show cX9_lays.data.toList[98]? = some 0x16 from (LBX9_laysr_6 2).trans (by decide +kernel)) (show cX9_lays.data.toList[99]? = some 0x06 from (LBX9_laysr_6 3).trans (by decide +kernel)) (by decide)
theorem dX9_lays_100 : decode cX9_lays 100 = .ok (.l2i, 1) := dk_136_ (show cX9_lays.data.toList[100]? = some 0x88 from (LBX9_laysr_6 4).trans (by decide +kernel))
theorem dX9_lays_101 : decode cX9_lays 101 = .ok (.invokevirtual 87, 3) := dk_182_ (show cX9_lays.data.toList[101]? = some 0xb6 from (LBX9_laysr_6 5).trans (by decide +kernel)) (show cX9_lays.data.toList[102]? = some 0x00 from (LBX9_laysr_6 6).trans (by decide +kernel)) (show cX9_lays.data.toList[103]? = some 0x57 from (LBX9_laysr_6 7).trans (by decide +kernel)) (by decide)
theorem dX9_lays_104 : decode cX9_lays 104 = .ok (.istore 8, 2) := dk_54_ (show cX9_lays.data.toList[104]? = some 0x36 from (LBX9_laysr_6 8).trans (by decide +kernel)) (show cX9_lays.data.toList[105]? = some 0x08 from (LBX9_laysr_6 9).trans (by decide +kernel)) (by decide)
theorem dX9_lays_106 : decode cX9_lays 106 = .ok (.iinc 4 1, 3) := dk_132_ (show cX9_lays.data.toList[106]? = some 0x84 from (LBX9_laysr_6 10).trans (by decide +kernel)) (show cX9_lays.data.toList[107]? = some 0x04 from (LBX9_laysr_6 11).trans (by decide +kernel)) (show cX9_lays.data.toList[108]? = some 0x01 from (LBX9_laysr_6 12).trans (by decide +kernel)) (by decide) (by decide)
theorem dX9_lays_109 : decode cX9_lays 109 = .ok (.iinc 5 1, 3) := dk_132_ (show cX9_lays.data.toList[109]? = some 0x84 from (LBX9_laysr_6 13).trans (by decide +kernel)) (show cX9_lays.data.toList[110]? = some 0x05 from (LBX9_laysr_6 14).trans (by decide +kernel)) (show cX9_lays.data.toList[111]? = some 0x01 from (LBX9_laysr_6 15).trans (by decide +kernel)) (by decide) (by decide)
theorem dX9_lays_112 : decode cX9_lays 112 = .ok (.goto (-75), 3) := dk_167_ (show cX9_lays.data.toList[112]? = some 0xa7 from (LBX9_laysr_7 0).trans (by decide +kernel)) (show cX9_lays.data.toList[113]? = some 0xff from (LBX9_laysr_7 1).trans (by decide +kernel)) (show cX9_lays.data.toList[114]? = some 0xb5 from (LBX9_laysr_7 2).trans (by decide +kernel)) (by decide)
theorem dX9_lays_115 : decode cX9_lays 115 = .ok (.iload 4, 2) := dk_21_ (show cX9_lays.data.toList[115]? = some 0x15 from (LBX9_laysr_7 3).trans (by decide +kernel)) (show cX9_lays.data.toList[116]? = some 0x04 from (LBX9_laysr_7 4).trans (by decide +kernel)) (by decide)
theorem dX9_lays_117 : decode cX9_lays 117 = .ok (.ireturn, 1) := dk_172_ (show cX9_lays.data.toList[117]? = some 0xac from (LBX9_laysr_7 5).trans (by decide +kernel))
def LRX9_read_14 : List UInt8 := []
def LBX9_read_13 : List UInt8 := [0x1d, 0x60, 0xac]
def LRX9_read_13 : List UInt8 := LBX9_read_13 ++ LRX9_read_14
def LBX9_read_12 : List UInt8 := [0x1d, 0x60, 0x04, 0x64, 0x2f, 0x88, 0x60, 0x2e, 0xa0, 0x00, 0x07, 0x03, 0xa7, 0x00, 0x06, 0x04]
def LRX9_read_12 : List UInt8 := LBX9_read_12 ++ LRX9_read_13
def LBX9_read_11 : List UInt8 := [0x31, 0x10, 0x28, 0x1b, 0x68, 0x2f, 0x88, 0x68, 0x2a, 0xb4, 0x00, 0x31, 0x10, 0x28, 0x1b, 0x68]
def LRX9_read_11 : List UInt8 := LBX9_read_11 ++ LRX9_read_12
def LBX9_read_10 : List UInt8 := [0xa2, 0x00, 0x05, 0x04, 0xac, 0x15, 0x04, 0x2a, 0xb4, 0x00, 0x16, 0x10, 0x0a, 0x2a, 0xb4, 0x00]
def LRX9_read_10 : List UInt8 := LBX9_read_10 ++ LRX9_read_11
def LBX9_read_9 : List UInt8 := [0x06, 0x88, 0xb6, 0x00, 0x64, 0x60, 0x36, 0x04, 0x84, 0x05, 0x01, 0xa7, 0xff, 0x94, 0x1d, 0x05]
def LRX9_read_9 : List UInt8 := LBX9_read_9 ++ LRX9_read_10
def LBX9_read_8 : List UInt8 := [0x00, 0x61, 0x9a, 0x00, 0x08, 0x15, 0x05, 0x04, 0x60, 0xac, 0x15, 0x04, 0x2a, 0x15, 0x08, 0x16]
def LRX9_read_8 : List UInt8 := LBX9_read_8 ++ LRX9_read_9
def LBX9_read_7 : List UInt8 := [0x16, 0x06, 0x15, 0x08, 0x85, 0x94, 0x99, 0x00, 0x0f, 0x2a, 0x15, 0x08, 0x16, 0x06, 0x88, 0xb6]
def LRX9_read_7 : List UInt8 := LBX9_read_7 ++ LRX9_read_8
def LBX9_read_6 : List UInt8 := [0xb4, 0x00, 0x31, 0x10, 0x28, 0x1b, 0x68, 0x15, 0x05, 0x60, 0x04, 0x64, 0x2f, 0x88, 0x36, 0x08]
def LRX9_read_6 : List UInt8 := LBX9_read_6 ++ LRX9_read_7
def LBX9_read_5 : List UInt8 := [0x00, 0x39, 0x9a, 0x00, 0x08, 0x15, 0x05, 0x04, 0x60, 0xac, 0x15, 0x05, 0x9e, 0x00, 0x3c, 0x2a]
def LRX9_read_5 : List UInt8 := LBX9_read_5 ++ LRX9_read_6
def LBX9_read_4 : List UInt8 := [0x2f, 0x37, 0x06, 0x16, 0x06, 0x09, 0x2a, 0xb4, 0x00, 0x07, 0x03, 0x2e, 0x04, 0x64, 0x85, 0xb8]
def LRX9_read_4 : List UInt8 := LBX9_read_4 ++ LRX9_read_5
def LBX9_read_3 : List UInt8 := [0x05, 0x1d, 0xa2, 0x00, 0x6c, 0x2a, 0xb4, 0x00, 0x31, 0x10, 0x28, 0x1b, 0x68, 0x15, 0x05, 0x60]
def LRX9_read_3 : List UInt8 := LBX9_read_3 ++ LRX9_read_4
def LBX9_read_2 : List UInt8 := [0x46, 0xac, 0x2a, 0xb4, 0x00, 0x2e, 0x1b, 0x2e, 0x3e, 0x03, 0x36, 0x04, 0x03, 0x36, 0x05, 0x15]
def LRX9_read_2 : List UInt8 := LBX9_read_2 ++ LRX9_read_3
def LBX9_read_1 : List UInt8 := [0x2a, 0xb6, 0x00, 0x71, 0x2a, 0xb4, 0x00, 0x6d, 0x99, 0x00, 0x0a, 0x2a, 0x12, 0x74, 0xb6, 0x00]
def LRX9_read_1 : List UInt8 := LBX9_read_1 ++ LRX9_read_2
def LBX9_read_0 : List UInt8 := [0x2a, 0x1b, 0xb6, 0x01, 0x36, 0x3d, 0x1c, 0x99, 0x00, 0x09, 0x2a, 0x1c, 0xb6, 0x00, 0x46, 0xac]
def LRX9_read_0 : List UInt8 := LBX9_read_0 ++ LRX9_read_1
set_option maxRecDepth 100000 in
theorem LBX9_read_eq : cX9_read.data.toList = LRX9_read_0 := by decide +kernel
theorem LBX9_readr_0 (k : Nat) : cX9_read.data.toList[0 + k]? = LRX9_read_0[k]? := by rw [LBX9_read_eq, Nat.zero_add]
theorem LBX9_readr_1 (k : Nat) : cX9_read.data.toList[16 + k]? = LRX9_read_1[k]? := by
  have h := LBX9_readr_0 (16 + k)
  rw [show 0 + (16 + k) = 16 + k by omega] at h
  rw [h]
  exact (List.getElem?_append_right (l₁ := LBX9_read_0) (l₂ := LRX9_read_1) (show 16 ≤ 16 + k by omega)).trans (congrArg (fun i => LRX9_read_1[i]?) (show 16 + k - 16 = k by omega))
theorem LBX9_readr_2 (k : Nat) : cX9_read.data.toList[32 + k]? = LRX9_read_2[k]? := by
  have h := LBX9_readr_1 (16 + k)
  rw [show 16 + (16 + k) = 32 + k by omega] at h
  rw [h]
  exact (List.getElem?_append_right (l₁ := LBX9_read_1) (l₂ := LRX9_read_2) (show 16 ≤ 16 + k by omega)).trans (congrArg (fun i => LRX9_read_2[i]?) (show 16 + k - 16 = k by omega))
theorem LBX9_readr_3 (k : Nat) : cX9_read.data.toList[48 + k]? = LRX9_read_3[k]? := by
  have h := LBX9_readr_2 (16 + k)
  rw [show 32 + (16 + k) = 48 + k by omega] at h
  rw [h]
  exact (List.getElem?_append_right (l₁ := LBX9_read_2) (l₂ := LRX9_read_3) (show 16 ≤ 16 + k by omega)).trans (congrArg (fun i => LRX9_read_3[i]?) (show 16 + k - 16 = k by omega))
theorem LBX9_readr_4 (k : Nat) : cX9_read.data.toList[64 + k]? = LRX9_read_4[k]? := by
  have h := LBX9_readr_3 (16 + k)
  rw [show 48 + (16 + k) = 64 + k by omega] at h
  rw [h]
  exact (List.getElem?_append_right (l₁ := LBX9_read_3) (l₂ := LRX9_read_4) (show 16 ≤ 16 + k by omega)).trans (congrArg (fun i => LRX9_read_4[i]?) (show 16 + k - 16 = k by omega))
theorem LBX9_readr_5 (k : Nat) : cX9_read.data.toList[80 + k]? = LRX9_read_5[k]? := by
  have h := LBX9_readr_4 (16 + k)
  rw [show 64 + (16 + k) = 80 + k by omega] at h
  rw [h]
  exact (List.getElem?_append_right (l₁ := LBX9_read_4) (l₂ := LRX9_read_5) (show 16 ≤ 16 + k by omega)).trans (congrArg (fun i => LRX9_read_5[i]?) (show 16 + k - 16 = k by omega))
theorem LBX9_readr_6 (k : Nat) : cX9_read.data.toList[96 + k]? = LRX9_read_6[k]? := by
  have h := LBX9_readr_5 (16 + k)
  rw [show 80 + (16 + k) = 96 + k by omega] at h
  rw [h]
  exact (List.getElem?_append_right (l₁ := LBX9_read_5) (l₂ := LRX9_read_6) (show 16 ≤ 16 + k by omega)).trans (congrArg (fun i => LRX9_read_6[i]?) (show 16 + k - 16 = k by omega))
theorem LBX9_readr_7 (k : Nat) : cX9_read.data.toList[112 + k]? = LRX9_read_7[k]? := by
  have h := LBX9_readr_6 (16 + k)
  rw [show 96 + (16 + k) = 112 + k by omega] at h
  rw [h]
  exact (List.getElem?_append_right (l₁ := LBX9_read_6) (l₂ := LRX9_read_7) (show 16 ≤ 16 + k by omega)).trans (congrArg (fun i => LRX9_read_7[i]?) (show 16 + k - 16 = k by omega))
theorem LBX9_readr_8 (k : Nat) : cX9_read.data.toList[128 + k]? = LRX9_read_8[k]? := by
  have h := LBX9_readr_7 (16 + k)
  rw [show 112 + (16 + k) = 128 + k by omega] at h
  rw [h]
  exact (List.getElem?_append_right (l₁ := LBX9_read_7) (l₂ := LRX9_read_8) (show 16 ≤ 16 + k by omega)).trans (congrArg (fun i => LRX9_read_8[i]?) (show 16 + k - 16 = k by omega))
theorem LBX9_readr_9 (k : Nat) : cX9_read.data.toList[144 + k]? = LRX9_read_9[k]? := by
  have h := LBX9_readr_8 (16 + k)
  rw [show 128 + (16 + k) = 144 + k by omega] at h
  rw [h]
  exact (List.getElem?_append_right (l₁ := LBX9_read_8) (l₂ := LRX9_read_9) (show 16 ≤ 16 + k by omega)).trans (congrArg (fun i => LRX9_read_9[i]?) (show 16 + k - 16 = k by omega))
theorem LBX9_readr_10 (k : Nat) : cX9_read.data.toList[160 + k]? = LRX9_read_10[k]? := by
  have h := LBX9_readr_9 (16 + k)
  rw [show 144 + (16 + k) = 160 + k by omega] at h
  rw [h]
  exact (List.getElem?_append_right (l₁ := LBX9_read_9) (l₂ := LRX9_read_10) (show 16 ≤ 16 + k by omega)).trans (congrArg (fun i => LRX9_read_10[i]?) (show 16 + k - 16 = k by omega))
theorem LBX9_readr_11 (k : Nat) : cX9_read.data.toList[176 + k]? = LRX9_read_11[k]? := by
  have h := LBX9_readr_10 (16 + k)
  rw [show 160 + (16 + k) = 176 + k by omega] at h
  rw [h]
  exact (List.getElem?_append_right (l₁ := LBX9_read_10) (l₂ := LRX9_read_11) (show 16 ≤ 16 + k by omega)).trans (congrArg (fun i => LRX9_read_11[i]?) (show 16 + k - 16 = k by omega))
theorem LBX9_readr_12 (k : Nat) : cX9_read.data.toList[192 + k]? = LRX9_read_12[k]? := by
  have h := LBX9_readr_11 (16 + k)
  rw [show 176 + (16 + k) = 192 + k by omega] at h
  rw [h]
  exact (List.getElem?_append_right (l₁ := LBX9_read_11) (l₂ := LRX9_read_12) (show 16 ≤ 16 + k by omega)).trans (congrArg (fun i => LRX9_read_12[i]?) (show 16 + k - 16 = k by omega))
theorem LBX9_readr_13 (k : Nat) : cX9_read.data.toList[208 + k]? = LRX9_read_13[k]? := by
  have h := LBX9_readr_12 (16 + k)
  rw [show 192 + (16 + k) = 208 + k by omega] at h
  rw [h]
  exact (List.getElem?_append_right (l₁ := LBX9_read_12) (l₂ := LRX9_read_13) (show 16 ≤ 16 + k by omega)).trans (congrArg (fun i => LRX9_read_13[i]?) (show 16 + k - 16 = k by omega))
theorem dX9_read_0 : decode cX9_read 0 = .ok (.aload_n 0, 1) := dk_42_ (show cX9_read.data.toList[0]? = some 0x2a from (LBX9_readr_0 0).trans (by decide +kernel))
theorem dX9_read_1 : decode cX9_read 1 = .ok (.iload_n 1, 1) := dk_27_ (show cX9_read.data.toList[1]? = some 0x1b from (LBX9_readr_0 1).trans (by decide +kernel))
theorem dX9_read_2 : decode cX9_read 2 = .ok (.invokevirtual 310, 3) := dk_182_ (show cX9_read.data.toList[2]? = some 0xb6 from (LBX9_readr_0 2).trans (by decide +kernel)) (show cX9_read.data.toList[3]? = some 0x01 from (LBX9_readr_0 3).trans (by decide +kernel)) (show cX9_read.data.toList[4]? = some 0x36 from (LBX9_readr_0 4).trans (by decide +kernel)) (by decide)
theorem dX9_read_5 : decode cX9_read 5 = .ok (.istore_n 2, 1) := dk_61_ (show cX9_read.data.toList[5]? = some 0x3d from (LBX9_readr_0 5).trans (by decide +kernel))
theorem dX9_read_6 : decode cX9_read 6 = .ok (.iload_n 2, 1) := dk_28_ (show cX9_read.data.toList[6]? = some 0x1c from (LBX9_readr_0 6).trans (by decide +kernel))
theorem dX9_read_7 : decode cX9_read 7 = .ok (.ifCond .eq 9, 3) := dk_153_ (show cX9_read.data.toList[7]? = some 0x99 from (LBX9_readr_0 7).trans (by decide +kernel)) (show cX9_read.data.toList[8]? = some 0x00 from (LBX9_readr_0 8).trans (by decide +kernel)) (show cX9_read.data.toList[9]? = some 0x09 from (LBX9_readr_0 9).trans (by decide +kernel)) (by decide)
theorem dX9_read_10 : decode cX9_read 10 = .ok (.aload_n 0, 1) := dk_42_ (show cX9_read.data.toList[10]? = some 0x2a from (LBX9_readr_0 10).trans (by decide +kernel))
theorem dX9_read_11 : decode cX9_read 11 = .ok (.iload_n 2, 1) := dk_28_ (show cX9_read.data.toList[11]? = some 0x1c from (LBX9_readr_0 11).trans (by decide +kernel))
theorem dX9_read_12 : decode cX9_read 12 = .ok (.invokevirtual 70, 3) := dk_182_ (show cX9_read.data.toList[12]? = some 0xb6 from (LBX9_readr_0 12).trans (by decide +kernel)) (show cX9_read.data.toList[13]? = some 0x00 from (LBX9_readr_0 13).trans (by decide +kernel)) (show cX9_read.data.toList[14]? = some 0x46 from (LBX9_readr_0 14).trans (by decide +kernel)) (by decide)
theorem dX9_read_15 : decode cX9_read 15 = .ok (.ireturn, 1) := dk_172_ (show cX9_read.data.toList[15]? = some 0xac from (LBX9_readr_0 15).trans (by decide +kernel))
theorem dX9_read_16 : decode cX9_read 16 = .ok (.aload_n 0, 1) := dk_42_ (show cX9_read.data.toList[16]? = some 0x2a from (LBX9_readr_1 0).trans (by decide +kernel))
theorem dX9_read_17 : decode cX9_read 17 = .ok (.invokevirtual 113, 3) := dk_182_ (show cX9_read.data.toList[17]? = some 0xb6 from (LBX9_readr_1 1).trans (by decide +kernel)) (show cX9_read.data.toList[18]? = some 0x00 from (LBX9_readr_1 2).trans (by decide +kernel)) (show cX9_read.data.toList[19]? = some 0x71 from (LBX9_readr_1 3).trans (by decide +kernel)) (by decide)
theorem dX9_read_20 : decode cX9_read 20 = .ok (.aload_n 0, 1) := dk_42_ (show cX9_read.data.toList[20]? = some 0x2a from (LBX9_readr_1 4).trans (by decide +kernel))
theorem dX9_read_21 : decode cX9_read 21 = .ok (.getfield 109, 3) := dk_180_ (show cX9_read.data.toList[21]? = some 0xb4 from (LBX9_readr_1 5).trans (by decide +kernel)) (show cX9_read.data.toList[22]? = some 0x00 from (LBX9_readr_1 6).trans (by decide +kernel)) (show cX9_read.data.toList[23]? = some 0x6d from (LBX9_readr_1 7).trans (by decide +kernel)) (by decide)
theorem dX9_read_24 : decode cX9_read 24 = .ok (.ifCond .eq 10, 3) := dk_153_ (show cX9_read.data.toList[24]? = some 0x99 from (LBX9_readr_1 8).trans (by decide +kernel)) (show cX9_read.data.toList[25]? = some 0x00 from (LBX9_readr_1 9).trans (by decide +kernel)) (show cX9_read.data.toList[26]? = some 0x0a from (LBX9_readr_1 10).trans (by decide +kernel)) (by decide)
theorem dX9_read_27 : decode cX9_read 27 = .ok (.aload_n 0, 1) := dk_42_ (show cX9_read.data.toList[27]? = some 0x2a from (LBX9_readr_1 11).trans (by decide +kernel))
theorem dX9_read_28 : decode cX9_read 28 = .ok (.ldc 116, 2) := dk_18_ (show cX9_read.data.toList[28]? = some 0x12 from (LBX9_readr_1 12).trans (by decide +kernel)) (show cX9_read.data.toList[29]? = some 0x74 from (LBX9_readr_1 13).trans (by decide +kernel)) (by decide)
theorem dX9_read_30 : decode cX9_read 30 = .ok (.invokevirtual 70, 3) := dk_182_ (show cX9_read.data.toList[30]? = some 0xb6 from (LBX9_readr_1 14).trans (by decide +kernel)) (show cX9_read.data.toList[31]? = some 0x00 from (LBX9_readr_1 15).trans (by decide +kernel)) (show cX9_read.data.toList[32]? = some 0x46 from (LBX9_readr_2 0).trans (by decide +kernel)) (by decide)
theorem dX9_read_33 : decode cX9_read 33 = .ok (.ireturn, 1) := dk_172_ (show cX9_read.data.toList[33]? = some 0xac from (LBX9_readr_2 1).trans (by decide +kernel))
theorem dX9_read_34 : decode cX9_read 34 = .ok (.aload_n 0, 1) := dk_42_ (show cX9_read.data.toList[34]? = some 0x2a from (LBX9_readr_2 2).trans (by decide +kernel))
theorem dX9_read_35 : decode cX9_read 35 = .ok (.getfield 46, 3) := dk_180_ (show cX9_read.data.toList[35]? = some 0xb4 from (LBX9_readr_2 3).trans (by decide +kernel)) (show cX9_read.data.toList[36]? = some 0x00 from (LBX9_readr_2 4).trans (by decide +kernel)) (show cX9_read.data.toList[37]? = some 0x2e from (LBX9_readr_2 5).trans (by decide +kernel)) (by decide)
theorem dX9_read_38 : decode cX9_read 38 = .ok (.iload_n 1, 1) := dk_27_ (show cX9_read.data.toList[38]? = some 0x1b from (LBX9_readr_2 6).trans (by decide +kernel))
theorem dX9_read_39 : decode cX9_read 39 = .ok (.iaload, 1) := dk_46_ (show cX9_read.data.toList[39]? = some 0x2e from (LBX9_readr_2 7).trans (by decide +kernel))
theorem dX9_read_40 : decode cX9_read 40 = .ok (.istore_n 3, 1) := dk_62_ (show cX9_read.data.toList[40]? = some 0x3e from (LBX9_readr_2 8).trans (by decide +kernel))
theorem dX9_read_41 : decode cX9_read 41 = .ok (.iconst 0, 1) := dk_3_ (show cX9_read.data.toList[41]? = some 0x03 from (LBX9_readr_2 9).trans (by decide +kernel))
theorem dX9_read_42 : decode cX9_read 42 = .ok (.istore 4, 2) := dk_54_ (show cX9_read.data.toList[42]? = some 0x36 from (LBX9_readr_2 10).trans (by decide +kernel)) (show cX9_read.data.toList[43]? = some 0x04 from (LBX9_readr_2 11).trans (by decide +kernel)) (by decide)
theorem dX9_read_44 : decode cX9_read 44 = .ok (.iconst 0, 1) := dk_3_ (show cX9_read.data.toList[44]? = some 0x03 from (LBX9_readr_2 12).trans (by decide +kernel))
theorem dX9_read_45 : decode cX9_read 45 = .ok (.istore 5, 2) := dk_54_ (show cX9_read.data.toList[45]? = some 0x36 from (LBX9_readr_2 13).trans (by decide +kernel)) (show cX9_read.data.toList[46]? = some 0x05 from (LBX9_readr_2 14).trans (by decide +kernel)) (by decide)
theorem dX9_read_47 : decode cX9_read 47 = .ok (.iload 5, 2) := dk_21_ (show cX9_read.data.toList[47]? = some 0x15 from (LBX9_readr_2 15).trans (by decide +kernel)) (show cX9_read.data.toList[48]? = some 0x05 from (LBX9_readr_3 0).trans (by decide +kernel)) (by decide)
theorem dX9_read_49 : decode cX9_read 49 = .ok (.iload_n 3, 1) := dk_29_ (show cX9_read.data.toList[49]? = some 0x1d from (LBX9_readr_3 1).trans (by decide +kernel))
theorem dX9_read_50 : decode cX9_read 50 = .ok (.if_icmp .ge 108, 3) := dk_162_ (show cX9_read.data.toList[50]? = some 0xa2 from (LBX9_readr_3 2).trans (by decide +kernel)) (show cX9_read.data.toList[51]? = some 0x00 from (LBX9_readr_3 3).trans (by decide +kernel)) (show cX9_read.data.toList[52]? = some 0x6c from (LBX9_readr_3 4).trans (by decide +kernel)) (by decide)
theorem dX9_read_53 : decode cX9_read 53 = .ok (.aload_n 0, 1) := dk_42_ (show cX9_read.data.toList[53]? = some 0x2a from (LBX9_readr_3 5).trans (by decide +kernel))
theorem dX9_read_54 : decode cX9_read 54 = .ok (.getfield 49, 3) := dk_180_ (show cX9_read.data.toList[54]? = some 0xb4 from (LBX9_readr_3 6).trans (by decide +kernel)) (show cX9_read.data.toList[55]? = some 0x00 from (LBX9_readr_3 7).trans (by decide +kernel)) (show cX9_read.data.toList[56]? = some 0x31 from (LBX9_readr_3 8).trans (by decide +kernel)) (by decide)
theorem dX9_read_57 : decode cX9_read 57 = .ok (.bipush 40, 2) := dk_16_ (show cX9_read.data.toList[57]? = some 0x10 from (LBX9_readr_3 9).trans (by decide +kernel)) (show cX9_read.data.toList[58]? = some 0x28 from (LBX9_readr_3 10).trans (by decide +kernel)) (by decide)
theorem dX9_read_59 : decode cX9_read 59 = .ok (.iload_n 1, 1) := dk_27_ (show cX9_read.data.toList[59]? = some 0x1b from (LBX9_readr_3 11).trans (by decide +kernel))
theorem dX9_read_60 : decode cX9_read 60 = .ok (.imul, 1) := dk_104_ (show cX9_read.data.toList[60]? = some 0x68 from (LBX9_readr_3 12).trans (by decide +kernel))
theorem dX9_read_61 : decode cX9_read 61 = .ok (.iload 5, 2) := dk_21_ (show cX9_read.data.toList[61]? = some 0x15 from (LBX9_readr_3 13).trans (by decide +kernel)) (show cX9_read.data.toList[62]? = some 0x05 from (LBX9_readr_3 14).trans (by decide +kernel)) (by decide)
theorem dX9_read_63 : decode cX9_read 63 = .ok (.iadd, 1) := dk_96_ (show cX9_read.data.toList[63]? = some 0x60 from (LBX9_readr_3 15).trans (by decide +kernel))
theorem dX9_read_64 : decode cX9_read 64 = .ok (.laload, 1) := dk_47_ (show cX9_read.data.toList[64]? = some 0x2f from (LBX9_readr_4 0).trans (by decide +kernel))
theorem dX9_read_65 : decode cX9_read 65 = .ok (.lstore 6, 2) := dk_55_ (show cX9_read.data.toList[65]? = some 0x37 from (LBX9_readr_4 1).trans (by decide +kernel)) (show cX9_read.data.toList[66]? = some 0x06 from (LBX9_readr_4 2).trans (by decide +kernel)) (by decide)
theorem dX9_read_67 : decode cX9_read 67 = .ok (.lload 6, 2) := dk_22_ (show cX9_read.data.toList[67]? = some 0x16 from (LBX9_readr_4 3).trans (by decide +kernel)) (show cX9_read.data.toList[68]? = some 0x06 from (LBX9_readr_4 4).trans (by decide +kernel)) (by decide)
theorem dX9_read_69 : decode cX9_read 69 = .ok (.lconst 0, 1) := dk_9_ (show cX9_read.data.toList[69]? = some 0x09 from (LBX9_readr_4 5).trans (by decide +kernel))
theorem dX9_read_70 : decode cX9_read 70 = .ok (.aload_n 0, 1) := dk_42_ (show cX9_read.data.toList[70]? = some 0x2a from (LBX9_readr_4 6).trans (by decide +kernel))
theorem dX9_read_71 : decode cX9_read 71 = .ok (.getfield 7, 3) := dk_180_ (show cX9_read.data.toList[71]? = some 0xb4 from (LBX9_readr_4 7).trans (by decide +kernel)) (show cX9_read.data.toList[72]? = some 0x00 from (LBX9_readr_4 8).trans (by decide +kernel)) (show cX9_read.data.toList[73]? = some 0x07 from (LBX9_readr_4 9).trans (by decide +kernel)) (by decide)
theorem dX9_read_74 : decode cX9_read 74 = .ok (.iconst 0, 1) := dk_3_ (show cX9_read.data.toList[74]? = some 0x03 from (LBX9_readr_4 10).trans (by decide +kernel))
theorem dX9_read_75 : decode cX9_read 75 = .ok (.iaload, 1) := dk_46_ (show cX9_read.data.toList[75]? = some 0x2e from (LBX9_readr_4 11).trans (by decide +kernel))
theorem dX9_read_76 : decode cX9_read 76 = .ok (.iconst 1, 1) := dk_4_ (show cX9_read.data.toList[76]? = some 0x04 from (LBX9_readr_4 12).trans (by decide +kernel))
theorem dX9_read_77 : decode cX9_read 77 = .ok (.isub, 1) := dk_100_ (show cX9_read.data.toList[77]? = some 0x64 from (LBX9_readr_4 13).trans (by decide +kernel))
theorem dX9_read_78 : decode cX9_read 78 = .ok (.i2l, 1) := dk_133_ (show cX9_read.data.toList[78]? = some 0x85 from (LBX9_readr_4 14).trans (by decide +kernel))
theorem dX9_read_79 : decode cX9_read 79 = .ok (.invokestatic 57, 3) := dk_184_ (show cX9_read.data.toList[79]? = some 0xb8 from (LBX9_readr_4 15).trans (by decide +kernel)) (show cX9_read.data.toList[80]? = some 0x00 from (LBX9_readr_5 0).trans (by decide +kernel)) (show cX9_read.data.toList[81]? = some 0x39 from (LBX9_readr_5 1).trans (by decide +kernel)) (by decide)
theorem dX9_read_82 : decode cX9_read 82 = .ok (.ifCond .ne 8, 3) := dk_154_ (show cX9_read.data.toList[82]? = some 0x9a from (LBX9_readr_5 2).trans (by decide +kernel)) (show cX9_read.data.toList[83]? = some 0x00 from (LBX9_readr_5 3).trans (by decide +kernel)) (show cX9_read.data.toList[84]? = some 0x08 from (LBX9_readr_5 4).trans (by decide +kernel)) (by decide)
theorem dX9_read_85 : decode cX9_read 85 = .ok (.iload 5, 2) := dk_21_ (show cX9_read.data.toList[85]? = some 0x15 from (LBX9_readr_5 5).trans (by decide +kernel)) (show cX9_read.data.toList[86]? = some 0x05 from (LBX9_readr_5 6).trans (by decide +kernel)) (by decide)
theorem dX9_read_87 : decode cX9_read 87 = .ok (.iconst 1, 1) := dk_4_ (show cX9_read.data.toList[87]? = some 0x04 from (LBX9_readr_5 7).trans (by decide +kernel))
theorem dX9_read_88 : decode cX9_read 88 = .ok (.iadd, 1) := dk_96_ (show cX9_read.data.toList[88]? = some 0x60 from (LBX9_readr_5 8).trans (by decide +kernel))
theorem dX9_read_89 : decode cX9_read 89 = .ok (.ireturn, 1) := dk_172_ (show cX9_read.data.toList[89]? = some 0xac from (LBX9_readr_5 9).trans (by decide +kernel))
theorem dX9_read_90 : decode cX9_read 90 = .ok (.iload 5, 2) := dk_21_ (show cX9_read.data.toList[90]? = some 0x15 from (LBX9_readr_5 10).trans (by decide +kernel)) (show cX9_read.data.toList[91]? = some 0x05 from (LBX9_readr_5 11).trans (by decide +kernel)) (by decide)
theorem dX9_read_92 : decode cX9_read 92 = .ok (.ifCond .le 60, 3) := dk_158_ (show cX9_read.data.toList[92]? = some 0x9e from (LBX9_readr_5 12).trans (by decide +kernel)) (show cX9_read.data.toList[93]? = some 0x00 from (LBX9_readr_5 13).trans (by decide +kernel)) (show cX9_read.data.toList[94]? = some 0x3c from (LBX9_readr_5 14).trans (by decide +kernel)) (by decide)
theorem dX9_read_95 : decode cX9_read 95 = .ok (.aload_n 0, 1) := dk_42_ (show cX9_read.data.toList[95]? = some 0x2a from (LBX9_readr_5 15).trans (by decide +kernel))
theorem dX9_read_96 : decode cX9_read 96 = .ok (.getfield 49, 3) := dk_180_ (show cX9_read.data.toList[96]? = some 0xb4 from (LBX9_readr_6 0).trans (by decide +kernel)) (show cX9_read.data.toList[97]? = some 0x00 from (LBX9_readr_6 1).trans (by decide +kernel)) (show cX9_read.data.toList[98]? = some 0x31 from (LBX9_readr_6 2).trans (by decide +kernel)) (by decide)
theorem dX9_read_99 : decode cX9_read 99 = .ok (.bipush 40, 2) := dk_16_ (show cX9_read.data.toList[99]? = some 0x10 from (LBX9_readr_6 3).trans (by decide +kernel)) (show cX9_read.data.toList[100]? = some 0x28 from (LBX9_readr_6 4).trans (by decide +kernel)) (by decide)
theorem dX9_read_101 : decode cX9_read 101 = .ok (.iload_n 1, 1) := dk_27_ (show cX9_read.data.toList[101]? = some 0x1b from (LBX9_readr_6 5).trans (by decide +kernel))
theorem dX9_read_102 : decode cX9_read 102 = .ok (.imul, 1) := dk_104_ (show cX9_read.data.toList[102]? = some 0x68 from (LBX9_readr_6 6).trans (by decide +kernel))
theorem dX9_read_103 : decode cX9_read 103 = .ok (.iload 5, 2) := dk_21_ (show cX9_read.data.toList[103]? = some 0x15 from (LBX9_readr_6 7).trans (by decide +kernel)) (show cX9_read.data.toList[104]? = some 0x05 from (LBX9_readr_6 8).trans (by decide +kernel)) (by decide)
theorem dX9_read_105 : decode cX9_read 105 = .ok (.iadd, 1) := dk_96_ (show cX9_read.data.toList[105]? = some 0x60 from (LBX9_readr_6 9).trans (by decide +kernel))
theorem dX9_read_106 : decode cX9_read 106 = .ok (.iconst 1, 1) := dk_4_ (show cX9_read.data.toList[106]? = some 0x04 from (LBX9_readr_6 10).trans (by decide +kernel))
theorem dX9_read_107 : decode cX9_read 107 = .ok (.isub, 1) := dk_100_ (show cX9_read.data.toList[107]? = some 0x64 from (LBX9_readr_6 11).trans (by decide +kernel))
theorem dX9_read_108 : decode cX9_read 108 = .ok (.laload, 1) := dk_47_ (show cX9_read.data.toList[108]? = some 0x2f from (LBX9_readr_6 12).trans (by decide +kernel))
theorem dX9_read_109 : decode cX9_read 109 = .ok (.l2i, 1) := dk_136_ (show cX9_read.data.toList[109]? = some 0x88 from (LBX9_readr_6 13).trans (by decide +kernel))
theorem dX9_read_110 : decode cX9_read 110 = .ok (.istore 8, 2) := dk_54_ (show cX9_read.data.toList[110]? = some 0x36 from (LBX9_readr_6 14).trans (by decide +kernel)) (show cX9_read.data.toList[111]? = some 0x08 from (LBX9_readr_6 15).trans (by decide +kernel)) (by decide)
theorem dX9_read_112 : decode cX9_read 112 = .ok (.lload 6, 2) := dk_22_ (show cX9_read.data.toList[112]? = some 0x16 from (LBX9_readr_7 0).trans (by decide +kernel)) (show cX9_read.data.toList[113]? = some 0x06 from (LBX9_readr_7 1).trans (by decide +kernel)) (by decide)
theorem dX9_read_114 : decode cX9_read 114 = .ok (.iload 8, 2) := dk_21_ (show cX9_read.data.toList[114]? = some 0x15 from (LBX9_readr_7 2).trans (by decide +kernel)) (show cX9_read.data.toList[115]? = some 0x08 from (LBX9_readr_7 3).trans (by decide +kernel)) (by decide)
theorem dX9_read_116 : decode cX9_read 116 = .ok (.i2l, 1) := dk_133_ (show cX9_read.data.toList[116]? = some 0x85 from (LBX9_readr_7 4).trans (by decide +kernel))
theorem dX9_read_117 : decode cX9_read 117 = .ok (.lcmp, 1) := dk_148_ (show cX9_read.data.toList[117]? = some 0x94 from (LBX9_readr_7 5).trans (by decide +kernel))
theorem dX9_read_118 : decode cX9_read 118 = .ok (.ifCond .eq 15, 3) := dk_153_ (show cX9_read.data.toList[118]? = some 0x99 from (LBX9_readr_7 6).trans (by decide +kernel)) (show cX9_read.data.toList[119]? = some 0x00 from (LBX9_readr_7 7).trans (by decide +kernel)) (show cX9_read.data.toList[120]? = some 0x0f from (LBX9_readr_7 8).trans (by decide +kernel)) (by decide)
theorem dX9_read_121 : decode cX9_read 121 = .ok (.aload_n 0, 1) := dk_42_ (show cX9_read.data.toList[121]? = some 0x2a from (LBX9_readr_7 9).trans (by decide +kernel))
theorem dX9_read_122 : decode cX9_read 122 = .ok (.iload 8, 2) := dk_21_ (show cX9_read.data.toList[122]? = some 0x15 from (LBX9_readr_7 10).trans (by decide +kernel)) (show cX9_read.data.toList[123]? = some 0x08 from (LBX9_readr_7 11).trans (by decide +kernel)) (by decide)
theorem dX9_read_124 : decode cX9_read 124 = .ok (.lload 6, 2) := dk_22_ (show cX9_read.data.toList[124]? = some 0x16 from (LBX9_readr_7 12).trans (by decide +kernel)) (show cX9_read.data.toList[125]? = some 0x06 from (LBX9_readr_7 13).trans (by decide +kernel)) (by decide)
theorem dX9_read_126 : decode cX9_read 126 = .ok (.l2i, 1) := dk_136_ (show cX9_read.data.toList[126]? = some 0x88 from (LBX9_readr_7 14).trans (by decide +kernel))
theorem dX9_read_127 : decode cX9_read 127 = .ok (.invokevirtual 97, 3) := dk_182_ (show cX9_read.data.toList[127]? = some 0xb6 from (LBX9_readr_7 15).trans (by decide +kernel)) (show cX9_read.data.toList[128]? = some 0x00 from (LBX9_readr_8 0).trans (by decide +kernel)) (show cX9_read.data.toList[129]? = some 0x61 from (LBX9_readr_8 1).trans (by decide +kernel)) (by decide)
theorem dX9_read_130 : decode cX9_read 130 = .ok (.ifCond .ne 8, 3) := dk_154_ (show cX9_read.data.toList[130]? = some 0x9a from (LBX9_readr_8 2).trans (by decide +kernel)) (show cX9_read.data.toList[131]? = some 0x00 from (LBX9_readr_8 3).trans (by decide +kernel)) (show cX9_read.data.toList[132]? = some 0x08 from (LBX9_readr_8 4).trans (by decide +kernel)) (by decide)
theorem dX9_read_133 : decode cX9_read 133 = .ok (.iload 5, 2) := dk_21_ (show cX9_read.data.toList[133]? = some 0x15 from (LBX9_readr_8 5).trans (by decide +kernel)) (show cX9_read.data.toList[134]? = some 0x05 from (LBX9_readr_8 6).trans (by decide +kernel)) (by decide)
theorem dX9_read_135 : decode cX9_read 135 = .ok (.iconst 1, 1) := dk_4_ (show cX9_read.data.toList[135]? = some 0x04 from (LBX9_readr_8 7).trans (by decide +kernel))
theorem dX9_read_136 : decode cX9_read 136 = .ok (.iadd, 1) := dk_96_ (show cX9_read.data.toList[136]? = some 0x60 from (LBX9_readr_8 8).trans (by decide +kernel))
theorem dX9_read_137 : decode cX9_read 137 = .ok (.ireturn, 1) := dk_172_ (show cX9_read.data.toList[137]? = some 0xac from (LBX9_readr_8 9).trans (by decide +kernel))
theorem dX9_read_138 : decode cX9_read 138 = .ok (.iload 4, 2) := dk_21_ (show cX9_read.data.toList[138]? = some 0x15 from (LBX9_readr_8 10).trans (by decide +kernel)) (show cX9_read.data.toList[139]? = some 0x04 from (LBX9_readr_8 11).trans (by decide +kernel)) (by decide)
theorem dX9_read_140 : decode cX9_read 140 = .ok (.aload_n 0, 1) := dk_42_ (show cX9_read.data.toList[140]? = some 0x2a from (LBX9_readr_8 12).trans (by decide +kernel))
theorem dX9_read_141 : decode cX9_read 141 = .ok (.iload 8, 2) := dk_21_ (show cX9_read.data.toList[141]? = some 0x15 from (LBX9_readr_8 13).trans (by decide +kernel)) (show cX9_read.data.toList[142]? = some 0x08 from (LBX9_readr_8 14).trans (by decide +kernel)) (by decide)
theorem dX9_read_143 : decode cX9_read 143 = .ok (.lload 6, 2) := dk_22_ (show cX9_read.data.toList[143]? = some 0x16 from (LBX9_readr_8 15).trans (by decide +kernel)) (show cX9_read.data.toList[144]? = some 0x06 from (LBX9_readr_9 0).trans (by decide +kernel)) (by decide)
theorem dX9_read_145 : decode cX9_read 145 = .ok (.l2i, 1) := dk_136_ (show cX9_read.data.toList[145]? = some 0x88 from (LBX9_readr_9 1).trans (by decide +kernel))
theorem dX9_read_146 : decode cX9_read 146 = .ok (.invokevirtual 100, 3) := dk_182_ (show cX9_read.data.toList[146]? = some 0xb6 from (LBX9_readr_9 2).trans (by decide +kernel)) (show cX9_read.data.toList[147]? = some 0x00 from (LBX9_readr_9 3).trans (by decide +kernel)) (show cX9_read.data.toList[148]? = some 0x64 from (LBX9_readr_9 4).trans (by decide +kernel)) (by decide)
theorem dX9_read_149 : decode cX9_read 149 = .ok (.iadd, 1) := dk_96_ (show cX9_read.data.toList[149]? = some 0x60 from (LBX9_readr_9 5).trans (by decide +kernel))
theorem dX9_read_150 : decode cX9_read 150 = .ok (.istore 4, 2) := dk_54_ (show cX9_read.data.toList[150]? = some 0x36 from (LBX9_readr_9 6).trans (by decide +kernel)) (show cX9_read.data.toList[151]? = some 0x04 from (LBX9_readr_9 7).trans (by decide +kernel)) (by decide)
theorem dX9_read_152 : decode cX9_read 152 = .ok (.iinc 5 1, 3) := dk_132_ (show cX9_read.data.toList[152]? = some 0x84 from (LBX9_readr_9 8).trans (by decide +kernel)) (show cX9_read.data.toList[153]? = some 0x05 from (LBX9_readr_9 9).trans (by decide +kernel)) (show cX9_read.data.toList[154]? = some 0x01 from (LBX9_readr_9 10).trans (by decide +kernel)) (by decide) (by decide)
theorem dX9_read_155 : decode cX9_read 155 = .ok (.goto (-108), 3) := dk_167_ (show cX9_read.data.toList[155]? = some 0xa7 from (LBX9_readr_9 11).trans (by decide +kernel)) (show cX9_read.data.toList[156]? = some 0xff from (LBX9_readr_9 12).trans (by decide +kernel)) (show cX9_read.data.toList[157]? = some 0x94 from (LBX9_readr_9 13).trans (by decide +kernel)) (by decide)
theorem dX9_read_158 : decode cX9_read 158 = .ok (.iload_n 3, 1) := dk_29_ (show cX9_read.data.toList[158]? = some 0x1d from (LBX9_readr_9 14).trans (by decide +kernel))
theorem dX9_read_159 : decode cX9_read 159 = .ok (.iconst 2, 1) := dk_5_ (show cX9_read.data.toList[159]? = some 0x05 from (LBX9_readr_9 15).trans (by decide +kernel))
theorem dX9_read_160 : decode cX9_read 160 = .ok (.if_icmp .ge 5, 3) := dk_162_ (show cX9_read.data.toList[160]? = some 0xa2 from (LBX9_readr_10 0).trans (by decide +kernel)) (show cX9_read.data.toList[161]? = some 0x00 from (LBX9_readr_10 1).trans (by decide +kernel)) (show cX9_read.data.toList[162]? = some 0x05 from (LBX9_readr_10 2).trans (by decide +kernel)) (by decide)
theorem dX9_read_163 : decode cX9_read 163 = .ok (.iconst 1, 1) := dk_4_ (show cX9_read.data.toList[163]? = some 0x04 from (LBX9_readr_10 3).trans (by decide +kernel))
theorem dX9_read_164 : decode cX9_read 164 = .ok (.ireturn, 1) := dk_172_ (show cX9_read.data.toList[164]? = some 0xac from (LBX9_readr_10 4).trans (by decide +kernel))
theorem dX9_read_165 : decode cX9_read 165 = .ok (.iload 4, 2) := dk_21_ (show cX9_read.data.toList[165]? = some 0x15 from (LBX9_readr_10 5).trans (by decide +kernel)) (show cX9_read.data.toList[166]? = some 0x04 from (LBX9_readr_10 6).trans (by decide +kernel)) (by decide)
theorem dX9_read_167 : decode cX9_read 167 = .ok (.aload_n 0, 1) := dk_42_ (show cX9_read.data.toList[167]? = some 0x2a from (LBX9_readr_10 7).trans (by decide +kernel))
theorem dX9_read_168 : decode cX9_read 168 = .ok (.getfield 22, 3) := dk_180_ (show cX9_read.data.toList[168]? = some 0xb4 from (LBX9_readr_10 8).trans (by decide +kernel)) (show cX9_read.data.toList[169]? = some 0x00 from (LBX9_readr_10 9).trans (by decide +kernel)) (show cX9_read.data.toList[170]? = some 0x16 from (LBX9_readr_10 10).trans (by decide +kernel)) (by decide)
theorem dX9_read_171 : decode cX9_read 171 = .ok (.bipush 10, 2) := dk_16_ (show cX9_read.data.toList[171]? = some 0x10 from (LBX9_readr_10 11).trans (by decide +kernel)) (show cX9_read.data.toList[172]? = some 0x0a from (LBX9_readr_10 12).trans (by decide +kernel)) (by decide)
theorem dX9_read_173 : decode cX9_read 173 = .ok (.aload_n 0, 1) := dk_42_ (show cX9_read.data.toList[173]? = some 0x2a from (LBX9_readr_10 13).trans (by decide +kernel))
theorem dX9_read_174 : decode cX9_read 174 = .ok (.getfield 49, 3) := dk_180_ (show cX9_read.data.toList[174]? = some 0xb4 from (LBX9_readr_10 14).trans (by decide +kernel)) (show cX9_read.data.toList[175]? = some 0x00 from (LBX9_readr_10 15).trans (by decide +kernel)) (show cX9_read.data.toList[176]? = some 0x31 from (LBX9_readr_11 0).trans (by decide +kernel)) (by decide)
theorem dX9_read_177 : decode cX9_read 177 = .ok (.bipush 40, 2) := dk_16_ (show cX9_read.data.toList[177]? = some 0x10 from (LBX9_readr_11 1).trans (by decide +kernel)) (show cX9_read.data.toList[178]? = some 0x28 from (LBX9_readr_11 2).trans (by decide +kernel)) (by decide)
theorem dX9_read_179 : decode cX9_read 179 = .ok (.iload_n 1, 1) := dk_27_ (show cX9_read.data.toList[179]? = some 0x1b from (LBX9_readr_11 3).trans (by decide +kernel))
theorem dX9_read_180 : decode cX9_read 180 = .ok (.imul, 1) := dk_104_ (show cX9_read.data.toList[180]? = some 0x68 from (LBX9_readr_11 4).trans (by decide +kernel))
theorem dX9_read_181 : decode cX9_read 181 = .ok (.laload, 1) := dk_47_ (show cX9_read.data.toList[181]? = some 0x2f from (LBX9_readr_11 5).trans (by decide +kernel))
theorem dX9_read_182 : decode cX9_read 182 = .ok (.l2i, 1) := dk_136_ (show cX9_read.data.toList[182]? = some 0x88 from (LBX9_readr_11 6).trans (by decide +kernel))
theorem dX9_read_183 : decode cX9_read 183 = .ok (.imul, 1) := dk_104_ (show cX9_read.data.toList[183]? = some 0x68 from (LBX9_readr_11 7).trans (by decide +kernel))
theorem dX9_read_184 : decode cX9_read 184 = .ok (.aload_n 0, 1) := dk_42_ (show cX9_read.data.toList[184]? = some 0x2a from (LBX9_readr_11 8).trans (by decide +kernel))
theorem dX9_read_185 : decode cX9_read 185 = .ok (.getfield 49, 3) := dk_180_ (show cX9_read.data.toList[185]? = some 0xb4 from (LBX9_readr_11 9).trans (by decide +kernel)) (show cX9_read.data.toList[186]? = some 0x00 from (LBX9_readr_11 10).trans (by decide +kernel)) (show cX9_read.data.toList[187]? = some 0x31 from (LBX9_readr_11 11).trans (by decide +kernel)) (by decide)
theorem dX9_read_188 : decode cX9_read 188 = .ok (.bipush 40, 2) := dk_16_ (show cX9_read.data.toList[188]? = some 0x10 from (LBX9_readr_11 12).trans (by decide +kernel)) (show cX9_read.data.toList[189]? = some 0x28 from (LBX9_readr_11 13).trans (by decide +kernel)) (by decide)
theorem dX9_read_190 : decode cX9_read 190 = .ok (.iload_n 1, 1) := dk_27_ (show cX9_read.data.toList[190]? = some 0x1b from (LBX9_readr_11 14).trans (by decide +kernel))
theorem dX9_read_191 : decode cX9_read 191 = .ok (.imul, 1) := dk_104_ (show cX9_read.data.toList[191]? = some 0x68 from (LBX9_readr_11 15).trans (by decide +kernel))
theorem dX9_read_192 : decode cX9_read 192 = .ok (.iload_n 3, 1) := dk_29_ (show cX9_read.data.toList[192]? = some 0x1d from (LBX9_readr_12 0).trans (by decide +kernel))
theorem dX9_read_193 : decode cX9_read 193 = .ok (.iadd, 1) := dk_96_ (show cX9_read.data.toList[193]? = some 0x60 from (LBX9_readr_12 1).trans (by decide +kernel))
theorem dX9_read_194 : decode cX9_read 194 = .ok (.iconst 1, 1) := dk_4_ (show cX9_read.data.toList[194]? = some 0x04 from (LBX9_readr_12 2).trans (by decide +kernel))
theorem dX9_read_195 : decode cX9_read 195 = .ok (.isub, 1) := dk_100_ (show cX9_read.data.toList[195]? = some 0x64 from (LBX9_readr_12 3).trans (by decide +kernel))
theorem dX9_read_196 : decode cX9_read 196 = .ok (.laload, 1) := dk_47_ (show cX9_read.data.toList[196]? = some 0x2f from (LBX9_readr_12 4).trans (by decide +kernel))
theorem dX9_read_197 : decode cX9_read 197 = .ok (.l2i, 1) := dk_136_ (show cX9_read.data.toList[197]? = some 0x88 from (LBX9_readr_12 5).trans (by decide +kernel))
theorem dX9_read_198 : decode cX9_read 198 = .ok (.iadd, 1) := dk_96_ (show cX9_read.data.toList[198]? = some 0x60 from (LBX9_readr_12 6).trans (by decide +kernel))
theorem dX9_read_199 : decode cX9_read 199 = .ok (.iaload, 1) := dk_46_ (show cX9_read.data.toList[199]? = some 0x2e from (LBX9_readr_12 7).trans (by decide +kernel))
theorem dX9_read_200 : decode cX9_read 200 = .ok (.if_icmp .ne 7, 3) := dk_160_ (show cX9_read.data.toList[200]? = some 0xa0 from (LBX9_readr_12 8).trans (by decide +kernel)) (show cX9_read.data.toList[201]? = some 0x00 from (LBX9_readr_12 9).trans (by decide +kernel)) (show cX9_read.data.toList[202]? = some 0x07 from (LBX9_readr_12 10).trans (by decide +kernel)) (by decide)
theorem dX9_read_203 : decode cX9_read 203 = .ok (.iconst 0, 1) := dk_3_ (show cX9_read.data.toList[203]? = some 0x03 from (LBX9_readr_12 11).trans (by decide +kernel))
theorem dX9_read_204 : decode cX9_read 204 = .ok (.goto 6, 3) := dk_167_ (show cX9_read.data.toList[204]? = some 0xa7 from (LBX9_readr_12 12).trans (by decide +kernel)) (show cX9_read.data.toList[205]? = some 0x00 from (LBX9_readr_12 13).trans (by decide +kernel)) (show cX9_read.data.toList[206]? = some 0x06 from (LBX9_readr_12 14).trans (by decide +kernel)) (by decide)
theorem dX9_read_207 : decode cX9_read 207 = .ok (.iconst 1, 1) := dk_4_ (show cX9_read.data.toList[207]? = some 0x04 from (LBX9_readr_12 15).trans (by decide +kernel))
theorem dX9_read_208 : decode cX9_read 208 = .ok (.iload_n 3, 1) := dk_29_ (show cX9_read.data.toList[208]? = some 0x1d from (LBX9_readr_13 0).trans (by decide +kernel))
theorem dX9_read_209 : decode cX9_read 209 = .ok (.iadd, 1) := dk_96_ (show cX9_read.data.toList[209]? = some 0x60 from (LBX9_readr_13 1).trans (by decide +kernel))
theorem dX9_read_210 : decode cX9_read 210 = .ok (.ireturn, 1) := dk_172_ (show cX9_read.data.toList[210]? = some 0xac from (LBX9_readr_13 2).trans (by decide +kernel))
theorem uw905 : Cond.methodLink RX9 305 yX9_isOne ∈ wsU := ut6 (List.mem_of_getElem? (i := 180) rfl) rfl
theorem uw906 : Cond.static yX9_isOne ∈ wsU := ut6 (List.mem_of_getElem? (i := 181) rfl) rfl
theorem uw907 : Cond.initialized yX9_isOne.cls ∈ wsU := ut1 (List.mem_of_getElem? (i := 10) rfl) rfl
theorem uw908 : Cond.code yX9_isOne cX9_isOne 1 (some .boolean) ∈ wsU := ut6 (List.mem_of_getElem? (i := 182) rfl) rfl
theorem uw909 : Cond.fieldLink RX9 43 "LongerBackModel" "bitsOf" "[I" ∈ wsU := ut4 (List.mem_of_getElem? (i := 231) rfl) rfl
theorem uw910 : Cond.fieldLink RX9 46 "LongerBackModel" "sizeOf" "[I" ∈ wsU := ut4 (List.mem_of_getElem? (i := 232) rfl) rfl
theorem uw911 : Cond.fieldLink RX9 49 "LongerBackModel" "number" "[J" ∈ wsU := ut4 (List.mem_of_getElem? (i := 233) rfl) rfl
theorem uw912 : Cond.constant RX9 308 (-1000000007) ∈ wsU := ut6 (List.mem_of_getElem? (i := 184) rfl) rfl
theorem uw913 : Cond.constant RX9 309 (-1000000006) ∈ wsU := ut6 (List.mem_of_getElem? (i := 193) rfl) rfl
theorem uw914 : Cond.methodLink RX9 310 yX9_wrong ∈ wsU := ut6 (List.mem_of_getElem? (i := 189) rfl) rfl
theorem uw915 : Cond.instanceMethod yX9_wrong ∈ wsU := ut6 (List.mem_of_getElem? (i := 191) rfl) rfl
theorem uw916 : Cond.selects RX9 yX9_wrong yX9_wrong ∈ wsU := us_sel (q := (yX9_wrong, 27)) (List.mem_of_getElem? (i := 77) (by decide +kernel)) rfl
theorem uw917 : Cond.code yX9_wrong cX9_wrong 2 (some .int) ∈ wsU := ut6 (List.mem_of_getElem? (i := 192) rfl) rfl
theorem uw918 : Cond.methodLink RX9 313 yX9_narrowed ∈ wsU := ut6 (List.mem_of_getElem? (i := 194) rfl) rfl
theorem uw919 : Cond.static yX9_narrowed ∈ wsU := ut6 (List.mem_of_getElem? (i := 195) rfl) rfl
theorem uw920 : Cond.initialized yX9_narrowed.cls ∈ wsU := ut1 (List.mem_of_getElem? (i := 10) rfl) rfl
theorem uw921 : Cond.code yX9_narrowed cX9_narrowed 3 (some .long) ∈ wsU := ut6 (List.mem_of_getElem? (i := 196) rfl) rfl
theorem uw922 : Cond.fieldLink RX9 53 "LongerBackModel" "moved" "[J" ∈ wsU := ut4 (List.mem_of_getElem? (i := 234) rfl) rfl
theorem ks_X9_305 : xWS RX9 305 yX9_isOne cX9_isOne 1 (some .boolean) 1 := ⟨⟨uw905, uw906, uw907, uw908⟩, by decide +kernel⟩
theorem kf_X9_43 : xWF RX9 43 9 23 RX9 TX9 27 := ⟨inUX9, rfl, by decide, uw909⟩
theorem kf_X9_46 : xWF RX9 46 9 24 RX9 TX9 27 := ⟨inUX9, rfl, by decide, uw910⟩
theorem kf_X9_49 : xWF RX9 49 9 25 RX9 TX9 27 := ⟨inUX9, rfl, by decide, uw911⟩
theorem kv_X9_310 : xWV RX9 310 RX9 yX9_wrong cX9_wrong 2 (some .int) 1 := ⟨⟨uw914, uw915, uw916, uw657, uw917⟩, by decide +kernel⟩
theorem ks_X9_313 : xWS RX9 313 yX9_narrowed cX9_narrowed 3 (some .long) 2 := ⟨⟨uw918, uw919, uw920, uw921⟩, by decide +kernel⟩
theorem kf_X9_53 : xWF RX9 53 9 26 RX9 TX9 27 := ⟨inUX9, rfl, by decide, uw922⟩
set_option maxHeartbeats 4000000 in
set_option maxRecDepth 100000 in
theorem c_X9_sheet (l : Launch) (D : va_G) (cI cJ cZ cS : ClassId) (ta : Nat) (sa sv : Nat → Nat) (sz : Nat) (h0 : Nat) (ys : Nat) (yk : Nat) (yo : Nat) (yt : Nat) (mk0 : Int32) (yfa : Nat) (yfe : Nat) (mL : Int32) (mS : Int32) (mM : Int32) (yro : Nat) (yhe : Nat) (ygr : Nat) (mF : Int32) (mC : Int32) (mY : Int32) (yta : Nat) (mz : Nat) (mf : Nat) (mt : Nat) (mv : Int32) (mw : Int32) (ywa : Nat) (ybi : Nat) (ysi : Nat) (ynu : Nat) (ymo : Nat) (bi : Nat → Int32) (sq : Nat → Int32) (nb : Nat → Int64) (mq : Nat → Int32) (p0 : Int32) (p1 : Int32) (p2 : Int32) (hsq : BA 4 41 sq) : Met l yX9_sheet (Cond.code yX9_sheet cX9_sheet 5 (some .int) :: wsU) ({ frames := 2, cells := 0, slots := 0, locals := 45 }) (va_Pc [.ref h0, .int p0, .int p1, .int p2] (XW D (xT cI cJ cZ cS) ta sa sv [(h0, .inr (9, [.ref ys, .ref yk, .ref yo, .ref yt, .int mk0, .ref yfa, .ref yfe, .int mL, .int mS, .int mM, .ref yro, .ref yhe, .ref ygr, .int mF, .int mC, .int mY, .ref yta, .int (nI (mz)), .int (nI (mf)), .int (nI (mt)), .int mv, .int mw, .ref ywa, .ref ybi, .ref ysi, .ref ynu, .ref ymo])), (ybi, .inl (cI, 4, .inl bi)), (ysi, .inl (cI, 4, .inl sq)), (ynu, .inl (cJ, 160, .inr (.inl nb))), (yt, .inl (cI, 7, .inl mq))] sz)) (XQi (fun (r : Int32) (u : (Nat → Int32) × (Nat → Int32) × (Nat → Int64) × (Nat → Int32)) => match u with | (bi2, sq2, nb2, mq2) => ((r = a_sheet p0 p1 p2)) ∧ (BA 4 41 sq2)) D (fun (u : (Nat → Int32) × (Nat → Int32) × (Nat → Int64) × (Nat → Int32)) => match u with | (bi2, sq2, nb2, mq2) => [(h0, .inr (9, [.ref ys, .ref yk, .ref yo, .ref yt, .int mk0, .ref yfa, .ref yfe, .int mL, .int mS, .int mM, .ref yro, .ref yhe, .ref ygr, .int mF, .int mC, .int mY, .ref yta, .int (nI (mz)), .int (nI (mf)), .int (nI (mt)), .int mv, .int mw, .ref ywa, .ref ybi, .ref ysi, .ref ynu, .ref ymo])), (ybi, .inl (cI, 4, .inl bi2)), (ysi, .inl (cI, 4, .inl sq2)), (ynu, .inl (cJ, 160, .inr (.inl nb2))), (yt, .inl (cI, 7, .inl mq2))]) (va_A [(h0, .inr (9, [.ref ys, .ref yk, .ref yo, .ref yt, .int mk0, .ref yfa, .ref yfe, .int mL, .int mS, .int mM, .ref yro, .ref yhe, .ref ygr, .int mF, .int mC, .int mY, .ref yta, .int (nI (mz)), .int (nI (mf)), .int (nI (mt)), .int mv, .int mw, .ref ywa, .ref ybi, .ref ysi, .ref ynu, .ref ymo])), (ybi, .inl (cI, 4, .inl bi)), (ysi, .inl (cI, 4, .inl sq)), (ynu, .inl (cJ, 160, .inr (.inl nb))), (yt, .inl (cI, 7, .inl mq))] sz)) 0 0 (va_A [(h0, .inr (9, [.ref ys, .ref yk, .ref yo, .ref yt, .int mk0, .ref yfa, .ref yfe, .int mL, .int mS, .int mM, .ref yro, .ref yhe, .ref ygr, .int mF, .int mC, .int mY, .ref yta, .int (nI (mz)), .int (nI (mf)), .int (nI (mt)), .int mv, .int mw, .ref ywa, .ref ybi, .ref ysi, .ref ynu, .ref ymo])), (ybi, .inl (cI, 4, .inl bi)), (ysi, .inl (cI, 4, .inl sq)), (ynu, .inl (cJ, 160, .inr (.inl nb))), (yt, .inl (cI, 7, .inl mq))] sz) := by
  refine xh (QA := fun A => XQi (fun (r : Int32) (u : (Nat → Int32) × (Nat → Int32) × (Nat → Int64) × (Nat → Int32)) => match u with | (bi2, sq2, nb2, mq2) => ((r = a_sheet p0 p1 p2)) ∧ (BA 4 41 sq2)) D (fun (u : (Nat → Int32) × (Nat → Int32) × (Nat → Int64) × (Nat → Int32)) => match u with | (bi2, sq2, nb2, mq2) => [(h0, .inr (9, [.ref ys, .ref yk, .ref yo, .ref yt, .int mk0, .ref yfa, .ref yfe, .int mL, .int mS, .int mM, .ref yro, .ref yhe, .ref ygr, .int mF, .int mC, .int mY, .ref yta, .int (nI (mz)), .int (nI (mf)), .int (nI (mt)), .int mv, .int mw, .ref ywa, .ref ybi, .ref ysi, .ref ynu, .ref ymo])), (ybi, .inl (cI, 4, .inl bi2)), (ysi, .inl (cI, 4, .inl sq2)), (ynu, .inl (cJ, 160, .inr (.inl nb2))), (yt, .inl (cI, 7, .inl mq2))]) A) (fr := fun A => A) (by decide) (Nat.le_of_ble_eq_true rfl) ?_
  intro p e s m below meth c ls A hF hr hlk hin hsz hP hK hD hN hZ hA hS hl
  have hF : CallFix p m c cX9_sheet 5 s _ _ RX9 := hF
  have hx := hF.1
  have hb := hF.2.1
  have hml := hF.2.2.1
  have hown := hF.2.2.2.1
  have hu : ∀ w ∈ wsU, w.before _ s = true := fun w h => hF.2.2.2.2 w (List.mem_cons_of_mem _ h)
  have hl : lv_has ls 5 [(0, .ref h0), (1, .int p0), (2, .int p1), (3, .int p2)] := hl
  refine lv_iload_n hx hb dX9_sheet_0 rfl (lv_at hl 1 rfl) ?_
  refine xc_Sr hF (c_X9_isOne l D cI cJ cZ cS ta sa sv s.heap.size p0 ) ks_X9_305 ⟨rfl, rfl, Nat.le_of_ble_eq_true rfl, Nat.le_of_ble_eq_true rfl⟩ ⟨Nat.le_of_ble_eq_true rfl, Nat.le_of_ble_eq_true rfl⟩ hK hN hZ hP hD hS hA [] rfl rfl rfl hl.1 rfl (Nat.le_of_ble_eq_true rfl) dX9_sheet_1 (fun r_1 hw_r_1 => ?_)
  rcases hw_r_1 with ⟨rfl, h_2, h_3⟩ | ⟨rfl, h_4⟩
  · skip
    refine lv_if_eq (tgt := 29) hx hb dX9_sheet_4 (by decide) (fun c_5 => absurd c_5 (by decide)) (fun c_5 => ?_)
    refine lv_iload_n hx hb dX9_sheet_7 rfl (lv_at hl 2 rfl) ?_
    refine lv_if_eq (tgt := 36) hx hb dX9_sheet_8 (by decide) (fun c_6 => ?_) (fun c_6 => ?_)
    · skip
      refine lv_iload_n hx hb dX9_sheet_36 rfl (lv_at hl 3 rfl) ?_
      refine lv_if_ge (tgt := 48) hx hb dX9_sheet_37 (by decide) (fun c_7 => ?_) (fun c_7 => ?_)
      · skip
        obtain ⟨y_8, hy_8, rfl⟩ := xrange (w := 3) (by omega) h_2 h_3
        refine lv_iload_n hx hb dX9_sheet_48 rfl (lv_at hl 3 rfl) ?_
        refine lv_bipush (v := 40) hx hb dX9_sheet_49 (by decide) ?_
        refine lv_icmp_le (tgt := 61) hx hb dX9_sheet_51 (by decide) (fun c_9 => ?_) (fun c_9 => ?_)
        · skip
          obtain ⟨y_10, hy_10, rfl⟩ := xrange2 (w := 40) (by omega) c_7 c_9
          refine lv_aload_n hx hb dX9_sheet_61 rfl (lv_at hl 0 rfl) ?_
          refine xg hF kf_X9_43 hK hP 0 rfl rfl dX9_sheet_62 ?_
          refine lv_iload_n hx hb dX9_sheet_65 rfl (lv_at hl 1 rfl) ?_
          refine lv_iload_n hx hb dX9_sheet_66 rfl (lv_at hl 2 rfl) ?_
          refine va_iast hx hb hK hP hD hS 1 0 rfl rfl (vp_in_nI (show y_8 < 4 by omega) (by decide)) dX9_sheet_67 (fun H locs hP hD hS => ?_)
          rw [nI_clamp (show y_8 < 2 ^ 31 by omega)] at hP hD
          obtain ⟨f_11, ef_11⟩ : ∃ g, g = upd bi y_8 p1 := ⟨_, rfl⟩
          rw [← ef_11] at hP hD
          have hP : va_P D vwCl [(h0, .inr (9, [.ref ys, .ref yk, .ref yo, .ref yt, .int mk0, .ref yfa, .ref yfe, .int mL, .int mS, .int mM, .ref yro, .ref yhe, .ref ygr, .int mF, .int mC, .int mY, .ref yta, .int (nI (mz)), .int (nI (mf)), .int (nI (mt)), .int mv, .int mw, .ref ywa, .ref ybi, .ref ysi, .ref ynu, .ref ymo])), (ybi, .inl (cI, 4, .inl f_11)), (ysi, .inl (cI, 4, .inl sq)), (ynu, .inl (cJ, 160, .inr (.inl nb))), (yt, .inl (cI, 7, .inl mq))] H := hP
          have hD : va_D A [(h0, .inr (9, [.ref ys, .ref yk, .ref yo, .ref yt, .int mk0, .ref yfa, .ref yfe, .int mL, .int mS, .int mM, .ref yro, .ref yhe, .ref ygr, .int mF, .int mC, .int mY, .ref yta, .int (nI (mz)), .int (nI (mf)), .int (nI (mt)), .int mv, .int mw, .ref ywa, .ref ybi, .ref ysi, .ref ynu, .ref ymo])), (ybi, .inl (cI, 4, .inl f_11)), (ysi, .inl (cI, 4, .inl sq)), (ynu, .inl (cJ, 160, .inr (.inl nb))), (yt, .inl (cI, 7, .inl mq))] := hD
          refine lv_aload_n hx hb dX9_sheet_68 rfl (lv_at hl 0 rfl) ?_
          refine xg hF kf_X9_46 hK hP 0 rfl rfl dX9_sheet_69 ?_
          refine lv_iload_n hx hb dX9_sheet_72 rfl (lv_at hl 1 rfl) ?_
          refine lv_iload_n hx hb dX9_sheet_73 rfl (lv_at hl 2 rfl) ?_
          refine lv_if_ne (tgt := 81) hx hb dX9_sheet_74 (by decide) (fun c_12 => ?_) (fun c_12 => ?_)
          · skip
            refine lv_iload_n hx hb dX9_sheet_81 rfl (lv_at hl 3 rfl) ?_
            refine va_iast hx hb hK hP hD hS 2 0 rfl rfl (vp_in_nI (show y_8 < 4 by omega) (by decide)) dX9_sheet_82 (fun H locs hP hD hS => ?_)
            rw [nI_clamp (show y_8 < 2 ^ 31 by omega)] at hP hD
            obtain ⟨f_13, ef_13⟩ : ∃ g, g = upd sq y_8 (nI (y_10)) := ⟨_, rfl⟩
            rw [← ef_13] at hP hD
            have hf_13 : BA 4 41 f_13 := by rw [ef_13]; exact BA.upd hsq (show y_10 < 41 by omega)
            have hP : va_P D vwCl [(h0, .inr (9, [.ref ys, .ref yk, .ref yo, .ref yt, .int mk0, .ref yfa, .ref yfe, .int mL, .int mS, .int mM, .ref yro, .ref yhe, .ref ygr, .int mF, .int mC, .int mY, .ref yta, .int (nI (mz)), .int (nI (mf)), .int (nI (mt)), .int mv, .int mw, .ref ywa, .ref ybi, .ref ysi, .ref ynu, .ref ymo])), (ybi, .inl (cI, 4, .inl f_11)), (ysi, .inl (cI, 4, .inl f_13)), (ynu, .inl (cJ, 160, .inr (.inl nb))), (yt, .inl (cI, 7, .inl mq))] H := hP
            have hD : va_D A [(h0, .inr (9, [.ref ys, .ref yk, .ref yo, .ref yt, .int mk0, .ref yfa, .ref yfe, .int mL, .int mS, .int mM, .ref yro, .ref yhe, .ref ygr, .int mF, .int mC, .int mY, .ref yta, .int (nI (mz)), .int (nI (mf)), .int (nI (mt)), .int mv, .int mw, .ref ywa, .ref ybi, .ref ysi, .ref ynu, .ref ymo])), (ybi, .inl (cI, 4, .inl f_11)), (ysi, .inl (cI, 4, .inl f_13)), (ynu, .inl (cJ, 160, .inr (.inl nb))), (yt, .inl (cI, 7, .inl mq))] := hD
            refine lv_iconst (v := 0) hx hb dX9_sheet_83 (by decide) ?_
            refine lv_istore (lv' := [(4, .int 0), (0, .ref h0), (1, .int (nI (y_8))), (2, .int p1), (3, .int (nI (y_10)))]) hx hb dX9_sheet_84 hl (by decide) rfl (fun ls hl => ?_)
            suffices loop_86 : ∀ (n_86 : Nat) (i : Nat) (n8 : Nat → Int64) (H : Heap) (locs : List Loc) (ls : Array Slot), 40 - i < n_86 → (i ≤ 40) → va_P D vwCl [(h0, .inr (9, [.ref ys, .ref yk, .ref yo, .ref yt, .int mk0, .ref yfa, .ref yfe, .int mL, .int mS, .int mM, .ref yro, .ref yhe, .ref ygr, .int mF, .int mC, .int mY, .ref yta, .int (nI (mz)), .int (nI (mf)), .int (nI (mt)), .int mv, .int mw, .ref ywa, .ref ybi, .ref ysi, .ref ynu, .ref ymo])), (ybi, .inl (cI, 4, .inl f_11)), (ysi, .inl (cI, 4, .inl f_13)), (ynu, .inl (cJ, 160, .inr (.inl n8))), (yt, .inl (cI, 7, .inl mq))] H → va_D A [(h0, .inr (9, [.ref ys, .ref yk, .ref yo, .ref yt, .int mk0, .ref yfa, .ref yfe, .int mL, .int mS, .int mM, .ref yro, .ref yhe, .ref ygr, .int mF, .int mC, .int mY, .ref yta, .int (nI (mz)), .int (nI (mf)), .int (nI (mt)), .int mv, .int mw, .ref ywa, .ref ybi, .ref ysi, .ref ynu, .ref ymo])), (ybi, .inl (cI, 4, .inl f_11)), (ysi, .inl (cI, 4, .inl f_13)), (ynu, .inl (cJ, 160, .inr (.inl n8))), (yt, .inl (cI, 7, .inl mq))] → va_S A s.heap H locs → lv_has ls 5 [(4, .int (nI (i))), (0, .ref h0), (1, .int (nI (y_8))), (2, .int p1), (3, .int (nI (y_10)))] → W p l e ({ frames := 2, cells := 0, slots := 0, locals := 45 }) s m ([.ref h0, .int (nI (y_8)), .int p1, .int (nI (y_10))] : List Value).toArray below meth c H locs 0 0 (MQ below (XQi (fun (r : Int32) (u : (Nat → Int32) × (Nat → Int32) × (Nat → Int64) × (Nat → Int32)) => match u with | (bi2, sq2, nb2, mq2) => ((r = a_sheet (nI (y_8)) p1 (nI (y_10)))) ∧ (BA 4 41 sq2)) D (fun (u : (Nat → Int32) × (Nat → Int32) × (Nat → Int64) × (Nat → Int32)) => match u with | (bi2, sq2, nb2, mq2) => [(h0, .inr (9, [.ref ys, .ref yk, .ref yo, .ref yt, .int mk0, .ref yfa, .ref yfe, .int mL, .int mS, .int mM, .ref yro, .ref yhe, .ref ygr, .int mF, .int mC, .int mY, .ref yta, .int (nI (mz)), .int (nI (mf)), .int (nI (mt)), .int mv, .int mw, .ref ywa, .ref ybi, .ref ysi, .ref ynu, .ref ymo])), (ybi, .inl (cI, 4, .inl bi2)), (ysi, .inl (cI, 4, .inl sq2)), (ynu, .inl (cJ, 160, .inr (.inl nb2))), (yt, .inl (cI, 7, .inl mq2))]) A) ([.ref h0, .int (nI (y_8)), .int p1, .int (nI (y_10))] : List Value).toArray s 0 0 A) (F0 m 86 ls []) by
              exact loop_86 _ 0 nb _ _ _ (Nat.lt_succ_self _) (by omega) hP hD hS (lv_sub hl [0, 1, 2, 3, 4] rfl)
            intro n_86
            induction n_86 with
            | zero =>
              intro i n8 H locs ls hm_86
              exact absurd hm_86 (Nat.not_lt_zero _)
            | succ n_86 ih_86 =>
              intro i n8 H locs ls hm_86 hi hP hD hS hl
              refine lv_iload hx hb dX9_sheet_86 (lv_at hl 0 rfl) ?_
              refine lv_bipush (v := 40) hx hb dX9_sheet_88 (by decide) ?_
              refine lv_icmp_ge (tgt := 112) hx hb dX9_sheet_90 (by decide) (fun c_14 => ?_) (fun c_14 => ?_)
              · skip
                have nc_14 : 40 ≤ i := xn_le (a := 40) (b := i) (by omega) (by omega) c_14
                refine lv_aload_n hx hb dX9_sheet_112 rfl (lv_at hl 1 rfl) ?_
                refine xg hF kf_X9_46 hK hP 0 rfl rfl dX9_sheet_113 ?_
                refine lv_iload_n hx hb dX9_sheet_116 rfl (lv_at hl 2 rfl) ?_
                refine va_iald hx hb hK hP 2 0 rfl rfl (vp_in_nI (show y_8 < 4 by omega) (by decide)) dX9_sheet_117 ?_
                refine xl_i (y := f_13 y_8) (congrArg f_13 (nI_clamp (show y_8 < 2 ^ 31 by omega))) ?_
                refine xl_i (y := nI (y_10)) (by rw [ef_13]; exact pk_us) ?_
                exact W.iret (v := nI (y_10)) hx hb hr (fun t ht hW => ⟨⟨nI (y_10), (f_11, f_13, n8, mq), rfl, ⟨p_sheet6 (nI_pos (by omega)) (x_le3 (by omega)) (by first | exact Or.inl (by assumption) | exact Or.inr (Or.inl (by assumption)) | exact Or.inr (Or.inr (Or.inl (by assumption))) | exact Or.inr (Or.inr (Or.inr (by assumption)))) (nI_pos (by omega)) (x_le40 (by omega)) (by assumption), hf_13⟩, by rw [ht]; exact hP.sub [0, 1, 2, 3, 4] rfl, hD.sub [0, 1, 2, 3, 4] (by decide +kernel) rfl⟩, hS.F ht⟩) hS.2.2 dX9_sheet_118 hlk
              · skip
                have nc_14 : i < 40 := xn_nle (a := 40) (b := i) (by omega) (by omega) c_14
                refine lv_aload_n hx hb dX9_sheet_93 rfl (lv_at hl 1 rfl) ?_
                refine xg hF kf_X9_49 hK hP 0 rfl rfl dX9_sheet_94 ?_
                refine lv_bipush (v := 40) hx hb dX9_sheet_97 (by decide) ?_
                refine lv_iload_n hx hb dX9_sheet_99 rfl (lv_at hl 2 rfl) ?_
                refine lv_imul hx hb dX9_sheet_100 ?_
                refine xl_i (y := nI (40 * y_8)) (pk_mul 40 y_8) ?_
                refine lv_iload hx hb dX9_sheet_101 (lv_at hl 0 rfl) ?_
                refine lv_iadd hx hb dX9_sheet_103 ?_
                refine xl_i (y := nI (40 * y_8 + i)) (nI_add (40 * y_8) i) ?_
                refine lv_lconst (v := 0) hx hb dX9_sheet_104 (by decide) ?_
                refine va_last hx hb hK hP hD hS 3 1 rfl rfl (vp_in_nI (show 40 * y_8 + i < 160 by omega) (by decide)) dX9_sheet_105 (fun H locs hP hD hS => ?_)
                rw [nI_clamp (show 40 * y_8 + i < 2 ^ 31 by omega)] at hP hD
                obtain ⟨f_15, ef_15⟩ : ∃ g, g = vp_updL n8 (40 * y_8 + i) 0 := ⟨_, rfl⟩
                rw [← ef_15] at hP hD
                have hP : va_P D vwCl [(h0, .inr (9, [.ref ys, .ref yk, .ref yo, .ref yt, .int mk0, .ref yfa, .ref yfe, .int mL, .int mS, .int mM, .ref yro, .ref yhe, .ref ygr, .int mF, .int mC, .int mY, .ref yta, .int (nI (mz)), .int (nI (mf)), .int (nI (mt)), .int mv, .int mw, .ref ywa, .ref ybi, .ref ysi, .ref ynu, .ref ymo])), (ybi, .inl (cI, 4, .inl f_11)), (ysi, .inl (cI, 4, .inl f_13)), (ynu, .inl (cJ, 160, .inr (.inl f_15))), (yt, .inl (cI, 7, .inl mq))] H := hP
                have hD : va_D A [(h0, .inr (9, [.ref ys, .ref yk, .ref yo, .ref yt, .int mk0, .ref yfa, .ref yfe, .int mL, .int mS, .int mM, .ref yro, .ref yhe, .ref ygr, .int mF, .int mC, .int mY, .ref yta, .int (nI (mz)), .int (nI (mf)), .int (nI (mt)), .int mv, .int mw, .ref ywa, .ref ybi, .ref ysi, .ref ynu, .ref ymo])), (ybi, .inl (cI, 4, .inl f_11)), (ysi, .inl (cI, 4, .inl f_13)), (ynu, .inl (cJ, 160, .inr (.inl f_15))), (yt, .inl (cI, 7, .inl mq))] := hD
                refine lv_iinc (v := nI (i + 1)) (lv' := [(4, .int (nI (i + 1))), (0, .ref h0), (1, .int (nI (y_8))), (2, .int p1), (3, .int (nI (y_10)))]) hx hb dX9_sheet_106 hl (k := 0) rfl (nI_1 (i)) (by decide) rfl (fun ls hl => ?_)
                refine lv_goto (tgt := 86) hx hb dX9_sheet_109 (by decide) ?_
                exact ih_86 (i + 1) f_15 _ _ _ (by omega) (by omega) (hP.sub [0, 1, 2, 3, 4] rfl) (hD.sub [0, 1, 2, 3, 4] (by decide +kernel) rfl) hS (lv_sub hl [0, 1, 2, 3, 4] rfl)
          · skip
            refine lv_iconst (v := 0) hx hb dX9_sheet_77 (by decide) ?_
            refine lv_goto (tgt := 82) hx hb dX9_sheet_78 (by decide) ?_
            refine va_iast hx hb hK hP hD hS 2 0 rfl rfl (vp_in_nI (show y_8 < 4 by omega) (by decide)) dX9_sheet_82 (fun H locs hP hD hS => ?_)
            rw [nI_clamp (show y_8 < 2 ^ 31 by omega)] at hP hD
            obtain ⟨f_16, ef_16⟩ : ∃ g, g = upd sq y_8 0 := ⟨_, rfl⟩
            rw [← ef_16] at hP hD
            have hf_16 : BA 4 41 f_16 := by rw [ef_16]; exact BA.upd hsq (show 0 < 41 by omega)
            have hP : va_P D vwCl [(h0, .inr (9, [.ref ys, .ref yk, .ref yo, .ref yt, .int mk0, .ref yfa, .ref yfe, .int mL, .int mS, .int mM, .ref yro, .ref yhe, .ref ygr, .int mF, .int mC, .int mY, .ref yta, .int (nI (mz)), .int (nI (mf)), .int (nI (mt)), .int mv, .int mw, .ref ywa, .ref ybi, .ref ysi, .ref ynu, .ref ymo])), (ybi, .inl (cI, 4, .inl f_11)), (ysi, .inl (cI, 4, .inl f_16)), (ynu, .inl (cJ, 160, .inr (.inl nb))), (yt, .inl (cI, 7, .inl mq))] H := hP
            have hD : va_D A [(h0, .inr (9, [.ref ys, .ref yk, .ref yo, .ref yt, .int mk0, .ref yfa, .ref yfe, .int mL, .int mS, .int mM, .ref yro, .ref yhe, .ref ygr, .int mF, .int mC, .int mY, .ref yta, .int (nI (mz)), .int (nI (mf)), .int (nI (mt)), .int mv, .int mw, .ref ywa, .ref ybi, .ref ysi, .ref ynu, .ref ymo])), (ybi, .inl (cI, 4, .inl f_11)), (ysi, .inl (cI, 4, .inl f_16)), (ynu, .inl (cJ, 160, .inr (.inl nb))), (yt, .inl (cI, 7, .inl mq))] := hD
            refine lv_iconst (v := 0) hx hb dX9_sheet_83 (by decide) ?_
            refine lv_istore (lv' := [(4, .int 0), (0, .ref h0), (1, .int (nI (y_8))), (2, .int p1), (3, .int (nI (y_10)))]) hx hb dX9_sheet_84 hl (by decide) rfl (fun ls hl => ?_)
            suffices loop_86 : ∀ (n_86 : Nat) (i : Nat) (n8 : Nat → Int64) (H : Heap) (locs : List Loc) (ls : Array Slot), 40 - i < n_86 → (i ≤ 40) → va_P D vwCl [(h0, .inr (9, [.ref ys, .ref yk, .ref yo, .ref yt, .int mk0, .ref yfa, .ref yfe, .int mL, .int mS, .int mM, .ref yro, .ref yhe, .ref ygr, .int mF, .int mC, .int mY, .ref yta, .int (nI (mz)), .int (nI (mf)), .int (nI (mt)), .int mv, .int mw, .ref ywa, .ref ybi, .ref ysi, .ref ynu, .ref ymo])), (ybi, .inl (cI, 4, .inl f_11)), (ysi, .inl (cI, 4, .inl f_16)), (ynu, .inl (cJ, 160, .inr (.inl n8))), (yt, .inl (cI, 7, .inl mq))] H → va_D A [(h0, .inr (9, [.ref ys, .ref yk, .ref yo, .ref yt, .int mk0, .ref yfa, .ref yfe, .int mL, .int mS, .int mM, .ref yro, .ref yhe, .ref ygr, .int mF, .int mC, .int mY, .ref yta, .int (nI (mz)), .int (nI (mf)), .int (nI (mt)), .int mv, .int mw, .ref ywa, .ref ybi, .ref ysi, .ref ynu, .ref ymo])), (ybi, .inl (cI, 4, .inl f_11)), (ysi, .inl (cI, 4, .inl f_16)), (ynu, .inl (cJ, 160, .inr (.inl n8))), (yt, .inl (cI, 7, .inl mq))] → va_S A s.heap H locs → lv_has ls 5 [(4, .int (nI (i))), (0, .ref h0), (1, .int (nI (y_8))), (2, .int p1), (3, .int (nI (y_10)))] → W p l e ({ frames := 2, cells := 0, slots := 0, locals := 45 }) s m ([.ref h0, .int (nI (y_8)), .int p1, .int (nI (y_10))] : List Value).toArray below meth c H locs 0 0 (MQ below (XQi (fun (r : Int32) (u : (Nat → Int32) × (Nat → Int32) × (Nat → Int64) × (Nat → Int32)) => match u with | (bi2, sq2, nb2, mq2) => ((r = a_sheet (nI (y_8)) p1 (nI (y_10)))) ∧ (BA 4 41 sq2)) D (fun (u : (Nat → Int32) × (Nat → Int32) × (Nat → Int64) × (Nat → Int32)) => match u with | (bi2, sq2, nb2, mq2) => [(h0, .inr (9, [.ref ys, .ref yk, .ref yo, .ref yt, .int mk0, .ref yfa, .ref yfe, .int mL, .int mS, .int mM, .ref yro, .ref yhe, .ref ygr, .int mF, .int mC, .int mY, .ref yta, .int (nI (mz)), .int (nI (mf)), .int (nI (mt)), .int mv, .int mw, .ref ywa, .ref ybi, .ref ysi, .ref ynu, .ref ymo])), (ybi, .inl (cI, 4, .inl bi2)), (ysi, .inl (cI, 4, .inl sq2)), (ynu, .inl (cJ, 160, .inr (.inl nb2))), (yt, .inl (cI, 7, .inl mq2))]) A) ([.ref h0, .int (nI (y_8)), .int p1, .int (nI (y_10))] : List Value).toArray s 0 0 A) (F0 m 86 ls []) by
              exact loop_86 _ 0 nb _ _ _ (Nat.lt_succ_self _) (by omega) hP hD hS (lv_sub hl [0, 1, 2, 3, 4] rfl)
            intro n_86
            induction n_86 with
            | zero =>
              intro i n8 H locs ls hm_86
              exact absurd hm_86 (Nat.not_lt_zero _)
            | succ n_86 ih_86 =>
              intro i n8 H locs ls hm_86 hi hP hD hS hl
              refine lv_iload hx hb dX9_sheet_86 (lv_at hl 0 rfl) ?_
              refine lv_bipush (v := 40) hx hb dX9_sheet_88 (by decide) ?_
              refine lv_icmp_ge (tgt := 112) hx hb dX9_sheet_90 (by decide) (fun c_17 => ?_) (fun c_17 => ?_)
              · skip
                have nc_17 : 40 ≤ i := xn_le (a := 40) (b := i) (by omega) (by omega) c_17
                refine lv_aload_n hx hb dX9_sheet_112 rfl (lv_at hl 1 rfl) ?_
                refine xg hF kf_X9_46 hK hP 0 rfl rfl dX9_sheet_113 ?_
                refine lv_iload_n hx hb dX9_sheet_116 rfl (lv_at hl 2 rfl) ?_
                refine va_iald hx hb hK hP 2 0 rfl rfl (vp_in_nI (show y_8 < 4 by omega) (by decide)) dX9_sheet_117 ?_
                refine xl_i (y := f_16 y_8) (congrArg f_16 (nI_clamp (show y_8 < 2 ^ 31 by omega))) ?_
                refine xl_i (y := 0) (by rw [ef_16]; exact pk_us) ?_
                exact W.iret (v := 0) hx hb hr (fun t ht hW => ⟨⟨0, (f_11, f_16, n8, mq), rfl, ⟨p_sheet5 (nI_pos (by omega)) (x_le3 (by omega)) c_12 (nI_pos (by omega)) (x_le40 (by omega)), hf_16⟩, by rw [ht]; exact hP.sub [0, 1, 2, 3, 4] rfl, hD.sub [0, 1, 2, 3, 4] (by decide +kernel) rfl⟩, hS.F ht⟩) hS.2.2 dX9_sheet_118 hlk
              · skip
                have nc_17 : i < 40 := xn_nle (a := 40) (b := i) (by omega) (by omega) c_17
                refine lv_aload_n hx hb dX9_sheet_93 rfl (lv_at hl 1 rfl) ?_
                refine xg hF kf_X9_49 hK hP 0 rfl rfl dX9_sheet_94 ?_
                refine lv_bipush (v := 40) hx hb dX9_sheet_97 (by decide) ?_
                refine lv_iload_n hx hb dX9_sheet_99 rfl (lv_at hl 2 rfl) ?_
                refine lv_imul hx hb dX9_sheet_100 ?_
                refine xl_i (y := nI (40 * y_8)) (pk_mul 40 y_8) ?_
                refine lv_iload hx hb dX9_sheet_101 (lv_at hl 0 rfl) ?_
                refine lv_iadd hx hb dX9_sheet_103 ?_
                refine xl_i (y := nI (40 * y_8 + i)) (nI_add (40 * y_8) i) ?_
                refine lv_lconst (v := 0) hx hb dX9_sheet_104 (by decide) ?_
                refine va_last hx hb hK hP hD hS 3 1 rfl rfl (vp_in_nI (show 40 * y_8 + i < 160 by omega) (by decide)) dX9_sheet_105 (fun H locs hP hD hS => ?_)
                rw [nI_clamp (show 40 * y_8 + i < 2 ^ 31 by omega)] at hP hD
                obtain ⟨f_18, ef_18⟩ : ∃ g, g = vp_updL n8 (40 * y_8 + i) 0 := ⟨_, rfl⟩
                rw [← ef_18] at hP hD
                have hP : va_P D vwCl [(h0, .inr (9, [.ref ys, .ref yk, .ref yo, .ref yt, .int mk0, .ref yfa, .ref yfe, .int mL, .int mS, .int mM, .ref yro, .ref yhe, .ref ygr, .int mF, .int mC, .int mY, .ref yta, .int (nI (mz)), .int (nI (mf)), .int (nI (mt)), .int mv, .int mw, .ref ywa, .ref ybi, .ref ysi, .ref ynu, .ref ymo])), (ybi, .inl (cI, 4, .inl f_11)), (ysi, .inl (cI, 4, .inl f_16)), (ynu, .inl (cJ, 160, .inr (.inl f_18))), (yt, .inl (cI, 7, .inl mq))] H := hP
                have hD : va_D A [(h0, .inr (9, [.ref ys, .ref yk, .ref yo, .ref yt, .int mk0, .ref yfa, .ref yfe, .int mL, .int mS, .int mM, .ref yro, .ref yhe, .ref ygr, .int mF, .int mC, .int mY, .ref yta, .int (nI (mz)), .int (nI (mf)), .int (nI (mt)), .int mv, .int mw, .ref ywa, .ref ybi, .ref ysi, .ref ynu, .ref ymo])), (ybi, .inl (cI, 4, .inl f_11)), (ysi, .inl (cI, 4, .inl f_16)), (ynu, .inl (cJ, 160, .inr (.inl f_18))), (yt, .inl (cI, 7, .inl mq))] := hD
                refine lv_iinc (v := nI (i + 1)) (lv' := [(4, .int (nI (i + 1))), (0, .ref h0), (1, .int (nI (y_8))), (2, .int p1), (3, .int (nI (y_10)))]) hx hb dX9_sheet_106 hl (k := 0) rfl (nI_1 (i)) (by decide) rfl (fun ls hl => ?_)
                refine lv_goto (tgt := 86) hx hb dX9_sheet_109 (by decide) ?_
                exact ih_86 (i + 1) f_18 _ _ _ (by omega) (by omega) (hP.sub [0, 1, 2, 3, 4] rfl) (hD.sub [0, 1, 2, 3, 4] (by decide +kernel) rfl) hS (lv_sub hl [0, 1, 2, 3, 4] rfl)
        · skip
          refine lv_aload_n hx hb dX9_sheet_54 rfl (lv_at hl 0 rfl) ?_
          refine lv_ldc (v := (-1000000001)) hx hb hown (hu _ uw648) dX9_sheet_55 ?_
          refine xc_Vi (wr := [(ybi, .inl (cI, 4, .inl bi)), (ysi, .inl (cI, 4, .inl sq)), (ynu, .inl (cJ, 160, .inr (.inl nb)))]) hF (c_X9_finds_B l D cI cJ cZ cS ta sa sv s.heap.size h0 ys yk yo yt mk0 yfa yfe mL mS mM yro yhe ygr mF mC mY yta mz mf mt mv mw ywa ybi ysi ynu ymo mq ) kv_X9_70 ⟨rfl, rfl, Nat.le_of_ble_eq_true rfl, Nat.le_of_ble_eq_true rfl⟩ ⟨Nat.le_of_ble_eq_true rfl, Nat.le_of_ble_eq_true rfl⟩ hK hN hZ hP hD hS hA [0, 4] [1, 2, 3] rfl rfl rfl rfl (by decide) 0 rfl rfl rfl rfl hl.1 rfl (Nat.le_of_ble_eq_true rfl) dX9_sheet_57 (fun r_19 u_r_19 H locs hw_r_19 hP hD hS => ?_)
          obtain ⟨mq2_20, rfl⟩ : ∃ z, z = u_r_19 := ⟨_, rfl⟩
          try dsimp only at hw_r_19
          have hP : va_P D vwCl [(ybi, .inl (cI, 4, .inl bi)), (ysi, .inl (cI, 4, .inl sq)), (ynu, .inl (cJ, 160, .inr (.inl nb))), (h0, .inr (9, [.ref ys, .ref yk, .ref yo, .ref yt, .int mk0, .ref yfa, .ref yfe, .int mL, .int mS, .int mM, .ref yro, .ref yhe, .ref ygr, .int mF, .int mC, .int mY, .ref yta, .int (nI (mz)), .int (nI (mf)), .int (nI (mt)), .int mv, .int mw, .ref ywa, .ref ybi, .ref ysi, .ref ynu, .ref ymo])), (yt, .inl (cI, 7, .inl mq2_20))] H := hP
          have hD : va_D A [(ybi, .inl (cI, 4, .inl bi)), (ysi, .inl (cI, 4, .inl sq)), (ynu, .inl (cJ, 160, .inr (.inl nb))), (h0, .inr (9, [.ref ys, .ref yk, .ref yo, .ref yt, .int mk0, .ref yfa, .ref yfe, .int mL, .int mS, .int mM, .ref yro, .ref yhe, .ref ygr, .int mF, .int mC, .int mY, .ref yta, .int (nI (mz)), .int (nI (mf)), .int (nI (mt)), .int mv, .int mw, .ref ywa, .ref ybi, .ref ysi, .ref ynu, .ref ymo])), (yt, .inl (cI, 7, .inl mq2_20))] := hD
          subst hw_r_19
          exact W.iret (v := (-1000000001)) hx hb hr (fun t ht hW => ⟨⟨(-1000000001), (bi, sq, nb, mq2_20), rfl, ⟨p_sheet4 (nI_pos (by omega)) (x_le3 (by omega)) (by first | exact Or.inl (by assumption) | exact Or.inr (Or.inl (by assumption)) | exact Or.inr (Or.inr (Or.inl (by assumption))) | exact Or.inr (Or.inr (Or.inr (by assumption)))) (fun h => absurd c_7 (Int32.not_le.mpr h)) (xlt c_9), hsq⟩, by rw [ht]; exact hP.sub [3, 0, 1, 2, 4] rfl, hD.sub [3, 0, 1, 2, 4] (by decide +kernel) rfl⟩, hS.F ht⟩) hS.2.2 dX9_sheet_60 hlk
      · skip
        refine lv_aload_n hx hb dX9_sheet_40 rfl (lv_at hl 0 rfl) ?_
        refine lv_ldcw (v := (-1000000007)) hx hb hown (hu _ uw912) dX9_sheet_41 ?_
        refine xc_Vi (wr := [(ybi, .inl (cI, 4, .inl bi)), (ysi, .inl (cI, 4, .inl sq)), (ynu, .inl (cJ, 160, .inr (.inl nb)))]) hF (c_X9_finds_S l D cI cJ cZ cS ta sa sv s.heap.size h0 ys yk yo yt mk0 yfa yfe mL mS mM yro yhe ygr mF mC mY yta mz mf mt mv mw ywa ybi ysi ynu ymo mq ) kv_X9_70 ⟨rfl, rfl, Nat.le_of_ble_eq_true rfl, Nat.le_of_ble_eq_true rfl⟩ ⟨Nat.le_of_ble_eq_true rfl, Nat.le_of_ble_eq_true rfl⟩ hK hN hZ hP hD hS hA [0, 4] [1, 2, 3] rfl rfl rfl rfl (by decide) 0 rfl rfl rfl rfl hl.1 rfl (Nat.le_of_ble_eq_true rfl) dX9_sheet_44 (fun r_21 u_r_21 H locs hw_r_21 hP hD hS => ?_)
        obtain ⟨mq2_22, rfl⟩ : ∃ z, z = u_r_21 := ⟨_, rfl⟩
        try dsimp only at hw_r_21
        have hP : va_P D vwCl [(ybi, .inl (cI, 4, .inl bi)), (ysi, .inl (cI, 4, .inl sq)), (ynu, .inl (cJ, 160, .inr (.inl nb))), (h0, .inr (9, [.ref ys, .ref yk, .ref yo, .ref yt, .int mk0, .ref yfa, .ref yfe, .int mL, .int mS, .int mM, .ref yro, .ref yhe, .ref ygr, .int mF, .int mC, .int mY, .ref yta, .int (nI (mz)), .int (nI (mf)), .int (nI (mt)), .int mv, .int mw, .ref ywa, .ref ybi, .ref ysi, .ref ynu, .ref ymo])), (yt, .inl (cI, 7, .inl mq2_22))] H := hP
        have hD : va_D A [(ybi, .inl (cI, 4, .inl bi)), (ysi, .inl (cI, 4, .inl sq)), (ynu, .inl (cJ, 160, .inr (.inl nb))), (h0, .inr (9, [.ref ys, .ref yk, .ref yo, .ref yt, .int mk0, .ref yfa, .ref yfe, .int mL, .int mS, .int mM, .ref yro, .ref yhe, .ref ygr, .int mF, .int mC, .int mY, .ref yta, .int (nI (mz)), .int (nI (mf)), .int (nI (mt)), .int mv, .int mw, .ref ywa, .ref ybi, .ref ysi, .ref ynu, .ref ymo])), (yt, .inl (cI, 7, .inl mq2_22))] := hD
        subst hw_r_21
        exact W.iret (v := (-1000000007)) hx hb hr (fun t ht hW => ⟨⟨(-1000000007), (bi, sq, nb, mq2_22), rfl, ⟨p_sheet3 h_2 h_3 (by first | exact Or.inl (by assumption) | exact Or.inr (Or.inl (by assumption)) | exact Or.inr (Or.inr (Or.inl (by assumption))) | exact Or.inr (Or.inr (Or.inr (by assumption)))) (xlt c_7), hsq⟩, by rw [ht]; exact hP.sub [3, 0, 1, 2, 4] rfl, hD.sub [3, 0, 1, 2, 4] (by decide +kernel) rfl⟩, hS.F ht⟩) hS.2.2 dX9_sheet_47 hlk
    · skip
      refine lv_iload_n hx hb dX9_sheet_11 rfl (lv_at hl 2 rfl) ?_
      refine lv_bipush (v := 8) hx hb dX9_sheet_12 (by decide) ?_
      refine lv_icmp_eq (tgt := 36) hx hb dX9_sheet_14 (by decide) (fun c_23 => ?_) (fun c_23 => ?_)
      · skip
        refine lv_iload_n hx hb dX9_sheet_36 rfl (lv_at hl 3 rfl) ?_
        refine lv_if_ge (tgt := 48) hx hb dX9_sheet_37 (by decide) (fun c_24 => ?_) (fun c_24 => ?_)
        · skip
          obtain ⟨y_25, hy_25, rfl⟩ := xrange (w := 3) (by omega) h_2 h_3
          refine lv_iload_n hx hb dX9_sheet_48 rfl (lv_at hl 3 rfl) ?_
          refine lv_bipush (v := 40) hx hb dX9_sheet_49 (by decide) ?_
          refine lv_icmp_le (tgt := 61) hx hb dX9_sheet_51 (by decide) (fun c_26 => ?_) (fun c_26 => ?_)
          · skip
            obtain ⟨y_27, hy_27, rfl⟩ := xrange2 (w := 40) (by omega) c_24 c_26
            refine lv_aload_n hx hb dX9_sheet_61 rfl (lv_at hl 0 rfl) ?_
            refine xg hF kf_X9_43 hK hP 0 rfl rfl dX9_sheet_62 ?_
            refine lv_iload_n hx hb dX9_sheet_65 rfl (lv_at hl 1 rfl) ?_
            refine lv_iload_n hx hb dX9_sheet_66 rfl (lv_at hl 2 rfl) ?_
            refine va_iast hx hb hK hP hD hS 1 0 rfl rfl (vp_in_nI (show y_25 < 4 by omega) (by decide)) dX9_sheet_67 (fun H locs hP hD hS => ?_)
            rw [nI_clamp (show y_25 < 2 ^ 31 by omega)] at hP hD
            obtain ⟨f_28, ef_28⟩ : ∃ g, g = upd bi y_25 p1 := ⟨_, rfl⟩
            rw [← ef_28] at hP hD
            have hP : va_P D vwCl [(h0, .inr (9, [.ref ys, .ref yk, .ref yo, .ref yt, .int mk0, .ref yfa, .ref yfe, .int mL, .int mS, .int mM, .ref yro, .ref yhe, .ref ygr, .int mF, .int mC, .int mY, .ref yta, .int (nI (mz)), .int (nI (mf)), .int (nI (mt)), .int mv, .int mw, .ref ywa, .ref ybi, .ref ysi, .ref ynu, .ref ymo])), (ybi, .inl (cI, 4, .inl f_28)), (ysi, .inl (cI, 4, .inl sq)), (ynu, .inl (cJ, 160, .inr (.inl nb))), (yt, .inl (cI, 7, .inl mq))] H := hP
            have hD : va_D A [(h0, .inr (9, [.ref ys, .ref yk, .ref yo, .ref yt, .int mk0, .ref yfa, .ref yfe, .int mL, .int mS, .int mM, .ref yro, .ref yhe, .ref ygr, .int mF, .int mC, .int mY, .ref yta, .int (nI (mz)), .int (nI (mf)), .int (nI (mt)), .int mv, .int mw, .ref ywa, .ref ybi, .ref ysi, .ref ynu, .ref ymo])), (ybi, .inl (cI, 4, .inl f_28)), (ysi, .inl (cI, 4, .inl sq)), (ynu, .inl (cJ, 160, .inr (.inl nb))), (yt, .inl (cI, 7, .inl mq))] := hD
            refine lv_aload_n hx hb dX9_sheet_68 rfl (lv_at hl 0 rfl) ?_
            refine xg hF kf_X9_46 hK hP 0 rfl rfl dX9_sheet_69 ?_
            refine lv_iload_n hx hb dX9_sheet_72 rfl (lv_at hl 1 rfl) ?_
            refine lv_iload_n hx hb dX9_sheet_73 rfl (lv_at hl 2 rfl) ?_
            refine lv_if_ne (tgt := 81) hx hb dX9_sheet_74 (by decide) (fun c_29 => ?_) (fun c_29 => ?_)
            · skip
              refine lv_iload_n hx hb dX9_sheet_81 rfl (lv_at hl 3 rfl) ?_
              refine va_iast hx hb hK hP hD hS 2 0 rfl rfl (vp_in_nI (show y_25 < 4 by omega) (by decide)) dX9_sheet_82 (fun H locs hP hD hS => ?_)
              rw [nI_clamp (show y_25 < 2 ^ 31 by omega)] at hP hD
              obtain ⟨f_30, ef_30⟩ : ∃ g, g = upd sq y_25 (nI (y_27)) := ⟨_, rfl⟩
              rw [← ef_30] at hP hD
              have hf_30 : BA 4 41 f_30 := by rw [ef_30]; exact BA.upd hsq (show y_27 < 41 by omega)
              have hP : va_P D vwCl [(h0, .inr (9, [.ref ys, .ref yk, .ref yo, .ref yt, .int mk0, .ref yfa, .ref yfe, .int mL, .int mS, .int mM, .ref yro, .ref yhe, .ref ygr, .int mF, .int mC, .int mY, .ref yta, .int (nI (mz)), .int (nI (mf)), .int (nI (mt)), .int mv, .int mw, .ref ywa, .ref ybi, .ref ysi, .ref ynu, .ref ymo])), (ybi, .inl (cI, 4, .inl f_28)), (ysi, .inl (cI, 4, .inl f_30)), (ynu, .inl (cJ, 160, .inr (.inl nb))), (yt, .inl (cI, 7, .inl mq))] H := hP
              have hD : va_D A [(h0, .inr (9, [.ref ys, .ref yk, .ref yo, .ref yt, .int mk0, .ref yfa, .ref yfe, .int mL, .int mS, .int mM, .ref yro, .ref yhe, .ref ygr, .int mF, .int mC, .int mY, .ref yta, .int (nI (mz)), .int (nI (mf)), .int (nI (mt)), .int mv, .int mw, .ref ywa, .ref ybi, .ref ysi, .ref ynu, .ref ymo])), (ybi, .inl (cI, 4, .inl f_28)), (ysi, .inl (cI, 4, .inl f_30)), (ynu, .inl (cJ, 160, .inr (.inl nb))), (yt, .inl (cI, 7, .inl mq))] := hD
              refine lv_iconst (v := 0) hx hb dX9_sheet_83 (by decide) ?_
              refine lv_istore (lv' := [(4, .int 0), (0, .ref h0), (1, .int (nI (y_25))), (2, .int p1), (3, .int (nI (y_27)))]) hx hb dX9_sheet_84 hl (by decide) rfl (fun ls hl => ?_)
              suffices loop_86 : ∀ (n_86 : Nat) (i : Nat) (n8 : Nat → Int64) (H : Heap) (locs : List Loc) (ls : Array Slot), 40 - i < n_86 → (i ≤ 40) → va_P D vwCl [(h0, .inr (9, [.ref ys, .ref yk, .ref yo, .ref yt, .int mk0, .ref yfa, .ref yfe, .int mL, .int mS, .int mM, .ref yro, .ref yhe, .ref ygr, .int mF, .int mC, .int mY, .ref yta, .int (nI (mz)), .int (nI (mf)), .int (nI (mt)), .int mv, .int mw, .ref ywa, .ref ybi, .ref ysi, .ref ynu, .ref ymo])), (ybi, .inl (cI, 4, .inl f_28)), (ysi, .inl (cI, 4, .inl f_30)), (ynu, .inl (cJ, 160, .inr (.inl n8))), (yt, .inl (cI, 7, .inl mq))] H → va_D A [(h0, .inr (9, [.ref ys, .ref yk, .ref yo, .ref yt, .int mk0, .ref yfa, .ref yfe, .int mL, .int mS, .int mM, .ref yro, .ref yhe, .ref ygr, .int mF, .int mC, .int mY, .ref yta, .int (nI (mz)), .int (nI (mf)), .int (nI (mt)), .int mv, .int mw, .ref ywa, .ref ybi, .ref ysi, .ref ynu, .ref ymo])), (ybi, .inl (cI, 4, .inl f_28)), (ysi, .inl (cI, 4, .inl f_30)), (ynu, .inl (cJ, 160, .inr (.inl n8))), (yt, .inl (cI, 7, .inl mq))] → va_S A s.heap H locs → lv_has ls 5 [(4, .int (nI (i))), (0, .ref h0), (1, .int (nI (y_25))), (2, .int p1), (3, .int (nI (y_27)))] → W p l e ({ frames := 2, cells := 0, slots := 0, locals := 45 }) s m ([.ref h0, .int (nI (y_25)), .int p1, .int (nI (y_27))] : List Value).toArray below meth c H locs 0 0 (MQ below (XQi (fun (r : Int32) (u : (Nat → Int32) × (Nat → Int32) × (Nat → Int64) × (Nat → Int32)) => match u with | (bi2, sq2, nb2, mq2) => ((r = a_sheet (nI (y_25)) p1 (nI (y_27)))) ∧ (BA 4 41 sq2)) D (fun (u : (Nat → Int32) × (Nat → Int32) × (Nat → Int64) × (Nat → Int32)) => match u with | (bi2, sq2, nb2, mq2) => [(h0, .inr (9, [.ref ys, .ref yk, .ref yo, .ref yt, .int mk0, .ref yfa, .ref yfe, .int mL, .int mS, .int mM, .ref yro, .ref yhe, .ref ygr, .int mF, .int mC, .int mY, .ref yta, .int (nI (mz)), .int (nI (mf)), .int (nI (mt)), .int mv, .int mw, .ref ywa, .ref ybi, .ref ysi, .ref ynu, .ref ymo])), (ybi, .inl (cI, 4, .inl bi2)), (ysi, .inl (cI, 4, .inl sq2)), (ynu, .inl (cJ, 160, .inr (.inl nb2))), (yt, .inl (cI, 7, .inl mq2))]) A) ([.ref h0, .int (nI (y_25)), .int p1, .int (nI (y_27))] : List Value).toArray s 0 0 A) (F0 m 86 ls []) by
                exact loop_86 _ 0 nb _ _ _ (Nat.lt_succ_self _) (by omega) hP hD hS (lv_sub hl [0, 1, 2, 3, 4] rfl)
              intro n_86
              induction n_86 with
              | zero =>
                intro i n8 H locs ls hm_86
                exact absurd hm_86 (Nat.not_lt_zero _)
              | succ n_86 ih_86 =>
                intro i n8 H locs ls hm_86 hi hP hD hS hl
                refine lv_iload hx hb dX9_sheet_86 (lv_at hl 0 rfl) ?_
                refine lv_bipush (v := 40) hx hb dX9_sheet_88 (by decide) ?_
                refine lv_icmp_ge (tgt := 112) hx hb dX9_sheet_90 (by decide) (fun c_31 => ?_) (fun c_31 => ?_)
                · skip
                  have nc_31 : 40 ≤ i := xn_le (a := 40) (b := i) (by omega) (by omega) c_31
                  refine lv_aload_n hx hb dX9_sheet_112 rfl (lv_at hl 1 rfl) ?_
                  refine xg hF kf_X9_46 hK hP 0 rfl rfl dX9_sheet_113 ?_
                  refine lv_iload_n hx hb dX9_sheet_116 rfl (lv_at hl 2 rfl) ?_
                  refine va_iald hx hb hK hP 2 0 rfl rfl (vp_in_nI (show y_25 < 4 by omega) (by decide)) dX9_sheet_117 ?_
                  refine xl_i (y := f_30 y_25) (congrArg f_30 (nI_clamp (show y_25 < 2 ^ 31 by omega))) ?_
                  refine xl_i (y := nI (y_27)) (by rw [ef_30]; exact pk_us) ?_
                  exact W.iret (v := nI (y_27)) hx hb hr (fun t ht hW => ⟨⟨nI (y_27), (f_28, f_30, n8, mq), rfl, ⟨p_sheet6 (nI_pos (by omega)) (x_le3 (by omega)) (by first | exact Or.inl (by assumption) | exact Or.inr (Or.inl (by assumption)) | exact Or.inr (Or.inr (Or.inl (by assumption))) | exact Or.inr (Or.inr (Or.inr (by assumption)))) (nI_pos (by omega)) (x_le40 (by omega)) (by assumption), hf_30⟩, by rw [ht]; exact hP.sub [0, 1, 2, 3, 4] rfl, hD.sub [0, 1, 2, 3, 4] (by decide +kernel) rfl⟩, hS.F ht⟩) hS.2.2 dX9_sheet_118 hlk
                · skip
                  have nc_31 : i < 40 := xn_nle (a := 40) (b := i) (by omega) (by omega) c_31
                  refine lv_aload_n hx hb dX9_sheet_93 rfl (lv_at hl 1 rfl) ?_
                  refine xg hF kf_X9_49 hK hP 0 rfl rfl dX9_sheet_94 ?_
                  refine lv_bipush (v := 40) hx hb dX9_sheet_97 (by decide) ?_
                  refine lv_iload_n hx hb dX9_sheet_99 rfl (lv_at hl 2 rfl) ?_
                  refine lv_imul hx hb dX9_sheet_100 ?_
                  refine xl_i (y := nI (40 * y_25)) (pk_mul 40 y_25) ?_
                  refine lv_iload hx hb dX9_sheet_101 (lv_at hl 0 rfl) ?_
                  refine lv_iadd hx hb dX9_sheet_103 ?_
                  refine xl_i (y := nI (40 * y_25 + i)) (nI_add (40 * y_25) i) ?_
                  refine lv_lconst (v := 0) hx hb dX9_sheet_104 (by decide) ?_
                  refine va_last hx hb hK hP hD hS 3 1 rfl rfl (vp_in_nI (show 40 * y_25 + i < 160 by omega) (by decide)) dX9_sheet_105 (fun H locs hP hD hS => ?_)
                  rw [nI_clamp (show 40 * y_25 + i < 2 ^ 31 by omega)] at hP hD
                  obtain ⟨f_32, ef_32⟩ : ∃ g, g = vp_updL n8 (40 * y_25 + i) 0 := ⟨_, rfl⟩
                  rw [← ef_32] at hP hD
                  have hP : va_P D vwCl [(h0, .inr (9, [.ref ys, .ref yk, .ref yo, .ref yt, .int mk0, .ref yfa, .ref yfe, .int mL, .int mS, .int mM, .ref yro, .ref yhe, .ref ygr, .int mF, .int mC, .int mY, .ref yta, .int (nI (mz)), .int (nI (mf)), .int (nI (mt)), .int mv, .int mw, .ref ywa, .ref ybi, .ref ysi, .ref ynu, .ref ymo])), (ybi, .inl (cI, 4, .inl f_28)), (ysi, .inl (cI, 4, .inl f_30)), (ynu, .inl (cJ, 160, .inr (.inl f_32))), (yt, .inl (cI, 7, .inl mq))] H := hP
                  have hD : va_D A [(h0, .inr (9, [.ref ys, .ref yk, .ref yo, .ref yt, .int mk0, .ref yfa, .ref yfe, .int mL, .int mS, .int mM, .ref yro, .ref yhe, .ref ygr, .int mF, .int mC, .int mY, .ref yta, .int (nI (mz)), .int (nI (mf)), .int (nI (mt)), .int mv, .int mw, .ref ywa, .ref ybi, .ref ysi, .ref ynu, .ref ymo])), (ybi, .inl (cI, 4, .inl f_28)), (ysi, .inl (cI, 4, .inl f_30)), (ynu, .inl (cJ, 160, .inr (.inl f_32))), (yt, .inl (cI, 7, .inl mq))] := hD
                  refine lv_iinc (v := nI (i + 1)) (lv' := [(4, .int (nI (i + 1))), (0, .ref h0), (1, .int (nI (y_25))), (2, .int p1), (3, .int (nI (y_27)))]) hx hb dX9_sheet_106 hl (k := 0) rfl (nI_1 (i)) (by decide) rfl (fun ls hl => ?_)
                  refine lv_goto (tgt := 86) hx hb dX9_sheet_109 (by decide) ?_
                  exact ih_86 (i + 1) f_32 _ _ _ (by omega) (by omega) (hP.sub [0, 1, 2, 3, 4] rfl) (hD.sub [0, 1, 2, 3, 4] (by decide +kernel) rfl) hS (lv_sub hl [0, 1, 2, 3, 4] rfl)
            · skip
              refine lv_iconst (v := 0) hx hb dX9_sheet_77 (by decide) ?_
              refine lv_goto (tgt := 82) hx hb dX9_sheet_78 (by decide) ?_
              refine va_iast hx hb hK hP hD hS 2 0 rfl rfl (vp_in_nI (show y_25 < 4 by omega) (by decide)) dX9_sheet_82 (fun H locs hP hD hS => ?_)
              rw [nI_clamp (show y_25 < 2 ^ 31 by omega)] at hP hD
              obtain ⟨f_33, ef_33⟩ : ∃ g, g = upd sq y_25 0 := ⟨_, rfl⟩
              rw [← ef_33] at hP hD
              have hf_33 : BA 4 41 f_33 := by rw [ef_33]; exact BA.upd hsq (show 0 < 41 by omega)
              have hP : va_P D vwCl [(h0, .inr (9, [.ref ys, .ref yk, .ref yo, .ref yt, .int mk0, .ref yfa, .ref yfe, .int mL, .int mS, .int mM, .ref yro, .ref yhe, .ref ygr, .int mF, .int mC, .int mY, .ref yta, .int (nI (mz)), .int (nI (mf)), .int (nI (mt)), .int mv, .int mw, .ref ywa, .ref ybi, .ref ysi, .ref ynu, .ref ymo])), (ybi, .inl (cI, 4, .inl f_28)), (ysi, .inl (cI, 4, .inl f_33)), (ynu, .inl (cJ, 160, .inr (.inl nb))), (yt, .inl (cI, 7, .inl mq))] H := hP
              have hD : va_D A [(h0, .inr (9, [.ref ys, .ref yk, .ref yo, .ref yt, .int mk0, .ref yfa, .ref yfe, .int mL, .int mS, .int mM, .ref yro, .ref yhe, .ref ygr, .int mF, .int mC, .int mY, .ref yta, .int (nI (mz)), .int (nI (mf)), .int (nI (mt)), .int mv, .int mw, .ref ywa, .ref ybi, .ref ysi, .ref ynu, .ref ymo])), (ybi, .inl (cI, 4, .inl f_28)), (ysi, .inl (cI, 4, .inl f_33)), (ynu, .inl (cJ, 160, .inr (.inl nb))), (yt, .inl (cI, 7, .inl mq))] := hD
              refine lv_iconst (v := 0) hx hb dX9_sheet_83 (by decide) ?_
              refine lv_istore (lv' := [(4, .int 0), (0, .ref h0), (1, .int (nI (y_25))), (2, .int p1), (3, .int (nI (y_27)))]) hx hb dX9_sheet_84 hl (by decide) rfl (fun ls hl => ?_)
              suffices loop_86 : ∀ (n_86 : Nat) (i : Nat) (n8 : Nat → Int64) (H : Heap) (locs : List Loc) (ls : Array Slot), 40 - i < n_86 → (i ≤ 40) → va_P D vwCl [(h0, .inr (9, [.ref ys, .ref yk, .ref yo, .ref yt, .int mk0, .ref yfa, .ref yfe, .int mL, .int mS, .int mM, .ref yro, .ref yhe, .ref ygr, .int mF, .int mC, .int mY, .ref yta, .int (nI (mz)), .int (nI (mf)), .int (nI (mt)), .int mv, .int mw, .ref ywa, .ref ybi, .ref ysi, .ref ynu, .ref ymo])), (ybi, .inl (cI, 4, .inl f_28)), (ysi, .inl (cI, 4, .inl f_33)), (ynu, .inl (cJ, 160, .inr (.inl n8))), (yt, .inl (cI, 7, .inl mq))] H → va_D A [(h0, .inr (9, [.ref ys, .ref yk, .ref yo, .ref yt, .int mk0, .ref yfa, .ref yfe, .int mL, .int mS, .int mM, .ref yro, .ref yhe, .ref ygr, .int mF, .int mC, .int mY, .ref yta, .int (nI (mz)), .int (nI (mf)), .int (nI (mt)), .int mv, .int mw, .ref ywa, .ref ybi, .ref ysi, .ref ynu, .ref ymo])), (ybi, .inl (cI, 4, .inl f_28)), (ysi, .inl (cI, 4, .inl f_33)), (ynu, .inl (cJ, 160, .inr (.inl n8))), (yt, .inl (cI, 7, .inl mq))] → va_S A s.heap H locs → lv_has ls 5 [(4, .int (nI (i))), (0, .ref h0), (1, .int (nI (y_25))), (2, .int p1), (3, .int (nI (y_27)))] → W p l e ({ frames := 2, cells := 0, slots := 0, locals := 45 }) s m ([.ref h0, .int (nI (y_25)), .int p1, .int (nI (y_27))] : List Value).toArray below meth c H locs 0 0 (MQ below (XQi (fun (r : Int32) (u : (Nat → Int32) × (Nat → Int32) × (Nat → Int64) × (Nat → Int32)) => match u with | (bi2, sq2, nb2, mq2) => ((r = a_sheet (nI (y_25)) p1 (nI (y_27)))) ∧ (BA 4 41 sq2)) D (fun (u : (Nat → Int32) × (Nat → Int32) × (Nat → Int64) × (Nat → Int32)) => match u with | (bi2, sq2, nb2, mq2) => [(h0, .inr (9, [.ref ys, .ref yk, .ref yo, .ref yt, .int mk0, .ref yfa, .ref yfe, .int mL, .int mS, .int mM, .ref yro, .ref yhe, .ref ygr, .int mF, .int mC, .int mY, .ref yta, .int (nI (mz)), .int (nI (mf)), .int (nI (mt)), .int mv, .int mw, .ref ywa, .ref ybi, .ref ysi, .ref ynu, .ref ymo])), (ybi, .inl (cI, 4, .inl bi2)), (ysi, .inl (cI, 4, .inl sq2)), (ynu, .inl (cJ, 160, .inr (.inl nb2))), (yt, .inl (cI, 7, .inl mq2))]) A) ([.ref h0, .int (nI (y_25)), .int p1, .int (nI (y_27))] : List Value).toArray s 0 0 A) (F0 m 86 ls []) by
                exact loop_86 _ 0 nb _ _ _ (Nat.lt_succ_self _) (by omega) hP hD hS (lv_sub hl [0, 1, 2, 3, 4] rfl)
              intro n_86
              induction n_86 with
              | zero =>
                intro i n8 H locs ls hm_86
                exact absurd hm_86 (Nat.not_lt_zero _)
              | succ n_86 ih_86 =>
                intro i n8 H locs ls hm_86 hi hP hD hS hl
                refine lv_iload hx hb dX9_sheet_86 (lv_at hl 0 rfl) ?_
                refine lv_bipush (v := 40) hx hb dX9_sheet_88 (by decide) ?_
                refine lv_icmp_ge (tgt := 112) hx hb dX9_sheet_90 (by decide) (fun c_34 => ?_) (fun c_34 => ?_)
                · skip
                  have nc_34 : 40 ≤ i := xn_le (a := 40) (b := i) (by omega) (by omega) c_34
                  refine lv_aload_n hx hb dX9_sheet_112 rfl (lv_at hl 1 rfl) ?_
                  refine xg hF kf_X9_46 hK hP 0 rfl rfl dX9_sheet_113 ?_
                  refine lv_iload_n hx hb dX9_sheet_116 rfl (lv_at hl 2 rfl) ?_
                  refine va_iald hx hb hK hP 2 0 rfl rfl (vp_in_nI (show y_25 < 4 by omega) (by decide)) dX9_sheet_117 ?_
                  refine xl_i (y := f_33 y_25) (congrArg f_33 (nI_clamp (show y_25 < 2 ^ 31 by omega))) ?_
                  refine xl_i (y := 0) (by rw [ef_33]; exact pk_us) ?_
                  exact W.iret (v := 0) hx hb hr (fun t ht hW => ⟨⟨0, (f_28, f_33, n8, mq), rfl, ⟨p_sheet5 (nI_pos (by omega)) (x_le3 (by omega)) c_29 (nI_pos (by omega)) (x_le40 (by omega)), hf_33⟩, by rw [ht]; exact hP.sub [0, 1, 2, 3, 4] rfl, hD.sub [0, 1, 2, 3, 4] (by decide +kernel) rfl⟩, hS.F ht⟩) hS.2.2 dX9_sheet_118 hlk
                · skip
                  have nc_34 : i < 40 := xn_nle (a := 40) (b := i) (by omega) (by omega) c_34
                  refine lv_aload_n hx hb dX9_sheet_93 rfl (lv_at hl 1 rfl) ?_
                  refine xg hF kf_X9_49 hK hP 0 rfl rfl dX9_sheet_94 ?_
                  refine lv_bipush (v := 40) hx hb dX9_sheet_97 (by decide) ?_
                  refine lv_iload_n hx hb dX9_sheet_99 rfl (lv_at hl 2 rfl) ?_
                  refine lv_imul hx hb dX9_sheet_100 ?_
                  refine xl_i (y := nI (40 * y_25)) (pk_mul 40 y_25) ?_
                  refine lv_iload hx hb dX9_sheet_101 (lv_at hl 0 rfl) ?_
                  refine lv_iadd hx hb dX9_sheet_103 ?_
                  refine xl_i (y := nI (40 * y_25 + i)) (nI_add (40 * y_25) i) ?_
                  refine lv_lconst (v := 0) hx hb dX9_sheet_104 (by decide) ?_
                  refine va_last hx hb hK hP hD hS 3 1 rfl rfl (vp_in_nI (show 40 * y_25 + i < 160 by omega) (by decide)) dX9_sheet_105 (fun H locs hP hD hS => ?_)
                  rw [nI_clamp (show 40 * y_25 + i < 2 ^ 31 by omega)] at hP hD
                  obtain ⟨f_35, ef_35⟩ : ∃ g, g = vp_updL n8 (40 * y_25 + i) 0 := ⟨_, rfl⟩
                  rw [← ef_35] at hP hD
                  have hP : va_P D vwCl [(h0, .inr (9, [.ref ys, .ref yk, .ref yo, .ref yt, .int mk0, .ref yfa, .ref yfe, .int mL, .int mS, .int mM, .ref yro, .ref yhe, .ref ygr, .int mF, .int mC, .int mY, .ref yta, .int (nI (mz)), .int (nI (mf)), .int (nI (mt)), .int mv, .int mw, .ref ywa, .ref ybi, .ref ysi, .ref ynu, .ref ymo])), (ybi, .inl (cI, 4, .inl f_28)), (ysi, .inl (cI, 4, .inl f_33)), (ynu, .inl (cJ, 160, .inr (.inl f_35))), (yt, .inl (cI, 7, .inl mq))] H := hP
                  have hD : va_D A [(h0, .inr (9, [.ref ys, .ref yk, .ref yo, .ref yt, .int mk0, .ref yfa, .ref yfe, .int mL, .int mS, .int mM, .ref yro, .ref yhe, .ref ygr, .int mF, .int mC, .int mY, .ref yta, .int (nI (mz)), .int (nI (mf)), .int (nI (mt)), .int mv, .int mw, .ref ywa, .ref ybi, .ref ysi, .ref ynu, .ref ymo])), (ybi, .inl (cI, 4, .inl f_28)), (ysi, .inl (cI, 4, .inl f_33)), (ynu, .inl (cJ, 160, .inr (.inl f_35))), (yt, .inl (cI, 7, .inl mq))] := hD
                  refine lv_iinc (v := nI (i + 1)) (lv' := [(4, .int (nI (i + 1))), (0, .ref h0), (1, .int (nI (y_25))), (2, .int p1), (3, .int (nI (y_27)))]) hx hb dX9_sheet_106 hl (k := 0) rfl (nI_1 (i)) (by decide) rfl (fun ls hl => ?_)
                  refine lv_goto (tgt := 86) hx hb dX9_sheet_109 (by decide) ?_
                  exact ih_86 (i + 1) f_35 _ _ _ (by omega) (by omega) (hP.sub [0, 1, 2, 3, 4] rfl) (hD.sub [0, 1, 2, 3, 4] (by decide +kernel) rfl) hS (lv_sub hl [0, 1, 2, 3, 4] rfl)
          · skip
            refine lv_aload_n hx hb dX9_sheet_54 rfl (lv_at hl 0 rfl) ?_
            refine lv_ldc (v := (-1000000001)) hx hb hown (hu _ uw648) dX9_sheet_55 ?_
            refine xc_Vi (wr := [(ybi, .inl (cI, 4, .inl bi)), (ysi, .inl (cI, 4, .inl sq)), (ynu, .inl (cJ, 160, .inr (.inl nb)))]) hF (c_X9_finds_B l D cI cJ cZ cS ta sa sv s.heap.size h0 ys yk yo yt mk0 yfa yfe mL mS mM yro yhe ygr mF mC mY yta mz mf mt mv mw ywa ybi ysi ynu ymo mq ) kv_X9_70 ⟨rfl, rfl, Nat.le_of_ble_eq_true rfl, Nat.le_of_ble_eq_true rfl⟩ ⟨Nat.le_of_ble_eq_true rfl, Nat.le_of_ble_eq_true rfl⟩ hK hN hZ hP hD hS hA [0, 4] [1, 2, 3] rfl rfl rfl rfl (by decide) 0 rfl rfl rfl rfl hl.1 rfl (Nat.le_of_ble_eq_true rfl) dX9_sheet_57 (fun r_36 u_r_36 H locs hw_r_36 hP hD hS => ?_)
            obtain ⟨mq2_37, rfl⟩ : ∃ z, z = u_r_36 := ⟨_, rfl⟩
            try dsimp only at hw_r_36
            have hP : va_P D vwCl [(ybi, .inl (cI, 4, .inl bi)), (ysi, .inl (cI, 4, .inl sq)), (ynu, .inl (cJ, 160, .inr (.inl nb))), (h0, .inr (9, [.ref ys, .ref yk, .ref yo, .ref yt, .int mk0, .ref yfa, .ref yfe, .int mL, .int mS, .int mM, .ref yro, .ref yhe, .ref ygr, .int mF, .int mC, .int mY, .ref yta, .int (nI (mz)), .int (nI (mf)), .int (nI (mt)), .int mv, .int mw, .ref ywa, .ref ybi, .ref ysi, .ref ynu, .ref ymo])), (yt, .inl (cI, 7, .inl mq2_37))] H := hP
            have hD : va_D A [(ybi, .inl (cI, 4, .inl bi)), (ysi, .inl (cI, 4, .inl sq)), (ynu, .inl (cJ, 160, .inr (.inl nb))), (h0, .inr (9, [.ref ys, .ref yk, .ref yo, .ref yt, .int mk0, .ref yfa, .ref yfe, .int mL, .int mS, .int mM, .ref yro, .ref yhe, .ref ygr, .int mF, .int mC, .int mY, .ref yta, .int (nI (mz)), .int (nI (mf)), .int (nI (mt)), .int mv, .int mw, .ref ywa, .ref ybi, .ref ysi, .ref ynu, .ref ymo])), (yt, .inl (cI, 7, .inl mq2_37))] := hD
            subst hw_r_36
            exact W.iret (v := (-1000000001)) hx hb hr (fun t ht hW => ⟨⟨(-1000000001), (bi, sq, nb, mq2_37), rfl, ⟨p_sheet4 (nI_pos (by omega)) (x_le3 (by omega)) (by first | exact Or.inl (by assumption) | exact Or.inr (Or.inl (by assumption)) | exact Or.inr (Or.inr (Or.inl (by assumption))) | exact Or.inr (Or.inr (Or.inr (by assumption)))) (fun h => absurd c_24 (Int32.not_le.mpr h)) (xlt c_26), hsq⟩, by rw [ht]; exact hP.sub [3, 0, 1, 2, 4] rfl, hD.sub [3, 0, 1, 2, 4] (by decide +kernel) rfl⟩, hS.F ht⟩) hS.2.2 dX9_sheet_60 hlk
        · skip
          refine lv_aload_n hx hb dX9_sheet_40 rfl (lv_at hl 0 rfl) ?_
          refine lv_ldcw (v := (-1000000007)) hx hb hown (hu _ uw912) dX9_sheet_41 ?_
          refine xc_Vi (wr := [(ybi, .inl (cI, 4, .inl bi)), (ysi, .inl (cI, 4, .inl sq)), (ynu, .inl (cJ, 160, .inr (.inl nb)))]) hF (c_X9_finds_S l D cI cJ cZ cS ta sa sv s.heap.size h0 ys yk yo yt mk0 yfa yfe mL mS mM yro yhe ygr mF mC mY yta mz mf mt mv mw ywa ybi ysi ynu ymo mq ) kv_X9_70 ⟨rfl, rfl, Nat.le_of_ble_eq_true rfl, Nat.le_of_ble_eq_true rfl⟩ ⟨Nat.le_of_ble_eq_true rfl, Nat.le_of_ble_eq_true rfl⟩ hK hN hZ hP hD hS hA [0, 4] [1, 2, 3] rfl rfl rfl rfl (by decide) 0 rfl rfl rfl rfl hl.1 rfl (Nat.le_of_ble_eq_true rfl) dX9_sheet_44 (fun r_38 u_r_38 H locs hw_r_38 hP hD hS => ?_)
          obtain ⟨mq2_39, rfl⟩ : ∃ z, z = u_r_38 := ⟨_, rfl⟩
          try dsimp only at hw_r_38
          have hP : va_P D vwCl [(ybi, .inl (cI, 4, .inl bi)), (ysi, .inl (cI, 4, .inl sq)), (ynu, .inl (cJ, 160, .inr (.inl nb))), (h0, .inr (9, [.ref ys, .ref yk, .ref yo, .ref yt, .int mk0, .ref yfa, .ref yfe, .int mL, .int mS, .int mM, .ref yro, .ref yhe, .ref ygr, .int mF, .int mC, .int mY, .ref yta, .int (nI (mz)), .int (nI (mf)), .int (nI (mt)), .int mv, .int mw, .ref ywa, .ref ybi, .ref ysi, .ref ynu, .ref ymo])), (yt, .inl (cI, 7, .inl mq2_39))] H := hP
          have hD : va_D A [(ybi, .inl (cI, 4, .inl bi)), (ysi, .inl (cI, 4, .inl sq)), (ynu, .inl (cJ, 160, .inr (.inl nb))), (h0, .inr (9, [.ref ys, .ref yk, .ref yo, .ref yt, .int mk0, .ref yfa, .ref yfe, .int mL, .int mS, .int mM, .ref yro, .ref yhe, .ref ygr, .int mF, .int mC, .int mY, .ref yta, .int (nI (mz)), .int (nI (mf)), .int (nI (mt)), .int mv, .int mw, .ref ywa, .ref ybi, .ref ysi, .ref ynu, .ref ymo])), (yt, .inl (cI, 7, .inl mq2_39))] := hD
          subst hw_r_38
          exact W.iret (v := (-1000000007)) hx hb hr (fun t ht hW => ⟨⟨(-1000000007), (bi, sq, nb, mq2_39), rfl, ⟨p_sheet3 h_2 h_3 (by first | exact Or.inl (by assumption) | exact Or.inr (Or.inl (by assumption)) | exact Or.inr (Or.inr (Or.inl (by assumption))) | exact Or.inr (Or.inr (Or.inr (by assumption)))) (xlt c_24), hsq⟩, by rw [ht]; exact hP.sub [3, 0, 1, 2, 4] rfl, hD.sub [3, 0, 1, 2, 4] (by decide +kernel) rfl⟩, hS.F ht⟩) hS.2.2 dX9_sheet_47 hlk
      · skip
        refine lv_iload_n hx hb dX9_sheet_17 rfl (lv_at hl 2 rfl) ?_
        refine lv_bipush (v := 16) hx hb dX9_sheet_18 (by decide) ?_
        refine lv_icmp_eq (tgt := 36) hx hb dX9_sheet_20 (by decide) (fun c_40 => ?_) (fun c_40 => ?_)
        · skip
          refine lv_iload_n hx hb dX9_sheet_36 rfl (lv_at hl 3 rfl) ?_
          refine lv_if_ge (tgt := 48) hx hb dX9_sheet_37 (by decide) (fun c_41 => ?_) (fun c_41 => ?_)
          · skip
            obtain ⟨y_42, hy_42, rfl⟩ := xrange (w := 3) (by omega) h_2 h_3
            refine lv_iload_n hx hb dX9_sheet_48 rfl (lv_at hl 3 rfl) ?_
            refine lv_bipush (v := 40) hx hb dX9_sheet_49 (by decide) ?_
            refine lv_icmp_le (tgt := 61) hx hb dX9_sheet_51 (by decide) (fun c_43 => ?_) (fun c_43 => ?_)
            · skip
              obtain ⟨y_44, hy_44, rfl⟩ := xrange2 (w := 40) (by omega) c_41 c_43
              refine lv_aload_n hx hb dX9_sheet_61 rfl (lv_at hl 0 rfl) ?_
              refine xg hF kf_X9_43 hK hP 0 rfl rfl dX9_sheet_62 ?_
              refine lv_iload_n hx hb dX9_sheet_65 rfl (lv_at hl 1 rfl) ?_
              refine lv_iload_n hx hb dX9_sheet_66 rfl (lv_at hl 2 rfl) ?_
              refine va_iast hx hb hK hP hD hS 1 0 rfl rfl (vp_in_nI (show y_42 < 4 by omega) (by decide)) dX9_sheet_67 (fun H locs hP hD hS => ?_)
              rw [nI_clamp (show y_42 < 2 ^ 31 by omega)] at hP hD
              obtain ⟨f_45, ef_45⟩ : ∃ g, g = upd bi y_42 p1 := ⟨_, rfl⟩
              rw [← ef_45] at hP hD
              have hP : va_P D vwCl [(h0, .inr (9, [.ref ys, .ref yk, .ref yo, .ref yt, .int mk0, .ref yfa, .ref yfe, .int mL, .int mS, .int mM, .ref yro, .ref yhe, .ref ygr, .int mF, .int mC, .int mY, .ref yta, .int (nI (mz)), .int (nI (mf)), .int (nI (mt)), .int mv, .int mw, .ref ywa, .ref ybi, .ref ysi, .ref ynu, .ref ymo])), (ybi, .inl (cI, 4, .inl f_45)), (ysi, .inl (cI, 4, .inl sq)), (ynu, .inl (cJ, 160, .inr (.inl nb))), (yt, .inl (cI, 7, .inl mq))] H := hP
              have hD : va_D A [(h0, .inr (9, [.ref ys, .ref yk, .ref yo, .ref yt, .int mk0, .ref yfa, .ref yfe, .int mL, .int mS, .int mM, .ref yro, .ref yhe, .ref ygr, .int mF, .int mC, .int mY, .ref yta, .int (nI (mz)), .int (nI (mf)), .int (nI (mt)), .int mv, .int mw, .ref ywa, .ref ybi, .ref ysi, .ref ynu, .ref ymo])), (ybi, .inl (cI, 4, .inl f_45)), (ysi, .inl (cI, 4, .inl sq)), (ynu, .inl (cJ, 160, .inr (.inl nb))), (yt, .inl (cI, 7, .inl mq))] := hD
              refine lv_aload_n hx hb dX9_sheet_68 rfl (lv_at hl 0 rfl) ?_
              refine xg hF kf_X9_46 hK hP 0 rfl rfl dX9_sheet_69 ?_
              refine lv_iload_n hx hb dX9_sheet_72 rfl (lv_at hl 1 rfl) ?_
              refine lv_iload_n hx hb dX9_sheet_73 rfl (lv_at hl 2 rfl) ?_
              refine lv_if_ne (tgt := 81) hx hb dX9_sheet_74 (by decide) (fun c_46 => ?_) (fun c_46 => ?_)
              · skip
                refine lv_iload_n hx hb dX9_sheet_81 rfl (lv_at hl 3 rfl) ?_
                refine va_iast hx hb hK hP hD hS 2 0 rfl rfl (vp_in_nI (show y_42 < 4 by omega) (by decide)) dX9_sheet_82 (fun H locs hP hD hS => ?_)
                rw [nI_clamp (show y_42 < 2 ^ 31 by omega)] at hP hD
                obtain ⟨f_47, ef_47⟩ : ∃ g, g = upd sq y_42 (nI (y_44)) := ⟨_, rfl⟩
                rw [← ef_47] at hP hD
                have hf_47 : BA 4 41 f_47 := by rw [ef_47]; exact BA.upd hsq (show y_44 < 41 by omega)
                have hP : va_P D vwCl [(h0, .inr (9, [.ref ys, .ref yk, .ref yo, .ref yt, .int mk0, .ref yfa, .ref yfe, .int mL, .int mS, .int mM, .ref yro, .ref yhe, .ref ygr, .int mF, .int mC, .int mY, .ref yta, .int (nI (mz)), .int (nI (mf)), .int (nI (mt)), .int mv, .int mw, .ref ywa, .ref ybi, .ref ysi, .ref ynu, .ref ymo])), (ybi, .inl (cI, 4, .inl f_45)), (ysi, .inl (cI, 4, .inl f_47)), (ynu, .inl (cJ, 160, .inr (.inl nb))), (yt, .inl (cI, 7, .inl mq))] H := hP
                have hD : va_D A [(h0, .inr (9, [.ref ys, .ref yk, .ref yo, .ref yt, .int mk0, .ref yfa, .ref yfe, .int mL, .int mS, .int mM, .ref yro, .ref yhe, .ref ygr, .int mF, .int mC, .int mY, .ref yta, .int (nI (mz)), .int (nI (mf)), .int (nI (mt)), .int mv, .int mw, .ref ywa, .ref ybi, .ref ysi, .ref ynu, .ref ymo])), (ybi, .inl (cI, 4, .inl f_45)), (ysi, .inl (cI, 4, .inl f_47)), (ynu, .inl (cJ, 160, .inr (.inl nb))), (yt, .inl (cI, 7, .inl mq))] := hD
                refine lv_iconst (v := 0) hx hb dX9_sheet_83 (by decide) ?_
                refine lv_istore (lv' := [(4, .int 0), (0, .ref h0), (1, .int (nI (y_42))), (2, .int p1), (3, .int (nI (y_44)))]) hx hb dX9_sheet_84 hl (by decide) rfl (fun ls hl => ?_)
                suffices loop_86 : ∀ (n_86 : Nat) (i : Nat) (n8 : Nat → Int64) (H : Heap) (locs : List Loc) (ls : Array Slot), 40 - i < n_86 → (i ≤ 40) → va_P D vwCl [(h0, .inr (9, [.ref ys, .ref yk, .ref yo, .ref yt, .int mk0, .ref yfa, .ref yfe, .int mL, .int mS, .int mM, .ref yro, .ref yhe, .ref ygr, .int mF, .int mC, .int mY, .ref yta, .int (nI (mz)), .int (nI (mf)), .int (nI (mt)), .int mv, .int mw, .ref ywa, .ref ybi, .ref ysi, .ref ynu, .ref ymo])), (ybi, .inl (cI, 4, .inl f_45)), (ysi, .inl (cI, 4, .inl f_47)), (ynu, .inl (cJ, 160, .inr (.inl n8))), (yt, .inl (cI, 7, .inl mq))] H → va_D A [(h0, .inr (9, [.ref ys, .ref yk, .ref yo, .ref yt, .int mk0, .ref yfa, .ref yfe, .int mL, .int mS, .int mM, .ref yro, .ref yhe, .ref ygr, .int mF, .int mC, .int mY, .ref yta, .int (nI (mz)), .int (nI (mf)), .int (nI (mt)), .int mv, .int mw, .ref ywa, .ref ybi, .ref ysi, .ref ynu, .ref ymo])), (ybi, .inl (cI, 4, .inl f_45)), (ysi, .inl (cI, 4, .inl f_47)), (ynu, .inl (cJ, 160, .inr (.inl n8))), (yt, .inl (cI, 7, .inl mq))] → va_S A s.heap H locs → lv_has ls 5 [(4, .int (nI (i))), (0, .ref h0), (1, .int (nI (y_42))), (2, .int p1), (3, .int (nI (y_44)))] → W p l e ({ frames := 2, cells := 0, slots := 0, locals := 45 }) s m ([.ref h0, .int (nI (y_42)), .int p1, .int (nI (y_44))] : List Value).toArray below meth c H locs 0 0 (MQ below (XQi (fun (r : Int32) (u : (Nat → Int32) × (Nat → Int32) × (Nat → Int64) × (Nat → Int32)) => match u with | (bi2, sq2, nb2, mq2) => ((r = a_sheet (nI (y_42)) p1 (nI (y_44)))) ∧ (BA 4 41 sq2)) D (fun (u : (Nat → Int32) × (Nat → Int32) × (Nat → Int64) × (Nat → Int32)) => match u with | (bi2, sq2, nb2, mq2) => [(h0, .inr (9, [.ref ys, .ref yk, .ref yo, .ref yt, .int mk0, .ref yfa, .ref yfe, .int mL, .int mS, .int mM, .ref yro, .ref yhe, .ref ygr, .int mF, .int mC, .int mY, .ref yta, .int (nI (mz)), .int (nI (mf)), .int (nI (mt)), .int mv, .int mw, .ref ywa, .ref ybi, .ref ysi, .ref ynu, .ref ymo])), (ybi, .inl (cI, 4, .inl bi2)), (ysi, .inl (cI, 4, .inl sq2)), (ynu, .inl (cJ, 160, .inr (.inl nb2))), (yt, .inl (cI, 7, .inl mq2))]) A) ([.ref h0, .int (nI (y_42)), .int p1, .int (nI (y_44))] : List Value).toArray s 0 0 A) (F0 m 86 ls []) by
                  exact loop_86 _ 0 nb _ _ _ (Nat.lt_succ_self _) (by omega) hP hD hS (lv_sub hl [0, 1, 2, 3, 4] rfl)
                intro n_86
                induction n_86 with
                | zero =>
                  intro i n8 H locs ls hm_86
                  exact absurd hm_86 (Nat.not_lt_zero _)
                | succ n_86 ih_86 =>
                  intro i n8 H locs ls hm_86 hi hP hD hS hl
                  refine lv_iload hx hb dX9_sheet_86 (lv_at hl 0 rfl) ?_
                  refine lv_bipush (v := 40) hx hb dX9_sheet_88 (by decide) ?_
                  refine lv_icmp_ge (tgt := 112) hx hb dX9_sheet_90 (by decide) (fun c_48 => ?_) (fun c_48 => ?_)
                  · skip
                    have nc_48 : 40 ≤ i := xn_le (a := 40) (b := i) (by omega) (by omega) c_48
                    refine lv_aload_n hx hb dX9_sheet_112 rfl (lv_at hl 1 rfl) ?_
                    refine xg hF kf_X9_46 hK hP 0 rfl rfl dX9_sheet_113 ?_
                    refine lv_iload_n hx hb dX9_sheet_116 rfl (lv_at hl 2 rfl) ?_
                    refine va_iald hx hb hK hP 2 0 rfl rfl (vp_in_nI (show y_42 < 4 by omega) (by decide)) dX9_sheet_117 ?_
                    refine xl_i (y := f_47 y_42) (congrArg f_47 (nI_clamp (show y_42 < 2 ^ 31 by omega))) ?_
                    refine xl_i (y := nI (y_44)) (by rw [ef_47]; exact pk_us) ?_
                    exact W.iret (v := nI (y_44)) hx hb hr (fun t ht hW => ⟨⟨nI (y_44), (f_45, f_47, n8, mq), rfl, ⟨p_sheet6 (nI_pos (by omega)) (x_le3 (by omega)) (by first | exact Or.inl (by assumption) | exact Or.inr (Or.inl (by assumption)) | exact Or.inr (Or.inr (Or.inl (by assumption))) | exact Or.inr (Or.inr (Or.inr (by assumption)))) (nI_pos (by omega)) (x_le40 (by omega)) (by assumption), hf_47⟩, by rw [ht]; exact hP.sub [0, 1, 2, 3, 4] rfl, hD.sub [0, 1, 2, 3, 4] (by decide +kernel) rfl⟩, hS.F ht⟩) hS.2.2 dX9_sheet_118 hlk
                  · skip
                    have nc_48 : i < 40 := xn_nle (a := 40) (b := i) (by omega) (by omega) c_48
                    refine lv_aload_n hx hb dX9_sheet_93 rfl (lv_at hl 1 rfl) ?_
                    refine xg hF kf_X9_49 hK hP 0 rfl rfl dX9_sheet_94 ?_
                    refine lv_bipush (v := 40) hx hb dX9_sheet_97 (by decide) ?_
                    refine lv_iload_n hx hb dX9_sheet_99 rfl (lv_at hl 2 rfl) ?_
                    refine lv_imul hx hb dX9_sheet_100 ?_
                    refine xl_i (y := nI (40 * y_42)) (pk_mul 40 y_42) ?_
                    refine lv_iload hx hb dX9_sheet_101 (lv_at hl 0 rfl) ?_
                    refine lv_iadd hx hb dX9_sheet_103 ?_
                    refine xl_i (y := nI (40 * y_42 + i)) (nI_add (40 * y_42) i) ?_
                    refine lv_lconst (v := 0) hx hb dX9_sheet_104 (by decide) ?_
                    refine va_last hx hb hK hP hD hS 3 1 rfl rfl (vp_in_nI (show 40 * y_42 + i < 160 by omega) (by decide)) dX9_sheet_105 (fun H locs hP hD hS => ?_)
                    rw [nI_clamp (show 40 * y_42 + i < 2 ^ 31 by omega)] at hP hD
                    obtain ⟨f_49, ef_49⟩ : ∃ g, g = vp_updL n8 (40 * y_42 + i) 0 := ⟨_, rfl⟩
                    rw [← ef_49] at hP hD
                    have hP : va_P D vwCl [(h0, .inr (9, [.ref ys, .ref yk, .ref yo, .ref yt, .int mk0, .ref yfa, .ref yfe, .int mL, .int mS, .int mM, .ref yro, .ref yhe, .ref ygr, .int mF, .int mC, .int mY, .ref yta, .int (nI (mz)), .int (nI (mf)), .int (nI (mt)), .int mv, .int mw, .ref ywa, .ref ybi, .ref ysi, .ref ynu, .ref ymo])), (ybi, .inl (cI, 4, .inl f_45)), (ysi, .inl (cI, 4, .inl f_47)), (ynu, .inl (cJ, 160, .inr (.inl f_49))), (yt, .inl (cI, 7, .inl mq))] H := hP
                    have hD : va_D A [(h0, .inr (9, [.ref ys, .ref yk, .ref yo, .ref yt, .int mk0, .ref yfa, .ref yfe, .int mL, .int mS, .int mM, .ref yro, .ref yhe, .ref ygr, .int mF, .int mC, .int mY, .ref yta, .int (nI (mz)), .int (nI (mf)), .int (nI (mt)), .int mv, .int mw, .ref ywa, .ref ybi, .ref ysi, .ref ynu, .ref ymo])), (ybi, .inl (cI, 4, .inl f_45)), (ysi, .inl (cI, 4, .inl f_47)), (ynu, .inl (cJ, 160, .inr (.inl f_49))), (yt, .inl (cI, 7, .inl mq))] := hD
                    refine lv_iinc (v := nI (i + 1)) (lv' := [(4, .int (nI (i + 1))), (0, .ref h0), (1, .int (nI (y_42))), (2, .int p1), (3, .int (nI (y_44)))]) hx hb dX9_sheet_106 hl (k := 0) rfl (nI_1 (i)) (by decide) rfl (fun ls hl => ?_)
                    refine lv_goto (tgt := 86) hx hb dX9_sheet_109 (by decide) ?_
                    exact ih_86 (i + 1) f_49 _ _ _ (by omega) (by omega) (hP.sub [0, 1, 2, 3, 4] rfl) (hD.sub [0, 1, 2, 3, 4] (by decide +kernel) rfl) hS (lv_sub hl [0, 1, 2, 3, 4] rfl)
              · skip
                refine lv_iconst (v := 0) hx hb dX9_sheet_77 (by decide) ?_
                refine lv_goto (tgt := 82) hx hb dX9_sheet_78 (by decide) ?_
                refine va_iast hx hb hK hP hD hS 2 0 rfl rfl (vp_in_nI (show y_42 < 4 by omega) (by decide)) dX9_sheet_82 (fun H locs hP hD hS => ?_)
                rw [nI_clamp (show y_42 < 2 ^ 31 by omega)] at hP hD
                obtain ⟨f_50, ef_50⟩ : ∃ g, g = upd sq y_42 0 := ⟨_, rfl⟩
                rw [← ef_50] at hP hD
                have hf_50 : BA 4 41 f_50 := by rw [ef_50]; exact BA.upd hsq (show 0 < 41 by omega)
                have hP : va_P D vwCl [(h0, .inr (9, [.ref ys, .ref yk, .ref yo, .ref yt, .int mk0, .ref yfa, .ref yfe, .int mL, .int mS, .int mM, .ref yro, .ref yhe, .ref ygr, .int mF, .int mC, .int mY, .ref yta, .int (nI (mz)), .int (nI (mf)), .int (nI (mt)), .int mv, .int mw, .ref ywa, .ref ybi, .ref ysi, .ref ynu, .ref ymo])), (ybi, .inl (cI, 4, .inl f_45)), (ysi, .inl (cI, 4, .inl f_50)), (ynu, .inl (cJ, 160, .inr (.inl nb))), (yt, .inl (cI, 7, .inl mq))] H := hP
                have hD : va_D A [(h0, .inr (9, [.ref ys, .ref yk, .ref yo, .ref yt, .int mk0, .ref yfa, .ref yfe, .int mL, .int mS, .int mM, .ref yro, .ref yhe, .ref ygr, .int mF, .int mC, .int mY, .ref yta, .int (nI (mz)), .int (nI (mf)), .int (nI (mt)), .int mv, .int mw, .ref ywa, .ref ybi, .ref ysi, .ref ynu, .ref ymo])), (ybi, .inl (cI, 4, .inl f_45)), (ysi, .inl (cI, 4, .inl f_50)), (ynu, .inl (cJ, 160, .inr (.inl nb))), (yt, .inl (cI, 7, .inl mq))] := hD
                refine lv_iconst (v := 0) hx hb dX9_sheet_83 (by decide) ?_
                refine lv_istore (lv' := [(4, .int 0), (0, .ref h0), (1, .int (nI (y_42))), (2, .int p1), (3, .int (nI (y_44)))]) hx hb dX9_sheet_84 hl (by decide) rfl (fun ls hl => ?_)
                suffices loop_86 : ∀ (n_86 : Nat) (i : Nat) (n8 : Nat → Int64) (H : Heap) (locs : List Loc) (ls : Array Slot), 40 - i < n_86 → (i ≤ 40) → va_P D vwCl [(h0, .inr (9, [.ref ys, .ref yk, .ref yo, .ref yt, .int mk0, .ref yfa, .ref yfe, .int mL, .int mS, .int mM, .ref yro, .ref yhe, .ref ygr, .int mF, .int mC, .int mY, .ref yta, .int (nI (mz)), .int (nI (mf)), .int (nI (mt)), .int mv, .int mw, .ref ywa, .ref ybi, .ref ysi, .ref ynu, .ref ymo])), (ybi, .inl (cI, 4, .inl f_45)), (ysi, .inl (cI, 4, .inl f_50)), (ynu, .inl (cJ, 160, .inr (.inl n8))), (yt, .inl (cI, 7, .inl mq))] H → va_D A [(h0, .inr (9, [.ref ys, .ref yk, .ref yo, .ref yt, .int mk0, .ref yfa, .ref yfe, .int mL, .int mS, .int mM, .ref yro, .ref yhe, .ref ygr, .int mF, .int mC, .int mY, .ref yta, .int (nI (mz)), .int (nI (mf)), .int (nI (mt)), .int mv, .int mw, .ref ywa, .ref ybi, .ref ysi, .ref ynu, .ref ymo])), (ybi, .inl (cI, 4, .inl f_45)), (ysi, .inl (cI, 4, .inl f_50)), (ynu, .inl (cJ, 160, .inr (.inl n8))), (yt, .inl (cI, 7, .inl mq))] → va_S A s.heap H locs → lv_has ls 5 [(4, .int (nI (i))), (0, .ref h0), (1, .int (nI (y_42))), (2, .int p1), (3, .int (nI (y_44)))] → W p l e ({ frames := 2, cells := 0, slots := 0, locals := 45 }) s m ([.ref h0, .int (nI (y_42)), .int p1, .int (nI (y_44))] : List Value).toArray below meth c H locs 0 0 (MQ below (XQi (fun (r : Int32) (u : (Nat → Int32) × (Nat → Int32) × (Nat → Int64) × (Nat → Int32)) => match u with | (bi2, sq2, nb2, mq2) => ((r = a_sheet (nI (y_42)) p1 (nI (y_44)))) ∧ (BA 4 41 sq2)) D (fun (u : (Nat → Int32) × (Nat → Int32) × (Nat → Int64) × (Nat → Int32)) => match u with | (bi2, sq2, nb2, mq2) => [(h0, .inr (9, [.ref ys, .ref yk, .ref yo, .ref yt, .int mk0, .ref yfa, .ref yfe, .int mL, .int mS, .int mM, .ref yro, .ref yhe, .ref ygr, .int mF, .int mC, .int mY, .ref yta, .int (nI (mz)), .int (nI (mf)), .int (nI (mt)), .int mv, .int mw, .ref ywa, .ref ybi, .ref ysi, .ref ynu, .ref ymo])), (ybi, .inl (cI, 4, .inl bi2)), (ysi, .inl (cI, 4, .inl sq2)), (ynu, .inl (cJ, 160, .inr (.inl nb2))), (yt, .inl (cI, 7, .inl mq2))]) A) ([.ref h0, .int (nI (y_42)), .int p1, .int (nI (y_44))] : List Value).toArray s 0 0 A) (F0 m 86 ls []) by
                  exact loop_86 _ 0 nb _ _ _ (Nat.lt_succ_self _) (by omega) hP hD hS (lv_sub hl [0, 1, 2, 3, 4] rfl)
                intro n_86
                induction n_86 with
                | zero =>
                  intro i n8 H locs ls hm_86
                  exact absurd hm_86 (Nat.not_lt_zero _)
                | succ n_86 ih_86 =>
                  intro i n8 H locs ls hm_86 hi hP hD hS hl
                  refine lv_iload hx hb dX9_sheet_86 (lv_at hl 0 rfl) ?_
                  refine lv_bipush (v := 40) hx hb dX9_sheet_88 (by decide) ?_
                  refine lv_icmp_ge (tgt := 112) hx hb dX9_sheet_90 (by decide) (fun c_51 => ?_) (fun c_51 => ?_)
                  · skip
                    have nc_51 : 40 ≤ i := xn_le (a := 40) (b := i) (by omega) (by omega) c_51
                    refine lv_aload_n hx hb dX9_sheet_112 rfl (lv_at hl 1 rfl) ?_
                    refine xg hF kf_X9_46 hK hP 0 rfl rfl dX9_sheet_113 ?_
                    refine lv_iload_n hx hb dX9_sheet_116 rfl (lv_at hl 2 rfl) ?_
                    refine va_iald hx hb hK hP 2 0 rfl rfl (vp_in_nI (show y_42 < 4 by omega) (by decide)) dX9_sheet_117 ?_
                    refine xl_i (y := f_50 y_42) (congrArg f_50 (nI_clamp (show y_42 < 2 ^ 31 by omega))) ?_
                    refine xl_i (y := 0) (by rw [ef_50]; exact pk_us) ?_
                    exact W.iret (v := 0) hx hb hr (fun t ht hW => ⟨⟨0, (f_45, f_50, n8, mq), rfl, ⟨p_sheet5 (nI_pos (by omega)) (x_le3 (by omega)) c_46 (nI_pos (by omega)) (x_le40 (by omega)), hf_50⟩, by rw [ht]; exact hP.sub [0, 1, 2, 3, 4] rfl, hD.sub [0, 1, 2, 3, 4] (by decide +kernel) rfl⟩, hS.F ht⟩) hS.2.2 dX9_sheet_118 hlk
                  · skip
                    have nc_51 : i < 40 := xn_nle (a := 40) (b := i) (by omega) (by omega) c_51
                    refine lv_aload_n hx hb dX9_sheet_93 rfl (lv_at hl 1 rfl) ?_
                    refine xg hF kf_X9_49 hK hP 0 rfl rfl dX9_sheet_94 ?_
                    refine lv_bipush (v := 40) hx hb dX9_sheet_97 (by decide) ?_
                    refine lv_iload_n hx hb dX9_sheet_99 rfl (lv_at hl 2 rfl) ?_
                    refine lv_imul hx hb dX9_sheet_100 ?_
                    refine xl_i (y := nI (40 * y_42)) (pk_mul 40 y_42) ?_
                    refine lv_iload hx hb dX9_sheet_101 (lv_at hl 0 rfl) ?_
                    refine lv_iadd hx hb dX9_sheet_103 ?_
                    refine xl_i (y := nI (40 * y_42 + i)) (nI_add (40 * y_42) i) ?_
                    refine lv_lconst (v := 0) hx hb dX9_sheet_104 (by decide) ?_
                    refine va_last hx hb hK hP hD hS 3 1 rfl rfl (vp_in_nI (show 40 * y_42 + i < 160 by omega) (by decide)) dX9_sheet_105 (fun H locs hP hD hS => ?_)
                    rw [nI_clamp (show 40 * y_42 + i < 2 ^ 31 by omega)] at hP hD
                    obtain ⟨f_52, ef_52⟩ : ∃ g, g = vp_updL n8 (40 * y_42 + i) 0 := ⟨_, rfl⟩
                    rw [← ef_52] at hP hD
                    have hP : va_P D vwCl [(h0, .inr (9, [.ref ys, .ref yk, .ref yo, .ref yt, .int mk0, .ref yfa, .ref yfe, .int mL, .int mS, .int mM, .ref yro, .ref yhe, .ref ygr, .int mF, .int mC, .int mY, .ref yta, .int (nI (mz)), .int (nI (mf)), .int (nI (mt)), .int mv, .int mw, .ref ywa, .ref ybi, .ref ysi, .ref ynu, .ref ymo])), (ybi, .inl (cI, 4, .inl f_45)), (ysi, .inl (cI, 4, .inl f_50)), (ynu, .inl (cJ, 160, .inr (.inl f_52))), (yt, .inl (cI, 7, .inl mq))] H := hP
                    have hD : va_D A [(h0, .inr (9, [.ref ys, .ref yk, .ref yo, .ref yt, .int mk0, .ref yfa, .ref yfe, .int mL, .int mS, .int mM, .ref yro, .ref yhe, .ref ygr, .int mF, .int mC, .int mY, .ref yta, .int (nI (mz)), .int (nI (mf)), .int (nI (mt)), .int mv, .int mw, .ref ywa, .ref ybi, .ref ysi, .ref ynu, .ref ymo])), (ybi, .inl (cI, 4, .inl f_45)), (ysi, .inl (cI, 4, .inl f_50)), (ynu, .inl (cJ, 160, .inr (.inl f_52))), (yt, .inl (cI, 7, .inl mq))] := hD
                    refine lv_iinc (v := nI (i + 1)) (lv' := [(4, .int (nI (i + 1))), (0, .ref h0), (1, .int (nI (y_42))), (2, .int p1), (3, .int (nI (y_44)))]) hx hb dX9_sheet_106 hl (k := 0) rfl (nI_1 (i)) (by decide) rfl (fun ls hl => ?_)
                    refine lv_goto (tgt := 86) hx hb dX9_sheet_109 (by decide) ?_
                    exact ih_86 (i + 1) f_52 _ _ _ (by omega) (by omega) (hP.sub [0, 1, 2, 3, 4] rfl) (hD.sub [0, 1, 2, 3, 4] (by decide +kernel) rfl) hS (lv_sub hl [0, 1, 2, 3, 4] rfl)
            · skip
              refine lv_aload_n hx hb dX9_sheet_54 rfl (lv_at hl 0 rfl) ?_
              refine lv_ldc (v := (-1000000001)) hx hb hown (hu _ uw648) dX9_sheet_55 ?_
              refine xc_Vi (wr := [(ybi, .inl (cI, 4, .inl bi)), (ysi, .inl (cI, 4, .inl sq)), (ynu, .inl (cJ, 160, .inr (.inl nb)))]) hF (c_X9_finds_B l D cI cJ cZ cS ta sa sv s.heap.size h0 ys yk yo yt mk0 yfa yfe mL mS mM yro yhe ygr mF mC mY yta mz mf mt mv mw ywa ybi ysi ynu ymo mq ) kv_X9_70 ⟨rfl, rfl, Nat.le_of_ble_eq_true rfl, Nat.le_of_ble_eq_true rfl⟩ ⟨Nat.le_of_ble_eq_true rfl, Nat.le_of_ble_eq_true rfl⟩ hK hN hZ hP hD hS hA [0, 4] [1, 2, 3] rfl rfl rfl rfl (by decide) 0 rfl rfl rfl rfl hl.1 rfl (Nat.le_of_ble_eq_true rfl) dX9_sheet_57 (fun r_53 u_r_53 H locs hw_r_53 hP hD hS => ?_)
              obtain ⟨mq2_54, rfl⟩ : ∃ z, z = u_r_53 := ⟨_, rfl⟩
              try dsimp only at hw_r_53
              have hP : va_P D vwCl [(ybi, .inl (cI, 4, .inl bi)), (ysi, .inl (cI, 4, .inl sq)), (ynu, .inl (cJ, 160, .inr (.inl nb))), (h0, .inr (9, [.ref ys, .ref yk, .ref yo, .ref yt, .int mk0, .ref yfa, .ref yfe, .int mL, .int mS, .int mM, .ref yro, .ref yhe, .ref ygr, .int mF, .int mC, .int mY, .ref yta, .int (nI (mz)), .int (nI (mf)), .int (nI (mt)), .int mv, .int mw, .ref ywa, .ref ybi, .ref ysi, .ref ynu, .ref ymo])), (yt, .inl (cI, 7, .inl mq2_54))] H := hP
              have hD : va_D A [(ybi, .inl (cI, 4, .inl bi)), (ysi, .inl (cI, 4, .inl sq)), (ynu, .inl (cJ, 160, .inr (.inl nb))), (h0, .inr (9, [.ref ys, .ref yk, .ref yo, .ref yt, .int mk0, .ref yfa, .ref yfe, .int mL, .int mS, .int mM, .ref yro, .ref yhe, .ref ygr, .int mF, .int mC, .int mY, .ref yta, .int (nI (mz)), .int (nI (mf)), .int (nI (mt)), .int mv, .int mw, .ref ywa, .ref ybi, .ref ysi, .ref ynu, .ref ymo])), (yt, .inl (cI, 7, .inl mq2_54))] := hD
              subst hw_r_53
              exact W.iret (v := (-1000000001)) hx hb hr (fun t ht hW => ⟨⟨(-1000000001), (bi, sq, nb, mq2_54), rfl, ⟨p_sheet4 (nI_pos (by omega)) (x_le3 (by omega)) (by first | exact Or.inl (by assumption) | exact Or.inr (Or.inl (by assumption)) | exact Or.inr (Or.inr (Or.inl (by assumption))) | exact Or.inr (Or.inr (Or.inr (by assumption)))) (fun h => absurd c_41 (Int32.not_le.mpr h)) (xlt c_43), hsq⟩, by rw [ht]; exact hP.sub [3, 0, 1, 2, 4] rfl, hD.sub [3, 0, 1, 2, 4] (by decide +kernel) rfl⟩, hS.F ht⟩) hS.2.2 dX9_sheet_60 hlk
          · skip
            refine lv_aload_n hx hb dX9_sheet_40 rfl (lv_at hl 0 rfl) ?_
            refine lv_ldcw (v := (-1000000007)) hx hb hown (hu _ uw912) dX9_sheet_41 ?_
            refine xc_Vi (wr := [(ybi, .inl (cI, 4, .inl bi)), (ysi, .inl (cI, 4, .inl sq)), (ynu, .inl (cJ, 160, .inr (.inl nb)))]) hF (c_X9_finds_S l D cI cJ cZ cS ta sa sv s.heap.size h0 ys yk yo yt mk0 yfa yfe mL mS mM yro yhe ygr mF mC mY yta mz mf mt mv mw ywa ybi ysi ynu ymo mq ) kv_X9_70 ⟨rfl, rfl, Nat.le_of_ble_eq_true rfl, Nat.le_of_ble_eq_true rfl⟩ ⟨Nat.le_of_ble_eq_true rfl, Nat.le_of_ble_eq_true rfl⟩ hK hN hZ hP hD hS hA [0, 4] [1, 2, 3] rfl rfl rfl rfl (by decide) 0 rfl rfl rfl rfl hl.1 rfl (Nat.le_of_ble_eq_true rfl) dX9_sheet_44 (fun r_55 u_r_55 H locs hw_r_55 hP hD hS => ?_)
            obtain ⟨mq2_56, rfl⟩ : ∃ z, z = u_r_55 := ⟨_, rfl⟩
            try dsimp only at hw_r_55
            have hP : va_P D vwCl [(ybi, .inl (cI, 4, .inl bi)), (ysi, .inl (cI, 4, .inl sq)), (ynu, .inl (cJ, 160, .inr (.inl nb))), (h0, .inr (9, [.ref ys, .ref yk, .ref yo, .ref yt, .int mk0, .ref yfa, .ref yfe, .int mL, .int mS, .int mM, .ref yro, .ref yhe, .ref ygr, .int mF, .int mC, .int mY, .ref yta, .int (nI (mz)), .int (nI (mf)), .int (nI (mt)), .int mv, .int mw, .ref ywa, .ref ybi, .ref ysi, .ref ynu, .ref ymo])), (yt, .inl (cI, 7, .inl mq2_56))] H := hP
            have hD : va_D A [(ybi, .inl (cI, 4, .inl bi)), (ysi, .inl (cI, 4, .inl sq)), (ynu, .inl (cJ, 160, .inr (.inl nb))), (h0, .inr (9, [.ref ys, .ref yk, .ref yo, .ref yt, .int mk0, .ref yfa, .ref yfe, .int mL, .int mS, .int mM, .ref yro, .ref yhe, .ref ygr, .int mF, .int mC, .int mY, .ref yta, .int (nI (mz)), .int (nI (mf)), .int (nI (mt)), .int mv, .int mw, .ref ywa, .ref ybi, .ref ysi, .ref ynu, .ref ymo])), (yt, .inl (cI, 7, .inl mq2_56))] := hD
            subst hw_r_55
            exact W.iret (v := (-1000000007)) hx hb hr (fun t ht hW => ⟨⟨(-1000000007), (bi, sq, nb, mq2_56), rfl, ⟨p_sheet3 h_2 h_3 (by first | exact Or.inl (by assumption) | exact Or.inr (Or.inl (by assumption)) | exact Or.inr (Or.inr (Or.inl (by assumption))) | exact Or.inr (Or.inr (Or.inr (by assumption)))) (xlt c_41), hsq⟩, by rw [ht]; exact hP.sub [3, 0, 1, 2, 4] rfl, hD.sub [3, 0, 1, 2, 4] (by decide +kernel) rfl⟩, hS.F ht⟩) hS.2.2 dX9_sheet_47 hlk
        · skip
          refine lv_iload_n hx hb dX9_sheet_23 rfl (lv_at hl 2 rfl) ?_
          refine lv_bipush (v := 64) hx hb dX9_sheet_24 (by decide) ?_
          refine lv_icmp_eq (tgt := 36) hx hb dX9_sheet_26 (by decide) (fun c_57 => ?_) (fun c_57 => ?_)
          · skip
            refine lv_iload_n hx hb dX9_sheet_36 rfl (lv_at hl 3 rfl) ?_
            refine lv_if_ge (tgt := 48) hx hb dX9_sheet_37 (by decide) (fun c_58 => ?_) (fun c_58 => ?_)
            · skip
              obtain ⟨y_59, hy_59, rfl⟩ := xrange (w := 3) (by omega) h_2 h_3
              refine lv_iload_n hx hb dX9_sheet_48 rfl (lv_at hl 3 rfl) ?_
              refine lv_bipush (v := 40) hx hb dX9_sheet_49 (by decide) ?_
              refine lv_icmp_le (tgt := 61) hx hb dX9_sheet_51 (by decide) (fun c_60 => ?_) (fun c_60 => ?_)
              · skip
                obtain ⟨y_61, hy_61, rfl⟩ := xrange2 (w := 40) (by omega) c_58 c_60
                refine lv_aload_n hx hb dX9_sheet_61 rfl (lv_at hl 0 rfl) ?_
                refine xg hF kf_X9_43 hK hP 0 rfl rfl dX9_sheet_62 ?_
                refine lv_iload_n hx hb dX9_sheet_65 rfl (lv_at hl 1 rfl) ?_
                refine lv_iload_n hx hb dX9_sheet_66 rfl (lv_at hl 2 rfl) ?_
                refine va_iast hx hb hK hP hD hS 1 0 rfl rfl (vp_in_nI (show y_59 < 4 by omega) (by decide)) dX9_sheet_67 (fun H locs hP hD hS => ?_)
                rw [nI_clamp (show y_59 < 2 ^ 31 by omega)] at hP hD
                obtain ⟨f_62, ef_62⟩ : ∃ g, g = upd bi y_59 p1 := ⟨_, rfl⟩
                rw [← ef_62] at hP hD
                have hP : va_P D vwCl [(h0, .inr (9, [.ref ys, .ref yk, .ref yo, .ref yt, .int mk0, .ref yfa, .ref yfe, .int mL, .int mS, .int mM, .ref yro, .ref yhe, .ref ygr, .int mF, .int mC, .int mY, .ref yta, .int (nI (mz)), .int (nI (mf)), .int (nI (mt)), .int mv, .int mw, .ref ywa, .ref ybi, .ref ysi, .ref ynu, .ref ymo])), (ybi, .inl (cI, 4, .inl f_62)), (ysi, .inl (cI, 4, .inl sq)), (ynu, .inl (cJ, 160, .inr (.inl nb))), (yt, .inl (cI, 7, .inl mq))] H := hP
                have hD : va_D A [(h0, .inr (9, [.ref ys, .ref yk, .ref yo, .ref yt, .int mk0, .ref yfa, .ref yfe, .int mL, .int mS, .int mM, .ref yro, .ref yhe, .ref ygr, .int mF, .int mC, .int mY, .ref yta, .int (nI (mz)), .int (nI (mf)), .int (nI (mt)), .int mv, .int mw, .ref ywa, .ref ybi, .ref ysi, .ref ynu, .ref ymo])), (ybi, .inl (cI, 4, .inl f_62)), (ysi, .inl (cI, 4, .inl sq)), (ynu, .inl (cJ, 160, .inr (.inl nb))), (yt, .inl (cI, 7, .inl mq))] := hD
                refine lv_aload_n hx hb dX9_sheet_68 rfl (lv_at hl 0 rfl) ?_
                refine xg hF kf_X9_46 hK hP 0 rfl rfl dX9_sheet_69 ?_
                refine lv_iload_n hx hb dX9_sheet_72 rfl (lv_at hl 1 rfl) ?_
                refine lv_iload_n hx hb dX9_sheet_73 rfl (lv_at hl 2 rfl) ?_
                refine lv_if_ne (tgt := 81) hx hb dX9_sheet_74 (by decide) (fun c_63 => ?_) (fun c_63 => ?_)
                · skip
                  refine lv_iload_n hx hb dX9_sheet_81 rfl (lv_at hl 3 rfl) ?_
                  refine va_iast hx hb hK hP hD hS 2 0 rfl rfl (vp_in_nI (show y_59 < 4 by omega) (by decide)) dX9_sheet_82 (fun H locs hP hD hS => ?_)
                  rw [nI_clamp (show y_59 < 2 ^ 31 by omega)] at hP hD
                  obtain ⟨f_64, ef_64⟩ : ∃ g, g = upd sq y_59 (nI (y_61)) := ⟨_, rfl⟩
                  rw [← ef_64] at hP hD
                  have hf_64 : BA 4 41 f_64 := by rw [ef_64]; exact BA.upd hsq (show y_61 < 41 by omega)
                  have hP : va_P D vwCl [(h0, .inr (9, [.ref ys, .ref yk, .ref yo, .ref yt, .int mk0, .ref yfa, .ref yfe, .int mL, .int mS, .int mM, .ref yro, .ref yhe, .ref ygr, .int mF, .int mC, .int mY, .ref yta, .int (nI (mz)), .int (nI (mf)), .int (nI (mt)), .int mv, .int mw, .ref ywa, .ref ybi, .ref ysi, .ref ynu, .ref ymo])), (ybi, .inl (cI, 4, .inl f_62)), (ysi, .inl (cI, 4, .inl f_64)), (ynu, .inl (cJ, 160, .inr (.inl nb))), (yt, .inl (cI, 7, .inl mq))] H := hP
                  have hD : va_D A [(h0, .inr (9, [.ref ys, .ref yk, .ref yo, .ref yt, .int mk0, .ref yfa, .ref yfe, .int mL, .int mS, .int mM, .ref yro, .ref yhe, .ref ygr, .int mF, .int mC, .int mY, .ref yta, .int (nI (mz)), .int (nI (mf)), .int (nI (mt)), .int mv, .int mw, .ref ywa, .ref ybi, .ref ysi, .ref ynu, .ref ymo])), (ybi, .inl (cI, 4, .inl f_62)), (ysi, .inl (cI, 4, .inl f_64)), (ynu, .inl (cJ, 160, .inr (.inl nb))), (yt, .inl (cI, 7, .inl mq))] := hD
                  refine lv_iconst (v := 0) hx hb dX9_sheet_83 (by decide) ?_
                  refine lv_istore (lv' := [(4, .int 0), (0, .ref h0), (1, .int (nI (y_59))), (2, .int p1), (3, .int (nI (y_61)))]) hx hb dX9_sheet_84 hl (by decide) rfl (fun ls hl => ?_)
                  suffices loop_86 : ∀ (n_86 : Nat) (i : Nat) (n8 : Nat → Int64) (H : Heap) (locs : List Loc) (ls : Array Slot), 40 - i < n_86 → (i ≤ 40) → va_P D vwCl [(h0, .inr (9, [.ref ys, .ref yk, .ref yo, .ref yt, .int mk0, .ref yfa, .ref yfe, .int mL, .int mS, .int mM, .ref yro, .ref yhe, .ref ygr, .int mF, .int mC, .int mY, .ref yta, .int (nI (mz)), .int (nI (mf)), .int (nI (mt)), .int mv, .int mw, .ref ywa, .ref ybi, .ref ysi, .ref ynu, .ref ymo])), (ybi, .inl (cI, 4, .inl f_62)), (ysi, .inl (cI, 4, .inl f_64)), (ynu, .inl (cJ, 160, .inr (.inl n8))), (yt, .inl (cI, 7, .inl mq))] H → va_D A [(h0, .inr (9, [.ref ys, .ref yk, .ref yo, .ref yt, .int mk0, .ref yfa, .ref yfe, .int mL, .int mS, .int mM, .ref yro, .ref yhe, .ref ygr, .int mF, .int mC, .int mY, .ref yta, .int (nI (mz)), .int (nI (mf)), .int (nI (mt)), .int mv, .int mw, .ref ywa, .ref ybi, .ref ysi, .ref ynu, .ref ymo])), (ybi, .inl (cI, 4, .inl f_62)), (ysi, .inl (cI, 4, .inl f_64)), (ynu, .inl (cJ, 160, .inr (.inl n8))), (yt, .inl (cI, 7, .inl mq))] → va_S A s.heap H locs → lv_has ls 5 [(4, .int (nI (i))), (0, .ref h0), (1, .int (nI (y_59))), (2, .int p1), (3, .int (nI (y_61)))] → W p l e ({ frames := 2, cells := 0, slots := 0, locals := 45 }) s m ([.ref h0, .int (nI (y_59)), .int p1, .int (nI (y_61))] : List Value).toArray below meth c H locs 0 0 (MQ below (XQi (fun (r : Int32) (u : (Nat → Int32) × (Nat → Int32) × (Nat → Int64) × (Nat → Int32)) => match u with | (bi2, sq2, nb2, mq2) => ((r = a_sheet (nI (y_59)) p1 (nI (y_61)))) ∧ (BA 4 41 sq2)) D (fun (u : (Nat → Int32) × (Nat → Int32) × (Nat → Int64) × (Nat → Int32)) => match u with | (bi2, sq2, nb2, mq2) => [(h0, .inr (9, [.ref ys, .ref yk, .ref yo, .ref yt, .int mk0, .ref yfa, .ref yfe, .int mL, .int mS, .int mM, .ref yro, .ref yhe, .ref ygr, .int mF, .int mC, .int mY, .ref yta, .int (nI (mz)), .int (nI (mf)), .int (nI (mt)), .int mv, .int mw, .ref ywa, .ref ybi, .ref ysi, .ref ynu, .ref ymo])), (ybi, .inl (cI, 4, .inl bi2)), (ysi, .inl (cI, 4, .inl sq2)), (ynu, .inl (cJ, 160, .inr (.inl nb2))), (yt, .inl (cI, 7, .inl mq2))]) A) ([.ref h0, .int (nI (y_59)), .int p1, .int (nI (y_61))] : List Value).toArray s 0 0 A) (F0 m 86 ls []) by
                    exact loop_86 _ 0 nb _ _ _ (Nat.lt_succ_self _) (by omega) hP hD hS (lv_sub hl [0, 1, 2, 3, 4] rfl)
                  intro n_86
                  induction n_86 with
                  | zero =>
                    intro i n8 H locs ls hm_86
                    exact absurd hm_86 (Nat.not_lt_zero _)
                  | succ n_86 ih_86 =>
                    intro i n8 H locs ls hm_86 hi hP hD hS hl
                    refine lv_iload hx hb dX9_sheet_86 (lv_at hl 0 rfl) ?_
                    refine lv_bipush (v := 40) hx hb dX9_sheet_88 (by decide) ?_
                    refine lv_icmp_ge (tgt := 112) hx hb dX9_sheet_90 (by decide) (fun c_65 => ?_) (fun c_65 => ?_)
                    · skip
                      have nc_65 : 40 ≤ i := xn_le (a := 40) (b := i) (by omega) (by omega) c_65
                      refine lv_aload_n hx hb dX9_sheet_112 rfl (lv_at hl 1 rfl) ?_
                      refine xg hF kf_X9_46 hK hP 0 rfl rfl dX9_sheet_113 ?_
                      refine lv_iload_n hx hb dX9_sheet_116 rfl (lv_at hl 2 rfl) ?_
                      refine va_iald hx hb hK hP 2 0 rfl rfl (vp_in_nI (show y_59 < 4 by omega) (by decide)) dX9_sheet_117 ?_
                      refine xl_i (y := f_64 y_59) (congrArg f_64 (nI_clamp (show y_59 < 2 ^ 31 by omega))) ?_
                      refine xl_i (y := nI (y_61)) (by rw [ef_64]; exact pk_us) ?_
                      exact W.iret (v := nI (y_61)) hx hb hr (fun t ht hW => ⟨⟨nI (y_61), (f_62, f_64, n8, mq), rfl, ⟨p_sheet6 (nI_pos (by omega)) (x_le3 (by omega)) (by first | exact Or.inl (by assumption) | exact Or.inr (Or.inl (by assumption)) | exact Or.inr (Or.inr (Or.inl (by assumption))) | exact Or.inr (Or.inr (Or.inr (by assumption)))) (nI_pos (by omega)) (x_le40 (by omega)) (by assumption), hf_64⟩, by rw [ht]; exact hP.sub [0, 1, 2, 3, 4] rfl, hD.sub [0, 1, 2, 3, 4] (by decide +kernel) rfl⟩, hS.F ht⟩) hS.2.2 dX9_sheet_118 hlk
                    · skip
                      have nc_65 : i < 40 := xn_nle (a := 40) (b := i) (by omega) (by omega) c_65
                      refine lv_aload_n hx hb dX9_sheet_93 rfl (lv_at hl 1 rfl) ?_
                      refine xg hF kf_X9_49 hK hP 0 rfl rfl dX9_sheet_94 ?_
                      refine lv_bipush (v := 40) hx hb dX9_sheet_97 (by decide) ?_
                      refine lv_iload_n hx hb dX9_sheet_99 rfl (lv_at hl 2 rfl) ?_
                      refine lv_imul hx hb dX9_sheet_100 ?_
                      refine xl_i (y := nI (40 * y_59)) (pk_mul 40 y_59) ?_
                      refine lv_iload hx hb dX9_sheet_101 (lv_at hl 0 rfl) ?_
                      refine lv_iadd hx hb dX9_sheet_103 ?_
                      refine xl_i (y := nI (40 * y_59 + i)) (nI_add (40 * y_59) i) ?_
                      refine lv_lconst (v := 0) hx hb dX9_sheet_104 (by decide) ?_
                      refine va_last hx hb hK hP hD hS 3 1 rfl rfl (vp_in_nI (show 40 * y_59 + i < 160 by omega) (by decide)) dX9_sheet_105 (fun H locs hP hD hS => ?_)
                      rw [nI_clamp (show 40 * y_59 + i < 2 ^ 31 by omega)] at hP hD
                      obtain ⟨f_66, ef_66⟩ : ∃ g, g = vp_updL n8 (40 * y_59 + i) 0 := ⟨_, rfl⟩
                      rw [← ef_66] at hP hD
                      have hP : va_P D vwCl [(h0, .inr (9, [.ref ys, .ref yk, .ref yo, .ref yt, .int mk0, .ref yfa, .ref yfe, .int mL, .int mS, .int mM, .ref yro, .ref yhe, .ref ygr, .int mF, .int mC, .int mY, .ref yta, .int (nI (mz)), .int (nI (mf)), .int (nI (mt)), .int mv, .int mw, .ref ywa, .ref ybi, .ref ysi, .ref ynu, .ref ymo])), (ybi, .inl (cI, 4, .inl f_62)), (ysi, .inl (cI, 4, .inl f_64)), (ynu, .inl (cJ, 160, .inr (.inl f_66))), (yt, .inl (cI, 7, .inl mq))] H := hP
                      have hD : va_D A [(h0, .inr (9, [.ref ys, .ref yk, .ref yo, .ref yt, .int mk0, .ref yfa, .ref yfe, .int mL, .int mS, .int mM, .ref yro, .ref yhe, .ref ygr, .int mF, .int mC, .int mY, .ref yta, .int (nI (mz)), .int (nI (mf)), .int (nI (mt)), .int mv, .int mw, .ref ywa, .ref ybi, .ref ysi, .ref ynu, .ref ymo])), (ybi, .inl (cI, 4, .inl f_62)), (ysi, .inl (cI, 4, .inl f_64)), (ynu, .inl (cJ, 160, .inr (.inl f_66))), (yt, .inl (cI, 7, .inl mq))] := hD
                      refine lv_iinc (v := nI (i + 1)) (lv' := [(4, .int (nI (i + 1))), (0, .ref h0), (1, .int (nI (y_59))), (2, .int p1), (3, .int (nI (y_61)))]) hx hb dX9_sheet_106 hl (k := 0) rfl (nI_1 (i)) (by decide) rfl (fun ls hl => ?_)
                      refine lv_goto (tgt := 86) hx hb dX9_sheet_109 (by decide) ?_
                      exact ih_86 (i + 1) f_66 _ _ _ (by omega) (by omega) (hP.sub [0, 1, 2, 3, 4] rfl) (hD.sub [0, 1, 2, 3, 4] (by decide +kernel) rfl) hS (lv_sub hl [0, 1, 2, 3, 4] rfl)
                · skip
                  refine lv_iconst (v := 0) hx hb dX9_sheet_77 (by decide) ?_
                  refine lv_goto (tgt := 82) hx hb dX9_sheet_78 (by decide) ?_
                  refine va_iast hx hb hK hP hD hS 2 0 rfl rfl (vp_in_nI (show y_59 < 4 by omega) (by decide)) dX9_sheet_82 (fun H locs hP hD hS => ?_)
                  rw [nI_clamp (show y_59 < 2 ^ 31 by omega)] at hP hD
                  obtain ⟨f_67, ef_67⟩ : ∃ g, g = upd sq y_59 0 := ⟨_, rfl⟩
                  rw [← ef_67] at hP hD
                  have hf_67 : BA 4 41 f_67 := by rw [ef_67]; exact BA.upd hsq (show 0 < 41 by omega)
                  have hP : va_P D vwCl [(h0, .inr (9, [.ref ys, .ref yk, .ref yo, .ref yt, .int mk0, .ref yfa, .ref yfe, .int mL, .int mS, .int mM, .ref yro, .ref yhe, .ref ygr, .int mF, .int mC, .int mY, .ref yta, .int (nI (mz)), .int (nI (mf)), .int (nI (mt)), .int mv, .int mw, .ref ywa, .ref ybi, .ref ysi, .ref ynu, .ref ymo])), (ybi, .inl (cI, 4, .inl f_62)), (ysi, .inl (cI, 4, .inl f_67)), (ynu, .inl (cJ, 160, .inr (.inl nb))), (yt, .inl (cI, 7, .inl mq))] H := hP
                  have hD : va_D A [(h0, .inr (9, [.ref ys, .ref yk, .ref yo, .ref yt, .int mk0, .ref yfa, .ref yfe, .int mL, .int mS, .int mM, .ref yro, .ref yhe, .ref ygr, .int mF, .int mC, .int mY, .ref yta, .int (nI (mz)), .int (nI (mf)), .int (nI (mt)), .int mv, .int mw, .ref ywa, .ref ybi, .ref ysi, .ref ynu, .ref ymo])), (ybi, .inl (cI, 4, .inl f_62)), (ysi, .inl (cI, 4, .inl f_67)), (ynu, .inl (cJ, 160, .inr (.inl nb))), (yt, .inl (cI, 7, .inl mq))] := hD
                  refine lv_iconst (v := 0) hx hb dX9_sheet_83 (by decide) ?_
                  refine lv_istore (lv' := [(4, .int 0), (0, .ref h0), (1, .int (nI (y_59))), (2, .int p1), (3, .int (nI (y_61)))]) hx hb dX9_sheet_84 hl (by decide) rfl (fun ls hl => ?_)
                  suffices loop_86 : ∀ (n_86 : Nat) (i : Nat) (n8 : Nat → Int64) (H : Heap) (locs : List Loc) (ls : Array Slot), 40 - i < n_86 → (i ≤ 40) → va_P D vwCl [(h0, .inr (9, [.ref ys, .ref yk, .ref yo, .ref yt, .int mk0, .ref yfa, .ref yfe, .int mL, .int mS, .int mM, .ref yro, .ref yhe, .ref ygr, .int mF, .int mC, .int mY, .ref yta, .int (nI (mz)), .int (nI (mf)), .int (nI (mt)), .int mv, .int mw, .ref ywa, .ref ybi, .ref ysi, .ref ynu, .ref ymo])), (ybi, .inl (cI, 4, .inl f_62)), (ysi, .inl (cI, 4, .inl f_67)), (ynu, .inl (cJ, 160, .inr (.inl n8))), (yt, .inl (cI, 7, .inl mq))] H → va_D A [(h0, .inr (9, [.ref ys, .ref yk, .ref yo, .ref yt, .int mk0, .ref yfa, .ref yfe, .int mL, .int mS, .int mM, .ref yro, .ref yhe, .ref ygr, .int mF, .int mC, .int mY, .ref yta, .int (nI (mz)), .int (nI (mf)), .int (nI (mt)), .int mv, .int mw, .ref ywa, .ref ybi, .ref ysi, .ref ynu, .ref ymo])), (ybi, .inl (cI, 4, .inl f_62)), (ysi, .inl (cI, 4, .inl f_67)), (ynu, .inl (cJ, 160, .inr (.inl n8))), (yt, .inl (cI, 7, .inl mq))] → va_S A s.heap H locs → lv_has ls 5 [(4, .int (nI (i))), (0, .ref h0), (1, .int (nI (y_59))), (2, .int p1), (3, .int (nI (y_61)))] → W p l e ({ frames := 2, cells := 0, slots := 0, locals := 45 }) s m ([.ref h0, .int (nI (y_59)), .int p1, .int (nI (y_61))] : List Value).toArray below meth c H locs 0 0 (MQ below (XQi (fun (r : Int32) (u : (Nat → Int32) × (Nat → Int32) × (Nat → Int64) × (Nat → Int32)) => match u with | (bi2, sq2, nb2, mq2) => ((r = a_sheet (nI (y_59)) p1 (nI (y_61)))) ∧ (BA 4 41 sq2)) D (fun (u : (Nat → Int32) × (Nat → Int32) × (Nat → Int64) × (Nat → Int32)) => match u with | (bi2, sq2, nb2, mq2) => [(h0, .inr (9, [.ref ys, .ref yk, .ref yo, .ref yt, .int mk0, .ref yfa, .ref yfe, .int mL, .int mS, .int mM, .ref yro, .ref yhe, .ref ygr, .int mF, .int mC, .int mY, .ref yta, .int (nI (mz)), .int (nI (mf)), .int (nI (mt)), .int mv, .int mw, .ref ywa, .ref ybi, .ref ysi, .ref ynu, .ref ymo])), (ybi, .inl (cI, 4, .inl bi2)), (ysi, .inl (cI, 4, .inl sq2)), (ynu, .inl (cJ, 160, .inr (.inl nb2))), (yt, .inl (cI, 7, .inl mq2))]) A) ([.ref h0, .int (nI (y_59)), .int p1, .int (nI (y_61))] : List Value).toArray s 0 0 A) (F0 m 86 ls []) by
                    exact loop_86 _ 0 nb _ _ _ (Nat.lt_succ_self _) (by omega) hP hD hS (lv_sub hl [0, 1, 2, 3, 4] rfl)
                  intro n_86
                  induction n_86 with
                  | zero =>
                    intro i n8 H locs ls hm_86
                    exact absurd hm_86 (Nat.not_lt_zero _)
                  | succ n_86 ih_86 =>
                    intro i n8 H locs ls hm_86 hi hP hD hS hl
                    refine lv_iload hx hb dX9_sheet_86 (lv_at hl 0 rfl) ?_
                    refine lv_bipush (v := 40) hx hb dX9_sheet_88 (by decide) ?_
                    refine lv_icmp_ge (tgt := 112) hx hb dX9_sheet_90 (by decide) (fun c_68 => ?_) (fun c_68 => ?_)
                    · skip
                      have nc_68 : 40 ≤ i := xn_le (a := 40) (b := i) (by omega) (by omega) c_68
                      refine lv_aload_n hx hb dX9_sheet_112 rfl (lv_at hl 1 rfl) ?_
                      refine xg hF kf_X9_46 hK hP 0 rfl rfl dX9_sheet_113 ?_
                      refine lv_iload_n hx hb dX9_sheet_116 rfl (lv_at hl 2 rfl) ?_
                      refine va_iald hx hb hK hP 2 0 rfl rfl (vp_in_nI (show y_59 < 4 by omega) (by decide)) dX9_sheet_117 ?_
                      refine xl_i (y := f_67 y_59) (congrArg f_67 (nI_clamp (show y_59 < 2 ^ 31 by omega))) ?_
                      refine xl_i (y := 0) (by rw [ef_67]; exact pk_us) ?_
                      exact W.iret (v := 0) hx hb hr (fun t ht hW => ⟨⟨0, (f_62, f_67, n8, mq), rfl, ⟨p_sheet5 (nI_pos (by omega)) (x_le3 (by omega)) c_63 (nI_pos (by omega)) (x_le40 (by omega)), hf_67⟩, by rw [ht]; exact hP.sub [0, 1, 2, 3, 4] rfl, hD.sub [0, 1, 2, 3, 4] (by decide +kernel) rfl⟩, hS.F ht⟩) hS.2.2 dX9_sheet_118 hlk
                    · skip
                      have nc_68 : i < 40 := xn_nle (a := 40) (b := i) (by omega) (by omega) c_68
                      refine lv_aload_n hx hb dX9_sheet_93 rfl (lv_at hl 1 rfl) ?_
                      refine xg hF kf_X9_49 hK hP 0 rfl rfl dX9_sheet_94 ?_
                      refine lv_bipush (v := 40) hx hb dX9_sheet_97 (by decide) ?_
                      refine lv_iload_n hx hb dX9_sheet_99 rfl (lv_at hl 2 rfl) ?_
                      refine lv_imul hx hb dX9_sheet_100 ?_
                      refine xl_i (y := nI (40 * y_59)) (pk_mul 40 y_59) ?_
                      refine lv_iload hx hb dX9_sheet_101 (lv_at hl 0 rfl) ?_
                      refine lv_iadd hx hb dX9_sheet_103 ?_
                      refine xl_i (y := nI (40 * y_59 + i)) (nI_add (40 * y_59) i) ?_
                      refine lv_lconst (v := 0) hx hb dX9_sheet_104 (by decide) ?_
                      refine va_last hx hb hK hP hD hS 3 1 rfl rfl (vp_in_nI (show 40 * y_59 + i < 160 by omega) (by decide)) dX9_sheet_105 (fun H locs hP hD hS => ?_)
                      rw [nI_clamp (show 40 * y_59 + i < 2 ^ 31 by omega)] at hP hD
                      obtain ⟨f_69, ef_69⟩ : ∃ g, g = vp_updL n8 (40 * y_59 + i) 0 := ⟨_, rfl⟩
                      rw [← ef_69] at hP hD
                      have hP : va_P D vwCl [(h0, .inr (9, [.ref ys, .ref yk, .ref yo, .ref yt, .int mk0, .ref yfa, .ref yfe, .int mL, .int mS, .int mM, .ref yro, .ref yhe, .ref ygr, .int mF, .int mC, .int mY, .ref yta, .int (nI (mz)), .int (nI (mf)), .int (nI (mt)), .int mv, .int mw, .ref ywa, .ref ybi, .ref ysi, .ref ynu, .ref ymo])), (ybi, .inl (cI, 4, .inl f_62)), (ysi, .inl (cI, 4, .inl f_67)), (ynu, .inl (cJ, 160, .inr (.inl f_69))), (yt, .inl (cI, 7, .inl mq))] H := hP
                      have hD : va_D A [(h0, .inr (9, [.ref ys, .ref yk, .ref yo, .ref yt, .int mk0, .ref yfa, .ref yfe, .int mL, .int mS, .int mM, .ref yro, .ref yhe, .ref ygr, .int mF, .int mC, .int mY, .ref yta, .int (nI (mz)), .int (nI (mf)), .int (nI (mt)), .int mv, .int mw, .ref ywa, .ref ybi, .ref ysi, .ref ynu, .ref ymo])), (ybi, .inl (cI, 4, .inl f_62)), (ysi, .inl (cI, 4, .inl f_67)), (ynu, .inl (cJ, 160, .inr (.inl f_69))), (yt, .inl (cI, 7, .inl mq))] := hD
                      refine lv_iinc (v := nI (i + 1)) (lv' := [(4, .int (nI (i + 1))), (0, .ref h0), (1, .int (nI (y_59))), (2, .int p1), (3, .int (nI (y_61)))]) hx hb dX9_sheet_106 hl (k := 0) rfl (nI_1 (i)) (by decide) rfl (fun ls hl => ?_)
                      refine lv_goto (tgt := 86) hx hb dX9_sheet_109 (by decide) ?_
                      exact ih_86 (i + 1) f_69 _ _ _ (by omega) (by omega) (hP.sub [0, 1, 2, 3, 4] rfl) (hD.sub [0, 1, 2, 3, 4] (by decide +kernel) rfl) hS (lv_sub hl [0, 1, 2, 3, 4] rfl)
              · skip
                refine lv_aload_n hx hb dX9_sheet_54 rfl (lv_at hl 0 rfl) ?_
                refine lv_ldc (v := (-1000000001)) hx hb hown (hu _ uw648) dX9_sheet_55 ?_
                refine xc_Vi (wr := [(ybi, .inl (cI, 4, .inl bi)), (ysi, .inl (cI, 4, .inl sq)), (ynu, .inl (cJ, 160, .inr (.inl nb)))]) hF (c_X9_finds_B l D cI cJ cZ cS ta sa sv s.heap.size h0 ys yk yo yt mk0 yfa yfe mL mS mM yro yhe ygr mF mC mY yta mz mf mt mv mw ywa ybi ysi ynu ymo mq ) kv_X9_70 ⟨rfl, rfl, Nat.le_of_ble_eq_true rfl, Nat.le_of_ble_eq_true rfl⟩ ⟨Nat.le_of_ble_eq_true rfl, Nat.le_of_ble_eq_true rfl⟩ hK hN hZ hP hD hS hA [0, 4] [1, 2, 3] rfl rfl rfl rfl (by decide) 0 rfl rfl rfl rfl hl.1 rfl (Nat.le_of_ble_eq_true rfl) dX9_sheet_57 (fun r_70 u_r_70 H locs hw_r_70 hP hD hS => ?_)
                obtain ⟨mq2_71, rfl⟩ : ∃ z, z = u_r_70 := ⟨_, rfl⟩
                try dsimp only at hw_r_70
                have hP : va_P D vwCl [(ybi, .inl (cI, 4, .inl bi)), (ysi, .inl (cI, 4, .inl sq)), (ynu, .inl (cJ, 160, .inr (.inl nb))), (h0, .inr (9, [.ref ys, .ref yk, .ref yo, .ref yt, .int mk0, .ref yfa, .ref yfe, .int mL, .int mS, .int mM, .ref yro, .ref yhe, .ref ygr, .int mF, .int mC, .int mY, .ref yta, .int (nI (mz)), .int (nI (mf)), .int (nI (mt)), .int mv, .int mw, .ref ywa, .ref ybi, .ref ysi, .ref ynu, .ref ymo])), (yt, .inl (cI, 7, .inl mq2_71))] H := hP
                have hD : va_D A [(ybi, .inl (cI, 4, .inl bi)), (ysi, .inl (cI, 4, .inl sq)), (ynu, .inl (cJ, 160, .inr (.inl nb))), (h0, .inr (9, [.ref ys, .ref yk, .ref yo, .ref yt, .int mk0, .ref yfa, .ref yfe, .int mL, .int mS, .int mM, .ref yro, .ref yhe, .ref ygr, .int mF, .int mC, .int mY, .ref yta, .int (nI (mz)), .int (nI (mf)), .int (nI (mt)), .int mv, .int mw, .ref ywa, .ref ybi, .ref ysi, .ref ynu, .ref ymo])), (yt, .inl (cI, 7, .inl mq2_71))] := hD
                subst hw_r_70
                exact W.iret (v := (-1000000001)) hx hb hr (fun t ht hW => ⟨⟨(-1000000001), (bi, sq, nb, mq2_71), rfl, ⟨p_sheet4 (nI_pos (by omega)) (x_le3 (by omega)) (by first | exact Or.inl (by assumption) | exact Or.inr (Or.inl (by assumption)) | exact Or.inr (Or.inr (Or.inl (by assumption))) | exact Or.inr (Or.inr (Or.inr (by assumption)))) (fun h => absurd c_58 (Int32.not_le.mpr h)) (xlt c_60), hsq⟩, by rw [ht]; exact hP.sub [3, 0, 1, 2, 4] rfl, hD.sub [3, 0, 1, 2, 4] (by decide +kernel) rfl⟩, hS.F ht⟩) hS.2.2 dX9_sheet_60 hlk
            · skip
              refine lv_aload_n hx hb dX9_sheet_40 rfl (lv_at hl 0 rfl) ?_
              refine lv_ldcw (v := (-1000000007)) hx hb hown (hu _ uw912) dX9_sheet_41 ?_
              refine xc_Vi (wr := [(ybi, .inl (cI, 4, .inl bi)), (ysi, .inl (cI, 4, .inl sq)), (ynu, .inl (cJ, 160, .inr (.inl nb)))]) hF (c_X9_finds_S l D cI cJ cZ cS ta sa sv s.heap.size h0 ys yk yo yt mk0 yfa yfe mL mS mM yro yhe ygr mF mC mY yta mz mf mt mv mw ywa ybi ysi ynu ymo mq ) kv_X9_70 ⟨rfl, rfl, Nat.le_of_ble_eq_true rfl, Nat.le_of_ble_eq_true rfl⟩ ⟨Nat.le_of_ble_eq_true rfl, Nat.le_of_ble_eq_true rfl⟩ hK hN hZ hP hD hS hA [0, 4] [1, 2, 3] rfl rfl rfl rfl (by decide) 0 rfl rfl rfl rfl hl.1 rfl (Nat.le_of_ble_eq_true rfl) dX9_sheet_44 (fun r_72 u_r_72 H locs hw_r_72 hP hD hS => ?_)
              obtain ⟨mq2_73, rfl⟩ : ∃ z, z = u_r_72 := ⟨_, rfl⟩
              try dsimp only at hw_r_72
              have hP : va_P D vwCl [(ybi, .inl (cI, 4, .inl bi)), (ysi, .inl (cI, 4, .inl sq)), (ynu, .inl (cJ, 160, .inr (.inl nb))), (h0, .inr (9, [.ref ys, .ref yk, .ref yo, .ref yt, .int mk0, .ref yfa, .ref yfe, .int mL, .int mS, .int mM, .ref yro, .ref yhe, .ref ygr, .int mF, .int mC, .int mY, .ref yta, .int (nI (mz)), .int (nI (mf)), .int (nI (mt)), .int mv, .int mw, .ref ywa, .ref ybi, .ref ysi, .ref ynu, .ref ymo])), (yt, .inl (cI, 7, .inl mq2_73))] H := hP
              have hD : va_D A [(ybi, .inl (cI, 4, .inl bi)), (ysi, .inl (cI, 4, .inl sq)), (ynu, .inl (cJ, 160, .inr (.inl nb))), (h0, .inr (9, [.ref ys, .ref yk, .ref yo, .ref yt, .int mk0, .ref yfa, .ref yfe, .int mL, .int mS, .int mM, .ref yro, .ref yhe, .ref ygr, .int mF, .int mC, .int mY, .ref yta, .int (nI (mz)), .int (nI (mf)), .int (nI (mt)), .int mv, .int mw, .ref ywa, .ref ybi, .ref ysi, .ref ynu, .ref ymo])), (yt, .inl (cI, 7, .inl mq2_73))] := hD
              subst hw_r_72
              exact W.iret (v := (-1000000007)) hx hb hr (fun t ht hW => ⟨⟨(-1000000007), (bi, sq, nb, mq2_73), rfl, ⟨p_sheet3 h_2 h_3 (by first | exact Or.inl (by assumption) | exact Or.inr (Or.inl (by assumption)) | exact Or.inr (Or.inr (Or.inl (by assumption))) | exact Or.inr (Or.inr (Or.inr (by assumption)))) (xlt c_58), hsq⟩, by rw [ht]; exact hP.sub [3, 0, 1, 2, 4] rfl, hD.sub [3, 0, 1, 2, 4] (by decide +kernel) rfl⟩, hS.F ht⟩) hS.2.2 dX9_sheet_47 hlk
          · skip
            refine lv_aload_n hx hb dX9_sheet_29 rfl (lv_at hl 0 rfl) ?_
            refine lv_ldc (v := (-1000000001)) hx hb hown (hu _ uw648) dX9_sheet_30 ?_
            refine xc_Vi (wr := [(ybi, .inl (cI, 4, .inl bi)), (ysi, .inl (cI, 4, .inl sq)), (ynu, .inl (cJ, 160, .inr (.inl nb)))]) hF (c_X9_finds_B l D cI cJ cZ cS ta sa sv s.heap.size h0 ys yk yo yt mk0 yfa yfe mL mS mM yro yhe ygr mF mC mY yta mz mf mt mv mw ywa ybi ysi ynu ymo mq ) kv_X9_70 ⟨rfl, rfl, Nat.le_of_ble_eq_true rfl, Nat.le_of_ble_eq_true rfl⟩ ⟨Nat.le_of_ble_eq_true rfl, Nat.le_of_ble_eq_true rfl⟩ hK hN hZ hP hD hS hA [0, 4] [1, 2, 3] rfl rfl rfl rfl (by decide) 0 rfl rfl rfl rfl hl.1 rfl (Nat.le_of_ble_eq_true rfl) dX9_sheet_32 (fun r_74 u_r_74 H locs hw_r_74 hP hD hS => ?_)
            obtain ⟨mq2_75, rfl⟩ : ∃ z, z = u_r_74 := ⟨_, rfl⟩
            try dsimp only at hw_r_74
            have hP : va_P D vwCl [(ybi, .inl (cI, 4, .inl bi)), (ysi, .inl (cI, 4, .inl sq)), (ynu, .inl (cJ, 160, .inr (.inl nb))), (h0, .inr (9, [.ref ys, .ref yk, .ref yo, .ref yt, .int mk0, .ref yfa, .ref yfe, .int mL, .int mS, .int mM, .ref yro, .ref yhe, .ref ygr, .int mF, .int mC, .int mY, .ref yta, .int (nI (mz)), .int (nI (mf)), .int (nI (mt)), .int mv, .int mw, .ref ywa, .ref ybi, .ref ysi, .ref ynu, .ref ymo])), (yt, .inl (cI, 7, .inl mq2_75))] H := hP
            have hD : va_D A [(ybi, .inl (cI, 4, .inl bi)), (ysi, .inl (cI, 4, .inl sq)), (ynu, .inl (cJ, 160, .inr (.inl nb))), (h0, .inr (9, [.ref ys, .ref yk, .ref yo, .ref yt, .int mk0, .ref yfa, .ref yfe, .int mL, .int mS, .int mM, .ref yro, .ref yhe, .ref ygr, .int mF, .int mC, .int mY, .ref yta, .int (nI (mz)), .int (nI (mf)), .int (nI (mt)), .int mv, .int mw, .ref ywa, .ref ybi, .ref ysi, .ref ynu, .ref ymo])), (yt, .inl (cI, 7, .inl mq2_75))] := hD
            subst hw_r_74
            exact W.iret (v := (-1000000001)) hx hb hr (fun t ht hW => ⟨⟨(-1000000001), (bi, sq, nb, mq2_75), rfl, ⟨p_sheet2 h_2 h_3 c_6 c_23 c_40 c_57, hsq⟩, by rw [ht]; exact hP.sub [3, 0, 1, 2, 4] rfl, hD.sub [3, 0, 1, 2, 4] (by decide +kernel) rfl⟩, hS.F ht⟩) hS.2.2 dX9_sheet_35 hlk
  · skip
    refine lv_if_eq (tgt := 29) hx hb dX9_sheet_4 (by decide) (fun c_76 => ?_) (fun c_76 => absurd (by decide) c_76)
    refine lv_aload_n hx hb dX9_sheet_29 rfl (lv_at hl 0 rfl) ?_
    refine lv_ldc (v := (-1000000001)) hx hb hown (hu _ uw648) dX9_sheet_30 ?_
    refine xc_Vi (wr := [(ybi, .inl (cI, 4, .inl bi)), (ysi, .inl (cI, 4, .inl sq)), (ynu, .inl (cJ, 160, .inr (.inl nb)))]) hF (c_X9_finds_B l D cI cJ cZ cS ta sa sv s.heap.size h0 ys yk yo yt mk0 yfa yfe mL mS mM yro yhe ygr mF mC mY yta mz mf mt mv mw ywa ybi ysi ynu ymo mq ) kv_X9_70 ⟨rfl, rfl, Nat.le_of_ble_eq_true rfl, Nat.le_of_ble_eq_true rfl⟩ ⟨Nat.le_of_ble_eq_true rfl, Nat.le_of_ble_eq_true rfl⟩ hK hN hZ hP hD hS hA [0, 4] [1, 2, 3] rfl rfl rfl rfl (by decide) 0 rfl rfl rfl rfl hl.1 rfl (Nat.le_of_ble_eq_true rfl) dX9_sheet_32 (fun r_77 u_r_77 H locs hw_r_77 hP hD hS => ?_)
    obtain ⟨mq2_78, rfl⟩ : ∃ z, z = u_r_77 := ⟨_, rfl⟩
    try dsimp only at hw_r_77
    have hP : va_P D vwCl [(ybi, .inl (cI, 4, .inl bi)), (ysi, .inl (cI, 4, .inl sq)), (ynu, .inl (cJ, 160, .inr (.inl nb))), (h0, .inr (9, [.ref ys, .ref yk, .ref yo, .ref yt, .int mk0, .ref yfa, .ref yfe, .int mL, .int mS, .int mM, .ref yro, .ref yhe, .ref ygr, .int mF, .int mC, .int mY, .ref yta, .int (nI (mz)), .int (nI (mf)), .int (nI (mt)), .int mv, .int mw, .ref ywa, .ref ybi, .ref ysi, .ref ynu, .ref ymo])), (yt, .inl (cI, 7, .inl mq2_78))] H := hP
    have hD : va_D A [(ybi, .inl (cI, 4, .inl bi)), (ysi, .inl (cI, 4, .inl sq)), (ynu, .inl (cJ, 160, .inr (.inl nb))), (h0, .inr (9, [.ref ys, .ref yk, .ref yo, .ref yt, .int mk0, .ref yfa, .ref yfe, .int mL, .int mS, .int mM, .ref yro, .ref yhe, .ref ygr, .int mF, .int mC, .int mY, .ref yta, .int (nI (mz)), .int (nI (mf)), .int (nI (mt)), .int mv, .int mw, .ref ywa, .ref ybi, .ref ysi, .ref ynu, .ref ymo])), (yt, .inl (cI, 7, .inl mq2_78))] := hD
    subst hw_r_77
    exact W.iret (v := (-1000000001)) hx hb hr (fun t ht hW => ⟨⟨(-1000000001), (bi, sq, nb, mq2_78), rfl, ⟨p_sheet1 h_4, hsq⟩, by rw [ht]; exact hP.sub [3, 0, 1, 2, 4] rfl, hD.sub [3, 0, 1, 2, 4] (by decide +kernel) rfl⟩, hS.F ht⟩) hS.2.2 dX9_sheet_35 hlk
set_option maxHeartbeats 4000000 in
set_option maxRecDepth 100000 in
theorem c_X9_narrowed (l : Launch) (D : va_G) (cI cJ cZ cS : ClassId) (ta : Nat) (sa sv : Nat → Nat) (sz : Nat) (p0 : Int32) (p1 : Int64) : Met l yX9_narrowed (Cond.code yX9_narrowed cX9_narrowed 3 (some .long) :: wsU) ({ frames := 0, cells := 0, slots := 0, locals := 0 }) (va_Pc [.int p0, .long p1] (XW D (xT cI cJ cZ cS) ta sa sv [] sz)) (vp_Sl (fun r : Int64 => True)) 0 0 (fun _ => False) := by
  refine xh (QA := fun _ => vp_Sl (fun r : Int64 => True)) (fr := fun _ _ => False) (by decide) (Nat.le_of_ble_eq_true rfl) ?_
  intro p e s m below meth c ls A hF hr hlk hin hsz hP hK hD hN hZ hA hS hl
  have hF : CallFix p m c cX9_narrowed 3 s _ _ RX9 := hF
  have hx := hF.1
  have hb := hF.2.1
  have hml := hF.2.2.1
  have hown := hF.2.2.2.1
  have hu : ∀ w ∈ wsU, w.before _ s = true := fun w h => hF.2.2.2.2 w (List.mem_cons_of_mem _ h)
  have hl : lv_has ls 3 [(0, .int p0), (1, .long p1)] := hl
  refine lv_iload_n hx hb dX9_narrowed_0 rfl (lv_at hl 0 rfl) ?_
  refine lv_bipush (v := 8) hx hb dX9_narrowed_1 (by decide) ?_
  refine lv_icmp_ne (tgt := 13) hx hb dX9_narrowed_3 (by decide) (fun c_1 => ?_) (fun c_1 => ?_)
  · skip
    refine lv_iload_n hx hb dX9_narrowed_13 rfl (lv_at hl 0 rfl) ?_
    refine lv_bipush (v := 16) hx hb dX9_narrowed_14 (by decide) ?_
    refine lv_icmp_ne (tgt := 26) hx hb dX9_narrowed_16 (by decide) (fun c_2 => ?_) (fun c_2 => ?_)
    · skip
      refine lv_lload_n hx hb dX9_narrowed_26 rfl (lv_at hl 1 rfl) ?_
      exact W.lret (v := p1) hx hb hr (fun t ht hW => ⟨p1, rfl, trivial, ht⟩) (fun q h => by cases h) dX9_narrowed_27 hlk
    · skip
      refine lv_lload_n hx hb dX9_narrowed_19 rfl (lv_at hl 1 rfl) ?_
      refine lv_l2i (v := p1.toInt32) hx hb dX9_narrowed_20 rfl ?_
      refine lv_i2s hx hb dX9_narrowed_21 rfl ?_
      refine lv_topi (fun x_3 ex_3 => ?_)
      refine lv_i2l (v := x_3.toInt64) hx hb dX9_narrowed_22 rfl ?_
      refine lv_goto (tgt := 27) hx hb dX9_narrowed_23 (by decide) ?_
      exact W.lret (v := x_3.toInt64) hx hb hr (fun t ht hW => ⟨x_3.toInt64, rfl, trivial, ht⟩) (fun q h => by cases h) dX9_narrowed_27 hlk
  · skip
    refine lv_lload_n hx hb dX9_narrowed_6 rfl (lv_at hl 1 rfl) ?_
    refine lv_l2i (v := p1.toInt32) hx hb dX9_narrowed_7 rfl ?_
    refine lv_i2b hx hb dX9_narrowed_8 rfl ?_
    refine lv_topi (fun x_4 ex_4 => ?_)
    refine lv_i2l (v := x_4.toInt64) hx hb dX9_narrowed_9 rfl ?_
    refine lv_goto (tgt := 27) hx hb dX9_narrowed_10 (by decide) ?_
    exact W.lret (v := x_4.toInt64) hx hb hr (fun t ht hW => ⟨x_4.toInt64, rfl, trivial, ht⟩) (fun q h => by cases h) dX9_narrowed_27 hlk
set_option maxHeartbeats 4000000 in
set_option maxRecDepth 100000 in
theorem c_X9_wrong (l : Launch) (D : va_G) (cI cJ cZ cS : ClassId) (ta : Nat) (sa sv : Nat → Nat) (sz : Nat) (h0 : Nat) (ys : Nat) (yk : Nat) (yo : Nat) (yt : Nat) (mk0 : Int32) (yfa : Nat) (yfe : Nat) (mL : Int32) (mS : Int32) (mM : Int32) (yro : Nat) (yhe : Nat) (ygr : Nat) (mF : Int32) (mC : Int32) (mY : Int32) (yta : Nat) (mz : Nat) (mf : Nat) (mt : Nat) (mv : Int32) (mw : Int32) (ywa : Nat) (ybi : Nat) (ysi : Nat) (ynu : Nat) (ymo : Nat) (bi : Nat → Int32) (p0 : Int32) : Met l yX9_wrong (Cond.code yX9_wrong cX9_wrong 2 (some .int) :: wsU) ({ frames := 2, cells := 0, slots := 0, locals := 45 }) (va_Pc [.ref h0, .int p0] (XW D (xT cI cJ cZ cS) ta sa sv [(h0, .inr (9, [.ref ys, .ref yk, .ref yo, .ref yt, .int mk0, .ref yfa, .ref yfe, .int mL, .int mS, .int mM, .ref yro, .ref yhe, .ref ygr, .int mF, .int mC, .int mY, .ref yta, .int (nI (mz)), .int (nI (mf)), .int (nI (mt)), .int mv, .int mw, .ref ywa, .ref ybi, .ref ysi, .ref ynu, .ref ymo])), (ybi, .inl (cI, 4, .inl bi))] sz)) (vp_Si (fun r : Int32 => (r = (-1000000001)) ∨ (r = (-1000000006)) ∨ (r = 0 ∧ (¬ p0 < 0) ∧ (¬ 3 < p0)))) 0 0 (fun _ => False) := by
  refine xh (QA := fun _ => vp_Si (fun r : Int32 => (r = (-1000000001)) ∨ (r = (-1000000006)) ∨ (r = 0 ∧ (¬ p0 < 0) ∧ (¬ 3 < p0)))) (fr := fun _ _ => False) (by decide) (Nat.le_of_ble_eq_true rfl) ?_
  intro p e s m below meth c ls A hF hr hlk hin hsz hP hK hD hN hZ hA hS hl
  have hF : CallFix p m c cX9_wrong 2 s _ _ RX9 := hF
  have hx := hF.1
  have hb := hF.2.1
  have hml := hF.2.2.1
  have hown := hF.2.2.2.1
  have hu : ∀ w ∈ wsU, w.before _ s = true := fun w h => hF.2.2.2.2 w (List.mem_cons_of_mem _ h)
  have hl : lv_has ls 2 [(0, .ref h0), (1, .int p0)] := hl
  refine lv_iload_n hx hb dX9_wrong_0 rfl (lv_at hl 1 rfl) ?_
  refine xc_Sr hF (c_X9_isOne l D cI cJ cZ cS ta sa sv s.heap.size p0 ) ks_X9_305 ⟨rfl, rfl, Nat.le_of_ble_eq_true rfl, Nat.le_of_ble_eq_true rfl⟩ ⟨Nat.le_of_ble_eq_true rfl, Nat.le_of_ble_eq_true rfl⟩ hK hN hZ hP hD hS hA [] rfl rfl rfl hl.1 rfl (Nat.le_of_ble_eq_true rfl) dX9_wrong_1 (fun r_1 hw_r_1 => ?_)
  rcases hw_r_1 with ⟨rfl, h_2, h_3⟩ | ⟨rfl, h_4⟩
  · skip
    refine lv_if_ne (tgt := 12) hx hb dX9_wrong_4 (by decide) (fun c_5 => ?_) (fun c_5 => absurd c_5 (by decide))
    refine lv_aload_n hx hb dX9_wrong_12 rfl (lv_at hl 0 rfl) ?_
    refine xg hF kf_X9_43 hK hP 0 rfl rfl dX9_wrong_13 ?_
    refine lv_iload_n hx hb dX9_wrong_16 rfl (lv_at hl 1 rfl) ?_
    refine va_iald hx hb hK hP 1 0 rfl rfl (x_in4 h_2 h_3) dX9_wrong_17 ?_
    refine lv_if_ne (tgt := 27) hx hb dX9_wrong_18 (by decide) (fun c_6 => ?_) (fun c_6 => ?_)
    · skip
      refine lv_iconst (v := 0) hx hb dX9_wrong_27 (by decide) ?_
      exact W.iret (v := 0) hx hb hr (fun t ht hW => ⟨0, rfl, (by first | exact Or.inr (Or.inr (⟨rfl, (by first | assumption | omega | exact Or.inl (by first | assumption | omega) | exact Or.inr (by first | assumption | omega)), (by first | assumption | omega | exact Or.inl (by first | assumption | omega) | exact Or.inr (by first | assumption | omega))⟩))), ht⟩) (fun q h => by cases h) dX9_wrong_28 hlk
    · skip
      refine lv_ldcw (v := (-1000000006)) hx hb hown (hu _ uw913) dX9_wrong_21 ?_
      refine lv_goto (tgt := 28) hx hb dX9_wrong_24 (by decide) ?_
      exact W.iret (v := (-1000000006)) hx hb hr (fun t ht hW => ⟨(-1000000006), rfl, (by first | exact Or.inr (Or.inl rfl)), ht⟩) (fun q h => by cases h) dX9_wrong_28 hlk
  · skip
    refine lv_if_ne (tgt := 12) hx hb dX9_wrong_4 (by decide) (fun c_7 => absurd (by decide) c_7) (fun c_7 => ?_)
    refine lv_ldc (v := (-1000000001)) hx hb hown (hu _ uw648) dX9_wrong_7 ?_
    refine lv_goto (tgt := 28) hx hb dX9_wrong_9 (by decide) ?_
    exact W.iret (v := (-1000000001)) hx hb hr (fun t ht hW => ⟨(-1000000001), rfl, (by first | exact Or.inl rfl), ht⟩) (fun q h => by cases h) dX9_wrong_28 hlk
set_option maxHeartbeats 4000000 in
set_option maxRecDepth 100000 in
theorem c_X9_write (l : Launch) (D : va_G) (cI cJ cZ cS : ClassId) (ta : Nat) (sa sv : Nat → Nat) (sz : Nat) (h0 : Nat) (ys : Nat) (yk : Nat) (yo : Nat) (yt : Nat) (mk0 : Int32) (yfa : Nat) (yfe : Nat) (mL : Int32) (mS : Int32) (mM : Int32) (yro : Nat) (yhe : Nat) (ygr : Nat) (mF : Int32) (mC : Int32) (mY : Int32) (yta : Nat) (mz : Nat) (mf : Nat) (mt : Nat) (mv : Int32) (mw : Int32) (ywa : Nat) (ybi : Nat) (ysi : Nat) (ynu : Nat) (ymo : Nat) (bi : Nat → Int32) (sq : Nat → Int32) (nb : Nat → Int64) (mq : Nat → Int32) (p0 : Int32) (p1 : Int32) (p2 : Int64) (hsq : BA 4 41 sq) : Met l yX9_write (Cond.code yX9_write cX9_write 8 (some .long) :: wsU) ({ frames := 3, cells := 0, slots := 0, locals := 66 }) (va_Pc [.ref h0, .int p0, .int p1, .long p2] (XW D (xT cI cJ cZ cS) ta sa sv [(h0, .inr (9, [.ref ys, .ref yk, .ref yo, .ref yt, .int mk0, .ref yfa, .ref yfe, .int mL, .int mS, .int mM, .ref yro, .ref yhe, .ref ygr, .int mF, .int mC, .int mY, .ref yta, .int (nI (mz)), .int (nI (mf)), .int (nI (mt)), .int mv, .int mw, .ref ywa, .ref ybi, .ref ysi, .ref ynu, .ref ymo])), (ybi, .inl (cI, 4, .inl bi)), (ysi, .inl (cI, 4, .inl sq)), (ynu, .inl (cJ, 160, .inr (.inl nb))), (yt, .inl (cI, 7, .inl mq))] sz)) (XQl (fun (r : Int64) (u : (Nat → Int64) × (Nat → Int32)) => match u with | (nb2, mq2) => (True)) D (fun (u : (Nat → Int64) × (Nat → Int32)) => match u with | (nb2, mq2) => [(h0, .inr (9, [.ref ys, .ref yk, .ref yo, .ref yt, .int mk0, .ref yfa, .ref yfe, .int mL, .int mS, .int mM, .ref yro, .ref yhe, .ref ygr, .int mF, .int mC, .int mY, .ref yta, .int (nI (mz)), .int (nI (mf)), .int (nI (mt)), .int mv, .int mw, .ref ywa, .ref ybi, .ref ysi, .ref ynu, .ref ymo])), (ybi, .inl (cI, 4, .inl bi)), (ysi, .inl (cI, 4, .inl sq)), (ynu, .inl (cJ, 160, .inr (.inl nb2))), (yt, .inl (cI, 7, .inl mq2))]) (va_A [(h0, .inr (9, [.ref ys, .ref yk, .ref yo, .ref yt, .int mk0, .ref yfa, .ref yfe, .int mL, .int mS, .int mM, .ref yro, .ref yhe, .ref ygr, .int mF, .int mC, .int mY, .ref yta, .int (nI (mz)), .int (nI (mf)), .int (nI (mt)), .int mv, .int mw, .ref ywa, .ref ybi, .ref ysi, .ref ynu, .ref ymo])), (ybi, .inl (cI, 4, .inl bi)), (ysi, .inl (cI, 4, .inl sq)), (ynu, .inl (cJ, 160, .inr (.inl nb))), (yt, .inl (cI, 7, .inl mq))] sz)) 0 0 (va_A [(h0, .inr (9, [.ref ys, .ref yk, .ref yo, .ref yt, .int mk0, .ref yfa, .ref yfe, .int mL, .int mS, .int mM, .ref yro, .ref yhe, .ref ygr, .int mF, .int mC, .int mY, .ref yta, .int (nI (mz)), .int (nI (mf)), .int (nI (mt)), .int mv, .int mw, .ref ywa, .ref ybi, .ref ysi, .ref ynu, .ref ymo])), (ybi, .inl (cI, 4, .inl bi)), (ysi, .inl (cI, 4, .inl sq)), (ynu, .inl (cJ, 160, .inr (.inl nb))), (yt, .inl (cI, 7, .inl mq))] sz) := by
  refine xh (QA := fun A => XQl (fun (r : Int64) (u : (Nat → Int64) × (Nat → Int32)) => match u with | (nb2, mq2) => (True)) D (fun (u : (Nat → Int64) × (Nat → Int32)) => match u with | (nb2, mq2) => [(h0, .inr (9, [.ref ys, .ref yk, .ref yo, .ref yt, .int mk0, .ref yfa, .ref yfe, .int mL, .int mS, .int mM, .ref yro, .ref yhe, .ref ygr, .int mF, .int mC, .int mY, .ref yta, .int (nI (mz)), .int (nI (mf)), .int (nI (mt)), .int mv, .int mw, .ref ywa, .ref ybi, .ref ysi, .ref ynu, .ref ymo])), (ybi, .inl (cI, 4, .inl bi)), (ysi, .inl (cI, 4, .inl sq)), (ynu, .inl (cJ, 160, .inr (.inl nb2))), (yt, .inl (cI, 7, .inl mq2))]) A) (fr := fun A => A) (by decide) (Nat.le_of_ble_eq_true rfl) ?_
  intro p e s m below meth c ls A hF hr hlk hin hsz hP hK hD hN hZ hA hS hl
  have hF : CallFix p m c cX9_write 8 s _ _ RX9 := hF
  have hx := hF.1
  have hb := hF.2.1
  have hml := hF.2.2.1
  have hown := hF.2.2.2.1
  have hu : ∀ w ∈ wsU, w.before _ s = true := fun w h => hF.2.2.2.2 w (List.mem_cons_of_mem _ h)
  have hl : lv_has ls 8 [(0, .ref h0), (1, .int p0), (2, .int p1), (3, .long p2)] := hl
  refine lv_aload_n hx hb dX9_write_0 rfl (lv_at hl 0 rfl) ?_
  refine lv_iload_n hx hb dX9_write_1 rfl (lv_at hl 1 rfl) ?_
  refine xc_Vr hF (c_X9_wrong l D cI cJ cZ cS ta sa sv s.heap.size h0 ys yk yo yt mk0 yfa yfe mL mS mM yro yhe ygr mF mC mY yta mz mf mt mv mw ywa ybi ysi ynu ymo bi p0 ) kv_X9_310 ⟨rfl, rfl, Nat.le_of_ble_eq_true rfl, Nat.le_of_ble_eq_true rfl⟩ ⟨Nat.le_of_ble_eq_true rfl, Nat.le_of_ble_eq_true rfl⟩ hK hN hZ hP hD hS hA [0, 1] rfl rfl 0 rfl rfl rfl rfl hl.1 rfl (Nat.le_of_ble_eq_true rfl) dX9_write_2 (fun r_1 hw_r_1 => ?_)
  rcases hw_r_1 with rfl | rfl | ⟨rfl, h_2, h_3⟩
  · skip
    refine lv_istore (lv' := [(5, .int (-1000000001)), (0, .ref h0), (1, .int p0), (2, .int p1), (3, .long p2)]) hx hb dX9_write_5 hl (by decide) rfl (fun ls hl => ?_)
    refine lv_iload hx hb dX9_write_7 (lv_at hl 0 rfl) ?_
    refine lv_if_eq (tgt := 20) hx hb dX9_write_9 (by decide) (fun c_4 => absurd c_4 (by decide)) (fun c_4 => ?_)
    refine lv_aload_n hx hb dX9_write_12 rfl (lv_at hl 1 rfl) ?_
    refine lv_iload hx hb dX9_write_13 (lv_at hl 0 rfl) ?_
    refine xc_Vi (wr := [(ybi, .inl (cI, 4, .inl bi)), (ysi, .inl (cI, 4, .inl sq)), (ynu, .inl (cJ, 160, .inr (.inl nb)))]) hF (c_X9_finds_B l D cI cJ cZ cS ta sa sv s.heap.size h0 ys yk yo yt mk0 yfa yfe mL mS mM yro yhe ygr mF mC mY yta mz mf mt mv mw ywa ybi ysi ynu ymo mq ) kv_X9_70 ⟨rfl, rfl, Nat.le_of_ble_eq_true rfl, Nat.le_of_ble_eq_true rfl⟩ ⟨Nat.le_of_ble_eq_true rfl, Nat.le_of_ble_eq_true rfl⟩ hK hN hZ hP hD hS hA [0, 4] [1, 2, 3] rfl rfl rfl rfl (by decide) 0 rfl rfl rfl rfl hl.1 rfl (Nat.le_of_ble_eq_true rfl) dX9_write_15 (fun r_5 u_r_5 H locs hw_r_5 hP hD hS => ?_)
    obtain ⟨mq2_6, rfl⟩ : ∃ z, z = u_r_5 := ⟨_, rfl⟩
    try dsimp only at hw_r_5
    have hP : va_P D vwCl [(ybi, .inl (cI, 4, .inl bi)), (ysi, .inl (cI, 4, .inl sq)), (ynu, .inl (cJ, 160, .inr (.inl nb))), (h0, .inr (9, [.ref ys, .ref yk, .ref yo, .ref yt, .int mk0, .ref yfa, .ref yfe, .int mL, .int mS, .int mM, .ref yro, .ref yhe, .ref ygr, .int mF, .int mC, .int mY, .ref yta, .int (nI (mz)), .int (nI (mf)), .int (nI (mt)), .int mv, .int mw, .ref ywa, .ref ybi, .ref ysi, .ref ynu, .ref ymo])), (yt, .inl (cI, 7, .inl mq2_6))] H := hP
    have hD : va_D A [(ybi, .inl (cI, 4, .inl bi)), (ysi, .inl (cI, 4, .inl sq)), (ynu, .inl (cJ, 160, .inr (.inl nb))), (h0, .inr (9, [.ref ys, .ref yk, .ref yo, .ref yt, .int mk0, .ref yfa, .ref yfe, .int mL, .int mS, .int mM, .ref yro, .ref yhe, .ref ygr, .int mF, .int mC, .int mY, .ref yta, .int (nI (mz)), .int (nI (mf)), .int (nI (mt)), .int mv, .int mw, .ref ywa, .ref ybi, .ref ysi, .ref ynu, .ref ymo])), (yt, .inl (cI, 7, .inl mq2_6))] := hD
    subst hw_r_5
    refine lv_i2l (v := (-1000000001)) hx hb dX9_write_18 (by decide) ?_
    exact W.lret (v := (-1000000001)) hx hb hr (fun t ht hW => ⟨⟨(-1000000001), (nb, mq2_6), rfl, trivial, by rw [ht]; exact hP.sub [3, 0, 1, 2, 4] rfl, hD.sub [3, 0, 1, 2, 4] (by decide +kernel) rfl⟩, hS.F ht⟩) hS.2.2 dX9_write_19 hlk
  · skip
    refine lv_istore (lv' := [(5, .int (-1000000006)), (0, .ref h0), (1, .int p0), (2, .int p1), (3, .long p2)]) hx hb dX9_write_5 hl (by decide) rfl (fun ls hl => ?_)
    refine lv_iload hx hb dX9_write_7 (lv_at hl 0 rfl) ?_
    refine lv_if_eq (tgt := 20) hx hb dX9_write_9 (by decide) (fun c_7 => absurd c_7 (by decide)) (fun c_7 => ?_)
    refine lv_aload_n hx hb dX9_write_12 rfl (lv_at hl 1 rfl) ?_
    refine lv_iload hx hb dX9_write_13 (lv_at hl 0 rfl) ?_
    refine xc_Vi (wr := [(ybi, .inl (cI, 4, .inl bi)), (ysi, .inl (cI, 4, .inl sq)), (ynu, .inl (cJ, 160, .inr (.inl nb)))]) hF (c_X9_finds_M l D cI cJ cZ cS ta sa sv s.heap.size h0 ys yk yo yt mk0 yfa yfe mL mS mM yro yhe ygr mF mC mY yta mz mf mt mv mw ywa ybi ysi ynu ymo mq ) kv_X9_70 ⟨rfl, rfl, Nat.le_of_ble_eq_true rfl, Nat.le_of_ble_eq_true rfl⟩ ⟨Nat.le_of_ble_eq_true rfl, Nat.le_of_ble_eq_true rfl⟩ hK hN hZ hP hD hS hA [0, 4] [1, 2, 3] rfl rfl rfl rfl (by decide) 0 rfl rfl rfl rfl hl.1 rfl (Nat.le_of_ble_eq_true rfl) dX9_write_15 (fun r_8 u_r_8 H locs hw_r_8 hP hD hS => ?_)
    obtain ⟨mq2_9, rfl⟩ : ∃ z, z = u_r_8 := ⟨_, rfl⟩
    try dsimp only at hw_r_8
    have hP : va_P D vwCl [(ybi, .inl (cI, 4, .inl bi)), (ysi, .inl (cI, 4, .inl sq)), (ynu, .inl (cJ, 160, .inr (.inl nb))), (h0, .inr (9, [.ref ys, .ref yk, .ref yo, .ref yt, .int mk0, .ref yfa, .ref yfe, .int mL, .int mS, .int mM, .ref yro, .ref yhe, .ref ygr, .int mF, .int mC, .int mY, .ref yta, .int (nI (mz)), .int (nI (mf)), .int (nI (mt)), .int mv, .int mw, .ref ywa, .ref ybi, .ref ysi, .ref ynu, .ref ymo])), (yt, .inl (cI, 7, .inl mq2_9))] H := hP
    have hD : va_D A [(ybi, .inl (cI, 4, .inl bi)), (ysi, .inl (cI, 4, .inl sq)), (ynu, .inl (cJ, 160, .inr (.inl nb))), (h0, .inr (9, [.ref ys, .ref yk, .ref yo, .ref yt, .int mk0, .ref yfa, .ref yfe, .int mL, .int mS, .int mM, .ref yro, .ref yhe, .ref ygr, .int mF, .int mC, .int mY, .ref yta, .int (nI (mz)), .int (nI (mf)), .int (nI (mt)), .int mv, .int mw, .ref ywa, .ref ybi, .ref ysi, .ref ynu, .ref ymo])), (yt, .inl (cI, 7, .inl mq2_9))] := hD
    subst hw_r_8
    refine lv_i2l (v := (-1000000006)) hx hb dX9_write_18 (by decide) ?_
    exact W.lret (v := (-1000000006)) hx hb hr (fun t ht hW => ⟨⟨(-1000000006), (nb, mq2_9), rfl, trivial, by rw [ht]; exact hP.sub [3, 0, 1, 2, 4] rfl, hD.sub [3, 0, 1, 2, 4] (by decide +kernel) rfl⟩, hS.F ht⟩) hS.2.2 dX9_write_19 hlk
  · skip
    refine lv_istore (lv' := [(5, .int 0), (0, .ref h0), (1, .int p0), (2, .int p1), (3, .long p2)]) hx hb dX9_write_5 hl (by decide) rfl (fun ls hl => ?_)
    refine lv_iload hx hb dX9_write_7 (lv_at hl 0 rfl) ?_
    refine lv_if_eq (tgt := 20) hx hb dX9_write_9 (by decide) (fun c_10 => ?_) (fun c_10 => absurd (by decide) c_10)
    obtain ⟨y_11, hy_11, rfl⟩ := xrange (w := 3) (by omega) h_2 h_3
    refine lv_iload_n hx hb dX9_write_20 rfl (lv_at hl 3 rfl) ?_
    refine lv_i2l (v := p1.toInt64) hx hb dX9_write_21 rfl ?_
    refine lv_lconst (v := 0) hx hb dX9_write_22 (by decide) ?_
    refine xl_l (y := (0 : Int32).toInt64) (by decide) ?_
    refine lv_aload_n hx hb dX9_write_23 rfl (lv_at hl 1 rfl) ?_
    refine xg hF kf_X9_46 hK hP 0 rfl rfl dX9_write_24 ?_
    refine lv_iload_n hx hb dX9_write_27 rfl (lv_at hl 2 rfl) ?_
    refine va_iald hx hb hK hP 2 0 rfl rfl (vp_in_nI (show y_11 < 4 by omega) (by decide)) dX9_write_28 ?_
    refine xl_i (y := sq y_11) (congrArg sq (nI_clamp (show y_11 < 2 ^ 31 by omega))) ?_
    obtain ⟨q_12, hq_12, eq_12⟩ := hsq y_11 (by omega)
    refine xl_i (y := nI (q_12)) eq_12 ?_
    refine lv_iconst (v := 1) hx hb dX9_write_29 (by decide) ?_
    refine lv_isub hx hb dX9_write_30 ?_
    refine lv_topi (fun x_13 ex_13 => ?_)
    refine lv_i2l (v := x_13.toInt64) hx hb dX9_write_31 rfl ?_
    refine xc_Sr hF (c_X9_in l D cI cJ cZ cS ta sa sv s.heap.size p1 0 x_13 ) ks_X9_57 ⟨rfl, rfl, Nat.le_of_ble_eq_true rfl, Nat.le_of_ble_eq_true rfl⟩ ⟨Nat.le_of_ble_eq_true rfl, Nat.le_of_ble_eq_true rfl⟩ hK hN hZ hP hD hS hA [] rfl rfl rfl hl.1 rfl (Nat.le_of_ble_eq_true rfl) dX9_write_32 (fun r_14 hw_r_14 => ?_)
    rcases hw_r_14 with ⟨rfl, h_15, h_16⟩ | ⟨rfl, h_17⟩
    · skip
      refine lv_if_ne (tgt := 46) hx hb dX9_write_35 (by decide) (fun c_18 => ?_) (fun c_18 => absurd c_18 (by decide))
      obtain ⟨y_19, hy_19, rfl⟩ := x_pl3 (by omega) ex_13 h_15 h_16
      refine lv_aload_n hx hb dX9_write_46 rfl (lv_at hl 1 rfl) ?_
      refine xg hF kf_X9_49 hK hP 0 rfl rfl dX9_write_47 ?_
      refine lv_bipush (v := 40) hx hb dX9_write_50 (by decide) ?_
      refine lv_iload_n hx hb dX9_write_52 rfl (lv_at hl 2 rfl) ?_
      refine lv_imul hx hb dX9_write_53 ?_
      refine xl_i (y := nI (40 * y_11)) (pk_mul 40 y_11) ?_
      refine lv_iload_n hx hb dX9_write_54 rfl (lv_at hl 3 rfl) ?_
      refine lv_iadd hx hb dX9_write_55 ?_
      refine xl_i (y := nI (40 * y_11 + y_19)) (nI_add (40 * y_11) y_19) ?_
      refine va_lald hx hb hK hP 3 1 rfl rfl (vp_in_nI (show 40 * y_11 + y_19 < 160 by omega) (by decide)) dX9_write_56 ?_
      refine xl_l (y := nb (40 * y_11 + y_19)) (congrArg nb (nI_clamp (show 40 * y_11 + y_19 < 2 ^ 31 by omega))) ?_
      refine lv_lstore (lv' := [(6, .long (nb (40 * y_11 + y_19))), (5, .int 0), (0, .ref h0), (1, .int (nI (y_11))), (2, .int (nI (y_19))), (3, .long p2)]) hx hb dX9_write_57 hl (by decide) rfl (fun ls hl => ?_)
      refine lv_aload_n hx hb dX9_write_59 rfl (lv_at hl 2 rfl) ?_
      refine xg hF kf_X9_49 hK hP 0 rfl rfl dX9_write_60 ?_
      refine lv_bipush (v := 40) hx hb dX9_write_63 (by decide) ?_
      refine lv_iload_n hx hb dX9_write_65 rfl (lv_at hl 3 rfl) ?_
      refine lv_imul hx hb dX9_write_66 ?_
      refine xl_i (y := nI (40 * y_11)) (pk_mul 40 y_11) ?_
      refine lv_iload_n hx hb dX9_write_67 rfl (lv_at hl 4 rfl) ?_
      refine lv_iadd hx hb dX9_write_68 ?_
      refine xl_i (y := nI (40 * y_11 + y_19)) (nI_add (40 * y_11) y_19) ?_
      refine lv_aload_n hx hb dX9_write_69 rfl (lv_at hl 2 rfl) ?_
      refine xg hF kf_X9_43 hK hP 0 rfl rfl dX9_write_70 ?_
      refine lv_iload_n hx hb dX9_write_73 rfl (lv_at hl 3 rfl) ?_
      refine va_iald hx hb hK hP 1 0 rfl rfl (vp_in_nI (show y_11 < 4 by omega) (by decide)) dX9_write_74 ?_
      refine xl_i (y := bi y_11) (congrArg bi (nI_clamp (show y_11 < 2 ^ 31 by omega))) ?_
      refine lv_lload_n hx hb dX9_write_75 rfl (lv_at hl 5 rfl) ?_
      refine xc_Srl hF (c_X9_narrowed l D cI cJ cZ cS ta sa sv s.heap.size (bi y_11) p2 ) ks_X9_313 ⟨rfl, rfl, Nat.le_of_ble_eq_true rfl, Nat.le_of_ble_eq_true rfl⟩ ⟨Nat.le_of_ble_eq_true rfl, Nat.le_of_ble_eq_true rfl⟩ hK hN hZ hP hD hS hA [] rfl rfl rfl hl.1 rfl (Nat.le_of_ble_eq_true rfl) dX9_write_76 (fun r_20 hw_r_20 => ?_)
      refine va_last hx hb hK hP hD hS 3 1 rfl rfl (vp_in_nI (show 40 * y_11 + y_19 < 160 by omega) (by decide)) dX9_write_79 (fun H locs hP hD hS => ?_)
      rw [nI_clamp (show 40 * y_11 + y_19 < 2 ^ 31 by omega)] at hP hD
      obtain ⟨f_21, ef_21⟩ : ∃ g, g = vp_updL nb (40 * y_11 + y_19) r_20 := ⟨_, rfl⟩
      rw [← ef_21] at hP hD
      have hP : va_P D vwCl [(h0, .inr (9, [.ref ys, .ref yk, .ref yo, .ref yt, .int mk0, .ref yfa, .ref yfe, .int mL, .int mS, .int mM, .ref yro, .ref yhe, .ref ygr, .int mF, .int mC, .int mY, .ref yta, .int (nI (mz)), .int (nI (mf)), .int (nI (mt)), .int mv, .int mw, .ref ywa, .ref ybi, .ref ysi, .ref ynu, .ref ymo])), (ybi, .inl (cI, 4, .inl bi)), (ysi, .inl (cI, 4, .inl sq)), (ynu, .inl (cJ, 160, .inr (.inl f_21))), (yt, .inl (cI, 7, .inl mq))] H := hP
      have hD : va_D A [(h0, .inr (9, [.ref ys, .ref yk, .ref yo, .ref yt, .int mk0, .ref yfa, .ref yfe, .int mL, .int mS, .int mM, .ref yro, .ref yhe, .ref ygr, .int mF, .int mC, .int mY, .ref yta, .int (nI (mz)), .int (nI (mf)), .int (nI (mt)), .int mv, .int mw, .ref ywa, .ref ybi, .ref ysi, .ref ynu, .ref ymo])), (ybi, .inl (cI, 4, .inl bi)), (ysi, .inl (cI, 4, .inl sq)), (ynu, .inl (cJ, 160, .inr (.inl f_21))), (yt, .inl (cI, 7, .inl mq))] := hD
      refine lv_lload hx hb dX9_write_80 (lv_at hl 0 rfl) ?_
      exact W.lret (v := nb (40 * y_11 + y_19)) hx hb hr (fun t ht hW => ⟨⟨nb (40 * y_11 + y_19), (f_21, mq), rfl, trivial, by rw [ht]; exact hP.sub [0, 1, 2, 3, 4] rfl, hD.sub [0, 1, 2, 3, 4] (by decide +kernel) rfl⟩, hS.F ht⟩) hS.2.2 dX9_write_82 hlk
    · skip
      refine lv_if_ne (tgt := 46) hx hb dX9_write_35 (by decide) (fun c_22 => absurd (by decide) c_22) (fun c_22 => ?_)
      refine lv_aload_n hx hb dX9_write_38 rfl (lv_at hl 1 rfl) ?_
      refine lv_ldc (v := (-1000000001)) hx hb hown (hu _ uw648) dX9_write_39 ?_
      refine xc_Vi (wr := [(ybi, .inl (cI, 4, .inl bi)), (ysi, .inl (cI, 4, .inl sq)), (ynu, .inl (cJ, 160, .inr (.inl nb)))]) hF (c_X9_finds_B l D cI cJ cZ cS ta sa sv s.heap.size h0 ys yk yo yt mk0 yfa yfe mL mS mM yro yhe ygr mF mC mY yta mz mf mt mv mw ywa ybi ysi ynu ymo mq ) kv_X9_70 ⟨rfl, rfl, Nat.le_of_ble_eq_true rfl, Nat.le_of_ble_eq_true rfl⟩ ⟨Nat.le_of_ble_eq_true rfl, Nat.le_of_ble_eq_true rfl⟩ hK hN hZ hP hD hS hA [0, 4] [1, 2, 3] rfl rfl rfl rfl (by decide) 0 rfl rfl rfl rfl hl.1 rfl (Nat.le_of_ble_eq_true rfl) dX9_write_41 (fun r_23 u_r_23 H locs hw_r_23 hP hD hS => ?_)
      obtain ⟨mq2_24, rfl⟩ : ∃ z, z = u_r_23 := ⟨_, rfl⟩
      try dsimp only at hw_r_23
      have hP : va_P D vwCl [(ybi, .inl (cI, 4, .inl bi)), (ysi, .inl (cI, 4, .inl sq)), (ynu, .inl (cJ, 160, .inr (.inl nb))), (h0, .inr (9, [.ref ys, .ref yk, .ref yo, .ref yt, .int mk0, .ref yfa, .ref yfe, .int mL, .int mS, .int mM, .ref yro, .ref yhe, .ref ygr, .int mF, .int mC, .int mY, .ref yta, .int (nI (mz)), .int (nI (mf)), .int (nI (mt)), .int mv, .int mw, .ref ywa, .ref ybi, .ref ysi, .ref ynu, .ref ymo])), (yt, .inl (cI, 7, .inl mq2_24))] H := hP
      have hD : va_D A [(ybi, .inl (cI, 4, .inl bi)), (ysi, .inl (cI, 4, .inl sq)), (ynu, .inl (cJ, 160, .inr (.inl nb))), (h0, .inr (9, [.ref ys, .ref yk, .ref yo, .ref yt, .int mk0, .ref yfa, .ref yfe, .int mL, .int mS, .int mM, .ref yro, .ref yhe, .ref ygr, .int mF, .int mC, .int mY, .ref yta, .int (nI (mz)), .int (nI (mf)), .int (nI (mt)), .int mv, .int mw, .ref ywa, .ref ybi, .ref ysi, .ref ynu, .ref ymo])), (yt, .inl (cI, 7, .inl mq2_24))] := hD
      subst hw_r_23
      refine lv_i2l (v := (-1000000001)) hx hb dX9_write_44 (by decide) ?_
      exact W.lret (v := (-1000000001)) hx hb hr (fun t ht hW => ⟨⟨(-1000000001), (nb, mq2_24), rfl, trivial, by rw [ht]; exact hP.sub [3, 0, 1, 2, 4] rfl, hD.sub [3, 0, 1, 2, 4] (by decide +kernel) rfl⟩, hS.F ht⟩) hS.2.2 dX9_write_45 hlk
set_option maxHeartbeats 4000000 in
set_option maxRecDepth 100000 in
theorem c_X9_copy (l : Launch) (D : va_G) (cI cJ cZ cS : ClassId) (ta : Nat) (sa sv : Nat → Nat) (sz : Nat) (h0 : Nat) (ys : Nat) (yk : Nat) (yo : Nat) (yt : Nat) (mk0 : Int32) (yfa : Nat) (yfe : Nat) (mL : Int32) (mS : Int32) (mM : Int32) (yro : Nat) (yhe : Nat) (ygr : Nat) (mF : Int32) (mC : Int32) (mY : Int32) (yta : Nat) (mz : Nat) (mf : Nat) (mt : Nat) (mv : Int32) (mw : Int32) (ywa : Nat) (ybi : Nat) (ysi : Nat) (ynu : Nat) (ymo : Nat) (bi : Nat → Int32) (sq : Nat → Int32) (nb : Nat → Int64) (mv9 : Nat → Int64) (mq : Nat → Int32) (p0 : Int32) (p1 : Int32) (p2 : Int32) (p3 : Int32) (p4 : Int32) (hsq : BA 4 41 sq) : Met l yX9_copy (Cond.code yX9_copy cX9_copy 7 (some .int) :: wsU) ({ frames := 2, cells := 0, slots := 0, locals := 45 }) (va_Pc [.ref h0, .int p0, .int p1, .int p2, .int p3, .int p4] (XW D (xT cI cJ cZ cS) ta sa sv [(h0, .inr (9, [.ref ys, .ref yk, .ref yo, .ref yt, .int mk0, .ref yfa, .ref yfe, .int mL, .int mS, .int mM, .ref yro, .ref yhe, .ref ygr, .int mF, .int mC, .int mY, .ref yta, .int (nI (mz)), .int (nI (mf)), .int (nI (mt)), .int mv, .int mw, .ref ywa, .ref ybi, .ref ysi, .ref ynu, .ref ymo])), (ybi, .inl (cI, 4, .inl bi)), (ysi, .inl (cI, 4, .inl sq)), (ynu, .inl (cJ, 160, .inr (.inl nb))), (ymo, .inl (cJ, 40, .inr (.inl mv9))), (yt, .inl (cI, 7, .inl mq))] sz)) (XQi (fun (r : Int32) (u : (Nat → Int64) × (Nat → Int64) × (Nat → Int32)) => match u with | (nb2, mv2, mq2) => (True)) D (fun (u : (Nat → Int64) × (Nat → Int64) × (Nat → Int32)) => match u with | (nb2, mv2, mq2) => [(h0, .inr (9, [.ref ys, .ref yk, .ref yo, .ref yt, .int mk0, .ref yfa, .ref yfe, .int mL, .int mS, .int mM, .ref yro, .ref yhe, .ref ygr, .int mF, .int mC, .int mY, .ref yta, .int (nI (mz)), .int (nI (mf)), .int (nI (mt)), .int mv, .int mw, .ref ywa, .ref ybi, .ref ysi, .ref ynu, .ref ymo])), (ybi, .inl (cI, 4, .inl bi)), (ysi, .inl (cI, 4, .inl sq)), (ynu, .inl (cJ, 160, .inr (.inl nb2))), (ymo, .inl (cJ, 40, .inr (.inl mv2))), (yt, .inl (cI, 7, .inl mq2))]) (va_A [(h0, .inr (9, [.ref ys, .ref yk, .ref yo, .ref yt, .int mk0, .ref yfa, .ref yfe, .int mL, .int mS, .int mM, .ref yro, .ref yhe, .ref ygr, .int mF, .int mC, .int mY, .ref yta, .int (nI (mz)), .int (nI (mf)), .int (nI (mt)), .int mv, .int mw, .ref ywa, .ref ybi, .ref ysi, .ref ynu, .ref ymo])), (ybi, .inl (cI, 4, .inl bi)), (ysi, .inl (cI, 4, .inl sq)), (ynu, .inl (cJ, 160, .inr (.inl nb))), (ymo, .inl (cJ, 40, .inr (.inl mv9))), (yt, .inl (cI, 7, .inl mq))] sz)) 0 0 (va_A [(h0, .inr (9, [.ref ys, .ref yk, .ref yo, .ref yt, .int mk0, .ref yfa, .ref yfe, .int mL, .int mS, .int mM, .ref yro, .ref yhe, .ref ygr, .int mF, .int mC, .int mY, .ref yta, .int (nI (mz)), .int (nI (mf)), .int (nI (mt)), .int mv, .int mw, .ref ywa, .ref ybi, .ref ysi, .ref ynu, .ref ymo])), (ybi, .inl (cI, 4, .inl bi)), (ysi, .inl (cI, 4, .inl sq)), (ynu, .inl (cJ, 160, .inr (.inl nb))), (ymo, .inl (cJ, 40, .inr (.inl mv9))), (yt, .inl (cI, 7, .inl mq))] sz) := by
  refine xh (QA := fun A => XQi (fun (r : Int32) (u : (Nat → Int64) × (Nat → Int64) × (Nat → Int32)) => match u with | (nb2, mv2, mq2) => (True)) D (fun (u : (Nat → Int64) × (Nat → Int64) × (Nat → Int32)) => match u with | (nb2, mv2, mq2) => [(h0, .inr (9, [.ref ys, .ref yk, .ref yo, .ref yt, .int mk0, .ref yfa, .ref yfe, .int mL, .int mS, .int mM, .ref yro, .ref yhe, .ref ygr, .int mF, .int mC, .int mY, .ref yta, .int (nI (mz)), .int (nI (mf)), .int (nI (mt)), .int mv, .int mw, .ref ywa, .ref ybi, .ref ysi, .ref ynu, .ref ymo])), (ybi, .inl (cI, 4, .inl bi)), (ysi, .inl (cI, 4, .inl sq)), (ynu, .inl (cJ, 160, .inr (.inl nb2))), (ymo, .inl (cJ, 40, .inr (.inl mv2))), (yt, .inl (cI, 7, .inl mq2))]) A) (fr := fun A => A) (by decide) (Nat.le_of_ble_eq_true rfl) ?_
  intro p e s m below meth c ls A hF hr hlk hin hsz hP hK hD hN hZ hA hS hl
  have hF : CallFix p m c cX9_copy 7 s _ _ RX9 := hF
  have hx := hF.1
  have hb := hF.2.1
  have hml := hF.2.2.1
  have hown := hF.2.2.2.1
  have hu : ∀ w ∈ wsU, w.before _ s = true := fun w h => hF.2.2.2.2 w (List.mem_cons_of_mem _ h)
  have hl : lv_has ls 7 [(0, .ref h0), (1, .int p0), (2, .int p1), (3, .int p2), (4, .int p3), (5, .int p4)] := hl
  refine lv_iload_n hx hb dX9_copy_0 rfl (lv_at hl 1 rfl) ?_
  refine xc_Sr hF (c_X9_isOne l D cI cJ cZ cS ta sa sv s.heap.size p0 ) ks_X9_305 ⟨rfl, rfl, Nat.le_of_ble_eq_true rfl, Nat.le_of_ble_eq_true rfl⟩ ⟨Nat.le_of_ble_eq_true rfl, Nat.le_of_ble_eq_true rfl⟩ hK hN hZ hP hD hS hA [] rfl rfl rfl hl.1 rfl (Nat.le_of_ble_eq_true rfl) dX9_copy_1 (fun r_1 hw_r_1 => ?_)
  rcases hw_r_1 with ⟨rfl, h_2, h_3⟩ | ⟨rfl, h_4⟩
  · skip
    refine lv_if_eq (tgt := 14) hx hb dX9_copy_4 (by decide) (fun c_5 => absurd c_5 (by decide)) (fun c_5 => ?_)
    refine lv_iload_n hx hb dX9_copy_7 rfl (lv_at hl 3 rfl) ?_
    refine xc_Sr hF (c_X9_isOne l D cI cJ cZ cS ta sa sv s.heap.size p2 ) ks_X9_305 ⟨rfl, rfl, Nat.le_of_ble_eq_true rfl, Nat.le_of_ble_eq_true rfl⟩ ⟨Nat.le_of_ble_eq_true rfl, Nat.le_of_ble_eq_true rfl⟩ hK hN hZ hP hD hS hA [] rfl rfl rfl hl.1 rfl (Nat.le_of_ble_eq_true rfl) dX9_copy_8 (fun r_6 hw_r_6 => ?_)
    rcases hw_r_6 with ⟨rfl, h_7, h_8⟩ | ⟨rfl, h_9⟩
    · skip
      refine lv_if_ne (tgt := 21) hx hb dX9_copy_11 (by decide) (fun c_10 => ?_) (fun c_10 => absurd c_10 (by decide))
      obtain ⟨y_11, hy_11, rfl⟩ := xrange (w := 3) (by omega) h_2 h_3
      refine lv_aload_n hx hb dX9_copy_21 rfl (lv_at hl 0 rfl) ?_
      refine xg hF kf_X9_43 hK hP 0 rfl rfl dX9_copy_22 ?_
      obtain ⟨y_12, hy_12, rfl⟩ := xrange (w := 3) (by omega) h_7 h_8
      refine lv_iload_n hx hb dX9_copy_25 rfl (lv_at hl 1 rfl) ?_
      refine va_iald hx hb hK hP 1 0 rfl rfl (vp_in_nI (show y_11 < 4 by omega) (by decide)) dX9_copy_26 ?_
      refine xl_i (y := bi y_11) (congrArg bi (nI_clamp (show y_11 < 2 ^ 31 by omega))) ?_
      refine lv_if_eq (tgt := 39) hx hb dX9_copy_27 (by decide) (fun c_13 => ?_) (fun c_13 => ?_)
      · skip
        refine lv_aload_n hx hb dX9_copy_39 rfl (lv_at hl 0 rfl) ?_
        refine lv_ldcw (v := (-1000000006)) hx hb hown (hu _ uw913) dX9_copy_40 ?_
        refine xc_Vi (wr := [(ybi, .inl (cI, 4, .inl bi)), (ysi, .inl (cI, 4, .inl sq)), (ynu, .inl (cJ, 160, .inr (.inl nb))), (ymo, .inl (cJ, 40, .inr (.inl mv9)))]) hF (c_X9_finds_M l D cI cJ cZ cS ta sa sv s.heap.size h0 ys yk yo yt mk0 yfa yfe mL mS mM yro yhe ygr mF mC mY yta mz mf mt mv mw ywa ybi ysi ynu ymo mq ) kv_X9_70 ⟨rfl, rfl, Nat.le_of_ble_eq_true rfl, Nat.le_of_ble_eq_true rfl⟩ ⟨Nat.le_of_ble_eq_true rfl, Nat.le_of_ble_eq_true rfl⟩ hK hN hZ hP hD hS hA [0, 5] [1, 2, 3, 4] rfl rfl rfl rfl (by decide) 0 rfl rfl rfl rfl hl.1 rfl (Nat.le_of_ble_eq_true rfl) dX9_copy_43 (fun r_14 u_r_14 H locs hw_r_14 hP hD hS => ?_)
        obtain ⟨mq2_15, rfl⟩ : ∃ z, z = u_r_14 := ⟨_, rfl⟩
        try dsimp only at hw_r_14
        have hP : va_P D vwCl [(ybi, .inl (cI, 4, .inl bi)), (ysi, .inl (cI, 4, .inl sq)), (ynu, .inl (cJ, 160, .inr (.inl nb))), (ymo, .inl (cJ, 40, .inr (.inl mv9))), (h0, .inr (9, [.ref ys, .ref yk, .ref yo, .ref yt, .int mk0, .ref yfa, .ref yfe, .int mL, .int mS, .int mM, .ref yro, .ref yhe, .ref ygr, .int mF, .int mC, .int mY, .ref yta, .int (nI (mz)), .int (nI (mf)), .int (nI (mt)), .int mv, .int mw, .ref ywa, .ref ybi, .ref ysi, .ref ynu, .ref ymo])), (yt, .inl (cI, 7, .inl mq2_15))] H := hP
        have hD : va_D A [(ybi, .inl (cI, 4, .inl bi)), (ysi, .inl (cI, 4, .inl sq)), (ynu, .inl (cJ, 160, .inr (.inl nb))), (ymo, .inl (cJ, 40, .inr (.inl mv9))), (h0, .inr (9, [.ref ys, .ref yk, .ref yo, .ref yt, .int mk0, .ref yfa, .ref yfe, .int mL, .int mS, .int mM, .ref yro, .ref yhe, .ref ygr, .int mF, .int mC, .int mY, .ref yta, .int (nI (mz)), .int (nI (mf)), .int (nI (mt)), .int mv, .int mw, .ref ywa, .ref ybi, .ref ysi, .ref ynu, .ref ymo])), (yt, .inl (cI, 7, .inl mq2_15))] := hD
        subst hw_r_14
        exact W.iret (v := (-1000000006)) hx hb hr (fun t ht hW => ⟨⟨(-1000000006), (nb, mv9, mq2_15), rfl, trivial, by rw [ht]; exact hP.sub [4, 0, 1, 2, 3, 5] rfl, hD.sub [4, 0, 1, 2, 3, 5] (by decide +kernel) rfl⟩, hS.F ht⟩) hS.2.2 dX9_copy_46 hlk
      · skip
        refine lv_aload_n hx hb dX9_copy_30 rfl (lv_at hl 0 rfl) ?_
        refine xg hF kf_X9_43 hK hP 0 rfl rfl dX9_copy_31 ?_
        refine lv_iload_n hx hb dX9_copy_34 rfl (lv_at hl 3 rfl) ?_
        refine va_iald hx hb hK hP 1 0 rfl rfl (vp_in_nI (show y_12 < 4 by omega) (by decide)) dX9_copy_35 ?_
        refine xl_i (y := bi y_12) (congrArg bi (nI_clamp (show y_12 < 2 ^ 31 by omega))) ?_
        refine lv_if_ne (tgt := 47) hx hb dX9_copy_36 (by decide) (fun c_16 => ?_) (fun c_16 => ?_)
        · skip
          refine lv_aload_n hx hb dX9_copy_47 rfl (lv_at hl 0 rfl) ?_
          refine xg hF kf_X9_43 hK hP 0 rfl rfl dX9_copy_48 ?_
          refine lv_iload_n hx hb dX9_copy_51 rfl (lv_at hl 1 rfl) ?_
          refine va_iald hx hb hK hP 1 0 rfl rfl (vp_in_nI (show y_11 < 4 by omega) (by decide)) dX9_copy_52 ?_
          refine xl_i (y := bi y_11) (congrArg bi (nI_clamp (show y_11 < 2 ^ 31 by omega))) ?_
          refine lv_aload_n hx hb dX9_copy_53 rfl (lv_at hl 0 rfl) ?_
          refine xg hF kf_X9_43 hK hP 0 rfl rfl dX9_copy_54 ?_
          refine lv_iload_n hx hb dX9_copy_57 rfl (lv_at hl 3 rfl) ?_
          refine va_iald hx hb hK hP 1 0 rfl rfl (vp_in_nI (show y_12 < 4 by omega) (by decide)) dX9_copy_58 ?_
          refine xl_i (y := bi y_12) (congrArg bi (nI_clamp (show y_12 < 2 ^ 31 by omega))) ?_
          refine lv_icmp_eq (tgt := 69) hx hb dX9_copy_59 (by decide) (fun c_17 => ?_) (fun c_17 => ?_)
          · skip
            refine lv_iload_n hx hb dX9_copy_69 rfl (lv_at hl 2 rfl) ?_
            refine lv_if_lt (tgt := 110) hx hb dX9_copy_70 (by decide) (fun c_18 => ?_) (fun c_18 => ?_)
            · skip
              refine lv_aload_n hx hb dX9_copy_110 rfl (lv_at hl 0 rfl) ?_
              refine lv_ldc (v := (-1000000001)) hx hb hown (hu _ uw648) dX9_copy_111 ?_
              refine xc_Vi (wr := [(ybi, .inl (cI, 4, .inl bi)), (ysi, .inl (cI, 4, .inl sq)), (ynu, .inl (cJ, 160, .inr (.inl nb))), (ymo, .inl (cJ, 40, .inr (.inl mv9)))]) hF (c_X9_finds_B l D cI cJ cZ cS ta sa sv s.heap.size h0 ys yk yo yt mk0 yfa yfe mL mS mM yro yhe ygr mF mC mY yta mz mf mt mv mw ywa ybi ysi ynu ymo mq ) kv_X9_70 ⟨rfl, rfl, Nat.le_of_ble_eq_true rfl, Nat.le_of_ble_eq_true rfl⟩ ⟨Nat.le_of_ble_eq_true rfl, Nat.le_of_ble_eq_true rfl⟩ hK hN hZ hP hD hS hA [0, 5] [1, 2, 3, 4] rfl rfl rfl rfl (by decide) 0 rfl rfl rfl rfl hl.1 rfl (Nat.le_of_ble_eq_true rfl) dX9_copy_113 (fun r_19 u_r_19 H locs hw_r_19 hP hD hS => ?_)
              obtain ⟨mq2_20, rfl⟩ : ∃ z, z = u_r_19 := ⟨_, rfl⟩
              try dsimp only at hw_r_19
              have hP : va_P D vwCl [(ybi, .inl (cI, 4, .inl bi)), (ysi, .inl (cI, 4, .inl sq)), (ynu, .inl (cJ, 160, .inr (.inl nb))), (ymo, .inl (cJ, 40, .inr (.inl mv9))), (h0, .inr (9, [.ref ys, .ref yk, .ref yo, .ref yt, .int mk0, .ref yfa, .ref yfe, .int mL, .int mS, .int mM, .ref yro, .ref yhe, .ref ygr, .int mF, .int mC, .int mY, .ref yta, .int (nI (mz)), .int (nI (mf)), .int (nI (mt)), .int mv, .int mw, .ref ywa, .ref ybi, .ref ysi, .ref ynu, .ref ymo])), (yt, .inl (cI, 7, .inl mq2_20))] H := hP
              have hD : va_D A [(ybi, .inl (cI, 4, .inl bi)), (ysi, .inl (cI, 4, .inl sq)), (ynu, .inl (cJ, 160, .inr (.inl nb))), (ymo, .inl (cJ, 40, .inr (.inl mv9))), (h0, .inr (9, [.ref ys, .ref yk, .ref yo, .ref yt, .int mk0, .ref yfa, .ref yfe, .int mL, .int mS, .int mM, .ref yro, .ref yhe, .ref ygr, .int mF, .int mC, .int mY, .ref yta, .int (nI (mz)), .int (nI (mf)), .int (nI (mt)), .int mv, .int mw, .ref ywa, .ref ybi, .ref ysi, .ref ynu, .ref ymo])), (yt, .inl (cI, 7, .inl mq2_20))] := hD
              subst hw_r_19
              exact W.iret (v := (-1000000001)) hx hb hr (fun t ht hW => ⟨⟨(-1000000001), (nb, mv9, mq2_20), rfl, trivial, by rw [ht]; exact hP.sub [4, 0, 1, 2, 3, 5] rfl, hD.sub [4, 0, 1, 2, 3, 5] (by decide +kernel) rfl⟩, hS.F ht⟩) hS.2.2 dX9_copy_116 hlk
            · skip
              refine lv_iload hx hb dX9_copy_73 (lv_at hl 4 rfl) ?_
              refine lv_if_lt (tgt := 110) hx hb dX9_copy_75 (by decide) (fun c_21 => ?_) (fun c_21 => ?_)
              · skip
                refine lv_aload_n hx hb dX9_copy_110 rfl (lv_at hl 0 rfl) ?_
                refine lv_ldc (v := (-1000000001)) hx hb hown (hu _ uw648) dX9_copy_111 ?_
                refine xc_Vi (wr := [(ybi, .inl (cI, 4, .inl bi)), (ysi, .inl (cI, 4, .inl sq)), (ynu, .inl (cJ, 160, .inr (.inl nb))), (ymo, .inl (cJ, 40, .inr (.inl mv9)))]) hF (c_X9_finds_B l D cI cJ cZ cS ta sa sv s.heap.size h0 ys yk yo yt mk0 yfa yfe mL mS mM yro yhe ygr mF mC mY yta mz mf mt mv mw ywa ybi ysi ynu ymo mq ) kv_X9_70 ⟨rfl, rfl, Nat.le_of_ble_eq_true rfl, Nat.le_of_ble_eq_true rfl⟩ ⟨Nat.le_of_ble_eq_true rfl, Nat.le_of_ble_eq_true rfl⟩ hK hN hZ hP hD hS hA [0, 5] [1, 2, 3, 4] rfl rfl rfl rfl (by decide) 0 rfl rfl rfl rfl hl.1 rfl (Nat.le_of_ble_eq_true rfl) dX9_copy_113 (fun r_22 u_r_22 H locs hw_r_22 hP hD hS => ?_)
                obtain ⟨mq2_23, rfl⟩ : ∃ z, z = u_r_22 := ⟨_, rfl⟩
                try dsimp only at hw_r_22
                have hP : va_P D vwCl [(ybi, .inl (cI, 4, .inl bi)), (ysi, .inl (cI, 4, .inl sq)), (ynu, .inl (cJ, 160, .inr (.inl nb))), (ymo, .inl (cJ, 40, .inr (.inl mv9))), (h0, .inr (9, [.ref ys, .ref yk, .ref yo, .ref yt, .int mk0, .ref yfa, .ref yfe, .int mL, .int mS, .int mM, .ref yro, .ref yhe, .ref ygr, .int mF, .int mC, .int mY, .ref yta, .int (nI (mz)), .int (nI (mf)), .int (nI (mt)), .int mv, .int mw, .ref ywa, .ref ybi, .ref ysi, .ref ynu, .ref ymo])), (yt, .inl (cI, 7, .inl mq2_23))] H := hP
                have hD : va_D A [(ybi, .inl (cI, 4, .inl bi)), (ysi, .inl (cI, 4, .inl sq)), (ynu, .inl (cJ, 160, .inr (.inl nb))), (ymo, .inl (cJ, 40, .inr (.inl mv9))), (h0, .inr (9, [.ref ys, .ref yk, .ref yo, .ref yt, .int mk0, .ref yfa, .ref yfe, .int mL, .int mS, .int mM, .ref yro, .ref yhe, .ref ygr, .int mF, .int mC, .int mY, .ref yta, .int (nI (mz)), .int (nI (mf)), .int (nI (mt)), .int mv, .int mw, .ref ywa, .ref ybi, .ref ysi, .ref ynu, .ref ymo])), (yt, .inl (cI, 7, .inl mq2_23))] := hD
                subst hw_r_22
                exact W.iret (v := (-1000000001)) hx hb hr (fun t ht hW => ⟨⟨(-1000000001), (nb, mv9, mq2_23), rfl, trivial, by rw [ht]; exact hP.sub [4, 0, 1, 2, 3, 5] rfl, hD.sub [4, 0, 1, 2, 3, 5] (by decide +kernel) rfl⟩, hS.F ht⟩) hS.2.2 dX9_copy_116 hlk
              · skip
                refine lv_iload hx hb dX9_copy_78 (lv_at hl 5 rfl) ?_
                refine lv_if_lt (tgt := 110) hx hb dX9_copy_80 (by decide) (fun c_24 => ?_) (fun c_24 => ?_)
                · skip
                  refine lv_aload_n hx hb dX9_copy_110 rfl (lv_at hl 0 rfl) ?_
                  refine lv_ldc (v := (-1000000001)) hx hb hown (hu _ uw648) dX9_copy_111 ?_
                  refine xc_Vi (wr := [(ybi, .inl (cI, 4, .inl bi)), (ysi, .inl (cI, 4, .inl sq)), (ynu, .inl (cJ, 160, .inr (.inl nb))), (ymo, .inl (cJ, 40, .inr (.inl mv9)))]) hF (c_X9_finds_B l D cI cJ cZ cS ta sa sv s.heap.size h0 ys yk yo yt mk0 yfa yfe mL mS mM yro yhe ygr mF mC mY yta mz mf mt mv mw ywa ybi ysi ynu ymo mq ) kv_X9_70 ⟨rfl, rfl, Nat.le_of_ble_eq_true rfl, Nat.le_of_ble_eq_true rfl⟩ ⟨Nat.le_of_ble_eq_true rfl, Nat.le_of_ble_eq_true rfl⟩ hK hN hZ hP hD hS hA [0, 5] [1, 2, 3, 4] rfl rfl rfl rfl (by decide) 0 rfl rfl rfl rfl hl.1 rfl (Nat.le_of_ble_eq_true rfl) dX9_copy_113 (fun r_25 u_r_25 H locs hw_r_25 hP hD hS => ?_)
                  obtain ⟨mq2_26, rfl⟩ : ∃ z, z = u_r_25 := ⟨_, rfl⟩
                  try dsimp only at hw_r_25
                  have hP : va_P D vwCl [(ybi, .inl (cI, 4, .inl bi)), (ysi, .inl (cI, 4, .inl sq)), (ynu, .inl (cJ, 160, .inr (.inl nb))), (ymo, .inl (cJ, 40, .inr (.inl mv9))), (h0, .inr (9, [.ref ys, .ref yk, .ref yo, .ref yt, .int mk0, .ref yfa, .ref yfe, .int mL, .int mS, .int mM, .ref yro, .ref yhe, .ref ygr, .int mF, .int mC, .int mY, .ref yta, .int (nI (mz)), .int (nI (mf)), .int (nI (mt)), .int mv, .int mw, .ref ywa, .ref ybi, .ref ysi, .ref ynu, .ref ymo])), (yt, .inl (cI, 7, .inl mq2_26))] H := hP
                  have hD : va_D A [(ybi, .inl (cI, 4, .inl bi)), (ysi, .inl (cI, 4, .inl sq)), (ynu, .inl (cJ, 160, .inr (.inl nb))), (ymo, .inl (cJ, 40, .inr (.inl mv9))), (h0, .inr (9, [.ref ys, .ref yk, .ref yo, .ref yt, .int mk0, .ref yfa, .ref yfe, .int mL, .int mS, .int mM, .ref yro, .ref yhe, .ref ygr, .int mF, .int mC, .int mY, .ref yta, .int (nI (mz)), .int (nI (mf)), .int (nI (mt)), .int mv, .int mw, .ref ywa, .ref ybi, .ref ysi, .ref ynu, .ref ymo])), (yt, .inl (cI, 7, .inl mq2_26))] := hD
                  subst hw_r_25
                  exact W.iret (v := (-1000000001)) hx hb hr (fun t ht hW => ⟨⟨(-1000000001), (nb, mv9, mq2_26), rfl, trivial, by rw [ht]; exact hP.sub [4, 0, 1, 2, 3, 5] rfl, hD.sub [4, 0, 1, 2, 3, 5] (by decide +kernel) rfl⟩, hS.F ht⟩) hS.2.2 dX9_copy_116 hlk
                · skip
                  refine lv_iload hx hb dX9_copy_83 (lv_at hl 5 rfl) ?_
                  refine lv_aload_n hx hb dX9_copy_85 rfl (lv_at hl 0 rfl) ?_
                  refine xg hF kf_X9_46 hK hP 0 rfl rfl dX9_copy_86 ?_
                  refine lv_iload_n hx hb dX9_copy_89 rfl (lv_at hl 1 rfl) ?_
                  refine va_iald hx hb hK hP 2 0 rfl rfl (vp_in_nI (show y_11 < 4 by omega) (by decide)) dX9_copy_90 ?_
                  refine xl_i (y := sq y_11) (congrArg sq (nI_clamp (show y_11 < 2 ^ 31 by omega))) ?_
                  obtain ⟨q_27, hq_27, eq_27⟩ := hsq y_11 (by omega)
                  refine xl_i (y := nI (q_27)) eq_27 ?_
                  refine lv_iload_n hx hb dX9_copy_91 rfl (lv_at hl 2 rfl) ?_
                  refine lv_isub hx hb dX9_copy_92 ?_
                  refine lv_topi (fun x_28 ex_28 => ?_)
                  refine lv_icmp_gt (tgt := 110) hx hb dX9_copy_93 (by decide) (fun c_29 => ?_) (fun c_29 => ?_)
                  · skip
                    refine lv_aload_n hx hb dX9_copy_110 rfl (lv_at hl 0 rfl) ?_
                    refine lv_ldc (v := (-1000000001)) hx hb hown (hu _ uw648) dX9_copy_111 ?_
                    refine xc_Vi (wr := [(ybi, .inl (cI, 4, .inl bi)), (ysi, .inl (cI, 4, .inl sq)), (ynu, .inl (cJ, 160, .inr (.inl nb))), (ymo, .inl (cJ, 40, .inr (.inl mv9)))]) hF (c_X9_finds_B l D cI cJ cZ cS ta sa sv s.heap.size h0 ys yk yo yt mk0 yfa yfe mL mS mM yro yhe ygr mF mC mY yta mz mf mt mv mw ywa ybi ysi ynu ymo mq ) kv_X9_70 ⟨rfl, rfl, Nat.le_of_ble_eq_true rfl, Nat.le_of_ble_eq_true rfl⟩ ⟨Nat.le_of_ble_eq_true rfl, Nat.le_of_ble_eq_true rfl⟩ hK hN hZ hP hD hS hA [0, 5] [1, 2, 3, 4] rfl rfl rfl rfl (by decide) 0 rfl rfl rfl rfl hl.1 rfl (Nat.le_of_ble_eq_true rfl) dX9_copy_113 (fun r_30 u_r_30 H locs hw_r_30 hP hD hS => ?_)
                    obtain ⟨mq2_31, rfl⟩ : ∃ z, z = u_r_30 := ⟨_, rfl⟩
                    try dsimp only at hw_r_30
                    have hP : va_P D vwCl [(ybi, .inl (cI, 4, .inl bi)), (ysi, .inl (cI, 4, .inl sq)), (ynu, .inl (cJ, 160, .inr (.inl nb))), (ymo, .inl (cJ, 40, .inr (.inl mv9))), (h0, .inr (9, [.ref ys, .ref yk, .ref yo, .ref yt, .int mk0, .ref yfa, .ref yfe, .int mL, .int mS, .int mM, .ref yro, .ref yhe, .ref ygr, .int mF, .int mC, .int mY, .ref yta, .int (nI (mz)), .int (nI (mf)), .int (nI (mt)), .int mv, .int mw, .ref ywa, .ref ybi, .ref ysi, .ref ynu, .ref ymo])), (yt, .inl (cI, 7, .inl mq2_31))] H := hP
                    have hD : va_D A [(ybi, .inl (cI, 4, .inl bi)), (ysi, .inl (cI, 4, .inl sq)), (ynu, .inl (cJ, 160, .inr (.inl nb))), (ymo, .inl (cJ, 40, .inr (.inl mv9))), (h0, .inr (9, [.ref ys, .ref yk, .ref yo, .ref yt, .int mk0, .ref yfa, .ref yfe, .int mL, .int mS, .int mM, .ref yro, .ref yhe, .ref ygr, .int mF, .int mC, .int mY, .ref yta, .int (nI (mz)), .int (nI (mf)), .int (nI (mt)), .int mv, .int mw, .ref ywa, .ref ybi, .ref ysi, .ref ynu, .ref ymo])), (yt, .inl (cI, 7, .inl mq2_31))] := hD
                    subst hw_r_30
                    exact W.iret (v := (-1000000001)) hx hb hr (fun t ht hW => ⟨⟨(-1000000001), (nb, mv9, mq2_31), rfl, trivial, by rw [ht]; exact hP.sub [4, 0, 1, 2, 3, 5] rfl, hD.sub [4, 0, 1, 2, 3, 5] (by decide +kernel) rfl⟩, hS.F ht⟩) hS.2.2 dX9_copy_116 hlk
                  · skip
                    refine lv_iload hx hb dX9_copy_96 (lv_at hl 5 rfl) ?_
                    refine lv_aload_n hx hb dX9_copy_98 rfl (lv_at hl 0 rfl) ?_
                    refine xg hF kf_X9_46 hK hP 0 rfl rfl dX9_copy_99 ?_
                    refine lv_iload_n hx hb dX9_copy_102 rfl (lv_at hl 3 rfl) ?_
                    refine va_iald hx hb hK hP 2 0 rfl rfl (vp_in_nI (show y_12 < 4 by omega) (by decide)) dX9_copy_103 ?_
                    refine xl_i (y := sq y_12) (congrArg sq (nI_clamp (show y_12 < 2 ^ 31 by omega))) ?_
                    obtain ⟨q_32, hq_32, eq_32⟩ := hsq y_12 (by omega)
                    refine xl_i (y := nI (q_32)) eq_32 ?_
                    refine lv_iload hx hb dX9_copy_104 (lv_at hl 4 rfl) ?_
                    refine lv_isub hx hb dX9_copy_106 ?_
                    refine lv_topi (fun x_33 ex_33 => ?_)
                    refine lv_icmp_le (tgt := 117) hx hb dX9_copy_107 (by decide) (fun c_34 => ?_) (fun c_34 => ?_)
                    · skip
                      obtain ⟨y_35, hy_35, rfl⟩ := x_spk (by omega) c_18 c_24 ex_28 c_29
                      obtain ⟨y_36, hy_36, rfl⟩ := x_spj (by omega) (by omega) c_18 ex_28 c_29
                      obtain ⟨y_37, hy_37, rfl⟩ := x_spj (by omega) (by omega) c_21 ex_33 (Int32.not_lt.mpr c_34)
                      refine lv_iconst (v := 0) hx hb dX9_copy_117 (by decide) ?_
                      refine lv_istore (lv' := [(6, .int 0), (0, .ref h0), (1, .int (nI (y_11))), (2, .int (nI (y_36))), (3, .int (nI (y_12))), (4, .int (nI (y_37))), (5, .int (nI (y_35)))]) hx hb dX9_copy_118 hl (by decide) rfl (fun ls hl => ?_)
                      suffices loop_120 : ∀ (n_120 : Nat) (i : Nat) (m8 : Nat → Int64) (H : Heap) (locs : List Loc) (ls : Array Slot), y_35 - i < n_120 → (i ≤ y_35) → va_P D vwCl [(h0, .inr (9, [.ref ys, .ref yk, .ref yo, .ref yt, .int mk0, .ref yfa, .ref yfe, .int mL, .int mS, .int mM, .ref yro, .ref yhe, .ref ygr, .int mF, .int mC, .int mY, .ref yta, .int (nI (mz)), .int (nI (mf)), .int (nI (mt)), .int mv, .int mw, .ref ywa, .ref ybi, .ref ysi, .ref ynu, .ref ymo])), (ybi, .inl (cI, 4, .inl bi)), (ysi, .inl (cI, 4, .inl sq)), (ynu, .inl (cJ, 160, .inr (.inl nb))), (ymo, .inl (cJ, 40, .inr (.inl m8))), (yt, .inl (cI, 7, .inl mq))] H → va_D A [(h0, .inr (9, [.ref ys, .ref yk, .ref yo, .ref yt, .int mk0, .ref yfa, .ref yfe, .int mL, .int mS, .int mM, .ref yro, .ref yhe, .ref ygr, .int mF, .int mC, .int mY, .ref yta, .int (nI (mz)), .int (nI (mf)), .int (nI (mt)), .int mv, .int mw, .ref ywa, .ref ybi, .ref ysi, .ref ynu, .ref ymo])), (ybi, .inl (cI, 4, .inl bi)), (ysi, .inl (cI, 4, .inl sq)), (ynu, .inl (cJ, 160, .inr (.inl nb))), (ymo, .inl (cJ, 40, .inr (.inl m8))), (yt, .inl (cI, 7, .inl mq))] → va_S A s.heap H locs → lv_has ls 7 [(6, .int (nI (i))), (0, .ref h0), (1, .int (nI (y_11))), (2, .int (nI (y_36))), (3, .int (nI (y_12))), (4, .int (nI (y_37))), (5, .int (nI (y_35)))] → W p l e ({ frames := 2, cells := 0, slots := 0, locals := 45 }) s m ([.ref h0, .int (nI (y_11)), .int (nI (y_36)), .int (nI (y_12)), .int (nI (y_37)), .int (nI (y_35))] : List Value).toArray below meth c H locs 0 0 (MQ below (XQi (fun (r : Int32) (u : (Nat → Int64) × (Nat → Int64) × (Nat → Int32)) => match u with | (nb2, mv2, mq2) => (True)) D (fun (u : (Nat → Int64) × (Nat → Int64) × (Nat → Int32)) => match u with | (nb2, mv2, mq2) => [(h0, .inr (9, [.ref ys, .ref yk, .ref yo, .ref yt, .int mk0, .ref yfa, .ref yfe, .int mL, .int mS, .int mM, .ref yro, .ref yhe, .ref ygr, .int mF, .int mC, .int mY, .ref yta, .int (nI (mz)), .int (nI (mf)), .int (nI (mt)), .int mv, .int mw, .ref ywa, .ref ybi, .ref ysi, .ref ynu, .ref ymo])), (ybi, .inl (cI, 4, .inl bi)), (ysi, .inl (cI, 4, .inl sq)), (ynu, .inl (cJ, 160, .inr (.inl nb2))), (ymo, .inl (cJ, 40, .inr (.inl mv2))), (yt, .inl (cI, 7, .inl mq2))]) A) ([.ref h0, .int (nI (y_11)), .int (nI (y_36)), .int (nI (y_12)), .int (nI (y_37)), .int (nI (y_35))] : List Value).toArray s 0 0 A) (F0 m 120 ls []) by
                        exact loop_120 _ 0 mv9 _ _ _ (Nat.lt_succ_self _) (by omega) hP hD hS (lv_sub hl [0, 1, 2, 3, 4, 5, 6] rfl)
                      intro n_120
                      induction n_120 with
                      | zero =>
                        intro i m8 H locs ls hm_120
                        exact absurd hm_120 (Nat.not_lt_zero _)
                      | succ n_120 ih_120 =>
                        intro i m8 H locs ls hm_120 hi hP hD hS hl
                        refine lv_iload hx hb dX9_copy_120 (lv_at hl 0 rfl) ?_
                        refine lv_iload hx hb dX9_copy_122 (lv_at hl 6 rfl) ?_
                        refine lv_icmp_ge (tgt := 154) hx hb dX9_copy_124 (by decide) (fun c_38 => ?_) (fun c_38 => ?_)
                        · skip
                          have nc_38 : y_35 ≤ i := xn_le (a := y_35) (b := i) (by omega) (by omega) c_38
                          refine lv_iconst (v := 0) hx hb dX9_copy_154 (by decide) ?_
                          refine lv_istore (lv' := [(6, .int 0), (0, .ref h0), (1, .int (nI (y_11))), (2, .int (nI (y_36))), (3, .int (nI (y_12))), (4, .int (nI (y_37))), (5, .int (nI (y_35)))]) hx hb dX9_copy_155 hl (by decide) rfl (fun ls hl => ?_)
                          suffices loop_157 : ∀ (n_157 : Nat) (i2 : Nat) (n8 : Nat → Int64) (H : Heap) (locs : List Loc) (ls : Array Slot), y_35 - i2 < n_157 → (i2 ≤ y_35) → va_P D vwCl [(h0, .inr (9, [.ref ys, .ref yk, .ref yo, .ref yt, .int mk0, .ref yfa, .ref yfe, .int mL, .int mS, .int mM, .ref yro, .ref yhe, .ref ygr, .int mF, .int mC, .int mY, .ref yta, .int (nI (mz)), .int (nI (mf)), .int (nI (mt)), .int mv, .int mw, .ref ywa, .ref ybi, .ref ysi, .ref ynu, .ref ymo])), (ybi, .inl (cI, 4, .inl bi)), (ysi, .inl (cI, 4, .inl sq)), (ynu, .inl (cJ, 160, .inr (.inl n8))), (ymo, .inl (cJ, 40, .inr (.inl m8))), (yt, .inl (cI, 7, .inl mq))] H → va_D A [(h0, .inr (9, [.ref ys, .ref yk, .ref yo, .ref yt, .int mk0, .ref yfa, .ref yfe, .int mL, .int mS, .int mM, .ref yro, .ref yhe, .ref ygr, .int mF, .int mC, .int mY, .ref yta, .int (nI (mz)), .int (nI (mf)), .int (nI (mt)), .int mv, .int mw, .ref ywa, .ref ybi, .ref ysi, .ref ynu, .ref ymo])), (ybi, .inl (cI, 4, .inl bi)), (ysi, .inl (cI, 4, .inl sq)), (ynu, .inl (cJ, 160, .inr (.inl n8))), (ymo, .inl (cJ, 40, .inr (.inl m8))), (yt, .inl (cI, 7, .inl mq))] → va_S A s.heap H locs → lv_has ls 7 [(6, .int (nI (i2))), (0, .ref h0), (1, .int (nI (y_11))), (2, .int (nI (y_36))), (3, .int (nI (y_12))), (4, .int (nI (y_37))), (5, .int (nI (y_35)))] → W p l e ({ frames := 2, cells := 0, slots := 0, locals := 45 }) s m ([.ref h0, .int (nI (y_11)), .int (nI (y_36)), .int (nI (y_12)), .int (nI (y_37)), .int (nI (y_35))] : List Value).toArray below meth c H locs 0 0 (MQ below (XQi (fun (r : Int32) (u : (Nat → Int64) × (Nat → Int64) × (Nat → Int32)) => match u with | (nb2, mv2, mq2) => (True)) D (fun (u : (Nat → Int64) × (Nat → Int64) × (Nat → Int32)) => match u with | (nb2, mv2, mq2) => [(h0, .inr (9, [.ref ys, .ref yk, .ref yo, .ref yt, .int mk0, .ref yfa, .ref yfe, .int mL, .int mS, .int mM, .ref yro, .ref yhe, .ref ygr, .int mF, .int mC, .int mY, .ref yta, .int (nI (mz)), .int (nI (mf)), .int (nI (mt)), .int mv, .int mw, .ref ywa, .ref ybi, .ref ysi, .ref ynu, .ref ymo])), (ybi, .inl (cI, 4, .inl bi)), (ysi, .inl (cI, 4, .inl sq)), (ynu, .inl (cJ, 160, .inr (.inl nb2))), (ymo, .inl (cJ, 40, .inr (.inl mv2))), (yt, .inl (cI, 7, .inl mq2))]) A) ([.ref h0, .int (nI (y_11)), .int (nI (y_36)), .int (nI (y_12)), .int (nI (y_37)), .int (nI (y_35))] : List Value).toArray s 0 0 A) (F0 m 157 ls []) by
                            exact loop_157 _ 0 nb _ _ _ (Nat.lt_succ_self _) (by omega) hP hD hS (lv_sub hl [0, 1, 2, 3, 4, 5, 6] rfl)
                          intro n_157
                          induction n_157 with
                          | zero =>
                            intro i2 n8 H locs ls hm_157
                            exact absurd hm_157 (Nat.not_lt_zero _)
                          | succ n_157 ih_157 =>
                            intro i2 n8 H locs ls hm_157 hi2 hP hD hS hl
                            refine lv_iload hx hb dX9_copy_157 (lv_at hl 0 rfl) ?_
                            refine lv_iload hx hb dX9_copy_159 (lv_at hl 6 rfl) ?_
                            refine lv_icmp_ge (tgt := 192) hx hb dX9_copy_161 (by decide) (fun c_39 => ?_) (fun c_39 => ?_)
                            · skip
                              have nc_39 : y_35 ≤ i2 := xn_le (a := y_35) (b := i2) (by omega) (by omega) c_39
                              refine lv_iload hx hb dX9_copy_192 (lv_at hl 6 rfl) ?_
                              exact W.iret (v := nI (y_35)) hx hb hr (fun t ht hW => ⟨⟨nI (y_35), (n8, m8, mq), rfl, trivial, by rw [ht]; exact hP.sub [0, 1, 2, 3, 4, 5] rfl, hD.sub [0, 1, 2, 3, 4, 5] (by decide +kernel) rfl⟩, hS.F ht⟩) hS.2.2 dX9_copy_194 hlk
                            · skip
                              have nc_39 : i2 < y_35 := xn_nle (a := y_35) (b := i2) (by omega) (by omega) c_39
                              refine lv_aload_n hx hb dX9_copy_164 rfl (lv_at hl 1 rfl) ?_
                              refine xg hF kf_X9_49 hK hP 0 rfl rfl dX9_copy_165 ?_
                              refine lv_bipush (v := 40) hx hb dX9_copy_168 (by decide) ?_
                              refine lv_iload_n hx hb dX9_copy_170 rfl (lv_at hl 4 rfl) ?_
                              refine lv_imul hx hb dX9_copy_171 ?_
                              refine xl_i (y := nI (40 * y_12)) (pk_mul 40 y_12) ?_
                              refine lv_iload hx hb dX9_copy_172 (lv_at hl 5 rfl) ?_
                              refine lv_iadd hx hb dX9_copy_174 ?_
                              refine xl_i (y := nI (40 * y_12 + y_37)) (nI_add (40 * y_12) y_37) ?_
                              refine lv_iload hx hb dX9_copy_175 (lv_at hl 0 rfl) ?_
                              refine lv_iadd hx hb dX9_copy_177 ?_
                              refine xl_i (y := nI (40 * y_12 + y_37 + i2)) (nI_add (40 * y_12 + y_37) i2) ?_
                              refine lv_aload_n hx hb dX9_copy_178 rfl (lv_at hl 1 rfl) ?_
                              refine xg hF kf_X9_53 hK hP 0 rfl rfl dX9_copy_179 ?_
                              refine lv_iload hx hb dX9_copy_182 (lv_at hl 0 rfl) ?_
                              refine va_lald hx hb hK hP 4 1 rfl rfl (vp_in_nI (show i2 < 40 by omega) (by decide)) dX9_copy_184 ?_
                              refine xl_l (y := m8 i2) (congrArg m8 (nI_clamp (show i2 < 2 ^ 31 by omega))) ?_
                              refine va_last hx hb hK hP hD hS 3 1 rfl rfl (vp_in_nI (show 40 * y_12 + y_37 + i2 < 160 by omega) (by decide)) dX9_copy_185 (fun H locs hP hD hS => ?_)
                              rw [nI_clamp (show 40 * y_12 + y_37 + i2 < 2 ^ 31 by omega)] at hP hD
                              obtain ⟨f_40, ef_40⟩ : ∃ g, g = vp_updL n8 (40 * y_12 + y_37 + i2) (m8 i2) := ⟨_, rfl⟩
                              rw [← ef_40] at hP hD
                              have hP : va_P D vwCl [(h0, .inr (9, [.ref ys, .ref yk, .ref yo, .ref yt, .int mk0, .ref yfa, .ref yfe, .int mL, .int mS, .int mM, .ref yro, .ref yhe, .ref ygr, .int mF, .int mC, .int mY, .ref yta, .int (nI (mz)), .int (nI (mf)), .int (nI (mt)), .int mv, .int mw, .ref ywa, .ref ybi, .ref ysi, .ref ynu, .ref ymo])), (ybi, .inl (cI, 4, .inl bi)), (ysi, .inl (cI, 4, .inl sq)), (ynu, .inl (cJ, 160, .inr (.inl f_40))), (ymo, .inl (cJ, 40, .inr (.inl m8))), (yt, .inl (cI, 7, .inl mq))] H := hP
                              have hD : va_D A [(h0, .inr (9, [.ref ys, .ref yk, .ref yo, .ref yt, .int mk0, .ref yfa, .ref yfe, .int mL, .int mS, .int mM, .ref yro, .ref yhe, .ref ygr, .int mF, .int mC, .int mY, .ref yta, .int (nI (mz)), .int (nI (mf)), .int (nI (mt)), .int mv, .int mw, .ref ywa, .ref ybi, .ref ysi, .ref ynu, .ref ymo])), (ybi, .inl (cI, 4, .inl bi)), (ysi, .inl (cI, 4, .inl sq)), (ynu, .inl (cJ, 160, .inr (.inl f_40))), (ymo, .inl (cJ, 40, .inr (.inl m8))), (yt, .inl (cI, 7, .inl mq))] := hD
                              refine lv_iinc (v := nI (i2 + 1)) (lv' := [(6, .int (nI (i2 + 1))), (0, .ref h0), (1, .int (nI (y_11))), (2, .int (nI (y_36))), (3, .int (nI (y_12))), (4, .int (nI (y_37))), (5, .int (nI (y_35)))]) hx hb dX9_copy_186 hl (k := 0) rfl (nI_1 (i2)) (by decide) rfl (fun ls hl => ?_)
                              refine lv_goto (tgt := 157) hx hb dX9_copy_189 (by decide) ?_
                              exact ih_157 (i2 + 1) f_40 _ _ _ (by omega) (by omega) (hP.sub [0, 1, 2, 3, 4, 5] rfl) (hD.sub [0, 1, 2, 3, 4, 5] (by decide +kernel) rfl) hS (lv_sub hl [0, 1, 2, 3, 4, 5, 6] rfl)
                        · skip
                          have nc_38 : i < y_35 := xn_nle (a := y_35) (b := i) (by omega) (by omega) c_38
                          refine lv_aload_n hx hb dX9_copy_127 rfl (lv_at hl 1 rfl) ?_
                          refine xg hF kf_X9_53 hK hP 0 rfl rfl dX9_copy_128 ?_
                          refine lv_iload hx hb dX9_copy_131 (lv_at hl 0 rfl) ?_
                          refine lv_aload_n hx hb dX9_copy_133 rfl (lv_at hl 1 rfl) ?_
                          refine xg hF kf_X9_49 hK hP 0 rfl rfl dX9_copy_134 ?_
                          refine lv_bipush (v := 40) hx hb dX9_copy_137 (by decide) ?_
                          refine lv_iload_n hx hb dX9_copy_139 rfl (lv_at hl 2 rfl) ?_
                          refine lv_imul hx hb dX9_copy_140 ?_
                          refine xl_i (y := nI (40 * y_11)) (pk_mul 40 y_11) ?_
                          refine lv_iload_n hx hb dX9_copy_141 rfl (lv_at hl 3 rfl) ?_
                          refine lv_iadd hx hb dX9_copy_142 ?_
                          refine xl_i (y := nI (40 * y_11 + y_36)) (nI_add (40 * y_11) y_36) ?_
                          refine lv_iload hx hb dX9_copy_143 (lv_at hl 0 rfl) ?_
                          refine lv_iadd hx hb dX9_copy_145 ?_
                          refine xl_i (y := nI (40 * y_11 + y_36 + i)) (nI_add (40 * y_11 + y_36) i) ?_
                          refine va_lald hx hb hK hP 3 1 rfl rfl (vp_in_nI (show 40 * y_11 + y_36 + i < 160 by omega) (by decide)) dX9_copy_146 ?_
                          refine xl_l (y := nb (40 * y_11 + y_36 + i)) (congrArg nb (nI_clamp (show 40 * y_11 + y_36 + i < 2 ^ 31 by omega))) ?_
                          refine va_last hx hb hK hP hD hS 4 1 rfl rfl (vp_in_nI (show i < 40 by omega) (by decide)) dX9_copy_147 (fun H locs hP hD hS => ?_)
                          rw [nI_clamp (show i < 2 ^ 31 by omega)] at hP hD
                          obtain ⟨f_41, ef_41⟩ : ∃ g, g = vp_updL m8 i (nb (40 * y_11 + y_36 + i)) := ⟨_, rfl⟩
                          rw [← ef_41] at hP hD
                          have hP : va_P D vwCl [(h0, .inr (9, [.ref ys, .ref yk, .ref yo, .ref yt, .int mk0, .ref yfa, .ref yfe, .int mL, .int mS, .int mM, .ref yro, .ref yhe, .ref ygr, .int mF, .int mC, .int mY, .ref yta, .int (nI (mz)), .int (nI (mf)), .int (nI (mt)), .int mv, .int mw, .ref ywa, .ref ybi, .ref ysi, .ref ynu, .ref ymo])), (ybi, .inl (cI, 4, .inl bi)), (ysi, .inl (cI, 4, .inl sq)), (ynu, .inl (cJ, 160, .inr (.inl nb))), (ymo, .inl (cJ, 40, .inr (.inl f_41))), (yt, .inl (cI, 7, .inl mq))] H := hP
                          have hD : va_D A [(h0, .inr (9, [.ref ys, .ref yk, .ref yo, .ref yt, .int mk0, .ref yfa, .ref yfe, .int mL, .int mS, .int mM, .ref yro, .ref yhe, .ref ygr, .int mF, .int mC, .int mY, .ref yta, .int (nI (mz)), .int (nI (mf)), .int (nI (mt)), .int mv, .int mw, .ref ywa, .ref ybi, .ref ysi, .ref ynu, .ref ymo])), (ybi, .inl (cI, 4, .inl bi)), (ysi, .inl (cI, 4, .inl sq)), (ynu, .inl (cJ, 160, .inr (.inl nb))), (ymo, .inl (cJ, 40, .inr (.inl f_41))), (yt, .inl (cI, 7, .inl mq))] := hD
                          refine lv_iinc (v := nI (i + 1)) (lv' := [(6, .int (nI (i + 1))), (0, .ref h0), (1, .int (nI (y_11))), (2, .int (nI (y_36))), (3, .int (nI (y_12))), (4, .int (nI (y_37))), (5, .int (nI (y_35)))]) hx hb dX9_copy_148 hl (k := 0) rfl (nI_1 (i)) (by decide) rfl (fun ls hl => ?_)
                          refine lv_goto (tgt := 120) hx hb dX9_copy_151 (by decide) ?_
                          exact ih_120 (i + 1) f_41 _ _ _ (by omega) (by omega) (hP.sub [0, 1, 2, 3, 4, 5] rfl) (hD.sub [0, 1, 2, 3, 4, 5] (by decide +kernel) rfl) hS (lv_sub hl [0, 1, 2, 3, 4, 5, 6] rfl)
                    · skip
                      refine lv_aload_n hx hb dX9_copy_110 rfl (lv_at hl 0 rfl) ?_
                      refine lv_ldc (v := (-1000000001)) hx hb hown (hu _ uw648) dX9_copy_111 ?_
                      refine xc_Vi (wr := [(ybi, .inl (cI, 4, .inl bi)), (ysi, .inl (cI, 4, .inl sq)), (ynu, .inl (cJ, 160, .inr (.inl nb))), (ymo, .inl (cJ, 40, .inr (.inl mv9)))]) hF (c_X9_finds_B l D cI cJ cZ cS ta sa sv s.heap.size h0 ys yk yo yt mk0 yfa yfe mL mS mM yro yhe ygr mF mC mY yta mz mf mt mv mw ywa ybi ysi ynu ymo mq ) kv_X9_70 ⟨rfl, rfl, Nat.le_of_ble_eq_true rfl, Nat.le_of_ble_eq_true rfl⟩ ⟨Nat.le_of_ble_eq_true rfl, Nat.le_of_ble_eq_true rfl⟩ hK hN hZ hP hD hS hA [0, 5] [1, 2, 3, 4] rfl rfl rfl rfl (by decide) 0 rfl rfl rfl rfl hl.1 rfl (Nat.le_of_ble_eq_true rfl) dX9_copy_113 (fun r_42 u_r_42 H locs hw_r_42 hP hD hS => ?_)
                      obtain ⟨mq2_43, rfl⟩ : ∃ z, z = u_r_42 := ⟨_, rfl⟩
                      try dsimp only at hw_r_42
                      have hP : va_P D vwCl [(ybi, .inl (cI, 4, .inl bi)), (ysi, .inl (cI, 4, .inl sq)), (ynu, .inl (cJ, 160, .inr (.inl nb))), (ymo, .inl (cJ, 40, .inr (.inl mv9))), (h0, .inr (9, [.ref ys, .ref yk, .ref yo, .ref yt, .int mk0, .ref yfa, .ref yfe, .int mL, .int mS, .int mM, .ref yro, .ref yhe, .ref ygr, .int mF, .int mC, .int mY, .ref yta, .int (nI (mz)), .int (nI (mf)), .int (nI (mt)), .int mv, .int mw, .ref ywa, .ref ybi, .ref ysi, .ref ynu, .ref ymo])), (yt, .inl (cI, 7, .inl mq2_43))] H := hP
                      have hD : va_D A [(ybi, .inl (cI, 4, .inl bi)), (ysi, .inl (cI, 4, .inl sq)), (ynu, .inl (cJ, 160, .inr (.inl nb))), (ymo, .inl (cJ, 40, .inr (.inl mv9))), (h0, .inr (9, [.ref ys, .ref yk, .ref yo, .ref yt, .int mk0, .ref yfa, .ref yfe, .int mL, .int mS, .int mM, .ref yro, .ref yhe, .ref ygr, .int mF, .int mC, .int mY, .ref yta, .int (nI (mz)), .int (nI (mf)), .int (nI (mt)), .int mv, .int mw, .ref ywa, .ref ybi, .ref ysi, .ref ynu, .ref ymo])), (yt, .inl (cI, 7, .inl mq2_43))] := hD
                      subst hw_r_42
                      exact W.iret (v := (-1000000001)) hx hb hr (fun t ht hW => ⟨⟨(-1000000001), (nb, mv9, mq2_43), rfl, trivial, by rw [ht]; exact hP.sub [4, 0, 1, 2, 3, 5] rfl, hD.sub [4, 0, 1, 2, 3, 5] (by decide +kernel) rfl⟩, hS.F ht⟩) hS.2.2 dX9_copy_116 hlk
          · skip
            refine lv_aload_n hx hb dX9_copy_62 rfl (lv_at hl 0 rfl) ?_
            refine lv_ldc (v := (-1000000003)) hx hb hown (hu _ uw765) dX9_copy_63 ?_
            refine xc_Vi (wr := [(ybi, .inl (cI, 4, .inl bi)), (ysi, .inl (cI, 4, .inl sq)), (ynu, .inl (cJ, 160, .inr (.inl nb))), (ymo, .inl (cJ, 40, .inr (.inl mv9)))]) hF (c_X9_finds_K l D cI cJ cZ cS ta sa sv s.heap.size h0 ys yk yo yt mk0 yfa yfe mL mS mM yro yhe ygr mF mC mY yta mz mf mt mv mw ywa ybi ysi ynu ymo mq ) kv_X9_70 ⟨rfl, rfl, Nat.le_of_ble_eq_true rfl, Nat.le_of_ble_eq_true rfl⟩ ⟨Nat.le_of_ble_eq_true rfl, Nat.le_of_ble_eq_true rfl⟩ hK hN hZ hP hD hS hA [0, 5] [1, 2, 3, 4] rfl rfl rfl rfl (by decide) 0 rfl rfl rfl rfl hl.1 rfl (Nat.le_of_ble_eq_true rfl) dX9_copy_65 (fun r_44 u_r_44 H locs hw_r_44 hP hD hS => ?_)
            obtain ⟨mq2_45, rfl⟩ : ∃ z, z = u_r_44 := ⟨_, rfl⟩
            try dsimp only at hw_r_44
            have hP : va_P D vwCl [(ybi, .inl (cI, 4, .inl bi)), (ysi, .inl (cI, 4, .inl sq)), (ynu, .inl (cJ, 160, .inr (.inl nb))), (ymo, .inl (cJ, 40, .inr (.inl mv9))), (h0, .inr (9, [.ref ys, .ref yk, .ref yo, .ref yt, .int mk0, .ref yfa, .ref yfe, .int mL, .int mS, .int mM, .ref yro, .ref yhe, .ref ygr, .int mF, .int mC, .int mY, .ref yta, .int (nI (mz)), .int (nI (mf)), .int (nI (mt)), .int mv, .int mw, .ref ywa, .ref ybi, .ref ysi, .ref ynu, .ref ymo])), (yt, .inl (cI, 7, .inl mq2_45))] H := hP
            have hD : va_D A [(ybi, .inl (cI, 4, .inl bi)), (ysi, .inl (cI, 4, .inl sq)), (ynu, .inl (cJ, 160, .inr (.inl nb))), (ymo, .inl (cJ, 40, .inr (.inl mv9))), (h0, .inr (9, [.ref ys, .ref yk, .ref yo, .ref yt, .int mk0, .ref yfa, .ref yfe, .int mL, .int mS, .int mM, .ref yro, .ref yhe, .ref ygr, .int mF, .int mC, .int mY, .ref yta, .int (nI (mz)), .int (nI (mf)), .int (nI (mt)), .int mv, .int mw, .ref ywa, .ref ybi, .ref ysi, .ref ynu, .ref ymo])), (yt, .inl (cI, 7, .inl mq2_45))] := hD
            subst hw_r_44
            exact W.iret (v := (-1000000003)) hx hb hr (fun t ht hW => ⟨⟨(-1000000003), (nb, mv9, mq2_45), rfl, trivial, by rw [ht]; exact hP.sub [4, 0, 1, 2, 3, 5] rfl, hD.sub [4, 0, 1, 2, 3, 5] (by decide +kernel) rfl⟩, hS.F ht⟩) hS.2.2 dX9_copy_68 hlk
        · skip
          refine lv_aload_n hx hb dX9_copy_39 rfl (lv_at hl 0 rfl) ?_
          refine lv_ldcw (v := (-1000000006)) hx hb hown (hu _ uw913) dX9_copy_40 ?_
          refine xc_Vi (wr := [(ybi, .inl (cI, 4, .inl bi)), (ysi, .inl (cI, 4, .inl sq)), (ynu, .inl (cJ, 160, .inr (.inl nb))), (ymo, .inl (cJ, 40, .inr (.inl mv9)))]) hF (c_X9_finds_M l D cI cJ cZ cS ta sa sv s.heap.size h0 ys yk yo yt mk0 yfa yfe mL mS mM yro yhe ygr mF mC mY yta mz mf mt mv mw ywa ybi ysi ynu ymo mq ) kv_X9_70 ⟨rfl, rfl, Nat.le_of_ble_eq_true rfl, Nat.le_of_ble_eq_true rfl⟩ ⟨Nat.le_of_ble_eq_true rfl, Nat.le_of_ble_eq_true rfl⟩ hK hN hZ hP hD hS hA [0, 5] [1, 2, 3, 4] rfl rfl rfl rfl (by decide) 0 rfl rfl rfl rfl hl.1 rfl (Nat.le_of_ble_eq_true rfl) dX9_copy_43 (fun r_46 u_r_46 H locs hw_r_46 hP hD hS => ?_)
          obtain ⟨mq2_47, rfl⟩ : ∃ z, z = u_r_46 := ⟨_, rfl⟩
          try dsimp only at hw_r_46
          have hP : va_P D vwCl [(ybi, .inl (cI, 4, .inl bi)), (ysi, .inl (cI, 4, .inl sq)), (ynu, .inl (cJ, 160, .inr (.inl nb))), (ymo, .inl (cJ, 40, .inr (.inl mv9))), (h0, .inr (9, [.ref ys, .ref yk, .ref yo, .ref yt, .int mk0, .ref yfa, .ref yfe, .int mL, .int mS, .int mM, .ref yro, .ref yhe, .ref ygr, .int mF, .int mC, .int mY, .ref yta, .int (nI (mz)), .int (nI (mf)), .int (nI (mt)), .int mv, .int mw, .ref ywa, .ref ybi, .ref ysi, .ref ynu, .ref ymo])), (yt, .inl (cI, 7, .inl mq2_47))] H := hP
          have hD : va_D A [(ybi, .inl (cI, 4, .inl bi)), (ysi, .inl (cI, 4, .inl sq)), (ynu, .inl (cJ, 160, .inr (.inl nb))), (ymo, .inl (cJ, 40, .inr (.inl mv9))), (h0, .inr (9, [.ref ys, .ref yk, .ref yo, .ref yt, .int mk0, .ref yfa, .ref yfe, .int mL, .int mS, .int mM, .ref yro, .ref yhe, .ref ygr, .int mF, .int mC, .int mY, .ref yta, .int (nI (mz)), .int (nI (mf)), .int (nI (mt)), .int mv, .int mw, .ref ywa, .ref ybi, .ref ysi, .ref ynu, .ref ymo])), (yt, .inl (cI, 7, .inl mq2_47))] := hD
          subst hw_r_46
          exact W.iret (v := (-1000000006)) hx hb hr (fun t ht hW => ⟨⟨(-1000000006), (nb, mv9, mq2_47), rfl, trivial, by rw [ht]; exact hP.sub [4, 0, 1, 2, 3, 5] rfl, hD.sub [4, 0, 1, 2, 3, 5] (by decide +kernel) rfl⟩, hS.F ht⟩) hS.2.2 dX9_copy_46 hlk
    · skip
      refine lv_if_ne (tgt := 21) hx hb dX9_copy_11 (by decide) (fun c_48 => absurd (by decide) c_48) (fun c_48 => ?_)
      refine lv_aload_n hx hb dX9_copy_14 rfl (lv_at hl 0 rfl) ?_
      refine lv_ldc (v := (-1000000001)) hx hb hown (hu _ uw648) dX9_copy_15 ?_
      refine xc_Vi (wr := [(ybi, .inl (cI, 4, .inl bi)), (ysi, .inl (cI, 4, .inl sq)), (ynu, .inl (cJ, 160, .inr (.inl nb))), (ymo, .inl (cJ, 40, .inr (.inl mv9)))]) hF (c_X9_finds_B l D cI cJ cZ cS ta sa sv s.heap.size h0 ys yk yo yt mk0 yfa yfe mL mS mM yro yhe ygr mF mC mY yta mz mf mt mv mw ywa ybi ysi ynu ymo mq ) kv_X9_70 ⟨rfl, rfl, Nat.le_of_ble_eq_true rfl, Nat.le_of_ble_eq_true rfl⟩ ⟨Nat.le_of_ble_eq_true rfl, Nat.le_of_ble_eq_true rfl⟩ hK hN hZ hP hD hS hA [0, 5] [1, 2, 3, 4] rfl rfl rfl rfl (by decide) 0 rfl rfl rfl rfl hl.1 rfl (Nat.le_of_ble_eq_true rfl) dX9_copy_17 (fun r_49 u_r_49 H locs hw_r_49 hP hD hS => ?_)
      obtain ⟨mq2_50, rfl⟩ : ∃ z, z = u_r_49 := ⟨_, rfl⟩
      try dsimp only at hw_r_49
      have hP : va_P D vwCl [(ybi, .inl (cI, 4, .inl bi)), (ysi, .inl (cI, 4, .inl sq)), (ynu, .inl (cJ, 160, .inr (.inl nb))), (ymo, .inl (cJ, 40, .inr (.inl mv9))), (h0, .inr (9, [.ref ys, .ref yk, .ref yo, .ref yt, .int mk0, .ref yfa, .ref yfe, .int mL, .int mS, .int mM, .ref yro, .ref yhe, .ref ygr, .int mF, .int mC, .int mY, .ref yta, .int (nI (mz)), .int (nI (mf)), .int (nI (mt)), .int mv, .int mw, .ref ywa, .ref ybi, .ref ysi, .ref ynu, .ref ymo])), (yt, .inl (cI, 7, .inl mq2_50))] H := hP
      have hD : va_D A [(ybi, .inl (cI, 4, .inl bi)), (ysi, .inl (cI, 4, .inl sq)), (ynu, .inl (cJ, 160, .inr (.inl nb))), (ymo, .inl (cJ, 40, .inr (.inl mv9))), (h0, .inr (9, [.ref ys, .ref yk, .ref yo, .ref yt, .int mk0, .ref yfa, .ref yfe, .int mL, .int mS, .int mM, .ref yro, .ref yhe, .ref ygr, .int mF, .int mC, .int mY, .ref yta, .int (nI (mz)), .int (nI (mf)), .int (nI (mt)), .int mv, .int mw, .ref ywa, .ref ybi, .ref ysi, .ref ynu, .ref ymo])), (yt, .inl (cI, 7, .inl mq2_50))] := hD
      subst hw_r_49
      exact W.iret (v := (-1000000001)) hx hb hr (fun t ht hW => ⟨⟨(-1000000001), (nb, mv9, mq2_50), rfl, trivial, by rw [ht]; exact hP.sub [4, 0, 1, 2, 3, 5] rfl, hD.sub [4, 0, 1, 2, 3, 5] (by decide +kernel) rfl⟩, hS.F ht⟩) hS.2.2 dX9_copy_20 hlk
  · skip
    refine lv_if_eq (tgt := 14) hx hb dX9_copy_4 (by decide) (fun c_51 => ?_) (fun c_51 => absurd (by decide) c_51)
    refine lv_aload_n hx hb dX9_copy_14 rfl (lv_at hl 0 rfl) ?_
    refine lv_ldc (v := (-1000000001)) hx hb hown (hu _ uw648) dX9_copy_15 ?_
    refine xc_Vi (wr := [(ybi, .inl (cI, 4, .inl bi)), (ysi, .inl (cI, 4, .inl sq)), (ynu, .inl (cJ, 160, .inr (.inl nb))), (ymo, .inl (cJ, 40, .inr (.inl mv9)))]) hF (c_X9_finds_B l D cI cJ cZ cS ta sa sv s.heap.size h0 ys yk yo yt mk0 yfa yfe mL mS mM yro yhe ygr mF mC mY yta mz mf mt mv mw ywa ybi ysi ynu ymo mq ) kv_X9_70 ⟨rfl, rfl, Nat.le_of_ble_eq_true rfl, Nat.le_of_ble_eq_true rfl⟩ ⟨Nat.le_of_ble_eq_true rfl, Nat.le_of_ble_eq_true rfl⟩ hK hN hZ hP hD hS hA [0, 5] [1, 2, 3, 4] rfl rfl rfl rfl (by decide) 0 rfl rfl rfl rfl hl.1 rfl (Nat.le_of_ble_eq_true rfl) dX9_copy_17 (fun r_52 u_r_52 H locs hw_r_52 hP hD hS => ?_)
    obtain ⟨mq2_53, rfl⟩ : ∃ z, z = u_r_52 := ⟨_, rfl⟩
    try dsimp only at hw_r_52
    have hP : va_P D vwCl [(ybi, .inl (cI, 4, .inl bi)), (ysi, .inl (cI, 4, .inl sq)), (ynu, .inl (cJ, 160, .inr (.inl nb))), (ymo, .inl (cJ, 40, .inr (.inl mv9))), (h0, .inr (9, [.ref ys, .ref yk, .ref yo, .ref yt, .int mk0, .ref yfa, .ref yfe, .int mL, .int mS, .int mM, .ref yro, .ref yhe, .ref ygr, .int mF, .int mC, .int mY, .ref yta, .int (nI (mz)), .int (nI (mf)), .int (nI (mt)), .int mv, .int mw, .ref ywa, .ref ybi, .ref ysi, .ref ynu, .ref ymo])), (yt, .inl (cI, 7, .inl mq2_53))] H := hP
    have hD : va_D A [(ybi, .inl (cI, 4, .inl bi)), (ysi, .inl (cI, 4, .inl sq)), (ynu, .inl (cJ, 160, .inr (.inl nb))), (ymo, .inl (cJ, 40, .inr (.inl mv9))), (h0, .inr (9, [.ref ys, .ref yk, .ref yo, .ref yt, .int mk0, .ref yfa, .ref yfe, .int mL, .int mS, .int mM, .ref yro, .ref yhe, .ref ygr, .int mF, .int mC, .int mY, .ref yta, .int (nI (mz)), .int (nI (mf)), .int (nI (mt)), .int mv, .int mw, .ref ywa, .ref ybi, .ref ysi, .ref ynu, .ref ymo])), (yt, .inl (cI, 7, .inl mq2_53))] := hD
    subst hw_r_52
    exact W.iret (v := (-1000000001)) hx hb hr (fun t ht hW => ⟨⟨(-1000000001), (nb, mv9, mq2_53), rfl, trivial, by rw [ht]; exact hP.sub [4, 0, 1, 2, 3, 5] rfl, hD.sub [4, 0, 1, 2, 3, 5] (by decide +kernel) rfl⟩, hS.F ht⟩) hS.2.2 dX9_copy_20 hlk
set_option maxHeartbeats 4000000 in
set_option maxRecDepth 100000 in
theorem c_X9_lays (l : Launch) (D : va_G) (cI cJ cZ cS : ClassId) (ta : Nat) (sa sv : Nat → Nat) (sz : Nat) (h0 : Nat) (ys : Nat) (yk : Nat) (yo : Nat) (yt : Nat) (mk0 : Int32) (yfa : Nat) (yfe : Nat) (mL : Int32) (mS : Int32) (mM : Int32) (yro : Nat) (yhe : Nat) (ygr : Nat) (mF : Int32) (mC : Int32) (mY : Int32) (yta : Nat) (mz : Nat) (mf : Nat) (mt : Nat) (mv : Int32) (mw : Int32) (ywa : Nat) (ybi : Nat) (ysi : Nat) (ynu : Nat) (ymo : Nat) (ms : Nat → Int32) (bi : Nat → Int32) (sq : Nat → Int32) (nb : Nat → Int64) (mq : Nat → Int32) (P : Nat) (Rn : Nat) (Wn : Nat) (p0 : Int32) (p1 : Int32) (hsq : BA 4 41 sq) (hs0 : ms 0 = nI P) (hs1 : ms 1 = nI Rn) (hs2 : ms 2 = nI Wn) (hsS : SI ms) (hsM : MI ms) (hsp : P ≤ 10) (hsr : Rn ≤ 8) (hsw : Wn ≤ 8) (hsR : RI Rn ms) : Met l yX9_lays (Cond.code yX9_lays cX9_lays 9 (some .int) :: wsU) ({ frames := 3, cells := 0, slots := 0, locals := 66 }) (va_Pc [.ref h0, .int p0, .int p1] (XW D (xT cI cJ cZ cS) ta sa sv [(h0, .inr (9, [.ref ys, .ref yk, .ref yo, .ref yt, .int mk0, .ref yfa, .ref yfe, .int mL, .int mS, .int mM, .ref yro, .ref yhe, .ref ygr, .int mF, .int mC, .int mY, .ref yta, .int (nI (mz)), .int (nI (mf)), .int (nI (mt)), .int mv, .int mw, .ref ywa, .ref ybi, .ref ysi, .ref ynu, .ref ymo])), (ys, .inl (cI, 449, .inl ms)), (ybi, .inl (cI, 4, .inl bi)), (ysi, .inl (cI, 4, .inl sq)), (ynu, .inl (cJ, 160, .inr (.inl nb))), (yt, .inl (cI, 7, .inl mq))] sz)) (XQi (fun (r : Int32) (u : (Nat → Int32) × (Nat → Int32)) => match u with | (ms2, mq2) => (True) ∧ (ms2 0 = nI P) ∧ (ms2 1 = nI Rn) ∧ (ms2 2 = nI Wn) ∧ (SI ms2) ∧ (MI ms2) ∧ (P ≤ 10) ∧ (Rn ≤ 8) ∧ (Wn ≤ 8) ∧ (RI Rn ms2)) D (fun (u : (Nat → Int32) × (Nat → Int32)) => match u with | (ms2, mq2) => [(h0, .inr (9, [.ref ys, .ref yk, .ref yo, .ref yt, .int mk0, .ref yfa, .ref yfe, .int mL, .int mS, .int mM, .ref yro, .ref yhe, .ref ygr, .int mF, .int mC, .int mY, .ref yta, .int (nI (mz)), .int (nI (mf)), .int (nI (mt)), .int mv, .int mw, .ref ywa, .ref ybi, .ref ysi, .ref ynu, .ref ymo])), (ys, .inl (cI, 449, .inl ms2)), (ybi, .inl (cI, 4, .inl bi)), (ysi, .inl (cI, 4, .inl sq)), (ynu, .inl (cJ, 160, .inr (.inl nb))), (yt, .inl (cI, 7, .inl mq2))]) (va_A [(h0, .inr (9, [.ref ys, .ref yk, .ref yo, .ref yt, .int mk0, .ref yfa, .ref yfe, .int mL, .int mS, .int mM, .ref yro, .ref yhe, .ref ygr, .int mF, .int mC, .int mY, .ref yta, .int (nI (mz)), .int (nI (mf)), .int (nI (mt)), .int mv, .int mw, .ref ywa, .ref ybi, .ref ysi, .ref ynu, .ref ymo])), (ys, .inl (cI, 449, .inl ms)), (ybi, .inl (cI, 4, .inl bi)), (ysi, .inl (cI, 4, .inl sq)), (ynu, .inl (cJ, 160, .inr (.inl nb))), (yt, .inl (cI, 7, .inl mq))] sz)) 0 0 (va_A [(h0, .inr (9, [.ref ys, .ref yk, .ref yo, .ref yt, .int mk0, .ref yfa, .ref yfe, .int mL, .int mS, .int mM, .ref yro, .ref yhe, .ref ygr, .int mF, .int mC, .int mY, .ref yta, .int (nI (mz)), .int (nI (mf)), .int (nI (mt)), .int mv, .int mw, .ref ywa, .ref ybi, .ref ysi, .ref ynu, .ref ymo])), (ys, .inl (cI, 449, .inl ms)), (ybi, .inl (cI, 4, .inl bi)), (ysi, .inl (cI, 4, .inl sq)), (ynu, .inl (cJ, 160, .inr (.inl nb))), (yt, .inl (cI, 7, .inl mq))] sz) := by
  refine xh (QA := fun A => XQi (fun (r : Int32) (u : (Nat → Int32) × (Nat → Int32)) => match u with | (ms2, mq2) => (True) ∧ (ms2 0 = nI P) ∧ (ms2 1 = nI Rn) ∧ (ms2 2 = nI Wn) ∧ (SI ms2) ∧ (MI ms2) ∧ (P ≤ 10) ∧ (Rn ≤ 8) ∧ (Wn ≤ 8) ∧ (RI Rn ms2)) D (fun (u : (Nat → Int32) × (Nat → Int32)) => match u with | (ms2, mq2) => [(h0, .inr (9, [.ref ys, .ref yk, .ref yo, .ref yt, .int mk0, .ref yfa, .ref yfe, .int mL, .int mS, .int mM, .ref yro, .ref yhe, .ref ygr, .int mF, .int mC, .int mY, .ref yta, .int (nI (mz)), .int (nI (mf)), .int (nI (mt)), .int mv, .int mw, .ref ywa, .ref ybi, .ref ysi, .ref ynu, .ref ymo])), (ys, .inl (cI, 449, .inl ms2)), (ybi, .inl (cI, 4, .inl bi)), (ysi, .inl (cI, 4, .inl sq)), (ynu, .inl (cJ, 160, .inr (.inl nb))), (yt, .inl (cI, 7, .inl mq2))]) A) (fr := fun A => A) (by decide) (Nat.le_of_ble_eq_true rfl) ?_
  intro p e s m below meth c ls A hF hr hlk hin hsz hP hK hD hN hZ hA hS hl
  have hF : CallFix p m c cX9_lays 9 s _ _ RX9 := hF
  have hx := hF.1
  have hb := hF.2.1
  have hml := hF.2.2.1
  have hown := hF.2.2.2.1
  have hu : ∀ w ∈ wsU, w.before _ s = true := fun w h => hF.2.2.2.2 w (List.mem_cons_of_mem _ h)
  have hl : lv_has ls 9 [(0, .ref h0), (1, .int p0), (2, .int p1)] := hl
  refine lv_aload_n hx hb dX9_lays_0 rfl (lv_at hl 0 rfl) ?_
  refine lv_iload_n hx hb dX9_lays_1 rfl (lv_at hl 1 rfl) ?_
  refine xc_Vr hF (c_X9_wrong l D cI cJ cZ cS ta sa sv s.heap.size h0 ys yk yo yt mk0 yfa yfe mL mS mM yro yhe ygr mF mC mY yta mz mf mt mv mw ywa ybi ysi ynu ymo bi p0 ) kv_X9_310 ⟨rfl, rfl, Nat.le_of_ble_eq_true rfl, Nat.le_of_ble_eq_true rfl⟩ ⟨Nat.le_of_ble_eq_true rfl, Nat.le_of_ble_eq_true rfl⟩ hK hN hZ hP hD hS hA [0, 2] rfl rfl 0 rfl rfl rfl rfl hl.1 rfl (Nat.le_of_ble_eq_true rfl) dX9_lays_2 (fun r_1 hw_r_1 => ?_)
  rcases hw_r_1 with rfl | rfl | ⟨rfl, h_2, h_3⟩
  · skip
    refine lv_istore_n (lv' := [(3, .int (-1000000001)), (0, .ref h0), (1, .int p0), (2, .int p1)]) hx hb dX9_lays_5 rfl hl (by decide) rfl (fun ls hl => ?_)
    refine lv_iload_n hx hb dX9_lays_6 rfl (lv_at hl 0 rfl) ?_
    refine lv_if_eq (tgt := 16) hx hb dX9_lays_7 (by decide) (fun c_4 => absurd c_4 (by decide)) (fun c_4 => ?_)
    refine lv_aload_n hx hb dX9_lays_10 rfl (lv_at hl 1 rfl) ?_
    refine lv_iload_n hx hb dX9_lays_11 rfl (lv_at hl 0 rfl) ?_
    refine xc_Vi (wr := [(ys, .inl (cI, 449, .inl ms)), (ybi, .inl (cI, 4, .inl bi)), (ysi, .inl (cI, 4, .inl sq)), (ynu, .inl (cJ, 160, .inr (.inl nb)))]) hF (c_X9_finds_B l D cI cJ cZ cS ta sa sv s.heap.size h0 ys yk yo yt mk0 yfa yfe mL mS mM yro yhe ygr mF mC mY yta mz mf mt mv mw ywa ybi ysi ynu ymo mq ) kv_X9_70 ⟨rfl, rfl, Nat.le_of_ble_eq_true rfl, Nat.le_of_ble_eq_true rfl⟩ ⟨Nat.le_of_ble_eq_true rfl, Nat.le_of_ble_eq_true rfl⟩ hK hN hZ hP hD hS hA [0, 5] [1, 2, 3, 4] rfl rfl rfl rfl (by decide) 0 rfl rfl rfl rfl hl.1 rfl (Nat.le_of_ble_eq_true rfl) dX9_lays_12 (fun r_5 u_r_5 H locs hw_r_5 hP hD hS => ?_)
    obtain ⟨mq2_6, rfl⟩ : ∃ z, z = u_r_5 := ⟨_, rfl⟩
    try dsimp only at hw_r_5
    have hP : va_P D vwCl [(ys, .inl (cI, 449, .inl ms)), (ybi, .inl (cI, 4, .inl bi)), (ysi, .inl (cI, 4, .inl sq)), (ynu, .inl (cJ, 160, .inr (.inl nb))), (h0, .inr (9, [.ref ys, .ref yk, .ref yo, .ref yt, .int mk0, .ref yfa, .ref yfe, .int mL, .int mS, .int mM, .ref yro, .ref yhe, .ref ygr, .int mF, .int mC, .int mY, .ref yta, .int (nI (mz)), .int (nI (mf)), .int (nI (mt)), .int mv, .int mw, .ref ywa, .ref ybi, .ref ysi, .ref ynu, .ref ymo])), (yt, .inl (cI, 7, .inl mq2_6))] H := hP
    have hD : va_D A [(ys, .inl (cI, 449, .inl ms)), (ybi, .inl (cI, 4, .inl bi)), (ysi, .inl (cI, 4, .inl sq)), (ynu, .inl (cJ, 160, .inr (.inl nb))), (h0, .inr (9, [.ref ys, .ref yk, .ref yo, .ref yt, .int mk0, .ref yfa, .ref yfe, .int mL, .int mS, .int mM, .ref yro, .ref yhe, .ref ygr, .int mF, .int mC, .int mY, .ref yta, .int (nI (mz)), .int (nI (mf)), .int (nI (mt)), .int mv, .int mw, .ref ywa, .ref ybi, .ref ysi, .ref ynu, .ref ymo])), (yt, .inl (cI, 7, .inl mq2_6))] := hD
    subst hw_r_5
    exact W.iret (v := (-1000000001)) hx hb hr (fun t ht hW => ⟨⟨(-1000000001), (ms, mq2_6), rfl, ⟨trivial, hs0, hs1, hs2, hsS, hsM, hsp, hsr, hsw, hsR⟩, by rw [ht]; exact hP.sub [4, 0, 1, 2, 3, 5] rfl, hD.sub [4, 0, 1, 2, 3, 5] (by decide +kernel) rfl⟩, hS.F ht⟩) hS.2.2 dX9_lays_15 hlk
  · skip
    refine lv_istore_n (lv' := [(3, .int (-1000000006)), (0, .ref h0), (1, .int p0), (2, .int p1)]) hx hb dX9_lays_5 rfl hl (by decide) rfl (fun ls hl => ?_)
    refine lv_iload_n hx hb dX9_lays_6 rfl (lv_at hl 0 rfl) ?_
    refine lv_if_eq (tgt := 16) hx hb dX9_lays_7 (by decide) (fun c_7 => absurd c_7 (by decide)) (fun c_7 => ?_)
    refine lv_aload_n hx hb dX9_lays_10 rfl (lv_at hl 1 rfl) ?_
    refine lv_iload_n hx hb dX9_lays_11 rfl (lv_at hl 0 rfl) ?_
    refine xc_Vi (wr := [(ys, .inl (cI, 449, .inl ms)), (ybi, .inl (cI, 4, .inl bi)), (ysi, .inl (cI, 4, .inl sq)), (ynu, .inl (cJ, 160, .inr (.inl nb)))]) hF (c_X9_finds_M l D cI cJ cZ cS ta sa sv s.heap.size h0 ys yk yo yt mk0 yfa yfe mL mS mM yro yhe ygr mF mC mY yta mz mf mt mv mw ywa ybi ysi ynu ymo mq ) kv_X9_70 ⟨rfl, rfl, Nat.le_of_ble_eq_true rfl, Nat.le_of_ble_eq_true rfl⟩ ⟨Nat.le_of_ble_eq_true rfl, Nat.le_of_ble_eq_true rfl⟩ hK hN hZ hP hD hS hA [0, 5] [1, 2, 3, 4] rfl rfl rfl rfl (by decide) 0 rfl rfl rfl rfl hl.1 rfl (Nat.le_of_ble_eq_true rfl) dX9_lays_12 (fun r_8 u_r_8 H locs hw_r_8 hP hD hS => ?_)
    obtain ⟨mq2_9, rfl⟩ : ∃ z, z = u_r_8 := ⟨_, rfl⟩
    try dsimp only at hw_r_8
    have hP : va_P D vwCl [(ys, .inl (cI, 449, .inl ms)), (ybi, .inl (cI, 4, .inl bi)), (ysi, .inl (cI, 4, .inl sq)), (ynu, .inl (cJ, 160, .inr (.inl nb))), (h0, .inr (9, [.ref ys, .ref yk, .ref yo, .ref yt, .int mk0, .ref yfa, .ref yfe, .int mL, .int mS, .int mM, .ref yro, .ref yhe, .ref ygr, .int mF, .int mC, .int mY, .ref yta, .int (nI (mz)), .int (nI (mf)), .int (nI (mt)), .int mv, .int mw, .ref ywa, .ref ybi, .ref ysi, .ref ynu, .ref ymo])), (yt, .inl (cI, 7, .inl mq2_9))] H := hP
    have hD : va_D A [(ys, .inl (cI, 449, .inl ms)), (ybi, .inl (cI, 4, .inl bi)), (ysi, .inl (cI, 4, .inl sq)), (ynu, .inl (cJ, 160, .inr (.inl nb))), (h0, .inr (9, [.ref ys, .ref yk, .ref yo, .ref yt, .int mk0, .ref yfa, .ref yfe, .int mL, .int mS, .int mM, .ref yro, .ref yhe, .ref ygr, .int mF, .int mC, .int mY, .ref yta, .int (nI (mz)), .int (nI (mf)), .int (nI (mt)), .int mv, .int mw, .ref ywa, .ref ybi, .ref ysi, .ref ynu, .ref ymo])), (yt, .inl (cI, 7, .inl mq2_9))] := hD
    subst hw_r_8
    exact W.iret (v := (-1000000006)) hx hb hr (fun t ht hW => ⟨⟨(-1000000006), (ms, mq2_9), rfl, ⟨trivial, hs0, hs1, hs2, hsS, hsM, hsp, hsr, hsw, hsR⟩, by rw [ht]; exact hP.sub [4, 0, 1, 2, 3, 5] rfl, hD.sub [4, 0, 1, 2, 3, 5] (by decide +kernel) rfl⟩, hS.F ht⟩) hS.2.2 dX9_lays_15 hlk
  · skip
    refine lv_istore_n (lv' := [(3, .int 0), (0, .ref h0), (1, .int p0), (2, .int p1)]) hx hb dX9_lays_5 rfl hl (by decide) rfl (fun ls hl => ?_)
    refine lv_iload_n hx hb dX9_lays_6 rfl (lv_at hl 0 rfl) ?_
    refine lv_if_eq (tgt := 16) hx hb dX9_lays_7 (by decide) (fun c_10 => ?_) (fun c_10 => absurd (by decide) c_10)
    obtain ⟨y_11, hy_11, rfl⟩ := xrange (w := 3) (by omega) h_2 h_3
    refine lv_aload_n hx hb dX9_lays_16 rfl (lv_at hl 1 rfl) ?_
    refine lv_iload_n hx hb dX9_lays_17 rfl (lv_at hl 3 rfl) ?_
    refine xc_Vr hF (c_X9_isPlace l D cI cJ cZ cS ta sa sv s.heap.size h0 ys yk yo yt mk0 yfa yfe mL mS mM yro yhe ygr mF mC mY yta mz mf mt mv mw ywa ybi ysi ynu ymo ms P Rn Wn p1 hs0 hs1 hs2 hsS hsM hsp hsr hsw hsR) kv_X9_61 ⟨rfl, rfl, Nat.le_of_ble_eq_true rfl, Nat.le_of_ble_eq_true rfl⟩ ⟨Nat.le_of_ble_eq_true rfl, Nat.le_of_ble_eq_true rfl⟩ hK hN hZ hP hD hS hA [0, 1] rfl rfl 0 rfl rfl rfl rfl hl.1 rfl (Nat.le_of_ble_eq_true rfl) dX9_lays_18 (fun r_12 hw_r_12 => ?_)
    rcases hw_r_12 with ⟨k_13, rfl, rfl, h_15⟩ | ⟨rfl, h_16⟩
    · skip
      refine lv_if_ne (tgt := 31) hx hb dX9_lays_21 (by decide) (fun c_17 => ?_) (fun c_17 => absurd c_17 (by decide))
      refine lv_iconst (v := 0) hx hb dX9_lays_31 (by decide) ?_
      refine lv_istore (lv' := [(4, .int 0), (3, .int 0), (0, .ref h0), (1, .int (nI (y_11))), (2, .int (nI (k_13)))]) hx hb dX9_lays_32 hl (by decide) rfl (fun ls hl => ?_)
      refine lv_iconst (v := 0) hx hb dX9_lays_34 (by decide) ?_
      refine lv_istore (lv' := [(5, .int 0), (4, .int 0), (3, .int 0), (0, .ref h0), (1, .int (nI (y_11))), (2, .int (nI (k_13)))]) hx hb dX9_lays_35 hl (by decide) rfl (fun ls hl => ?_)
      suffices loop_37 : ∀ (n_37 : Nat) (i : Nat) (u8 : Int32) (s8 : Nat → Int32) (H : Heap) (locs : List Loc) (ls : Array Slot), 40 - i < n_37 → (i ≤ 40) → (s8 0 = nI P) → (s8 1 = nI Rn) → (s8 2 = nI Wn) → (SI s8) → (MI s8) → (P ≤ 10) → (Rn ≤ 8) → (Wn ≤ 8) → (RI Rn s8) → va_P D vwCl [(h0, .inr (9, [.ref ys, .ref yk, .ref yo, .ref yt, .int mk0, .ref yfa, .ref yfe, .int mL, .int mS, .int mM, .ref yro, .ref yhe, .ref ygr, .int mF, .int mC, .int mY, .ref yta, .int (nI (mz)), .int (nI (mf)), .int (nI (mt)), .int mv, .int mw, .ref ywa, .ref ybi, .ref ysi, .ref ynu, .ref ymo])), (ys, .inl (cI, 449, .inl s8)), (ybi, .inl (cI, 4, .inl bi)), (ysi, .inl (cI, 4, .inl sq)), (ynu, .inl (cJ, 160, .inr (.inl nb))), (yt, .inl (cI, 7, .inl mq))] H → va_D A [(h0, .inr (9, [.ref ys, .ref yk, .ref yo, .ref yt, .int mk0, .ref yfa, .ref yfe, .int mL, .int mS, .int mM, .ref yro, .ref yhe, .ref ygr, .int mF, .int mC, .int mY, .ref yta, .int (nI (mz)), .int (nI (mf)), .int (nI (mt)), .int mv, .int mw, .ref ywa, .ref ybi, .ref ysi, .ref ynu, .ref ymo])), (ys, .inl (cI, 449, .inl s8)), (ybi, .inl (cI, 4, .inl bi)), (ysi, .inl (cI, 4, .inl sq)), (ynu, .inl (cJ, 160, .inr (.inl nb))), (yt, .inl (cI, 7, .inl mq))] → va_S A s.heap H locs → lv_has ls 9 [(5, .int (nI (i))), (4, .int u8), (3, .int 0), (0, .ref h0), (1, .int (nI (y_11))), (2, .int (nI (k_13)))] → W p l e ({ frames := 3, cells := 0, slots := 0, locals := 66 }) s m ([.ref h0, .int (nI (y_11)), .int (nI (k_13))] : List Value).toArray below meth c H locs 0 0 (MQ below (XQi (fun (r : Int32) (u : (Nat → Int32) × (Nat → Int32)) => match u with | (ms2, mq2) => (True) ∧ (ms2 0 = nI P) ∧ (ms2 1 = nI Rn) ∧ (ms2 2 = nI Wn) ∧ (SI ms2) ∧ (MI ms2) ∧ (P ≤ 10) ∧ (Rn ≤ 8) ∧ (Wn ≤ 8) ∧ (RI Rn ms2)) D (fun (u : (Nat → Int32) × (Nat → Int32)) => match u with | (ms2, mq2) => [(h0, .inr (9, [.ref ys, .ref yk, .ref yo, .ref yt, .int mk0, .ref yfa, .ref yfe, .int mL, .int mS, .int mM, .ref yro, .ref yhe, .ref ygr, .int mF, .int mC, .int mY, .ref yta, .int (nI (mz)), .int (nI (mf)), .int (nI (mt)), .int mv, .int mw, .ref ywa, .ref ybi, .ref ysi, .ref ynu, .ref ymo])), (ys, .inl (cI, 449, .inl ms2)), (ybi, .inl (cI, 4, .inl bi)), (ysi, .inl (cI, 4, .inl sq)), (ynu, .inl (cJ, 160, .inr (.inl nb))), (yt, .inl (cI, 7, .inl mq2))]) A) ([.ref h0, .int (nI (y_11)), .int (nI (k_13))] : List Value).toArray s 0 0 A) (F0 m 37 ls []) by
        exact loop_37 _ 0 0 ms _ _ _ (Nat.lt_succ_self _) (by omega) hs0 hs1 hs2 hsS hsM hsp hsr hsw hsR hP hD hS (lv_sub hl [0, 1, 2, 3, 4, 5] rfl)
      intro n_37
      induction n_37 with
      | zero =>
        intro i u8 s8 H locs ls hm_37
        exact absurd hm_37 (Nat.not_lt_zero _)
      | succ n_37 ih_37 =>
        intro i u8 s8 H locs ls hm_37 hi ht0 ht1 ht2 htS htM htp htr htw htR hP hD hS hl
        refine lv_iload hx hb dX9_lays_37 (lv_at hl 0 rfl) ?_
        refine lv_aload_n hx hb dX9_lays_39 rfl (lv_at hl 3 rfl) ?_
        refine xg hF kf_X9_46 hK hP 0 rfl rfl dX9_lays_40 ?_
        refine lv_iload_n hx hb dX9_lays_43 rfl (lv_at hl 4 rfl) ?_
        refine va_iald hx hb hK hP 3 0 rfl rfl (vp_in_nI (show y_11 < 4 by omega) (by decide)) dX9_lays_44 ?_
        refine xl_i (y := sq y_11) (congrArg sq (nI_clamp (show y_11 < 2 ^ 31 by omega))) ?_
        obtain ⟨q_18, hq_18, eq_18⟩ := hsq y_11 (by omega)
        refine xl_i (y := nI (q_18)) eq_18 ?_
        refine lv_icmp_ge (tgt := 115) hx hb dX9_lays_45 (by decide) (fun c_19 => ?_) (fun c_19 => ?_)
        · skip
          have nc_19 : q_18 ≤ i := xn_le (a := q_18) (b := i) (by omega) (by omega) c_19
          refine lv_iload hx hb dX9_lays_115 (lv_at hl 1 rfl) ?_
          exact W.iret (v := u8) hx hb hr (fun t ht hW => ⟨⟨u8, (s8, mq), rfl, ⟨trivial, ht0, ht1, ht2, htS, htM, htp, htr, htw, htR⟩, by rw [ht]; exact hP.sub [0, 1, 2, 3, 4, 5] rfl, hD.sub [0, 1, 2, 3, 4, 5] (by decide +kernel) rfl⟩, hS.F ht⟩) hS.2.2 dX9_lays_117 hlk
        · skip
          have nc_19 : i < q_18 := xn_nle (a := q_18) (b := i) (by omega) (by omega) c_19
          refine lv_aload_n hx hb dX9_lays_48 rfl (lv_at hl 3 rfl) ?_
          refine xg hF kf_X9_49 hK hP 0 rfl rfl dX9_lays_49 ?_
          refine lv_bipush (v := 40) hx hb dX9_lays_52 (by decide) ?_
          refine lv_iload_n hx hb dX9_lays_54 rfl (lv_at hl 4 rfl) ?_
          refine lv_imul hx hb dX9_lays_55 ?_
          refine xl_i (y := nI (40 * y_11)) (pk_mul 40 y_11) ?_
          refine lv_iload hx hb dX9_lays_56 (lv_at hl 0 rfl) ?_
          refine lv_iadd hx hb dX9_lays_58 ?_
          refine xl_i (y := nI (40 * y_11 + i)) (nI_add (40 * y_11) i) ?_
          refine va_lald hx hb hK hP 4 1 rfl rfl (vp_in_nI (show 40 * y_11 + i < 160 by omega) (by decide)) dX9_lays_59 ?_
          refine xl_l (y := nb (40 * y_11 + i)) (congrArg nb (nI_clamp (show 40 * y_11 + i < 2 ^ 31 by omega))) ?_
          refine lv_lstore (lv' := [(6, .long (nb (40 * y_11 + i))), (5, .int (nI (i))), (4, .int u8), (3, .int 0), (0, .ref h0), (1, .int (nI (y_11))), (2, .int (nI (k_13)))]) hx hb dX9_lays_60 hl (by decide) rfl (fun ls hl => ?_)
          refine lv_aload_n hx hb dX9_lays_62 rfl (lv_at hl 4 rfl) ?_
          refine lv_iload hx hb dX9_lays_63 (lv_at hl 1 rfl) ?_
          refine xc_Vr hF (c_X9_isPlace l D cI cJ cZ cS ta sa sv H.size h0 ys yk yo yt mk0 yfa yfe mL mS mM yro yhe ygr mF mC mY yta mz mf mt mv mw ywa ybi ysi ynu ymo s8 P Rn Wn (nI (i)) ht0 ht1 ht2 htS htM htp htr htw htR) kv_X9_61 ⟨rfl, rfl, Nat.le_of_ble_eq_true rfl, Nat.le_of_ble_eq_true rfl⟩ ⟨Nat.le_of_ble_eq_true rfl, Nat.le_of_ble_eq_true rfl⟩ hK hN hZ hP hD hS hA [0, 1] rfl rfl 0 rfl rfl rfl rfl hl.1 rfl (Nat.le_of_ble_eq_true rfl) dX9_lays_65 (fun r_20 hw_r_20 => ?_)
          rcases hw_r_20 with ⟨k_21, rfl, h_22, h_23⟩ | ⟨rfl, h_24⟩
          · skip
            refine lv_if_eq (tgt := 109) hx hb dX9_lays_68 (by decide) (fun c_25 => absurd c_25 (by decide)) (fun c_25 => ?_)
            have hi9 := xn_eq (by omega) (by omega) h_22
            refine lv_iload hx hb dX9_lays_71 (lv_at hl 1 rfl) ?_
            refine lv_iload_n hx hb dX9_lays_73 rfl (lv_at hl 6 rfl) ?_
            refine lv_icmp_eq (tgt := 109) hx hb dX9_lays_74 (by decide) (fun c_26 => ?_) (fun c_26 => ?_)
            · skip
              have nc_26 : i = k_13 := xn_eq (a := i) (b := k_13) (by omega) (by omega) c_26
              refine lv_iinc (v := nI (i + 1)) (lv' := [(5, .int (nI (i + 1))), (6, .long (nb (40 * y_11 + i))), (4, .int u8), (3, .int 0), (0, .ref h0), (1, .int (nI (y_11))), (2, .int (nI (k_13)))]) hx hb dX9_lays_109 hl (k := 1) rfl (nI_1 (i)) (by decide) rfl (fun ls hl => ?_)
              refine lv_goto (tgt := 37) hx hb dX9_lays_112 (by decide) ?_
              exact ih_37 (i + 1) u8 s8 _ _ _ (by omega) (by omega) ht0 ht1 ht2 htS htM htp htr htw htR (hP.sub [0, 1, 2, 3, 4, 5] rfl) (hD.sub [0, 1, 2, 3, 4, 5] (by decide +kernel) rfl) hS (lv_sub hl [0, 2, 3, 4, 5, 6] rfl)
            · skip
              have nc_26 : i ≠ k_13 := xn_ne (a := i) (b := k_13) (by omega) (by omega) c_26
              refine lv_lload hx hb dX9_lays_77 (lv_at hl 0 rfl) ?_
              refine lv_ldc2 (v := (-99)) hx hb hown (hu _ uw659) dX9_lays_79 ?_
              refine xl_l (y := (-99 : Int32).toInt64) (by decide) ?_
              refine lv_ldc2 (v := 999) hx hb hown (hu _ uw660) dX9_lays_82 ?_
              refine xl_l (y := (999 : Int32).toInt64) (by decide) ?_
              refine xc_Sr hF (c_X9_inL l D cI cJ cZ cS ta sa sv H.size (nb (40 * y_11 + i)) (-99) 999 ) ks_X9_57 ⟨rfl, rfl, Nat.le_of_ble_eq_true rfl, Nat.le_of_ble_eq_true rfl⟩ ⟨Nat.le_of_ble_eq_true rfl, Nat.le_of_ble_eq_true rfl⟩ hK hN hZ hP hD hS hA [] rfl rfl rfl hl.1 rfl (Nat.le_of_ble_eq_true rfl) dX9_lays_85 (fun r_27 hw_r_27 => ?_)
              rcases hw_r_27 with ⟨rfl, h_28, h_29⟩ | rfl
              · skip
                refine lv_if_eq (tgt := 109) hx hb dX9_lays_88 (by decide) (fun c_30 => absurd c_30 (by decide)) (fun c_30 => ?_)
                refine lv_aload_n hx hb dX9_lays_91 rfl (lv_at hl 4 rfl) ?_
                refine lv_iload_n hx hb dX9_lays_92 rfl (lv_at hl 6 rfl) ?_
                refine lv_iload hx hb dX9_lays_93 (lv_at hl 1 rfl) ?_
                refine lv_lload hx hb dX9_lays_95 (lv_at hl 0 rfl) ?_
                refine lv_l2i (v := (nb (40 * y_11 + i)).toInt32) hx hb dX9_lays_97 rfl ?_
                refine lv_lload hx hb dX9_lays_98 (lv_at hl 0 rfl) ?_
                refine lv_l2i (v := (nb (40 * y_11 + i)).toInt32) hx hb dX9_lays_100 rfl ?_
                refine xc_Vi (wr := [(ybi, .inl (cI, 4, .inl bi)), (ysi, .inl (cI, 4, .inl sq)), (ynu, .inl (cJ, 160, .inr (.inl nb))), (yt, .inl (cI, 7, .inl mq))]) hF (c_X9_makes l D cI cJ cZ cS ta sa sv H.size h0 ys yk yo yt mk0 yfa yfe mL mS mM yro yhe ygr mF mC mY yta mz mf mt mv mw ywa ybi ysi ynu ymo s8 P Rn Wn k_13 i ((nb (40 * y_11 + i)).toInt32) ((nb (40 * y_11 + i)).toInt32) (by omega) (by omega) (x_endsL h_28 h_29) ht0 ht1 ht2 htS htM htp htr htw htR) kv_X9_87 ⟨rfl, rfl, Nat.le_of_ble_eq_true rfl, Nat.le_of_ble_eq_true rfl⟩ ⟨Nat.le_of_ble_eq_true rfl, Nat.le_of_ble_eq_true rfl⟩ hK hN hZ hP hD hS hA [0, 1] [2, 3, 4, 5] rfl rfl rfl rfl (by decide) 0 rfl rfl rfl rfl hl.1 rfl (Nat.le_of_ble_eq_true rfl) dX9_lays_101 (fun r_31 u_r_31 H locs hw_r_31 hP hD hS => ?_)
                obtain ⟨ms2_32, rfl⟩ : ∃ z, z = u_r_31 := ⟨_, rfl⟩
                try dsimp only at hw_r_31
                obtain ⟨hw_r_31, i_33, i_34, i_35, i_36, i_37, i_38, i_39, i_40, i_41⟩ := hw_r_31
                have hP : va_P D vwCl [(ybi, .inl (cI, 4, .inl bi)), (ysi, .inl (cI, 4, .inl sq)), (ynu, .inl (cJ, 160, .inr (.inl nb))), (yt, .inl (cI, 7, .inl mq)), (h0, .inr (9, [.ref ys, .ref yk, .ref yo, .ref yt, .int mk0, .ref yfa, .ref yfe, .int mL, .int mS, .int mM, .ref yro, .ref yhe, .ref ygr, .int mF, .int mC, .int mY, .ref yta, .int (nI (mz)), .int (nI (mf)), .int (nI (mt)), .int mv, .int mw, .ref ywa, .ref ybi, .ref ysi, .ref ynu, .ref ymo])), (ys, .inl (cI, 449, .inl ms2_32))] H := hP
                have hD : va_D A [(ybi, .inl (cI, 4, .inl bi)), (ysi, .inl (cI, 4, .inl sq)), (ynu, .inl (cJ, 160, .inr (.inl nb))), (yt, .inl (cI, 7, .inl mq)), (h0, .inr (9, [.ref ys, .ref yk, .ref yo, .ref yt, .int mk0, .ref yfa, .ref yfe, .int mL, .int mS, .int mM, .ref yro, .ref yhe, .ref ygr, .int mF, .int mC, .int mY, .ref yta, .int (nI (mz)), .int (nI (mf)), .int (nI (mt)), .int mv, .int mw, .ref ywa, .ref ybi, .ref ysi, .ref ynu, .ref ymo])), (ys, .inl (cI, 449, .inl ms2_32))] := hD
                refine lv_istore (lv' := [(8, .int r_31), (6, .long (nb (40 * y_11 + i))), (5, .int (nI (i))), (4, .int u8), (3, .int 0), (0, .ref h0), (1, .int (nI (y_11))), (2, .int (nI (k_13)))]) hx hb dX9_lays_104 hl (by decide) rfl (fun ls hl => ?_)
                refine lv_iinc (v := u8 + 1) (lv' := [(4, .int (u8 + 1)), (8, .int r_31), (6, .long (nb (40 * y_11 + i))), (5, .int (nI (i))), (3, .int 0), (0, .ref h0), (1, .int (nI (y_11))), (2, .int (nI (k_13)))]) hx hb dX9_lays_106 hl (k := 3) rfl rfl (by decide) rfl (fun ls hl => ?_)
                refine lv_iinc (v := nI (i + 1)) (lv' := [(5, .int (nI (i + 1))), (4, .int (u8 + 1)), (8, .int r_31), (6, .long (nb (40 * y_11 + i))), (3, .int 0), (0, .ref h0), (1, .int (nI (y_11))), (2, .int (nI (k_13)))]) hx hb dX9_lays_109 hl (k := 3) rfl (nI_1 (i)) (by decide) rfl (fun ls hl => ?_)
                refine lv_goto (tgt := 37) hx hb dX9_lays_112 (by decide) ?_
                exact ih_37 (i + 1) (u8 + 1) ms2_32 _ _ _ (by omega) (by omega) i_33 i_34 i_35 i_36 i_37 i_38 i_39 i_40 i_41 (hP.sub [4, 5, 0, 1, 2, 3] rfl) (hD.sub [4, 5, 0, 1, 2, 3] (by decide +kernel) rfl) hS (lv_sub hl [0, 1, 4, 5, 6, 7] rfl)
              · skip
                refine lv_if_eq (tgt := 109) hx hb dX9_lays_88 (by decide) (fun c_42 => ?_) (fun c_42 => absurd (by decide) c_42)
                refine lv_iinc (v := nI (i + 1)) (lv' := [(5, .int (nI (i + 1))), (6, .long (nb (40 * y_11 + i))), (4, .int u8), (3, .int 0), (0, .ref h0), (1, .int (nI (y_11))), (2, .int (nI (k_13)))]) hx hb dX9_lays_109 hl (k := 1) rfl (nI_1 (i)) (by decide) rfl (fun ls hl => ?_)
                refine lv_goto (tgt := 37) hx hb dX9_lays_112 (by decide) ?_
                exact ih_37 (i + 1) u8 s8 _ _ _ (by omega) (by omega) ht0 ht1 ht2 htS htM htp htr htw htR (hP.sub [0, 1, 2, 3, 4, 5] rfl) (hD.sub [0, 1, 2, 3, 4, 5] (by decide +kernel) rfl) hS (lv_sub hl [0, 2, 3, 4, 5, 6] rfl)
          · skip
            refine lv_if_eq (tgt := 109) hx hb dX9_lays_68 (by decide) (fun c_43 => ?_) (fun c_43 => absurd (by decide) c_43)
            refine lv_iinc (v := nI (i + 1)) (lv' := [(5, .int (nI (i + 1))), (6, .long (nb (40 * y_11 + i))), (4, .int u8), (3, .int 0), (0, .ref h0), (1, .int (nI (y_11))), (2, .int (nI (k_13)))]) hx hb dX9_lays_109 hl (k := 1) rfl (nI_1 (i)) (by decide) rfl (fun ls hl => ?_)
            refine lv_goto (tgt := 37) hx hb dX9_lays_112 (by decide) ?_
            exact ih_37 (i + 1) u8 s8 _ _ _ (by omega) (by omega) ht0 ht1 ht2 htS htM htp htr htw htR (hP.sub [0, 1, 2, 3, 4, 5] rfl) (hD.sub [0, 1, 2, 3, 4, 5] (by decide +kernel) rfl) hS (lv_sub hl [0, 2, 3, 4, 5, 6] rfl)
    · skip
      refine lv_if_ne (tgt := 31) hx hb dX9_lays_21 (by decide) (fun c_44 => absurd (by decide) c_44) (fun c_44 => ?_)
      refine lv_aload_n hx hb dX9_lays_24 rfl (lv_at hl 1 rfl) ?_
      refine lv_ldc (v := (-1000000001)) hx hb hown (hu _ uw648) dX9_lays_25 ?_
      refine xc_Vi (wr := [(ys, .inl (cI, 449, .inl ms)), (ybi, .inl (cI, 4, .inl bi)), (ysi, .inl (cI, 4, .inl sq)), (ynu, .inl (cJ, 160, .inr (.inl nb)))]) hF (c_X9_finds_B l D cI cJ cZ cS ta sa sv s.heap.size h0 ys yk yo yt mk0 yfa yfe mL mS mM yro yhe ygr mF mC mY yta mz mf mt mv mw ywa ybi ysi ynu ymo mq ) kv_X9_70 ⟨rfl, rfl, Nat.le_of_ble_eq_true rfl, Nat.le_of_ble_eq_true rfl⟩ ⟨Nat.le_of_ble_eq_true rfl, Nat.le_of_ble_eq_true rfl⟩ hK hN hZ hP hD hS hA [0, 5] [1, 2, 3, 4] rfl rfl rfl rfl (by decide) 0 rfl rfl rfl rfl hl.1 rfl (Nat.le_of_ble_eq_true rfl) dX9_lays_27 (fun r_45 u_r_45 H locs hw_r_45 hP hD hS => ?_)
      obtain ⟨mq2_46, rfl⟩ : ∃ z, z = u_r_45 := ⟨_, rfl⟩
      try dsimp only at hw_r_45
      have hP : va_P D vwCl [(ys, .inl (cI, 449, .inl ms)), (ybi, .inl (cI, 4, .inl bi)), (ysi, .inl (cI, 4, .inl sq)), (ynu, .inl (cJ, 160, .inr (.inl nb))), (h0, .inr (9, [.ref ys, .ref yk, .ref yo, .ref yt, .int mk0, .ref yfa, .ref yfe, .int mL, .int mS, .int mM, .ref yro, .ref yhe, .ref ygr, .int mF, .int mC, .int mY, .ref yta, .int (nI (mz)), .int (nI (mf)), .int (nI (mt)), .int mv, .int mw, .ref ywa, .ref ybi, .ref ysi, .ref ynu, .ref ymo])), (yt, .inl (cI, 7, .inl mq2_46))] H := hP
      have hD : va_D A [(ys, .inl (cI, 449, .inl ms)), (ybi, .inl (cI, 4, .inl bi)), (ysi, .inl (cI, 4, .inl sq)), (ynu, .inl (cJ, 160, .inr (.inl nb))), (h0, .inr (9, [.ref ys, .ref yk, .ref yo, .ref yt, .int mk0, .ref yfa, .ref yfe, .int mL, .int mS, .int mM, .ref yro, .ref yhe, .ref ygr, .int mF, .int mC, .int mY, .ref yta, .int (nI (mz)), .int (nI (mf)), .int (nI (mt)), .int mv, .int mw, .ref ywa, .ref ybi, .ref ysi, .ref ynu, .ref ymo])), (yt, .inl (cI, 7, .inl mq2_46))] := hD
      subst hw_r_45
      exact W.iret (v := (-1000000001)) hx hb hr (fun t ht hW => ⟨⟨(-1000000001), (ms, mq2_46), rfl, ⟨trivial, hs0, hs1, hs2, hsS, hsM, hsp, hsr, hsw, hsR⟩, by rw [ht]; exact hP.sub [4, 0, 1, 2, 3, 5] rfl, hD.sub [4, 0, 1, 2, 3, 5] (by decide +kernel) rfl⟩, hS.F ht⟩) hS.2.2 dX9_lays_30 hlk
set_option maxHeartbeats 4000000 in
set_option maxRecDepth 100000 in
theorem c_X9_read (l : Launch) (D : va_G) (cI cJ cZ cS : ClassId) (ta : Nat) (sa sv : Nat → Nat) (sz : Nat) (h0 : Nat) (ys : Nat) (yk : Nat) (yo : Nat) (yt : Nat) (mk0 : Int32) (yfa : Nat) (yfe : Nat) (mL : Int32) (mS : Int32) (mM : Int32) (yro : Nat) (yhe : Nat) (ygr : Nat) (mF : Int32) (mC : Int32) (mY : Int32) (yta : Nat) (mz : Nat) (mf : Nat) (mt : Nat) (mv : Int32) (mw : Int32) (ywa : Nat) (ybi : Nat) (ysi : Nat) (ynu : Nat) (ymo : Nat) (ms : Nat → Int32) (fa : Nat → Int32) (fe : Nat → Int32) (bi : Nat → Int32) (sq : Nat → Int32) (nb : Nat → Int64) (mq : Nat → Int32) (P : Nat) (Rn : Nat) (Wn : Nat) (p0 : Int32) (hsq : BA 4 41 sq) (hs0 : ms 0 = nI P) (hs1 : ms 1 = nI Rn) (hs2 : ms 2 = nI Wn) (hsS : SI ms) (hsM : MI ms) (hsp : P ≤ 10) (hsr : Rn ≤ 8) (hsw : Wn ≤ 8) (hsR : RI Rn ms) : Met l yX9_read (Cond.code yX9_read cX9_read 9 (some .int) :: wsU) ({ frames := 3, cells := 0, slots := 0, locals := 66 }) (va_Pc [.ref h0, .int p0] (XW D (xT cI cJ cZ cS) ta sa sv [(h0, .inr (9, [.ref ys, .ref yk, .ref yo, .ref yt, .int mk0, .ref yfa, .ref yfe, .int mL, .int mS, .int mM, .ref yro, .ref yhe, .ref ygr, .int mF, .int mC, .int mY, .ref yta, .int (nI (mz)), .int (nI (mf)), .int (nI (mt)), .int mv, .int mw, .ref ywa, .ref ybi, .ref ysi, .ref ynu, .ref ymo])), (ys, .inl (cI, 449, .inl ms)), (yfa, .inl (cI, 100, .inl fa)), (yfe, .inl (cI, 100, .inl fe)), (ybi, .inl (cI, 4, .inl bi)), (ysi, .inl (cI, 4, .inl sq)), (ynu, .inl (cJ, 160, .inr (.inl nb))), (yt, .inl (cI, 7, .inl mq))] sz)) (XQi (fun (r : Int32) (u : Int32 × (Nat → Int32) × (Nat → Int32) × (Nat → Int32)) => match u with | (mL2, fa2, fe2, mq2) => (True)) D (fun (u : Int32 × (Nat → Int32) × (Nat → Int32) × (Nat → Int32)) => match u with | (mL2, fa2, fe2, mq2) => [(h0, .inr (9, [.ref ys, .ref yk, .ref yo, .ref yt, .int mk0, .ref yfa, .ref yfe, .int mL2, .int mS, .int mM, .ref yro, .ref yhe, .ref ygr, .int mF, .int mC, .int mY, .ref yta, .int (nI (mz)), .int (nI (mf)), .int (nI (mt)), .int mv, .int mw, .ref ywa, .ref ybi, .ref ysi, .ref ynu, .ref ymo])), (ys, .inl (cI, 449, .inl ms)), (yfa, .inl (cI, 100, .inl fa2)), (yfe, .inl (cI, 100, .inl fe2)), (ybi, .inl (cI, 4, .inl bi)), (ysi, .inl (cI, 4, .inl sq)), (ynu, .inl (cJ, 160, .inr (.inl nb))), (yt, .inl (cI, 7, .inl mq2))]) (va_A [(h0, .inr (9, [.ref ys, .ref yk, .ref yo, .ref yt, .int mk0, .ref yfa, .ref yfe, .int mL, .int mS, .int mM, .ref yro, .ref yhe, .ref ygr, .int mF, .int mC, .int mY, .ref yta, .int (nI (mz)), .int (nI (mf)), .int (nI (mt)), .int mv, .int mw, .ref ywa, .ref ybi, .ref ysi, .ref ynu, .ref ymo])), (ys, .inl (cI, 449, .inl ms)), (yfa, .inl (cI, 100, .inl fa)), (yfe, .inl (cI, 100, .inl fe)), (ybi, .inl (cI, 4, .inl bi)), (ysi, .inl (cI, 4, .inl sq)), (ynu, .inl (cJ, 160, .inr (.inl nb))), (yt, .inl (cI, 7, .inl mq))] sz)) 0 0 (va_A [(h0, .inr (9, [.ref ys, .ref yk, .ref yo, .ref yt, .int mk0, .ref yfa, .ref yfe, .int mL, .int mS, .int mM, .ref yro, .ref yhe, .ref ygr, .int mF, .int mC, .int mY, .ref yta, .int (nI (mz)), .int (nI (mf)), .int (nI (mt)), .int mv, .int mw, .ref ywa, .ref ybi, .ref ysi, .ref ynu, .ref ymo])), (ys, .inl (cI, 449, .inl ms)), (yfa, .inl (cI, 100, .inl fa)), (yfe, .inl (cI, 100, .inl fe)), (ybi, .inl (cI, 4, .inl bi)), (ysi, .inl (cI, 4, .inl sq)), (ynu, .inl (cJ, 160, .inr (.inl nb))), (yt, .inl (cI, 7, .inl mq))] sz) := by
  refine xh (QA := fun A => XQi (fun (r : Int32) (u : Int32 × (Nat → Int32) × (Nat → Int32) × (Nat → Int32)) => match u with | (mL2, fa2, fe2, mq2) => (True)) D (fun (u : Int32 × (Nat → Int32) × (Nat → Int32) × (Nat → Int32)) => match u with | (mL2, fa2, fe2, mq2) => [(h0, .inr (9, [.ref ys, .ref yk, .ref yo, .ref yt, .int mk0, .ref yfa, .ref yfe, .int mL2, .int mS, .int mM, .ref yro, .ref yhe, .ref ygr, .int mF, .int mC, .int mY, .ref yta, .int (nI (mz)), .int (nI (mf)), .int (nI (mt)), .int mv, .int mw, .ref ywa, .ref ybi, .ref ysi, .ref ynu, .ref ymo])), (ys, .inl (cI, 449, .inl ms)), (yfa, .inl (cI, 100, .inl fa2)), (yfe, .inl (cI, 100, .inl fe2)), (ybi, .inl (cI, 4, .inl bi)), (ysi, .inl (cI, 4, .inl sq)), (ynu, .inl (cJ, 160, .inr (.inl nb))), (yt, .inl (cI, 7, .inl mq2))]) A) (fr := fun A => A) (by decide) (Nat.le_of_ble_eq_true rfl) ?_
  intro p e s m below meth c ls A hF hr hlk hin hsz hP hK hD hN hZ hA hS hl
  have hF : CallFix p m c cX9_read 9 s _ _ RX9 := hF
  have hx := hF.1
  have hb := hF.2.1
  have hml := hF.2.2.1
  have hown := hF.2.2.2.1
  have hu : ∀ w ∈ wsU, w.before _ s = true := fun w h => hF.2.2.2.2 w (List.mem_cons_of_mem _ h)
  have hl : lv_has ls 9 [(0, .ref h0), (1, .int p0)] := hl
  refine lv_aload_n hx hb dX9_read_0 rfl (lv_at hl 0 rfl) ?_
  refine lv_iload_n hx hb dX9_read_1 rfl (lv_at hl 1 rfl) ?_
  refine xc_Vr hF (c_X9_wrong l D cI cJ cZ cS ta sa sv s.heap.size h0 ys yk yo yt mk0 yfa yfe mL mS mM yro yhe ygr mF mC mY yta mz mf mt mv mw ywa ybi ysi ynu ymo bi p0 ) kv_X9_310 ⟨rfl, rfl, Nat.le_of_ble_eq_true rfl, Nat.le_of_ble_eq_true rfl⟩ ⟨Nat.le_of_ble_eq_true rfl, Nat.le_of_ble_eq_true rfl⟩ hK hN hZ hP hD hS hA [0, 4] rfl rfl 0 rfl rfl rfl rfl hl.1 rfl (Nat.le_of_ble_eq_true rfl) dX9_read_2 (fun r_1 hw_r_1 => ?_)
  rcases hw_r_1 with rfl | rfl | ⟨rfl, h_2, h_3⟩
  · skip
    refine lv_istore_n (lv' := [(2, .int (-1000000001)), (0, .ref h0), (1, .int p0)]) hx hb dX9_read_5 rfl hl (by decide) rfl (fun ls hl => ?_)
    refine lv_iload_n hx hb dX9_read_6 rfl (lv_at hl 0 rfl) ?_
    refine lv_if_eq (tgt := 16) hx hb dX9_read_7 (by decide) (fun c_4 => absurd c_4 (by decide)) (fun c_4 => ?_)
    refine lv_aload_n hx hb dX9_read_10 rfl (lv_at hl 1 rfl) ?_
    refine lv_iload_n hx hb dX9_read_11 rfl (lv_at hl 0 rfl) ?_
    refine xc_Vi (wr := [(ys, .inl (cI, 449, .inl ms)), (yfa, .inl (cI, 100, .inl fa)), (yfe, .inl (cI, 100, .inl fe)), (ybi, .inl (cI, 4, .inl bi)), (ysi, .inl (cI, 4, .inl sq)), (ynu, .inl (cJ, 160, .inr (.inl nb)))]) hF (c_X9_finds_B l D cI cJ cZ cS ta sa sv s.heap.size h0 ys yk yo yt mk0 yfa yfe mL mS mM yro yhe ygr mF mC mY yta mz mf mt mv mw ywa ybi ysi ynu ymo mq ) kv_X9_70 ⟨rfl, rfl, Nat.le_of_ble_eq_true rfl, Nat.le_of_ble_eq_true rfl⟩ ⟨Nat.le_of_ble_eq_true rfl, Nat.le_of_ble_eq_true rfl⟩ hK hN hZ hP hD hS hA [0, 7] [1, 2, 3, 4, 5, 6] rfl rfl rfl (by decide +kernel) (by decide +kernel) 0 rfl rfl rfl rfl hl.1 rfl (Nat.le_of_ble_eq_true rfl) dX9_read_12 (fun r_5 u_r_5 H locs hw_r_5 hP hD hS => ?_)
    obtain ⟨mq2_6, rfl⟩ : ∃ z, z = u_r_5 := ⟨_, rfl⟩
    try dsimp only at hw_r_5
    have hP : va_P D vwCl [(ys, .inl (cI, 449, .inl ms)), (yfa, .inl (cI, 100, .inl fa)), (yfe, .inl (cI, 100, .inl fe)), (ybi, .inl (cI, 4, .inl bi)), (ysi, .inl (cI, 4, .inl sq)), (ynu, .inl (cJ, 160, .inr (.inl nb))), (h0, .inr (9, [.ref ys, .ref yk, .ref yo, .ref yt, .int mk0, .ref yfa, .ref yfe, .int mL, .int mS, .int mM, .ref yro, .ref yhe, .ref ygr, .int mF, .int mC, .int mY, .ref yta, .int (nI (mz)), .int (nI (mf)), .int (nI (mt)), .int mv, .int mw, .ref ywa, .ref ybi, .ref ysi, .ref ynu, .ref ymo])), (yt, .inl (cI, 7, .inl mq2_6))] H := hP
    have hD : va_D A [(ys, .inl (cI, 449, .inl ms)), (yfa, .inl (cI, 100, .inl fa)), (yfe, .inl (cI, 100, .inl fe)), (ybi, .inl (cI, 4, .inl bi)), (ysi, .inl (cI, 4, .inl sq)), (ynu, .inl (cJ, 160, .inr (.inl nb))), (h0, .inr (9, [.ref ys, .ref yk, .ref yo, .ref yt, .int mk0, .ref yfa, .ref yfe, .int mL, .int mS, .int mM, .ref yro, .ref yhe, .ref ygr, .int mF, .int mC, .int mY, .ref yta, .int (nI (mz)), .int (nI (mf)), .int (nI (mt)), .int mv, .int mw, .ref ywa, .ref ybi, .ref ysi, .ref ynu, .ref ymo])), (yt, .inl (cI, 7, .inl mq2_6))] := hD
    subst hw_r_5
    exact W.iret (v := (-1000000001)) hx hb hr (fun t ht hW => ⟨⟨(-1000000001), (mL, fa, fe, mq2_6), rfl, trivial, by rw [ht]; exact hP.sub [6, 0, 1, 2, 3, 4, 5, 7] rfl, hD.sub [6, 0, 1, 2, 3, 4, 5, 7] (by decide +kernel) rfl⟩, hS.F ht⟩) hS.2.2 dX9_read_15 hlk
  · skip
    refine lv_istore_n (lv' := [(2, .int (-1000000006)), (0, .ref h0), (1, .int p0)]) hx hb dX9_read_5 rfl hl (by decide) rfl (fun ls hl => ?_)
    refine lv_iload_n hx hb dX9_read_6 rfl (lv_at hl 0 rfl) ?_
    refine lv_if_eq (tgt := 16) hx hb dX9_read_7 (by decide) (fun c_7 => absurd c_7 (by decide)) (fun c_7 => ?_)
    refine lv_aload_n hx hb dX9_read_10 rfl (lv_at hl 1 rfl) ?_
    refine lv_iload_n hx hb dX9_read_11 rfl (lv_at hl 0 rfl) ?_
    refine xc_Vi (wr := [(ys, .inl (cI, 449, .inl ms)), (yfa, .inl (cI, 100, .inl fa)), (yfe, .inl (cI, 100, .inl fe)), (ybi, .inl (cI, 4, .inl bi)), (ysi, .inl (cI, 4, .inl sq)), (ynu, .inl (cJ, 160, .inr (.inl nb)))]) hF (c_X9_finds_M l D cI cJ cZ cS ta sa sv s.heap.size h0 ys yk yo yt mk0 yfa yfe mL mS mM yro yhe ygr mF mC mY yta mz mf mt mv mw ywa ybi ysi ynu ymo mq ) kv_X9_70 ⟨rfl, rfl, Nat.le_of_ble_eq_true rfl, Nat.le_of_ble_eq_true rfl⟩ ⟨Nat.le_of_ble_eq_true rfl, Nat.le_of_ble_eq_true rfl⟩ hK hN hZ hP hD hS hA [0, 7] [1, 2, 3, 4, 5, 6] rfl rfl rfl (by decide +kernel) (by decide +kernel) 0 rfl rfl rfl rfl hl.1 rfl (Nat.le_of_ble_eq_true rfl) dX9_read_12 (fun r_8 u_r_8 H locs hw_r_8 hP hD hS => ?_)
    obtain ⟨mq2_9, rfl⟩ : ∃ z, z = u_r_8 := ⟨_, rfl⟩
    try dsimp only at hw_r_8
    have hP : va_P D vwCl [(ys, .inl (cI, 449, .inl ms)), (yfa, .inl (cI, 100, .inl fa)), (yfe, .inl (cI, 100, .inl fe)), (ybi, .inl (cI, 4, .inl bi)), (ysi, .inl (cI, 4, .inl sq)), (ynu, .inl (cJ, 160, .inr (.inl nb))), (h0, .inr (9, [.ref ys, .ref yk, .ref yo, .ref yt, .int mk0, .ref yfa, .ref yfe, .int mL, .int mS, .int mM, .ref yro, .ref yhe, .ref ygr, .int mF, .int mC, .int mY, .ref yta, .int (nI (mz)), .int (nI (mf)), .int (nI (mt)), .int mv, .int mw, .ref ywa, .ref ybi, .ref ysi, .ref ynu, .ref ymo])), (yt, .inl (cI, 7, .inl mq2_9))] H := hP
    have hD : va_D A [(ys, .inl (cI, 449, .inl ms)), (yfa, .inl (cI, 100, .inl fa)), (yfe, .inl (cI, 100, .inl fe)), (ybi, .inl (cI, 4, .inl bi)), (ysi, .inl (cI, 4, .inl sq)), (ynu, .inl (cJ, 160, .inr (.inl nb))), (h0, .inr (9, [.ref ys, .ref yk, .ref yo, .ref yt, .int mk0, .ref yfa, .ref yfe, .int mL, .int mS, .int mM, .ref yro, .ref yhe, .ref ygr, .int mF, .int mC, .int mY, .ref yta, .int (nI (mz)), .int (nI (mf)), .int (nI (mt)), .int mv, .int mw, .ref ywa, .ref ybi, .ref ysi, .ref ynu, .ref ymo])), (yt, .inl (cI, 7, .inl mq2_9))] := hD
    subst hw_r_8
    exact W.iret (v := (-1000000006)) hx hb hr (fun t ht hW => ⟨⟨(-1000000006), (mL, fa, fe, mq2_9), rfl, trivial, by rw [ht]; exact hP.sub [6, 0, 1, 2, 3, 4, 5, 7] rfl, hD.sub [6, 0, 1, 2, 3, 4, 5, 7] (by decide +kernel) rfl⟩, hS.F ht⟩) hS.2.2 dX9_read_15 hlk
  · skip
    refine lv_istore_n (lv' := [(2, .int 0), (0, .ref h0), (1, .int p0)]) hx hb dX9_read_5 rfl hl (by decide) rfl (fun ls hl => ?_)
    refine lv_iload_n hx hb dX9_read_6 rfl (lv_at hl 0 rfl) ?_
    refine lv_if_eq (tgt := 16) hx hb dX9_read_7 (by decide) (fun c_10 => ?_) (fun c_10 => absurd (by decide) c_10)
    obtain ⟨y_11, hy_11, rfl⟩ := xrange (w := 3) (by omega) h_2 h_3
    refine lv_aload_n hx hb dX9_read_16 rfl (lv_at hl 1 rfl) ?_
    refine xc_Vv (wr := [(ybi, .inl (cI, 4, .inl bi)), (ysi, .inl (cI, 4, .inl sq)), (ynu, .inl (cJ, 160, .inr (.inl nb))), (yt, .inl (cI, 7, .inl mq))]) hF (c_X9_findFar l D cI cJ cZ cS ta sa sv s.heap.size h0 ys yk yo yt mk0 yfa yfe mL mS mM yro yhe ygr mF mC mY yta mz mf mt mv mw ywa ybi ysi ynu ymo ms fa fe P Rn Wn hs0 hs1 hs2 hsS hsM hsp hsr hsw hsR) kv_X9_113 ⟨rfl, rfl, Nat.le_of_ble_eq_true rfl, Nat.le_of_ble_eq_true rfl⟩ ⟨Nat.le_of_ble_eq_true rfl, Nat.le_of_ble_eq_true rfl⟩ hK hN hZ hP hD hS hA [0, 1, 2, 3] [4, 5, 6, 7] rfl rfl (by decide +kernel) (by decide +kernel) (by decide +kernel) 0 rfl rfl rfl rfl hl.1 rfl (Nat.le_of_ble_eq_true rfl) dX9_read_17 (fun u_r_12 H locs hw_r_12 hP hD hS => ?_)
    obtain ⟨mL2_13, fa2_14, fe2_15⟩ := u_r_12
    try dsimp only at hw_r_12
    have i_16 := hw_r_12
    have hP : va_P D vwCl [(ybi, .inl (cI, 4, .inl bi)), (ysi, .inl (cI, 4, .inl sq)), (ynu, .inl (cJ, 160, .inr (.inl nb))), (yt, .inl (cI, 7, .inl mq)), (h0, .inr (9, [.ref ys, .ref yk, .ref yo, .ref yt, .int mk0, .ref yfa, .ref yfe, .int mL2_13, .int mS, .int mM, .ref yro, .ref yhe, .ref ygr, .int mF, .int mC, .int mY, .ref yta, .int (nI (mz)), .int (nI (mf)), .int (nI (mt)), .int mv, .int mw, .ref ywa, .ref ybi, .ref ysi, .ref ynu, .ref ymo])), (ys, .inl (cI, 449, .inl ms)), (yfa, .inl (cI, 100, .inl fa2_14)), (yfe, .inl (cI, 100, .inl fe2_15))] H := hP
    have hD : va_D A [(ybi, .inl (cI, 4, .inl bi)), (ysi, .inl (cI, 4, .inl sq)), (ynu, .inl (cJ, 160, .inr (.inl nb))), (yt, .inl (cI, 7, .inl mq)), (h0, .inr (9, [.ref ys, .ref yk, .ref yo, .ref yt, .int mk0, .ref yfa, .ref yfe, .int mL2_13, .int mS, .int mM, .ref yro, .ref yhe, .ref ygr, .int mF, .int mC, .int mY, .ref yta, .int (nI (mz)), .int (nI (mf)), .int (nI (mt)), .int mv, .int mw, .ref ywa, .ref ybi, .ref ysi, .ref ynu, .ref ymo])), (ys, .inl (cI, 449, .inl ms)), (yfa, .inl (cI, 100, .inl fa2_14)), (yfe, .inl (cI, 100, .inl fe2_15))] := hD
    refine lv_aload_n hx hb dX9_read_20 rfl (lv_at hl 1 rfl) ?_
    refine xg hF kf_X9_109 hK hP 4 rfl rfl dX9_read_21 ?_
    refine lv_if_eq (tgt := 34) hx hb dX9_read_24 (by decide) (fun c_17 => ?_) (fun c_17 => ?_)
    · skip
      refine lv_aload_n hx hb dX9_read_34 rfl (lv_at hl 1 rfl) ?_
      refine xg hF kf_X9_46 hK hP 4 rfl rfl dX9_read_35 ?_
      refine lv_iload_n hx hb dX9_read_38 rfl (lv_at hl 2 rfl) ?_
      refine va_iald hx hb hK hP 1 0 rfl rfl (vp_in_nI (show y_11 < 4 by omega) (by decide)) dX9_read_39 ?_
      refine xl_i (y := sq y_11) (congrArg sq (nI_clamp (show y_11 < 2 ^ 31 by omega))) ?_
      obtain ⟨q_18, hq_18, eq_18⟩ := hsq y_11 (by omega)
      refine xl_i (y := nI (q_18)) eq_18 ?_
      refine lv_istore_n (lv' := [(3, .int (nI (q_18))), (2, .int 0), (0, .ref h0), (1, .int (nI (y_11)))]) hx hb dX9_read_40 rfl hl (by decide) rfl (fun ls hl => ?_)
      refine lv_iconst (v := 0) hx hb dX9_read_41 (by decide) ?_
      refine lv_istore (lv' := [(4, .int 0), (3, .int (nI (q_18))), (2, .int 0), (0, .ref h0), (1, .int (nI (y_11)))]) hx hb dX9_read_42 hl (by decide) rfl (fun ls hl => ?_)
      refine lv_iconst (v := 0) hx hb dX9_read_44 (by decide) ?_
      refine lv_istore (lv' := [(5, .int 0), (4, .int 0), (3, .int (nI (q_18))), (2, .int 0), (0, .ref h0), (1, .int (nI (y_11)))]) hx hb dX9_read_45 hl (by decide) rfl (fun ls hl => ?_)
      suffices loop_47 : ∀ (n_47 : Nat) (i : Nat) (u8 : Int32) (H : Heap) (locs : List Loc) (ls : Array Slot), q_18 - i < n_47 → (i ≤ q_18) → (rd_A P nb (40 * y_11) i) → va_P D vwCl [(ybi, .inl (cI, 4, .inl bi)), (ysi, .inl (cI, 4, .inl sq)), (ynu, .inl (cJ, 160, .inr (.inl nb))), (yt, .inl (cI, 7, .inl mq)), (h0, .inr (9, [.ref ys, .ref yk, .ref yo, .ref yt, .int mk0, .ref yfa, .ref yfe, .int mL2_13, .int mS, .int mM, .ref yro, .ref yhe, .ref ygr, .int mF, .int mC, .int mY, .ref yta, .int (nI (mz)), .int (nI (mf)), .int (nI (mt)), .int mv, .int mw, .ref ywa, .ref ybi, .ref ysi, .ref ynu, .ref ymo])), (ys, .inl (cI, 449, .inl ms)), (yfa, .inl (cI, 100, .inl fa2_14)), (yfe, .inl (cI, 100, .inl fe2_15))] H → va_D A [(ybi, .inl (cI, 4, .inl bi)), (ysi, .inl (cI, 4, .inl sq)), (ynu, .inl (cJ, 160, .inr (.inl nb))), (yt, .inl (cI, 7, .inl mq)), (h0, .inr (9, [.ref ys, .ref yk, .ref yo, .ref yt, .int mk0, .ref yfa, .ref yfe, .int mL2_13, .int mS, .int mM, .ref yro, .ref yhe, .ref ygr, .int mF, .int mC, .int mY, .ref yta, .int (nI (mz)), .int (nI (mf)), .int (nI (mt)), .int mv, .int mw, .ref ywa, .ref ybi, .ref ysi, .ref ynu, .ref ymo])), (ys, .inl (cI, 449, .inl ms)), (yfa, .inl (cI, 100, .inl fa2_14)), (yfe, .inl (cI, 100, .inl fe2_15))] → va_S A s.heap H locs → lv_has ls 9 [(5, .int (nI (i))), (4, .int u8), (3, .int (nI (q_18))), (2, .int 0), (0, .ref h0), (1, .int (nI (y_11)))] → W p l e ({ frames := 3, cells := 0, slots := 0, locals := 66 }) s m ([.ref h0, .int (nI (y_11))] : List Value).toArray below meth c H locs 0 0 (MQ below (XQi (fun (r : Int32) (u : Int32 × (Nat → Int32) × (Nat → Int32) × (Nat → Int32)) => match u with | (mL2, fa2, fe2, mq2) => (True)) D (fun (u : Int32 × (Nat → Int32) × (Nat → Int32) × (Nat → Int32)) => match u with | (mL2, fa2, fe2, mq2) => [(h0, .inr (9, [.ref ys, .ref yk, .ref yo, .ref yt, .int mk0, .ref yfa, .ref yfe, .int mL2, .int mS, .int mM, .ref yro, .ref yhe, .ref ygr, .int mF, .int mC, .int mY, .ref yta, .int (nI (mz)), .int (nI (mf)), .int (nI (mt)), .int mv, .int mw, .ref ywa, .ref ybi, .ref ysi, .ref ynu, .ref ymo])), (ys, .inl (cI, 449, .inl ms)), (yfa, .inl (cI, 100, .inl fa2)), (yfe, .inl (cI, 100, .inl fe2)), (ybi, .inl (cI, 4, .inl bi)), (ysi, .inl (cI, 4, .inl sq)), (ynu, .inl (cJ, 160, .inr (.inl nb))), (yt, .inl (cI, 7, .inl mq2))]) A) ([.ref h0, .int (nI (y_11))] : List Value).toArray s 0 0 A) (F0 m 47 ls []) by
        exact loop_47 _ 0 0 _ _ _ (Nat.lt_succ_self _) (by omega) rd_A.zero hP hD hS (lv_sub hl [0, 1, 2, 3, 4, 5] rfl)
      intro n_47
      induction n_47 with
      | zero =>
        intro i u8 H locs ls hm_47
        exact absurd hm_47 (Nat.not_lt_zero _)
      | succ n_47 ih_47 =>
        intro i u8 H locs ls hm_47 hi hr8 hP hD hS hl
        refine lv_iload hx hb dX9_read_47 (lv_at hl 0 rfl) ?_
        refine lv_iload_n hx hb dX9_read_49 rfl (lv_at hl 2 rfl) ?_
        refine lv_icmp_ge (tgt := 158) hx hb dX9_read_50 (by decide) (fun c_19 => ?_) (fun c_19 => ?_)
        · skip
          have nc_19 : q_18 ≤ i := xn_le (a := q_18) (b := i) (by omega) (by omega) c_19
          refine lv_iload_n hx hb dX9_read_158 rfl (lv_at hl 2 rfl) ?_
          refine lv_iconst (v := 2) hx hb dX9_read_159 (by decide) ?_
          refine lv_icmp_ge (tgt := 165) hx hb dX9_read_160 (by decide) (fun c_20 => ?_) (fun c_20 => ?_)
          · skip
            have nc_20 : 2 ≤ q_18 := xn_le (a := 2) (b := q_18) (by omega) (by omega) c_20
            refine lv_iload hx hb dX9_read_165 (lv_at hl 1 rfl) ?_
            refine lv_aload_n hx hb dX9_read_167 rfl (lv_at hl 4 rfl) ?_
            refine xg hF kf_X9_22 hK hP 4 rfl rfl dX9_read_168 ?_
            refine lv_bipush (v := 10) hx hb dX9_read_171 (by decide) ?_
            refine lv_aload_n hx hb dX9_read_173 rfl (lv_at hl 4 rfl) ?_
            refine xg hF kf_X9_49 hK hP 4 rfl rfl dX9_read_174 ?_
            refine lv_bipush (v := 40) hx hb dX9_read_177 (by decide) ?_
            refine lv_iload_n hx hb dX9_read_179 rfl (lv_at hl 5 rfl) ?_
            refine lv_imul hx hb dX9_read_180 ?_
            refine xl_i (y := nI (40 * y_11)) (pk_mul 40 y_11) ?_
            refine va_lald hx hb hK hP 2 1 rfl rfl (vp_in_nI (show 40 * y_11 < 160 by omega) (by decide)) dX9_read_181 ?_
            refine xl_l (y := nb (40 * y_11)) (congrArg nb (nI_clamp (show 40 * y_11 < 2 ^ 31 by omega))) ?_
            obtain ⟨y7, hy7, ey7⟩ := hr8 0 (by omega)
            rw [show 40 * y_11 + 0 = 40 * y_11 by omega] at ey7
            refine lv_l2i (v := (nb (40 * y_11)).toInt32) hx hb dX9_read_182 rfl ?_
            refine xl_i (y := nI (y7)) ey7 ?_
            refine lv_imul hx hb dX9_read_183 ?_
            refine xl_i (y := nI (10 * y7)) (pk_mul 10 y7) ?_
            refine lv_aload_n hx hb dX9_read_184 rfl (lv_at hl 4 rfl) ?_
            refine xg hF kf_X9_49 hK hP 4 rfl rfl dX9_read_185 ?_
            refine lv_bipush (v := 40) hx hb dX9_read_188 (by decide) ?_
            refine lv_iload_n hx hb dX9_read_190 rfl (lv_at hl 5 rfl) ?_
            refine lv_imul hx hb dX9_read_191 ?_
            refine xl_i (y := nI (40 * y_11)) (pk_mul 40 y_11) ?_
            refine lv_iload_n hx hb dX9_read_192 rfl (lv_at hl 2 rfl) ?_
            refine lv_iadd hx hb dX9_read_193 ?_
            refine xl_i (y := nI (40 * y_11 + q_18)) (nI_add (40 * y_11) q_18) ?_
            refine lv_iconst (v := 1) hx hb dX9_read_194 (by decide) ?_
            refine lv_isub hx hb dX9_read_195 ?_
            refine xl_i (y := nI (40 * y_11 + q_18 - 1)) (pk_sub (show 1 ≤ 40 * y_11 + q_18 by omega)) ?_
            refine va_lald hx hb hK hP 2 1 rfl rfl (vp_in_nI (show 40 * y_11 + q_18 - 1 < 160 by omega) (by decide)) dX9_read_196 ?_
            refine xl_l (y := nb (40 * y_11 + q_18 - 1)) (congrArg nb (nI_clamp (show 40 * y_11 + q_18 - 1 < 2 ^ 31 by omega))) ?_
            obtain ⟨y6, hy6, ey6⟩ := hr8 (q_18 - 1) (by omega)
            rw [show 40 * y_11 + (q_18 - 1) = 40 * y_11 + q_18 - 1 by omega] at ey6
            refine lv_l2i (v := (nb (40 * y_11 + q_18 - 1)).toInt32) hx hb dX9_read_197 rfl ?_
            refine xl_i (y := nI (y6)) ey6 ?_
            refine lv_iadd hx hb dX9_read_198 ?_
            refine xl_i (y := nI (10 * y7 + y6)) (nI_add (10 * y7) y6) ?_
            refine va_iald hx hb hK hP 6 0 rfl rfl (vp_in_nI (show 10 * y7 + y6 < 100 by omega) (by decide)) dX9_read_199 ?_
            refine xl_i (y := fa2_14 (10 * y7 + y6)) (congrArg fa2_14 (nI_clamp (show 10 * y7 + y6 < 2 ^ 31 by omega))) ?_
            refine lv_icmp_ne (tgt := 207) hx hb dX9_read_200 (by decide) (fun c_21 => ?_) (fun c_21 => ?_)
            · skip
              refine lv_iconst (v := 1) hx hb dX9_read_207 (by decide) ?_
              refine lv_iload_n hx hb dX9_read_208 rfl (lv_at hl 2 rfl) ?_
              refine lv_iadd hx hb dX9_read_209 ?_
              refine xl_i (y := nI (1 + q_18)) (nI_add 1 q_18) ?_
              exact W.iret (v := nI (1 + q_18)) hx hb hr (fun t ht hW => ⟨⟨nI (1 + q_18), (mL2_13, fa2_14, fe2_15, mq), rfl, trivial, by rw [ht]; exact hP.sub [4, 5, 6, 7, 0, 1, 2, 3] rfl, hD.sub [4, 5, 6, 7, 0, 1, 2, 3] (by decide +kernel) rfl⟩, hS.F ht⟩) hS.2.2 dX9_read_210 hlk
            · skip
              refine lv_iconst (v := 0) hx hb dX9_read_203 (by decide) ?_
              refine lv_goto (tgt := 210) hx hb dX9_read_204 (by decide) ?_
              exact W.iret (v := 0) hx hb hr (fun t ht hW => ⟨⟨0, (mL2_13, fa2_14, fe2_15, mq), rfl, trivial, by rw [ht]; exact hP.sub [4, 5, 6, 7, 0, 1, 2, 3] rfl, hD.sub [4, 5, 6, 7, 0, 1, 2, 3] (by decide +kernel) rfl⟩, hS.F ht⟩) hS.2.2 dX9_read_210 hlk
          · skip
            have nc_20 : q_18 < 2 := xn_nle (a := 2) (b := q_18) (by omega) (by omega) c_20
            refine lv_iconst (v := 1) hx hb dX9_read_163 (by decide) ?_
            exact W.iret (v := 1) hx hb hr (fun t ht hW => ⟨⟨1, (mL2_13, fa2_14, fe2_15, mq), rfl, trivial, by rw [ht]; exact hP.sub [4, 5, 6, 7, 0, 1, 2, 3] rfl, hD.sub [4, 5, 6, 7, 0, 1, 2, 3] (by decide +kernel) rfl⟩, hS.F ht⟩) hS.2.2 dX9_read_164 hlk
        · skip
          have nc_19 : i < q_18 := xn_nle (a := q_18) (b := i) (by omega) (by omega) c_19
          refine lv_aload_n hx hb dX9_read_53 rfl (lv_at hl 4 rfl) ?_
          refine xg hF kf_X9_49 hK hP 4 rfl rfl dX9_read_54 ?_
          refine lv_bipush (v := 40) hx hb dX9_read_57 (by decide) ?_
          refine lv_iload_n hx hb dX9_read_59 rfl (lv_at hl 5 rfl) ?_
          refine lv_imul hx hb dX9_read_60 ?_
          refine xl_i (y := nI (40 * y_11)) (pk_mul 40 y_11) ?_
          refine lv_iload hx hb dX9_read_61 (lv_at hl 0 rfl) ?_
          refine lv_iadd hx hb dX9_read_63 ?_
          refine xl_i (y := nI (40 * y_11 + i)) (nI_add (40 * y_11) i) ?_
          refine va_lald hx hb hK hP 2 1 rfl rfl (vp_in_nI (show 40 * y_11 + i < 160 by omega) (by decide)) dX9_read_64 ?_
          refine xl_l (y := nb (40 * y_11 + i)) (congrArg nb (nI_clamp (show 40 * y_11 + i < 2 ^ 31 by omega))) ?_
          refine lv_lstore (lv' := [(6, .long (nb (40 * y_11 + i))), (5, .int (nI (i))), (4, .int u8), (3, .int (nI (q_18))), (2, .int 0), (0, .ref h0), (1, .int (nI (y_11)))]) hx hb dX9_read_65 hl (by decide) rfl (fun ls hl => ?_)
          refine lv_lload hx hb dX9_read_67 (lv_at hl 0 rfl) ?_
          refine lv_lconst (v := 0) hx hb dX9_read_69 (by decide) ?_
          refine xl_l (y := (0 : Int32).toInt64) (by decide) ?_
          refine lv_aload_n hx hb dX9_read_70 rfl (lv_at hl 5 rfl) ?_
          refine xg hF kf_X9_7 hK hP 4 rfl rfl dX9_read_71 ?_
          refine lv_iconst (v := 0) hx hb dX9_read_74 (by decide) ?_
          refine va_iald hx hb hK hP 5 0 rfl rfl (xin 0 449 (by decide) (by decide)) dX9_read_75 ?_
          refine xl_i (y := nI (P)) hs0 ?_
          refine lv_iconst (v := 1) hx hb dX9_read_76 (by decide) ?_
          refine lv_isub hx hb dX9_read_77 ?_
          refine lv_topi (fun x_22 ex_22 => ?_)
          refine lv_i2l (v := x_22.toInt64) hx hb dX9_read_78 rfl ?_
          refine xc_Sr hF (c_X9_inL l D cI cJ cZ cS ta sa sv H.size (nb (40 * y_11 + i)) 0 x_22 ) ks_X9_57 ⟨rfl, rfl, Nat.le_of_ble_eq_true rfl, Nat.le_of_ble_eq_true rfl⟩ ⟨Nat.le_of_ble_eq_true rfl, Nat.le_of_ble_eq_true rfl⟩ hK hN hZ hP hD hS hA [] rfl rfl rfl hl.1 rfl (Nat.le_of_ble_eq_true rfl) dX9_read_79 (fun r_23 hw_r_23 => ?_)
          rcases hw_r_23 with ⟨rfl, h_24, h_25⟩ | rfl
          · skip
            refine lv_if_ne (tgt := 90) hx hb dX9_read_82 (by decide) (fun c_26 => ?_) (fun c_26 => absurd c_26 (by decide))
            obtain ⟨y9, hy9, ey9⟩ := x_inP (by omega) ex_22 h_24 h_25
            refine lv_iload hx hb dX9_read_90 (lv_at hl 1 rfl) ?_
            refine lv_if_le (tgt := 152) hx hb dX9_read_92 (by decide) (fun c_27 => ?_) (fun c_27 => ?_)
            · skip
              have nc_27 : i ≤ 0 := xn_le (a := i) (b := 0) (by omega) (by omega) c_27
              refine lv_iinc (v := nI (i + 1)) (lv' := [(5, .int (nI (i + 1))), (6, .long (nb (40 * y_11 + i))), (4, .int u8), (3, .int (nI (q_18))), (2, .int 0), (0, .ref h0), (1, .int (nI (y_11)))]) hx hb dX9_read_152 hl (k := 1) rfl (nI_1 (i)) (by decide) rfl (fun ls hl => ?_)
              refine lv_goto (tgt := 47) hx hb dX9_read_155 (by decide) ?_
              exact ih_47 (i + 1) u8 _ _ _ (by omega) (by omega) (rd_A.more hr8 ⟨y9, hy9, ey9⟩) (hP.sub [0, 1, 2, 3, 4, 5, 6, 7] rfl) (hD.sub [0, 1, 2, 3, 4, 5, 6, 7] (by decide +kernel) rfl) hS (lv_sub hl [0, 2, 3, 4, 5, 6] rfl)
            · skip
              have nc_27 : 0 < i := xn_nle (a := i) (b := 0) (by omega) (by omega) c_27
              refine lv_aload_n hx hb dX9_read_95 rfl (lv_at hl 5 rfl) ?_
              refine xg hF kf_X9_49 hK hP 4 rfl rfl dX9_read_96 ?_
              refine lv_bipush (v := 40) hx hb dX9_read_99 (by decide) ?_
              refine lv_iload_n hx hb dX9_read_101 rfl (lv_at hl 6 rfl) ?_
              refine lv_imul hx hb dX9_read_102 ?_
              refine xl_i (y := nI (40 * y_11)) (pk_mul 40 y_11) ?_
              refine lv_iload hx hb dX9_read_103 (lv_at hl 1 rfl) ?_
              refine lv_iadd hx hb dX9_read_105 ?_
              refine xl_i (y := nI (40 * y_11 + i)) (nI_add (40 * y_11) i) ?_
              refine lv_iconst (v := 1) hx hb dX9_read_106 (by decide) ?_
              refine lv_isub hx hb dX9_read_107 ?_
              refine xl_i (y := nI (40 * y_11 + i - 1)) (pk_sub (show 1 ≤ 40 * y_11 + i by omega)) ?_
              refine va_lald hx hb hK hP 2 1 rfl rfl (vp_in_nI (show 40 * y_11 + i - 1 < 160 by omega) (by decide)) dX9_read_108 ?_
              refine xl_l (y := nb (40 * y_11 + i - 1)) (congrArg nb (nI_clamp (show 40 * y_11 + i - 1 < 2 ^ 31 by omega))) ?_
              obtain ⟨y8, hy8, ey8⟩ := hr8 (i - 1) (by omega)
              rw [show 40 * y_11 + (i - 1) = 40 * y_11 + i - 1 by omega] at ey8
              refine lv_l2i (v := (nb (40 * y_11 + i - 1)).toInt32) hx hb dX9_read_109 rfl ?_
              refine xl_i (y := nI (y8)) ey8 ?_
              refine lv_istore (lv' := [(8, .int (nI (y8))), (6, .long (nb (40 * y_11 + i))), (5, .int (nI (i))), (4, .int u8), (3, .int (nI (q_18))), (2, .int 0), (0, .ref h0), (1, .int (nI (y_11)))]) hx hb dX9_read_110 hl (by decide) rfl (fun ls hl => ?_)
              refine lv_lload hx hb dX9_read_112 (lv_at hl 1 rfl) ?_
              refine lv_iload hx hb dX9_read_114 (lv_at hl 0 rfl) ?_
              refine lv_i2l (v := (nI (y8)).toInt64) hx hb dX9_read_116 rfl ?_
              refine W.lcmp hx hb dX9_read_117 ?_
              refine lv_if_eq (tgt := 133) hx hb dX9_read_118 (by decide) (fun c_28 => ?_) (fun c_28 => ?_)
              · skip
                refine lv_iload hx hb dX9_read_133 (lv_at hl 2 rfl) ?_
                refine lv_iconst (v := 1) hx hb dX9_read_135 (by decide) ?_
                refine lv_iadd hx hb dX9_read_136 ?_
                refine xl_i (y := nI (i + 1)) (nI_add i 1) ?_
                exact W.iret (v := nI (i + 1)) hx hb hr (fun t ht hW => ⟨⟨nI (i + 1), (mL2_13, fa2_14, fe2_15, mq), rfl, trivial, by rw [ht]; exact hP.sub [4, 5, 6, 7, 0, 1, 2, 3] rfl, hD.sub [4, 5, 6, 7, 0, 1, 2, 3] (by decide +kernel) rfl⟩, hS.F ht⟩) hS.2.2 dX9_read_137 hlk
              · skip
                refine lv_aload_n hx hb dX9_read_121 rfl (lv_at hl 6 rfl) ?_
                refine lv_iload hx hb dX9_read_122 (lv_at hl 0 rfl) ?_
                refine lv_lload hx hb dX9_read_124 (lv_at hl 1 rfl) ?_
                refine lv_l2i (v := (nb (40 * y_11 + i)).toInt32) hx hb dX9_read_126 rfl ?_
                refine xl_i (y := nI (y9)) ey9 ?_
                refine xc_Vr hF (c_X9_isOpen l D cI cJ cZ cS ta sa sv H.size h0 ys yk yo yt mk0 yfa yfe mL2_13 mS mM yro yhe ygr mF mC mY yta mz mf mt mv mw ywa ybi ysi ynu ymo ms P Rn Wn y8 y9 (by omega) (by omega) hs0 hs1 hs2 hsS hsM hsp hsr hsw hsR) kv_X9_97 ⟨rfl, rfl, Nat.le_of_ble_eq_true rfl, Nat.le_of_ble_eq_true rfl⟩ ⟨Nat.le_of_ble_eq_true rfl, Nat.le_of_ble_eq_true rfl⟩ hK hN hZ hP hD hS hA [4, 5] rfl rfl 0 rfl rfl rfl rfl hl.1 rfl (Nat.le_of_ble_eq_true rfl) dX9_read_127 (fun r_29 hw_r_29 => ?_)
                rcases hw_r_29 with ⟨rfl, h_30⟩ | ⟨rfl, h_31⟩
                · skip
                  refine lv_if_ne (tgt := 138) hx hb dX9_read_130 (by decide) (fun c_32 => ?_) (fun c_32 => absurd c_32 (by decide))
                  refine lv_iload hx hb dX9_read_138 (lv_at hl 3 rfl) ?_
                  refine lv_aload_n hx hb dX9_read_140 rfl (lv_at hl 6 rfl) ?_
                  refine lv_iload hx hb dX9_read_141 (lv_at hl 0 rfl) ?_
                  refine lv_lload hx hb dX9_read_143 (lv_at hl 1 rfl) ?_
                  refine lv_l2i (v := (nb (40 * y_11 + i)).toInt32) hx hb dX9_read_145 rfl ?_
                  refine xl_i (y := nI (y9)) ey9 ?_
                  refine xc_Vr hF (c_X9_miles l D cI cJ cZ cS ta sa sv H.size h0 ys yk yo yt mk0 yfa yfe mL2_13 mS mM yro yhe ygr mF mC mY yta mz mf mt mv mw ywa ybi ysi ynu ymo ms P Rn Wn y8 y9 (by omega) (by omega) hs0 hs1 hs2 hsS hsM hsp hsr hsw hsR) kv_X9_100 ⟨rfl, rfl, Nat.le_of_ble_eq_true rfl, Nat.le_of_ble_eq_true rfl⟩ ⟨Nat.le_of_ble_eq_true rfl, Nat.le_of_ble_eq_true rfl⟩ hK hN hZ hP hD hS hA [4, 5] rfl rfl 0 rfl rfl rfl rfl hl.1 rfl (Nat.le_of_ble_eq_true rfl) dX9_read_146 (fun r_33 hw_r_33 => ?_)
                  subst hw_r_33
                  refine lv_iadd hx hb dX9_read_149 ?_
                  refine lv_topi (fun x_34 ex_34 => ?_)
                  refine lv_istore (lv' := [(4, .int x_34), (8, .int (nI (y8))), (6, .long (nb (40 * y_11 + i))), (5, .int (nI (i))), (3, .int (nI (q_18))), (2, .int 0), (0, .ref h0), (1, .int (nI (y_11)))]) hx hb dX9_read_150 hl (by decide) rfl (fun ls hl => ?_)
                  refine lv_iinc (v := nI (i + 1)) (lv' := [(5, .int (nI (i + 1))), (4, .int x_34), (8, .int (nI (y8))), (6, .long (nb (40 * y_11 + i))), (3, .int (nI (q_18))), (2, .int 0), (0, .ref h0), (1, .int (nI (y_11)))]) hx hb dX9_read_152 hl (k := 3) rfl (nI_1 (i)) (by decide) rfl (fun ls hl => ?_)
                  refine lv_goto (tgt := 47) hx hb dX9_read_155 (by decide) ?_
                  exact ih_47 (i + 1) x_34 _ _ _ (by omega) (by omega) (rd_A.more hr8 ⟨y9, hy9, ey9⟩) (hP.sub [0, 1, 2, 3, 4, 5, 6, 7] rfl) (hD.sub [0, 1, 2, 3, 4, 5, 6, 7] (by decide +kernel) rfl) hS (lv_sub hl [0, 1, 4, 5, 6, 7] rfl)
                · skip
                  refine lv_if_ne (tgt := 138) hx hb dX9_read_130 (by decide) (fun c_35 => absurd (by decide) c_35) (fun c_35 => ?_)
                  refine lv_iload hx hb dX9_read_133 (lv_at hl 2 rfl) ?_
                  refine lv_iconst (v := 1) hx hb dX9_read_135 (by decide) ?_
                  refine lv_iadd hx hb dX9_read_136 ?_
                  refine xl_i (y := nI (i + 1)) (nI_add i 1) ?_
                  exact W.iret (v := nI (i + 1)) hx hb hr (fun t ht hW => ⟨⟨nI (i + 1), (mL2_13, fa2_14, fe2_15, mq), rfl, trivial, by rw [ht]; exact hP.sub [4, 5, 6, 7, 0, 1, 2, 3] rfl, hD.sub [4, 5, 6, 7, 0, 1, 2, 3] (by decide +kernel) rfl⟩, hS.F ht⟩) hS.2.2 dX9_read_137 hlk
          · skip
            refine lv_if_ne (tgt := 90) hx hb dX9_read_82 (by decide) (fun c_36 => absurd (by decide) c_36) (fun c_36 => ?_)
            refine lv_iload hx hb dX9_read_85 (lv_at hl 1 rfl) ?_
            refine lv_iconst (v := 1) hx hb dX9_read_87 (by decide) ?_
            refine lv_iadd hx hb dX9_read_88 ?_
            refine xl_i (y := nI (i + 1)) (nI_add i 1) ?_
            exact W.iret (v := nI (i + 1)) hx hb hr (fun t ht hW => ⟨⟨nI (i + 1), (mL2_13, fa2_14, fe2_15, mq), rfl, trivial, by rw [ht]; exact hP.sub [4, 5, 6, 7, 0, 1, 2, 3] rfl, hD.sub [4, 5, 6, 7, 0, 1, 2, 3] (by decide +kernel) rfl⟩, hS.F ht⟩) hS.2.2 dX9_read_89 hlk
    · skip
      refine lv_aload_n hx hb dX9_read_27 rfl (lv_at hl 1 rfl) ?_
      refine lv_ldc (v := (-1000000005)) hx hb hown (hu _ uw716) dX9_read_28 ?_
      refine xc_Vi (wr := [(ybi, .inl (cI, 4, .inl bi)), (ysi, .inl (cI, 4, .inl sq)), (ynu, .inl (cJ, 160, .inr (.inl nb))), (ys, .inl (cI, 449, .inl ms)), (yfa, .inl (cI, 100, .inl fa2_14)), (yfe, .inl (cI, 100, .inl fe2_15))]) hF (c_X9_finds_T l D cI cJ cZ cS ta sa sv H.size h0 ys yk yo yt mk0 yfa yfe mL2_13 mS mM yro yhe ygr mF mC mY yta mz mf mt mv mw ywa ybi ysi ynu ymo mq ) kv_X9_70 ⟨rfl, rfl, Nat.le_of_ble_eq_true rfl, Nat.le_of_ble_eq_true rfl⟩ ⟨Nat.le_of_ble_eq_true rfl, Nat.le_of_ble_eq_true rfl⟩ hK hN hZ hP hD hS hA [4, 3] [0, 1, 2, 5, 6, 7] rfl rfl rfl (by decide +kernel) (by decide +kernel) 0 rfl rfl rfl rfl hl.1 rfl (Nat.le_of_ble_eq_true rfl) dX9_read_30 (fun r_37 u_r_37 H locs hw_r_37 hP hD hS => ?_)
      obtain ⟨mq2_38, rfl⟩ : ∃ z, z = u_r_37 := ⟨_, rfl⟩
      try dsimp only at hw_r_37
      have hP : va_P D vwCl [(ybi, .inl (cI, 4, .inl bi)), (ysi, .inl (cI, 4, .inl sq)), (ynu, .inl (cJ, 160, .inr (.inl nb))), (ys, .inl (cI, 449, .inl ms)), (yfa, .inl (cI, 100, .inl fa2_14)), (yfe, .inl (cI, 100, .inl fe2_15)), (h0, .inr (9, [.ref ys, .ref yk, .ref yo, .ref yt, .int mk0, .ref yfa, .ref yfe, .int mL2_13, .int mS, .int mM, .ref yro, .ref yhe, .ref ygr, .int mF, .int mC, .int mY, .ref yta, .int (nI (mz)), .int (nI (mf)), .int (nI (mt)), .int mv, .int mw, .ref ywa, .ref ybi, .ref ysi, .ref ynu, .ref ymo])), (yt, .inl (cI, 7, .inl mq2_38))] H := hP
      have hD : va_D A [(ybi, .inl (cI, 4, .inl bi)), (ysi, .inl (cI, 4, .inl sq)), (ynu, .inl (cJ, 160, .inr (.inl nb))), (ys, .inl (cI, 449, .inl ms)), (yfa, .inl (cI, 100, .inl fa2_14)), (yfe, .inl (cI, 100, .inl fe2_15)), (h0, .inr (9, [.ref ys, .ref yk, .ref yo, .ref yt, .int mk0, .ref yfa, .ref yfe, .int mL2_13, .int mS, .int mM, .ref yro, .ref yhe, .ref ygr, .int mF, .int mC, .int mY, .ref yta, .int (nI (mz)), .int (nI (mf)), .int (nI (mt)), .int mv, .int mw, .ref ywa, .ref ybi, .ref ysi, .ref ynu, .ref ymo])), (yt, .inl (cI, 7, .inl mq2_38))] := hD
      subst hw_r_37
      exact W.iret (v := (-1000000005)) hx hb hr (fun t ht hW => ⟨⟨(-1000000005), (mL2_13, fa2_14, fe2_15, mq2_38), rfl, trivial, by rw [ht]; exact hP.sub [6, 3, 4, 5, 0, 1, 2, 7] rfl, hD.sub [6, 3, 4, 5, 0, 1, 2, 7] (by decide +kernel) rfl⟩, hS.F ht⟩) hS.2.2 dX9_read_33 hlk
