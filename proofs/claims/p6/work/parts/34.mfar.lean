def LRX9_joins_9 : List UInt8 := []
def LBX9_joins_8 : List UInt8 := [0x00, 0x19, 0x15, 0x08, 0x15, 0x07, 0x4f, 0xb1]
def LRX9_joins_8 : List UInt8 := LBX9_joins_8 ++ LRX9_joins_9
def LBX9_joins_7 : List UInt8 := [0x08, 0x2e, 0xa2, 0x00, 0x15, 0x2a, 0xb4, 0x00, 0x16, 0x15, 0x08, 0x15, 0x06, 0x4f, 0x2a, 0xb4]
def LRX9_joins_7 : List UInt8 := LBX9_joins_7 ++ LRX9_joins_8
def LBX9_joins_6 : List UInt8 := [0xb4, 0x00, 0x16, 0x15, 0x08, 0x2e, 0xa0, 0x00, 0x21, 0x15, 0x07, 0x2a, 0xb4, 0x00, 0x19, 0x15]
def LRX9_joins_6 : List UInt8 := LBX9_joins_6 ++ LRX9_joins_7
def LBX9_joins_5 : List UInt8 := [0x08, 0x15, 0x06, 0x2a, 0xb4, 0x00, 0x16, 0x15, 0x08, 0x2e, 0xa1, 0x00, 0x1b, 0x15, 0x06, 0x2a]
def LRX9_joins_5 : List UInt8 := LBX9_joins_5 ++ LRX9_joins_6
def LBX9_joins_4 : List UInt8 := [0x0a, 0x1c, 0x68, 0x1d, 0x60, 0x2e, 0x60, 0x36, 0x07, 0x10, 0x0a, 0x1b, 0x68, 0x1d, 0x60, 0x36]
def LRX9_joins_4 : List UInt8 := LBX9_joins_4 ++ LRX9_joins_5
def LBX9_joins_3 : List UInt8 := [0x2a, 0xb4, 0x00, 0x19, 0x10, 0x0a, 0x1b, 0x68, 0x1c, 0x60, 0x2e, 0x2a, 0xb4, 0x00, 0x19, 0x10]
def LRX9_joins_3 : List UInt8 := LBX9_joins_3 ++ LRX9_joins_4
def LBX9_joins_2 : List UInt8 := [0x0a, 0x15, 0x05, 0x12, 0x68, 0xa0, 0x00, 0x04, 0xb1, 0x15, 0x04, 0x15, 0x05, 0x60, 0x36, 0x06]
def LRX9_joins_2 : List UInt8 := LBX9_joins_2 ++ LRX9_joins_3
def LBX9_joins_1 : List UInt8 := [0x16, 0x10, 0x0a, 0x1c, 0x68, 0x1d, 0x60, 0x2e, 0x36, 0x05, 0x15, 0x04, 0x12, 0x68, 0x9f, 0x00]
def LRX9_joins_1 : List UInt8 := LBX9_joins_1 ++ LRX9_joins_2
def LBX9_joins_0 : List UInt8 := [0x2a, 0xb4, 0x00, 0x16, 0x10, 0x0a, 0x1b, 0x68, 0x1c, 0x60, 0x2e, 0x36, 0x04, 0x2a, 0xb4, 0x00]
def LRX9_joins_0 : List UInt8 := LBX9_joins_0 ++ LRX9_joins_1
set_option maxRecDepth 100000 in
theorem LBX9_joins_eq : cX9_joins.data.toList = LRX9_joins_0 := by decide +kernel
theorem LBX9_joinsr_0 (k : Nat) : cX9_joins.data.toList[0 + k]? = LRX9_joins_0[k]? := by rw [LBX9_joins_eq, Nat.zero_add]
theorem LBX9_joinsr_1 (k : Nat) : cX9_joins.data.toList[16 + k]? = LRX9_joins_1[k]? := by
  have h := LBX9_joinsr_0 (16 + k)
  rw [show 0 + (16 + k) = 16 + k by omega] at h
  rw [h]
  exact (List.getElem?_append_right (l₁ := LBX9_joins_0) (l₂ := LRX9_joins_1) (show 16 ≤ 16 + k by omega)).trans (congrArg (fun i => LRX9_joins_1[i]?) (show 16 + k - 16 = k by omega))
theorem LBX9_joinsr_2 (k : Nat) : cX9_joins.data.toList[32 + k]? = LRX9_joins_2[k]? := by
  have h := LBX9_joinsr_1 (16 + k)
  rw [show 16 + (16 + k) = 32 + k by omega] at h
  rw [h]
  exact (List.getElem?_append_right (l₁ := LBX9_joins_1) (l₂ := LRX9_joins_2) (show 16 ≤ 16 + k by omega)).trans (congrArg (fun i => LRX9_joins_2[i]?) (show 16 + k - 16 = k by omega))
theorem LBX9_joinsr_3 (k : Nat) : cX9_joins.data.toList[48 + k]? = LRX9_joins_3[k]? := by
  have h := LBX9_joinsr_2 (16 + k)
  rw [show 32 + (16 + k) = 48 + k by omega] at h
  rw [h]
  exact (List.getElem?_append_right (l₁ := LBX9_joins_2) (l₂ := LRX9_joins_3) (show 16 ≤ 16 + k by omega)).trans (congrArg (fun i => LRX9_joins_3[i]?) (show 16 + k - 16 = k by omega))
theorem LBX9_joinsr_4 (k : Nat) : cX9_joins.data.toList[64 + k]? = LRX9_joins_4[k]? := by
  have h := LBX9_joinsr_3 (16 + k)
  rw [show 48 + (16 + k) = 64 + k by omega] at h
  rw [h]
  exact (List.getElem?_append_right (l₁ := LBX9_joins_3) (l₂ := LRX9_joins_4) (show 16 ≤ 16 + k by omega)).trans (congrArg (fun i => LRX9_joins_4[i]?) (show 16 + k - 16 = k by omega))
theorem LBX9_joinsr_5 (k : Nat) : cX9_joins.data.toList[80 + k]? = LRX9_joins_5[k]? := by
  have h := LBX9_joinsr_4 (16 + k)
  rw [show 64 + (16 + k) = 80 + k by omega] at h
  rw [h]
  exact (List.getElem?_append_right (l₁ := LBX9_joins_4) (l₂ := LRX9_joins_5) (show 16 ≤ 16 + k by omega)).trans (congrArg (fun i => LRX9_joins_5[i]?) (show 16 + k - 16 = k by omega))
theorem LBX9_joinsr_6 (k : Nat) : cX9_joins.data.toList[96 + k]? = LRX9_joins_6[k]? := by
  have h := LBX9_joinsr_5 (16 + k)
  rw [show 80 + (16 + k) = 96 + k by omega] at h
  rw [h]
  exact (List.getElem?_append_right (l₁ := LBX9_joins_5) (l₂ := LRX9_joins_6) (show 16 ≤ 16 + k by omega)).trans (congrArg (fun i => LRX9_joins_6[i]?) (show 16 + k - 16 = k by omega))
theorem LBX9_joinsr_7 (k : Nat) : cX9_joins.data.toList[112 + k]? = LRX9_joins_7[k]? := by
  have h := LBX9_joinsr_6 (16 + k)
  rw [show 96 + (16 + k) = 112 + k by omega] at h
  rw [h]
  exact (List.getElem?_append_right (l₁ := LBX9_joins_6) (l₂ := LRX9_joins_7) (show 16 ≤ 16 + k by omega)).trans (congrArg (fun i => LRX9_joins_7[i]?) (show 16 + k - 16 = k by omega))
theorem LBX9_joinsr_8 (k : Nat) : cX9_joins.data.toList[128 + k]? = LRX9_joins_8[k]? := by
  have h := LBX9_joinsr_7 (16 + k)
  rw [show 112 + (16 + k) = 128 + k by omega] at h
  rw [h]
  exact (List.getElem?_append_right (l₁ := LBX9_joins_7) (l₂ := LRX9_joins_8) (show 16 ≤ 16 + k by omega)).trans (congrArg (fun i => LRX9_joins_8[i]?) (show 16 + k - 16 = k by omega))
theorem dX9_joins_0 : decode cX9_joins 0 = .ok (.aload_n 0, 1) := dk_42_ (show cX9_joins.data.toList[0]? = some 0x2a from (LBX9_joinsr_0 0).trans (by decide +kernel))
theorem dX9_joins_1 : decode cX9_joins 1 = .ok (.getfield 22, 3) := dk_180_ (show cX9_joins.data.toList[1]? = some 0xb4 from (LBX9_joinsr_0 1).trans (by decide +kernel)) (show cX9_joins.data.toList[2]? = some 0x00 from (LBX9_joinsr_0 2).trans (by decide +kernel)) (show cX9_joins.data.toList[3]? = some 0x16 from (LBX9_joinsr_0 3).trans (by decide +kernel)) (by decide)
theorem dX9_joins_4 : decode cX9_joins 4 = .ok (.bipush 10, 2) := dk_16_ (show cX9_joins.data.toList[4]? = some 0x10 from (LBX9_joinsr_0 4).trans (by decide +kernel)) (show cX9_joins.data.toList[5]? = some 0x0a from (LBX9_joinsr_0 5).trans (by decide +kernel)) (by decide)
theorem dX9_joins_6 : decode cX9_joins 6 = .ok (.iload_n 1, 1) := dk_27_ (show cX9_joins.data.toList[6]? = some 0x1b from (LBX9_joinsr_0 6).trans (by decide +kernel))
theorem dX9_joins_7 : decode cX9_joins 7 = .ok (.imul, 1) := dk_104_ (show cX9_joins.data.toList[7]? = some 0x68 from (LBX9_joinsr_0 7).trans (by decide +kernel))
theorem dX9_joins_8 : decode cX9_joins 8 = .ok (.iload_n 2, 1) := dk_28_ (show cX9_joins.data.toList[8]? = some 0x1c from (LBX9_joinsr_0 8).trans (by decide +kernel))
theorem dX9_joins_9 : decode cX9_joins 9 = .ok (.iadd, 1) := dk_96_ (show cX9_joins.data.toList[9]? = some 0x60 from (LBX9_joinsr_0 9).trans (by decide +kernel))
theorem dX9_joins_10 : decode cX9_joins 10 = .ok (.iaload, 1) := dk_46_ (show cX9_joins.data.toList[10]? = some 0x2e from (LBX9_joinsr_0 10).trans (by decide +kernel))
theorem dX9_joins_11 : decode cX9_joins 11 = .ok (.istore 4, 2) := dk_54_ (show cX9_joins.data.toList[11]? = some 0x36 from (LBX9_joinsr_0 11).trans (by decide +kernel)) (show cX9_joins.data.toList[12]? = some 0x04 from (LBX9_joinsr_0 12).trans (by decide +kernel)) (by decide)
theorem dX9_joins_13 : decode cX9_joins 13 = .ok (.aload_n 0, 1) := dk_42_ (show cX9_joins.data.toList[13]? = some 0x2a from (LBX9_joinsr_0 13).trans (by decide +kernel))
theorem dX9_joins_14 : decode cX9_joins 14 = .ok (.getfield 22, 3) := dk_180_ (show cX9_joins.data.toList[14]? = some 0xb4 from (LBX9_joinsr_0 14).trans (by decide +kernel)) (show cX9_joins.data.toList[15]? = some 0x00 from (LBX9_joinsr_0 15).trans (by decide +kernel)) (show cX9_joins.data.toList[16]? = some 0x16 from (LBX9_joinsr_1 0).trans (by decide +kernel)) (by decide)
theorem dX9_joins_17 : decode cX9_joins 17 = .ok (.bipush 10, 2) := dk_16_ (show cX9_joins.data.toList[17]? = some 0x10 from (LBX9_joinsr_1 1).trans (by decide +kernel)) (show cX9_joins.data.toList[18]? = some 0x0a from (LBX9_joinsr_1 2).trans (by decide +kernel)) (by decide)
theorem dX9_joins_19 : decode cX9_joins 19 = .ok (.iload_n 2, 1) := dk_28_ (show cX9_joins.data.toList[19]? = some 0x1c from (LBX9_joinsr_1 3).trans (by decide +kernel))
theorem dX9_joins_20 : decode cX9_joins 20 = .ok (.imul, 1) := dk_104_ (show cX9_joins.data.toList[20]? = some 0x68 from (LBX9_joinsr_1 4).trans (by decide +kernel))
theorem dX9_joins_21 : decode cX9_joins 21 = .ok (.iload_n 3, 1) := dk_29_ (show cX9_joins.data.toList[21]? = some 0x1d from (LBX9_joinsr_1 5).trans (by decide +kernel))
theorem dX9_joins_22 : decode cX9_joins 22 = .ok (.iadd, 1) := dk_96_ (show cX9_joins.data.toList[22]? = some 0x60 from (LBX9_joinsr_1 6).trans (by decide +kernel))
theorem dX9_joins_23 : decode cX9_joins 23 = .ok (.iaload, 1) := dk_46_ (show cX9_joins.data.toList[23]? = some 0x2e from (LBX9_joinsr_1 7).trans (by decide +kernel))
theorem dX9_joins_24 : decode cX9_joins 24 = .ok (.istore 5, 2) := dk_54_ (show cX9_joins.data.toList[24]? = some 0x36 from (LBX9_joinsr_1 8).trans (by decide +kernel)) (show cX9_joins.data.toList[25]? = some 0x05 from (LBX9_joinsr_1 9).trans (by decide +kernel)) (by decide)
theorem dX9_joins_26 : decode cX9_joins 26 = .ok (.iload 4, 2) := dk_21_ (show cX9_joins.data.toList[26]? = some 0x15 from (LBX9_joinsr_1 10).trans (by decide +kernel)) (show cX9_joins.data.toList[27]? = some 0x04 from (LBX9_joinsr_1 11).trans (by decide +kernel)) (by decide)
theorem dX9_joins_28 : decode cX9_joins 28 = .ok (.ldc 104, 2) := dk_18_ (show cX9_joins.data.toList[28]? = some 0x12 from (LBX9_joinsr_1 12).trans (by decide +kernel)) (show cX9_joins.data.toList[29]? = some 0x68 from (LBX9_joinsr_1 13).trans (by decide +kernel)) (by decide)
theorem dX9_joins_30 : decode cX9_joins 30 = .ok (.if_icmp .eq 10, 3) := dk_159_ (show cX9_joins.data.toList[30]? = some 0x9f from (LBX9_joinsr_1 14).trans (by decide +kernel)) (show cX9_joins.data.toList[31]? = some 0x00 from (LBX9_joinsr_1 15).trans (by decide +kernel)) (show cX9_joins.data.toList[32]? = some 0x0a from (LBX9_joinsr_2 0).trans (by decide +kernel)) (by decide)
theorem dX9_joins_33 : decode cX9_joins 33 = .ok (.iload 5, 2) := dk_21_ (show cX9_joins.data.toList[33]? = some 0x15 from (LBX9_joinsr_2 1).trans (by decide +kernel)) (show cX9_joins.data.toList[34]? = some 0x05 from (LBX9_joinsr_2 2).trans (by decide +kernel)) (by decide)
theorem dX9_joins_35 : decode cX9_joins 35 = .ok (.ldc 104, 2) := dk_18_ (show cX9_joins.data.toList[35]? = some 0x12 from (LBX9_joinsr_2 3).trans (by decide +kernel)) (show cX9_joins.data.toList[36]? = some 0x68 from (LBX9_joinsr_2 4).trans (by decide +kernel)) (by decide)
theorem dX9_joins_37 : decode cX9_joins 37 = .ok (.if_icmp .ne 4, 3) := dk_160_ (show cX9_joins.data.toList[37]? = some 0xa0 from (LBX9_joinsr_2 5).trans (by decide +kernel)) (show cX9_joins.data.toList[38]? = some 0x00 from (LBX9_joinsr_2 6).trans (by decide +kernel)) (show cX9_joins.data.toList[39]? = some 0x04 from (LBX9_joinsr_2 7).trans (by decide +kernel)) (by decide)
theorem dX9_joins_40 : decode cX9_joins 40 = .ok (.return_, 1) := dk_177_ (show cX9_joins.data.toList[40]? = some 0xb1 from (LBX9_joinsr_2 8).trans (by decide +kernel))
theorem dX9_joins_41 : decode cX9_joins 41 = .ok (.iload 4, 2) := dk_21_ (show cX9_joins.data.toList[41]? = some 0x15 from (LBX9_joinsr_2 9).trans (by decide +kernel)) (show cX9_joins.data.toList[42]? = some 0x04 from (LBX9_joinsr_2 10).trans (by decide +kernel)) (by decide)
theorem dX9_joins_43 : decode cX9_joins 43 = .ok (.iload 5, 2) := dk_21_ (show cX9_joins.data.toList[43]? = some 0x15 from (LBX9_joinsr_2 11).trans (by decide +kernel)) (show cX9_joins.data.toList[44]? = some 0x05 from (LBX9_joinsr_2 12).trans (by decide +kernel)) (by decide)
theorem dX9_joins_45 : decode cX9_joins 45 = .ok (.iadd, 1) := dk_96_ (show cX9_joins.data.toList[45]? = some 0x60 from (LBX9_joinsr_2 13).trans (by decide +kernel))
theorem dX9_joins_46 : decode cX9_joins 46 = .ok (.istore 6, 2) := dk_54_ (show cX9_joins.data.toList[46]? = some 0x36 from (LBX9_joinsr_2 14).trans (by decide +kernel)) (show cX9_joins.data.toList[47]? = some 0x06 from (LBX9_joinsr_2 15).trans (by decide +kernel)) (by decide)
theorem dX9_joins_48 : decode cX9_joins 48 = .ok (.aload_n 0, 1) := dk_42_ (show cX9_joins.data.toList[48]? = some 0x2a from (LBX9_joinsr_3 0).trans (by decide +kernel))
theorem dX9_joins_49 : decode cX9_joins 49 = .ok (.getfield 25, 3) := dk_180_ (show cX9_joins.data.toList[49]? = some 0xb4 from (LBX9_joinsr_3 1).trans (by decide +kernel)) (show cX9_joins.data.toList[50]? = some 0x00 from (LBX9_joinsr_3 2).trans (by decide +kernel)) (show cX9_joins.data.toList[51]? = some 0x19 from (LBX9_joinsr_3 3).trans (by decide +kernel)) (by decide)
theorem dX9_joins_52 : decode cX9_joins 52 = .ok (.bipush 10, 2) := dk_16_ (show cX9_joins.data.toList[52]? = some 0x10 from (LBX9_joinsr_3 4).trans (by decide +kernel)) (show cX9_joins.data.toList[53]? = some 0x0a from (LBX9_joinsr_3 5).trans (by decide +kernel)) (by decide)
theorem dX9_joins_54 : decode cX9_joins 54 = .ok (.iload_n 1, 1) := dk_27_ (show cX9_joins.data.toList[54]? = some 0x1b from (LBX9_joinsr_3 6).trans (by decide +kernel))
theorem dX9_joins_55 : decode cX9_joins 55 = .ok (.imul, 1) := dk_104_ (show cX9_joins.data.toList[55]? = some 0x68 from (LBX9_joinsr_3 7).trans (by decide +kernel))
theorem dX9_joins_56 : decode cX9_joins 56 = .ok (.iload_n 2, 1) := dk_28_ (show cX9_joins.data.toList[56]? = some 0x1c from (LBX9_joinsr_3 8).trans (by decide +kernel))
theorem dX9_joins_57 : decode cX9_joins 57 = .ok (.iadd, 1) := dk_96_ (show cX9_joins.data.toList[57]? = some 0x60 from (LBX9_joinsr_3 9).trans (by decide +kernel))
theorem dX9_joins_58 : decode cX9_joins 58 = .ok (.iaload, 1) := dk_46_ (show cX9_joins.data.toList[58]? = some 0x2e from (LBX9_joinsr_3 10).trans (by decide +kernel))
theorem dX9_joins_59 : decode cX9_joins 59 = .ok (.aload_n 0, 1) := dk_42_ (show cX9_joins.data.toList[59]? = some 0x2a from (LBX9_joinsr_3 11).trans (by decide +kernel))
theorem dX9_joins_60 : decode cX9_joins 60 = .ok (.getfield 25, 3) := dk_180_ (show cX9_joins.data.toList[60]? = some 0xb4 from (LBX9_joinsr_3 12).trans (by decide +kernel)) (show cX9_joins.data.toList[61]? = some 0x00 from (LBX9_joinsr_3 13).trans (by decide +kernel)) (show cX9_joins.data.toList[62]? = some 0x19 from (LBX9_joinsr_3 14).trans (by decide +kernel)) (by decide)
theorem dX9_joins_63 : decode cX9_joins 63 = .ok (.bipush 10, 2) := dk_16_ (show cX9_joins.data.toList[63]? = some 0x10 from (LBX9_joinsr_3 15).trans (by decide +kernel)) (show cX9_joins.data.toList[64]? = some 0x0a from (LBX9_joinsr_4 0).trans (by decide +kernel)) (by decide)
theorem dX9_joins_65 : decode cX9_joins 65 = .ok (.iload_n 2, 1) := dk_28_ (show cX9_joins.data.toList[65]? = some 0x1c from (LBX9_joinsr_4 1).trans (by decide +kernel))
theorem dX9_joins_66 : decode cX9_joins 66 = .ok (.imul, 1) := dk_104_ (show cX9_joins.data.toList[66]? = some 0x68 from (LBX9_joinsr_4 2).trans (by decide +kernel))
theorem dX9_joins_67 : decode cX9_joins 67 = .ok (.iload_n 3, 1) := dk_29_ (show cX9_joins.data.toList[67]? = some 0x1d from (LBX9_joinsr_4 3).trans (by decide +kernel))
theorem dX9_joins_68 : decode cX9_joins 68 = .ok (.iadd, 1) := dk_96_ (show cX9_joins.data.toList[68]? = some 0x60 from (LBX9_joinsr_4 4).trans (by decide +kernel))
theorem dX9_joins_69 : decode cX9_joins 69 = .ok (.iaload, 1) := dk_46_ (show cX9_joins.data.toList[69]? = some 0x2e from (LBX9_joinsr_4 5).trans (by decide +kernel))
theorem dX9_joins_70 : decode cX9_joins 70 = .ok (.iadd, 1) := dk_96_ (show cX9_joins.data.toList[70]? = some 0x60 from (LBX9_joinsr_4 6).trans (by decide +kernel))
theorem dX9_joins_71 : decode cX9_joins 71 = .ok (.istore 7, 2) := dk_54_ (show cX9_joins.data.toList[71]? = some 0x36 from (LBX9_joinsr_4 7).trans (by decide +kernel)) (show cX9_joins.data.toList[72]? = some 0x07 from (LBX9_joinsr_4 8).trans (by decide +kernel)) (by decide)
theorem dX9_joins_73 : decode cX9_joins 73 = .ok (.bipush 10, 2) := dk_16_ (show cX9_joins.data.toList[73]? = some 0x10 from (LBX9_joinsr_4 9).trans (by decide +kernel)) (show cX9_joins.data.toList[74]? = some 0x0a from (LBX9_joinsr_4 10).trans (by decide +kernel)) (by decide)
theorem dX9_joins_75 : decode cX9_joins 75 = .ok (.iload_n 1, 1) := dk_27_ (show cX9_joins.data.toList[75]? = some 0x1b from (LBX9_joinsr_4 11).trans (by decide +kernel))
theorem dX9_joins_76 : decode cX9_joins 76 = .ok (.imul, 1) := dk_104_ (show cX9_joins.data.toList[76]? = some 0x68 from (LBX9_joinsr_4 12).trans (by decide +kernel))
theorem dX9_joins_77 : decode cX9_joins 77 = .ok (.iload_n 3, 1) := dk_29_ (show cX9_joins.data.toList[77]? = some 0x1d from (LBX9_joinsr_4 13).trans (by decide +kernel))
theorem dX9_joins_78 : decode cX9_joins 78 = .ok (.iadd, 1) := dk_96_ (show cX9_joins.data.toList[78]? = some 0x60 from (LBX9_joinsr_4 14).trans (by decide +kernel))
theorem dX9_joins_79 : decode cX9_joins 79 = .ok (.istore 8, 2) := dk_54_ (show cX9_joins.data.toList[79]? = some 0x36 from (LBX9_joinsr_4 15).trans (by decide +kernel)) (show cX9_joins.data.toList[80]? = some 0x08 from (LBX9_joinsr_5 0).trans (by decide +kernel)) (by decide)
theorem dX9_joins_81 : decode cX9_joins 81 = .ok (.iload 6, 2) := dk_21_ (show cX9_joins.data.toList[81]? = some 0x15 from (LBX9_joinsr_5 1).trans (by decide +kernel)) (show cX9_joins.data.toList[82]? = some 0x06 from (LBX9_joinsr_5 2).trans (by decide +kernel)) (by decide)
theorem dX9_joins_83 : decode cX9_joins 83 = .ok (.aload_n 0, 1) := dk_42_ (show cX9_joins.data.toList[83]? = some 0x2a from (LBX9_joinsr_5 3).trans (by decide +kernel))
theorem dX9_joins_84 : decode cX9_joins 84 = .ok (.getfield 22, 3) := dk_180_ (show cX9_joins.data.toList[84]? = some 0xb4 from (LBX9_joinsr_5 4).trans (by decide +kernel)) (show cX9_joins.data.toList[85]? = some 0x00 from (LBX9_joinsr_5 5).trans (by decide +kernel)) (show cX9_joins.data.toList[86]? = some 0x16 from (LBX9_joinsr_5 6).trans (by decide +kernel)) (by decide)
theorem dX9_joins_87 : decode cX9_joins 87 = .ok (.iload 8, 2) := dk_21_ (show cX9_joins.data.toList[87]? = some 0x15 from (LBX9_joinsr_5 7).trans (by decide +kernel)) (show cX9_joins.data.toList[88]? = some 0x08 from (LBX9_joinsr_5 8).trans (by decide +kernel)) (by decide)
theorem dX9_joins_89 : decode cX9_joins 89 = .ok (.iaload, 1) := dk_46_ (show cX9_joins.data.toList[89]? = some 0x2e from (LBX9_joinsr_5 9).trans (by decide +kernel))
theorem dX9_joins_90 : decode cX9_joins 90 = .ok (.if_icmp .lt 27, 3) := dk_161_ (show cX9_joins.data.toList[90]? = some 0xa1 from (LBX9_joinsr_5 10).trans (by decide +kernel)) (show cX9_joins.data.toList[91]? = some 0x00 from (LBX9_joinsr_5 11).trans (by decide +kernel)) (show cX9_joins.data.toList[92]? = some 0x1b from (LBX9_joinsr_5 12).trans (by decide +kernel)) (by decide)
theorem dX9_joins_93 : decode cX9_joins 93 = .ok (.iload 6, 2) := dk_21_ (show cX9_joins.data.toList[93]? = some 0x15 from (LBX9_joinsr_5 13).trans (by decide +kernel)) (show cX9_joins.data.toList[94]? = some 0x06 from (LBX9_joinsr_5 14).trans (by decide +kernel)) (by decide)
theorem dX9_joins_95 : decode cX9_joins 95 = .ok (.aload_n 0, 1) := dk_42_ (show cX9_joins.data.toList[95]? = some 0x2a from (LBX9_joinsr_5 15).trans (by decide +kernel))
theorem dX9_joins_96 : decode cX9_joins 96 = .ok (.getfield 22, 3) := dk_180_ (show cX9_joins.data.toList[96]? = some 0xb4 from (LBX9_joinsr_6 0).trans (by decide +kernel)) (show cX9_joins.data.toList[97]? = some 0x00 from (LBX9_joinsr_6 1).trans (by decide +kernel)) (show cX9_joins.data.toList[98]? = some 0x16 from (LBX9_joinsr_6 2).trans (by decide +kernel)) (by decide)
theorem dX9_joins_99 : decode cX9_joins 99 = .ok (.iload 8, 2) := dk_21_ (show cX9_joins.data.toList[99]? = some 0x15 from (LBX9_joinsr_6 3).trans (by decide +kernel)) (show cX9_joins.data.toList[100]? = some 0x08 from (LBX9_joinsr_6 4).trans (by decide +kernel)) (by decide)
theorem dX9_joins_101 : decode cX9_joins 101 = .ok (.iaload, 1) := dk_46_ (show cX9_joins.data.toList[101]? = some 0x2e from (LBX9_joinsr_6 5).trans (by decide +kernel))
theorem dX9_joins_102 : decode cX9_joins 102 = .ok (.if_icmp .ne 33, 3) := dk_160_ (show cX9_joins.data.toList[102]? = some 0xa0 from (LBX9_joinsr_6 6).trans (by decide +kernel)) (show cX9_joins.data.toList[103]? = some 0x00 from (LBX9_joinsr_6 7).trans (by decide +kernel)) (show cX9_joins.data.toList[104]? = some 0x21 from (LBX9_joinsr_6 8).trans (by decide +kernel)) (by decide)
theorem dX9_joins_105 : decode cX9_joins 105 = .ok (.iload 7, 2) := dk_21_ (show cX9_joins.data.toList[105]? = some 0x15 from (LBX9_joinsr_6 9).trans (by decide +kernel)) (show cX9_joins.data.toList[106]? = some 0x07 from (LBX9_joinsr_6 10).trans (by decide +kernel)) (by decide)
theorem dX9_joins_107 : decode cX9_joins 107 = .ok (.aload_n 0, 1) := dk_42_ (show cX9_joins.data.toList[107]? = some 0x2a from (LBX9_joinsr_6 11).trans (by decide +kernel))
theorem dX9_joins_108 : decode cX9_joins 108 = .ok (.getfield 25, 3) := dk_180_ (show cX9_joins.data.toList[108]? = some 0xb4 from (LBX9_joinsr_6 12).trans (by decide +kernel)) (show cX9_joins.data.toList[109]? = some 0x00 from (LBX9_joinsr_6 13).trans (by decide +kernel)) (show cX9_joins.data.toList[110]? = some 0x19 from (LBX9_joinsr_6 14).trans (by decide +kernel)) (by decide)
theorem dX9_joins_111 : decode cX9_joins 111 = .ok (.iload 8, 2) := dk_21_ (show cX9_joins.data.toList[111]? = some 0x15 from (LBX9_joinsr_6 15).trans (by decide +kernel)) (show cX9_joins.data.toList[112]? = some 0x08 from (LBX9_joinsr_7 0).trans (by decide +kernel)) (by decide)
theorem dX9_joins_113 : decode cX9_joins 113 = .ok (.iaload, 1) := dk_46_ (show cX9_joins.data.toList[113]? = some 0x2e from (LBX9_joinsr_7 1).trans (by decide +kernel))
theorem dX9_joins_114 : decode cX9_joins 114 = .ok (.if_icmp .ge 21, 3) := dk_162_ (show cX9_joins.data.toList[114]? = some 0xa2 from (LBX9_joinsr_7 2).trans (by decide +kernel)) (show cX9_joins.data.toList[115]? = some 0x00 from (LBX9_joinsr_7 3).trans (by decide +kernel)) (show cX9_joins.data.toList[116]? = some 0x15 from (LBX9_joinsr_7 4).trans (by decide +kernel)) (by decide)
theorem dX9_joins_117 : decode cX9_joins 117 = .ok (.aload_n 0, 1) := dk_42_ (show cX9_joins.data.toList[117]? = some 0x2a from (LBX9_joinsr_7 5).trans (by decide +kernel))
theorem dX9_joins_118 : decode cX9_joins 118 = .ok (.getfield 22, 3) := dk_180_ (show cX9_joins.data.toList[118]? = some 0xb4 from (LBX9_joinsr_7 6).trans (by decide +kernel)) (show cX9_joins.data.toList[119]? = some 0x00 from (LBX9_joinsr_7 7).trans (by decide +kernel)) (show cX9_joins.data.toList[120]? = some 0x16 from (LBX9_joinsr_7 8).trans (by decide +kernel)) (by decide)
theorem dX9_joins_121 : decode cX9_joins 121 = .ok (.iload 8, 2) := dk_21_ (show cX9_joins.data.toList[121]? = some 0x15 from (LBX9_joinsr_7 9).trans (by decide +kernel)) (show cX9_joins.data.toList[122]? = some 0x08 from (LBX9_joinsr_7 10).trans (by decide +kernel)) (by decide)
theorem dX9_joins_123 : decode cX9_joins 123 = .ok (.iload 6, 2) := dk_21_ (show cX9_joins.data.toList[123]? = some 0x15 from (LBX9_joinsr_7 11).trans (by decide +kernel)) (show cX9_joins.data.toList[124]? = some 0x06 from (LBX9_joinsr_7 12).trans (by decide +kernel)) (by decide)
theorem dX9_joins_125 : decode cX9_joins 125 = .ok (.iastore, 1) := dk_79_ (show cX9_joins.data.toList[125]? = some 0x4f from (LBX9_joinsr_7 13).trans (by decide +kernel))
theorem dX9_joins_126 : decode cX9_joins 126 = .ok (.aload_n 0, 1) := dk_42_ (show cX9_joins.data.toList[126]? = some 0x2a from (LBX9_joinsr_7 14).trans (by decide +kernel))
theorem dX9_joins_127 : decode cX9_joins 127 = .ok (.getfield 25, 3) := dk_180_ (show cX9_joins.data.toList[127]? = some 0xb4 from (LBX9_joinsr_7 15).trans (by decide +kernel)) (show cX9_joins.data.toList[128]? = some 0x00 from (LBX9_joinsr_8 0).trans (by decide +kernel)) (show cX9_joins.data.toList[129]? = some 0x19 from (LBX9_joinsr_8 1).trans (by decide +kernel)) (by decide)
theorem dX9_joins_130 : decode cX9_joins 130 = .ok (.iload 8, 2) := dk_21_ (show cX9_joins.data.toList[130]? = some 0x15 from (LBX9_joinsr_8 2).trans (by decide +kernel)) (show cX9_joins.data.toList[131]? = some 0x08 from (LBX9_joinsr_8 3).trans (by decide +kernel)) (by decide)
theorem dX9_joins_132 : decode cX9_joins 132 = .ok (.iload 7, 2) := dk_21_ (show cX9_joins.data.toList[132]? = some 0x15 from (LBX9_joinsr_8 4).trans (by decide +kernel)) (show cX9_joins.data.toList[133]? = some 0x07 from (LBX9_joinsr_8 5).trans (by decide +kernel)) (by decide)
theorem dX9_joins_134 : decode cX9_joins 134 = .ok (.iastore, 1) := dk_79_ (show cX9_joins.data.toList[134]? = some 0x4f from (LBX9_joinsr_8 6).trans (by decide +kernel))
theorem dX9_joins_135 : decode cX9_joins 135 = .ok (.return_, 1) := dk_177_ (show cX9_joins.data.toList[135]? = some 0xb1 from (LBX9_joinsr_8 7).trans (by decide +kernel))
def LRX9_findFar_13 : List UInt8 := []
def LBX9_findFar_12 : List UInt8 := [0x04, 0xa7, 0x00, 0x04, 0x03, 0xb5, 0x00, 0x6d, 0x84, 0x02, 0x01, 0xa7, 0xff, 0xdc, 0xb1]
def LRX9_findFar_12 : List UInt8 := LBX9_findFar_12 ++ LRX9_findFar_13
def LBX9_findFar_11 : List UInt8 := [0x6d, 0x9a, 0x00, 0x0f, 0x2a, 0xb4, 0x00, 0x16, 0x10, 0x0b, 0x1c, 0x68, 0x2e, 0x9c, 0x00, 0x07]
def LRX9_findFar_11 : List UInt8 := LBX9_findFar_11 ++ LRX9_findFar_12
def LBX9_findFar_10 : List UInt8 := [0x2a, 0x03, 0xb5, 0x00, 0x6d, 0x03, 0x3d, 0x1c, 0x1b, 0xa2, 0x00, 0x25, 0x2a, 0x2a, 0xb4, 0x00]
def LRX9_findFar_10 : List UInt8 := LBX9_findFar_10 ++ LRX9_findFar_11
def LBX9_findFar_9 : List UInt8 := [0x01, 0xa7, 0xff, 0xef, 0x84, 0x03, 0x01, 0xa7, 0xff, 0xe1, 0x84, 0x02, 0x01, 0xa7, 0xff, 0xd4]
def LRX9_findFar_9 : List UInt8 := LBX9_findFar_9 ++ LRX9_findFar_10
def LBX9_findFar_8 : List UInt8 := [0x15, 0x04, 0x1b, 0xa2, 0x00, 0x11, 0x2a, 0x1d, 0x1c, 0x15, 0x04, 0xb6, 0x00, 0x69, 0x84, 0x04]
def LRX9_findFar_8 : List UInt8 := LBX9_findFar_8 ++ LRX9_findFar_9
def LBX9_findFar_7 : List UInt8 := [0x3d, 0x1c, 0x1b, 0xa2, 0x00, 0x2d, 0x03, 0x3e, 0x1d, 0x1b, 0xa2, 0x00, 0x20, 0x03, 0x36, 0x04]
def LRX9_findFar_7 : List UInt8 := LBX9_findFar_7 ++ LRX9_findFar_8
def LBX9_findFar_6 : List UInt8 := [0x04, 0x04, 0x4f, 0x84, 0x03, 0x01, 0xa7, 0xff, 0xaa, 0x84, 0x02, 0x01, 0xa7, 0xff, 0x9d, 0x03]
def LRX9_findFar_6 : List UInt8 := LBX9_findFar_6 ++ LRX9_findFar_7
def LBX9_findFar_5 : List UInt8 := [0x00, 0x19, 0x10, 0x0a, 0x1c, 0x68, 0x1d, 0x60, 0x1c, 0x1d, 0xa0, 0x00, 0x07, 0x03, 0xa7, 0x00]
def LRX9_findFar_5 : List UInt8 := LBX9_findFar_5 ++ LRX9_findFar_6
def LBX9_findFar_4 : List UInt8 := [0x00, 0x0c, 0x2a, 0x1c, 0x1d, 0xb6, 0x00, 0x64, 0xa7, 0x00, 0x05, 0x12, 0x68, 0x4f, 0x2a, 0xb4]
def LRX9_findFar_4 : List UInt8 := LBX9_findFar_4 ++ LRX9_findFar_5
def LBX9_findFar_3 : List UInt8 := [0x1c, 0x68, 0x1d, 0x60, 0x1c, 0x1d, 0xa0, 0x00, 0x07, 0x03, 0xa7, 0x00, 0x13, 0x15, 0x04, 0x99]
def LRX9_findFar_3 : List UInt8 := LBX9_findFar_3 ++ LRX9_findFar_4
def LBX9_findFar_2 : List UInt8 := [0x99, 0x00, 0x07, 0x04, 0xa7, 0x00, 0x04, 0x03, 0x36, 0x04, 0x2a, 0xb4, 0x00, 0x16, 0x10, 0x0a]
def LRX9_findFar_2 : List UInt8 := LBX9_findFar_2 ++ LRX9_findFar_3
def LBX9_findFar_1 : List UInt8 := [0x1d, 0x1b, 0xa2, 0x00, 0x57, 0x1c, 0x1d, 0x9f, 0x00, 0x10, 0x2a, 0x1c, 0x1d, 0xb6, 0x00, 0x61]
def LRX9_findFar_1 : List UInt8 := LBX9_findFar_1 ++ LRX9_findFar_2
def LBX9_findFar_0 : List UInt8 := [0x2a, 0xb4, 0x00, 0x07, 0x03, 0x2e, 0x3c, 0x03, 0x3d, 0x1c, 0x1b, 0xa2, 0x00, 0x64, 0x03, 0x3e]
def LRX9_findFar_0 : List UInt8 := LBX9_findFar_0 ++ LRX9_findFar_1
set_option maxRecDepth 100000 in
theorem LBX9_findFar_eq : cX9_findFar.data.toList = LRX9_findFar_0 := by decide +kernel
theorem LBX9_findFarr_0 (k : Nat) : cX9_findFar.data.toList[0 + k]? = LRX9_findFar_0[k]? := by rw [LBX9_findFar_eq, Nat.zero_add]
theorem LBX9_findFarr_1 (k : Nat) : cX9_findFar.data.toList[16 + k]? = LRX9_findFar_1[k]? := by
  have h := LBX9_findFarr_0 (16 + k)
  rw [show 0 + (16 + k) = 16 + k by omega] at h
  rw [h]
  exact (List.getElem?_append_right (l₁ := LBX9_findFar_0) (l₂ := LRX9_findFar_1) (show 16 ≤ 16 + k by omega)).trans (congrArg (fun i => LRX9_findFar_1[i]?) (show 16 + k - 16 = k by omega))
theorem LBX9_findFarr_2 (k : Nat) : cX9_findFar.data.toList[32 + k]? = LRX9_findFar_2[k]? := by
  have h := LBX9_findFarr_1 (16 + k)
  rw [show 16 + (16 + k) = 32 + k by omega] at h
  rw [h]
  exact (List.getElem?_append_right (l₁ := LBX9_findFar_1) (l₂ := LRX9_findFar_2) (show 16 ≤ 16 + k by omega)).trans (congrArg (fun i => LRX9_findFar_2[i]?) (show 16 + k - 16 = k by omega))
theorem LBX9_findFarr_3 (k : Nat) : cX9_findFar.data.toList[48 + k]? = LRX9_findFar_3[k]? := by
  have h := LBX9_findFarr_2 (16 + k)
  rw [show 32 + (16 + k) = 48 + k by omega] at h
  rw [h]
  exact (List.getElem?_append_right (l₁ := LBX9_findFar_2) (l₂ := LRX9_findFar_3) (show 16 ≤ 16 + k by omega)).trans (congrArg (fun i => LRX9_findFar_3[i]?) (show 16 + k - 16 = k by omega))
theorem LBX9_findFarr_4 (k : Nat) : cX9_findFar.data.toList[64 + k]? = LRX9_findFar_4[k]? := by
  have h := LBX9_findFarr_3 (16 + k)
  rw [show 48 + (16 + k) = 64 + k by omega] at h
  rw [h]
  exact (List.getElem?_append_right (l₁ := LBX9_findFar_3) (l₂ := LRX9_findFar_4) (show 16 ≤ 16 + k by omega)).trans (congrArg (fun i => LRX9_findFar_4[i]?) (show 16 + k - 16 = k by omega))
theorem LBX9_findFarr_5 (k : Nat) : cX9_findFar.data.toList[80 + k]? = LRX9_findFar_5[k]? := by
  have h := LBX9_findFarr_4 (16 + k)
  rw [show 64 + (16 + k) = 80 + k by omega] at h
  rw [h]
  exact (List.getElem?_append_right (l₁ := LBX9_findFar_4) (l₂ := LRX9_findFar_5) (show 16 ≤ 16 + k by omega)).trans (congrArg (fun i => LRX9_findFar_5[i]?) (show 16 + k - 16 = k by omega))
theorem LBX9_findFarr_6 (k : Nat) : cX9_findFar.data.toList[96 + k]? = LRX9_findFar_6[k]? := by
  have h := LBX9_findFarr_5 (16 + k)
  rw [show 80 + (16 + k) = 96 + k by omega] at h
  rw [h]
  exact (List.getElem?_append_right (l₁ := LBX9_findFar_5) (l₂ := LRX9_findFar_6) (show 16 ≤ 16 + k by omega)).trans (congrArg (fun i => LRX9_findFar_6[i]?) (show 16 + k - 16 = k by omega))
theorem LBX9_findFarr_7 (k : Nat) : cX9_findFar.data.toList[112 + k]? = LRX9_findFar_7[k]? := by
  have h := LBX9_findFarr_6 (16 + k)
  rw [show 96 + (16 + k) = 112 + k by omega] at h
  rw [h]
  exact (List.getElem?_append_right (l₁ := LBX9_findFar_6) (l₂ := LRX9_findFar_7) (show 16 ≤ 16 + k by omega)).trans (congrArg (fun i => LRX9_findFar_7[i]?) (show 16 + k - 16 = k by omega))
theorem LBX9_findFarr_8 (k : Nat) : cX9_findFar.data.toList[128 + k]? = LRX9_findFar_8[k]? := by
  have h := LBX9_findFarr_7 (16 + k)
  rw [show 112 + (16 + k) = 128 + k by omega] at h
  rw [h]
  exact (List.getElem?_append_right (l₁ := LBX9_findFar_7) (l₂ := LRX9_findFar_8) (show 16 ≤ 16 + k by omega)).trans (congrArg (fun i => LRX9_findFar_8[i]?) (show 16 + k - 16 = k by omega))
theorem LBX9_findFarr_9 (k : Nat) : cX9_findFar.data.toList[144 + k]? = LRX9_findFar_9[k]? := by
  have h := LBX9_findFarr_8 (16 + k)
  rw [show 128 + (16 + k) = 144 + k by omega] at h
  rw [h]
  exact (List.getElem?_append_right (l₁ := LBX9_findFar_8) (l₂ := LRX9_findFar_9) (show 16 ≤ 16 + k by omega)).trans (congrArg (fun i => LRX9_findFar_9[i]?) (show 16 + k - 16 = k by omega))
theorem LBX9_findFarr_10 (k : Nat) : cX9_findFar.data.toList[160 + k]? = LRX9_findFar_10[k]? := by
  have h := LBX9_findFarr_9 (16 + k)
  rw [show 144 + (16 + k) = 160 + k by omega] at h
  rw [h]
  exact (List.getElem?_append_right (l₁ := LBX9_findFar_9) (l₂ := LRX9_findFar_10) (show 16 ≤ 16 + k by omega)).trans (congrArg (fun i => LRX9_findFar_10[i]?) (show 16 + k - 16 = k by omega))
theorem LBX9_findFarr_11 (k : Nat) : cX9_findFar.data.toList[176 + k]? = LRX9_findFar_11[k]? := by
  have h := LBX9_findFarr_10 (16 + k)
  rw [show 160 + (16 + k) = 176 + k by omega] at h
  rw [h]
  exact (List.getElem?_append_right (l₁ := LBX9_findFar_10) (l₂ := LRX9_findFar_11) (show 16 ≤ 16 + k by omega)).trans (congrArg (fun i => LRX9_findFar_11[i]?) (show 16 + k - 16 = k by omega))
theorem LBX9_findFarr_12 (k : Nat) : cX9_findFar.data.toList[192 + k]? = LRX9_findFar_12[k]? := by
  have h := LBX9_findFarr_11 (16 + k)
  rw [show 176 + (16 + k) = 192 + k by omega] at h
  rw [h]
  exact (List.getElem?_append_right (l₁ := LBX9_findFar_11) (l₂ := LRX9_findFar_12) (show 16 ≤ 16 + k by omega)).trans (congrArg (fun i => LRX9_findFar_12[i]?) (show 16 + k - 16 = k by omega))
theorem dX9_findFar_0 : decode cX9_findFar 0 = .ok (.aload_n 0, 1) := dk_42_ (show cX9_findFar.data.toList[0]? = some 0x2a from (LBX9_findFarr_0 0).trans (by decide +kernel))
theorem dX9_findFar_1 : decode cX9_findFar 1 = .ok (.getfield 7, 3) := dk_180_ (show cX9_findFar.data.toList[1]? = some 0xb4 from (LBX9_findFarr_0 1).trans (by decide +kernel)) (show cX9_findFar.data.toList[2]? = some 0x00 from (LBX9_findFarr_0 2).trans (by decide +kernel)) (show cX9_findFar.data.toList[3]? = some 0x07 from (LBX9_findFarr_0 3).trans (by decide +kernel)) (by decide)
theorem dX9_findFar_4 : decode cX9_findFar 4 = .ok (.iconst 0, 1) := dk_3_ (show cX9_findFar.data.toList[4]? = some 0x03 from (LBX9_findFarr_0 4).trans (by decide +kernel))
theorem dX9_findFar_5 : decode cX9_findFar 5 = .ok (.iaload, 1) := dk_46_ (show cX9_findFar.data.toList[5]? = some 0x2e from (LBX9_findFarr_0 5).trans (by decide +kernel))
theorem dX9_findFar_6 : decode cX9_findFar 6 = .ok (.istore_n 1, 1) := dk_60_ (show cX9_findFar.data.toList[6]? = some 0x3c from (LBX9_findFarr_0 6).trans (by decide +kernel))
theorem dX9_findFar_7 : decode cX9_findFar 7 = .ok (.iconst 0, 1) := dk_3_ (show cX9_findFar.data.toList[7]? = some 0x03 from (LBX9_findFarr_0 7).trans (by decide +kernel))
theorem dX9_findFar_8 : decode cX9_findFar 8 = .ok (.istore_n 2, 1) := dk_61_ (show cX9_findFar.data.toList[8]? = some 0x3d from (LBX9_findFarr_0 8).trans (by decide +kernel))
theorem dX9_findFar_9 : decode cX9_findFar 9 = .ok (.iload_n 2, 1) := dk_28_ (show cX9_findFar.data.toList[9]? = some 0x1c from (LBX9_findFarr_0 9).trans (by decide +kernel))
theorem dX9_findFar_10 : decode cX9_findFar 10 = .ok (.iload_n 1, 1) := dk_27_ (show cX9_findFar.data.toList[10]? = some 0x1b from (LBX9_findFarr_0 10).trans (by decide +kernel))
theorem dX9_findFar_11 : decode cX9_findFar 11 = .ok (.if_icmp .ge 100, 3) := dk_162_ (show cX9_findFar.data.toList[11]? = some 0xa2 from (LBX9_findFarr_0 11).trans (by decide +kernel)) (show cX9_findFar.data.toList[12]? = some 0x00 from (LBX9_findFarr_0 12).trans (by decide +kernel)) (show cX9_findFar.data.toList[13]? = some 0x64 from (LBX9_findFarr_0 13).trans (by decide +kernel)) (by decide)
theorem dX9_findFar_14 : decode cX9_findFar 14 = .ok (.iconst 0, 1) := dk_3_ (show cX9_findFar.data.toList[14]? = some 0x03 from (LBX9_findFarr_0 14).trans (by decide +kernel))
theorem dX9_findFar_15 : decode cX9_findFar 15 = .ok (.istore_n 3, 1) := dk_62_ (show cX9_findFar.data.toList[15]? = some 0x3e from (LBX9_findFarr_0 15).trans (by decide +kernel))
theorem dX9_findFar_16 : decode cX9_findFar 16 = .ok (.iload_n 3, 1) := dk_29_ (show cX9_findFar.data.toList[16]? = some 0x1d from (LBX9_findFarr_1 0).trans (by decide +kernel))
theorem dX9_findFar_17 : decode cX9_findFar 17 = .ok (.iload_n 1, 1) := dk_27_ (show cX9_findFar.data.toList[17]? = some 0x1b from (LBX9_findFarr_1 1).trans (by decide +kernel))
theorem dX9_findFar_18 : decode cX9_findFar 18 = .ok (.if_icmp .ge 87, 3) := dk_162_ (show cX9_findFar.data.toList[18]? = some 0xa2 from (LBX9_findFarr_1 2).trans (by decide +kernel)) (show cX9_findFar.data.toList[19]? = some 0x00 from (LBX9_findFarr_1 3).trans (by decide +kernel)) (show cX9_findFar.data.toList[20]? = some 0x57 from (LBX9_findFarr_1 4).trans (by decide +kernel)) (by decide)
theorem dX9_findFar_21 : decode cX9_findFar 21 = .ok (.iload_n 2, 1) := dk_28_ (show cX9_findFar.data.toList[21]? = some 0x1c from (LBX9_findFarr_1 5).trans (by decide +kernel))
theorem dX9_findFar_22 : decode cX9_findFar 22 = .ok (.iload_n 3, 1) := dk_29_ (show cX9_findFar.data.toList[22]? = some 0x1d from (LBX9_findFarr_1 6).trans (by decide +kernel))
theorem dX9_findFar_23 : decode cX9_findFar 23 = .ok (.if_icmp .eq 16, 3) := dk_159_ (show cX9_findFar.data.toList[23]? = some 0x9f from (LBX9_findFarr_1 7).trans (by decide +kernel)) (show cX9_findFar.data.toList[24]? = some 0x00 from (LBX9_findFarr_1 8).trans (by decide +kernel)) (show cX9_findFar.data.toList[25]? = some 0x10 from (LBX9_findFarr_1 9).trans (by decide +kernel)) (by decide)
theorem dX9_findFar_26 : decode cX9_findFar 26 = .ok (.aload_n 0, 1) := dk_42_ (show cX9_findFar.data.toList[26]? = some 0x2a from (LBX9_findFarr_1 10).trans (by decide +kernel))
theorem dX9_findFar_27 : decode cX9_findFar 27 = .ok (.iload_n 2, 1) := dk_28_ (show cX9_findFar.data.toList[27]? = some 0x1c from (LBX9_findFarr_1 11).trans (by decide +kernel))
theorem dX9_findFar_28 : decode cX9_findFar 28 = .ok (.iload_n 3, 1) := dk_29_ (show cX9_findFar.data.toList[28]? = some 0x1d from (LBX9_findFarr_1 12).trans (by decide +kernel))
theorem dX9_findFar_29 : decode cX9_findFar 29 = .ok (.invokevirtual 97, 3) := dk_182_ (show cX9_findFar.data.toList[29]? = some 0xb6 from (LBX9_findFarr_1 13).trans (by decide +kernel)) (show cX9_findFar.data.toList[30]? = some 0x00 from (LBX9_findFarr_1 14).trans (by decide +kernel)) (show cX9_findFar.data.toList[31]? = some 0x61 from (LBX9_findFarr_1 15).trans (by decide +kernel)) (by decide)
theorem dX9_findFar_32 : decode cX9_findFar 32 = .ok (.ifCond .eq 7, 3) := dk_153_ (show cX9_findFar.data.toList[32]? = some 0x99 from (LBX9_findFarr_2 0).trans (by decide +kernel)) (show cX9_findFar.data.toList[33]? = some 0x00 from (LBX9_findFarr_2 1).trans (by decide +kernel)) (show cX9_findFar.data.toList[34]? = some 0x07 from (LBX9_findFarr_2 2).trans (by decide +kernel)) (by decide)
theorem dX9_findFar_35 : decode cX9_findFar 35 = .ok (.iconst 1, 1) := dk_4_ (show cX9_findFar.data.toList[35]? = some 0x04 from (LBX9_findFarr_2 3).trans (by decide +kernel))
theorem dX9_findFar_36 : decode cX9_findFar 36 = .ok (.goto 4, 3) := dk_167_ (show cX9_findFar.data.toList[36]? = some 0xa7 from (LBX9_findFarr_2 4).trans (by decide +kernel)) (show cX9_findFar.data.toList[37]? = some 0x00 from (LBX9_findFarr_2 5).trans (by decide +kernel)) (show cX9_findFar.data.toList[38]? = some 0x04 from (LBX9_findFarr_2 6).trans (by decide +kernel)) (by decide)
theorem dX9_findFar_39 : decode cX9_findFar 39 = .ok (.iconst 0, 1) := dk_3_ (show cX9_findFar.data.toList[39]? = some 0x03 from (LBX9_findFarr_2 7).trans (by decide +kernel))
theorem dX9_findFar_40 : decode cX9_findFar 40 = .ok (.istore 4, 2) := dk_54_ (show cX9_findFar.data.toList[40]? = some 0x36 from (LBX9_findFarr_2 8).trans (by decide +kernel)) (show cX9_findFar.data.toList[41]? = some 0x04 from (LBX9_findFarr_2 9).trans (by decide +kernel)) (by decide)
theorem dX9_findFar_42 : decode cX9_findFar 42 = .ok (.aload_n 0, 1) := dk_42_ (show cX9_findFar.data.toList[42]? = some 0x2a from (LBX9_findFarr_2 10).trans (by decide +kernel))
theorem dX9_findFar_43 : decode cX9_findFar 43 = .ok (.getfield 22, 3) := dk_180_ (show cX9_findFar.data.toList[43]? = some 0xb4 from (LBX9_findFarr_2 11).trans (by decide +kernel)) (show cX9_findFar.data.toList[44]? = some 0x00 from (LBX9_findFarr_2 12).trans (by decide +kernel)) (show cX9_findFar.data.toList[45]? = some 0x16 from (LBX9_findFarr_2 13).trans (by decide +kernel)) (by decide)
theorem dX9_findFar_46 : decode cX9_findFar 46 = .ok (.bipush 10, 2) := dk_16_ (show cX9_findFar.data.toList[46]? = some 0x10 from (LBX9_findFarr_2 14).trans (by decide +kernel)) (show cX9_findFar.data.toList[47]? = some 0x0a from (LBX9_findFarr_2 15).trans (by decide +kernel)) (by decide)
theorem dX9_findFar_48 : decode cX9_findFar 48 = .ok (.iload_n 2, 1) := dk_28_ (show cX9_findFar.data.toList[48]? = some 0x1c from (LBX9_findFarr_3 0).trans (by decide +kernel))
theorem dX9_findFar_49 : decode cX9_findFar 49 = .ok (.imul, 1) := dk_104_ (show cX9_findFar.data.toList[49]? = some 0x68 from (LBX9_findFarr_3 1).trans (by decide +kernel))
theorem dX9_findFar_50 : decode cX9_findFar 50 = .ok (.iload_n 3, 1) := dk_29_ (show cX9_findFar.data.toList[50]? = some 0x1d from (LBX9_findFarr_3 2).trans (by decide +kernel))
theorem dX9_findFar_51 : decode cX9_findFar 51 = .ok (.iadd, 1) := dk_96_ (show cX9_findFar.data.toList[51]? = some 0x60 from (LBX9_findFarr_3 3).trans (by decide +kernel))
theorem dX9_findFar_52 : decode cX9_findFar 52 = .ok (.iload_n 2, 1) := dk_28_ (show cX9_findFar.data.toList[52]? = some 0x1c from (LBX9_findFarr_3 4).trans (by decide +kernel))
theorem dX9_findFar_53 : decode cX9_findFar 53 = .ok (.iload_n 3, 1) := dk_29_ (show cX9_findFar.data.toList[53]? = some 0x1d from (LBX9_findFarr_3 5).trans (by decide +kernel))
theorem dX9_findFar_54 : decode cX9_findFar 54 = .ok (.if_icmp .ne 7, 3) := dk_160_ (show cX9_findFar.data.toList[54]? = some 0xa0 from (LBX9_findFarr_3 6).trans (by decide +kernel)) (show cX9_findFar.data.toList[55]? = some 0x00 from (LBX9_findFarr_3 7).trans (by decide +kernel)) (show cX9_findFar.data.toList[56]? = some 0x07 from (LBX9_findFarr_3 8).trans (by decide +kernel)) (by decide)
theorem dX9_findFar_57 : decode cX9_findFar 57 = .ok (.iconst 0, 1) := dk_3_ (show cX9_findFar.data.toList[57]? = some 0x03 from (LBX9_findFarr_3 9).trans (by decide +kernel))
theorem dX9_findFar_58 : decode cX9_findFar 58 = .ok (.goto 19, 3) := dk_167_ (show cX9_findFar.data.toList[58]? = some 0xa7 from (LBX9_findFarr_3 10).trans (by decide +kernel)) (show cX9_findFar.data.toList[59]? = some 0x00 from (LBX9_findFarr_3 11).trans (by decide +kernel)) (show cX9_findFar.data.toList[60]? = some 0x13 from (LBX9_findFarr_3 12).trans (by decide +kernel)) (by decide)
theorem dX9_findFar_61 : decode cX9_findFar 61 = .ok (.iload 4, 2) := dk_21_ (show cX9_findFar.data.toList[61]? = some 0x15 from (LBX9_findFarr_3 13).trans (by decide +kernel)) (show cX9_findFar.data.toList[62]? = some 0x04 from (LBX9_findFarr_3 14).trans (by decide +kernel)) (by decide)
theorem dX9_findFar_63 : decode cX9_findFar 63 = .ok (.ifCond .eq 12, 3) := dk_153_ (show cX9_findFar.data.toList[63]? = some 0x99 from (LBX9_findFarr_3 15).trans (by decide +kernel)) (show cX9_findFar.data.toList[64]? = some 0x00 from (LBX9_findFarr_4 0).trans (by decide +kernel)) (show cX9_findFar.data.toList[65]? = some 0x0c from (LBX9_findFarr_4 1).trans (by decide +kernel)) (by decide)
theorem dX9_findFar_66 : decode cX9_findFar 66 = .ok (.aload_n 0, 1) := dk_42_ (show cX9_findFar.data.toList[66]? = some 0x2a from (LBX9_findFarr_4 2).trans (by decide +kernel))
theorem dX9_findFar_67 : decode cX9_findFar 67 = .ok (.iload_n 2, 1) := dk_28_ (show cX9_findFar.data.toList[67]? = some 0x1c from (LBX9_findFarr_4 3).trans (by decide +kernel))
theorem dX9_findFar_68 : decode cX9_findFar 68 = .ok (.iload_n 3, 1) := dk_29_ (show cX9_findFar.data.toList[68]? = some 0x1d from (LBX9_findFarr_4 4).trans (by decide +kernel))
theorem dX9_findFar_69 : decode cX9_findFar 69 = .ok (.invokevirtual 100, 3) := dk_182_ (show cX9_findFar.data.toList[69]? = some 0xb6 from (LBX9_findFarr_4 5).trans (by decide +kernel)) (show cX9_findFar.data.toList[70]? = some 0x00 from (LBX9_findFarr_4 6).trans (by decide +kernel)) (show cX9_findFar.data.toList[71]? = some 0x64 from (LBX9_findFarr_4 7).trans (by decide +kernel)) (by decide)
theorem dX9_findFar_72 : decode cX9_findFar 72 = .ok (.goto 5, 3) := dk_167_ (show cX9_findFar.data.toList[72]? = some 0xa7 from (LBX9_findFarr_4 8).trans (by decide +kernel)) (show cX9_findFar.data.toList[73]? = some 0x00 from (LBX9_findFarr_4 9).trans (by decide +kernel)) (show cX9_findFar.data.toList[74]? = some 0x05 from (LBX9_findFarr_4 10).trans (by decide +kernel)) (by decide)
theorem dX9_findFar_75 : decode cX9_findFar 75 = .ok (.ldc 104, 2) := dk_18_ (show cX9_findFar.data.toList[75]? = some 0x12 from (LBX9_findFarr_4 11).trans (by decide +kernel)) (show cX9_findFar.data.toList[76]? = some 0x68 from (LBX9_findFarr_4 12).trans (by decide +kernel)) (by decide)
theorem dX9_findFar_77 : decode cX9_findFar 77 = .ok (.iastore, 1) := dk_79_ (show cX9_findFar.data.toList[77]? = some 0x4f from (LBX9_findFarr_4 13).trans (by decide +kernel))
theorem dX9_findFar_78 : decode cX9_findFar 78 = .ok (.aload_n 0, 1) := dk_42_ (show cX9_findFar.data.toList[78]? = some 0x2a from (LBX9_findFarr_4 14).trans (by decide +kernel))
theorem dX9_findFar_79 : decode cX9_findFar 79 = .ok (.getfield 25, 3) := dk_180_ (show cX9_findFar.data.toList[79]? = some 0xb4 from (LBX9_findFarr_4 15).trans (by decide +kernel)) (show cX9_findFar.data.toList[80]? = some 0x00 from (LBX9_findFarr_5 0).trans (by decide +kernel)) (show cX9_findFar.data.toList[81]? = some 0x19 from (LBX9_findFarr_5 1).trans (by decide +kernel)) (by decide)
theorem dX9_findFar_82 : decode cX9_findFar 82 = .ok (.bipush 10, 2) := dk_16_ (show cX9_findFar.data.toList[82]? = some 0x10 from (LBX9_findFarr_5 2).trans (by decide +kernel)) (show cX9_findFar.data.toList[83]? = some 0x0a from (LBX9_findFarr_5 3).trans (by decide +kernel)) (by decide)
theorem dX9_findFar_84 : decode cX9_findFar 84 = .ok (.iload_n 2, 1) := dk_28_ (show cX9_findFar.data.toList[84]? = some 0x1c from (LBX9_findFarr_5 4).trans (by decide +kernel))
theorem dX9_findFar_85 : decode cX9_findFar 85 = .ok (.imul, 1) := dk_104_ (show cX9_findFar.data.toList[85]? = some 0x68 from (LBX9_findFarr_5 5).trans (by decide +kernel))
theorem dX9_findFar_86 : decode cX9_findFar 86 = .ok (.iload_n 3, 1) := dk_29_ (show cX9_findFar.data.toList[86]? = some 0x1d from (LBX9_findFarr_5 6).trans (by decide +kernel))
theorem dX9_findFar_87 : decode cX9_findFar 87 = .ok (.iadd, 1) := dk_96_ (show cX9_findFar.data.toList[87]? = some 0x60 from (LBX9_findFarr_5 7).trans (by decide +kernel))
theorem dX9_findFar_88 : decode cX9_findFar 88 = .ok (.iload_n 2, 1) := dk_28_ (show cX9_findFar.data.toList[88]? = some 0x1c from (LBX9_findFarr_5 8).trans (by decide +kernel))
theorem dX9_findFar_89 : decode cX9_findFar 89 = .ok (.iload_n 3, 1) := dk_29_ (show cX9_findFar.data.toList[89]? = some 0x1d from (LBX9_findFarr_5 9).trans (by decide +kernel))
theorem dX9_findFar_90 : decode cX9_findFar 90 = .ok (.if_icmp .ne 7, 3) := dk_160_ (show cX9_findFar.data.toList[90]? = some 0xa0 from (LBX9_findFarr_5 10).trans (by decide +kernel)) (show cX9_findFar.data.toList[91]? = some 0x00 from (LBX9_findFarr_5 11).trans (by decide +kernel)) (show cX9_findFar.data.toList[92]? = some 0x07 from (LBX9_findFarr_5 12).trans (by decide +kernel)) (by decide)
theorem dX9_findFar_93 : decode cX9_findFar 93 = .ok (.iconst 0, 1) := dk_3_ (show cX9_findFar.data.toList[93]? = some 0x03 from (LBX9_findFarr_5 13).trans (by decide +kernel))
theorem dX9_findFar_94 : decode cX9_findFar 94 = .ok (.goto 4, 3) := dk_167_ (show cX9_findFar.data.toList[94]? = some 0xa7 from (LBX9_findFarr_5 14).trans (by decide +kernel)) (show cX9_findFar.data.toList[95]? = some 0x00 from (LBX9_findFarr_5 15).trans (by decide +kernel)) (show cX9_findFar.data.toList[96]? = some 0x04 from (LBX9_findFarr_6 0).trans (by decide +kernel)) (by decide)
theorem dX9_findFar_97 : decode cX9_findFar 97 = .ok (.iconst 1, 1) := dk_4_ (show cX9_findFar.data.toList[97]? = some 0x04 from (LBX9_findFarr_6 1).trans (by decide +kernel))
theorem dX9_findFar_98 : decode cX9_findFar 98 = .ok (.iastore, 1) := dk_79_ (show cX9_findFar.data.toList[98]? = some 0x4f from (LBX9_findFarr_6 2).trans (by decide +kernel))
theorem dX9_findFar_99 : decode cX9_findFar 99 = .ok (.iinc 3 1, 3) := dk_132_ (show cX9_findFar.data.toList[99]? = some 0x84 from (LBX9_findFarr_6 3).trans (by decide +kernel)) (show cX9_findFar.data.toList[100]? = some 0x03 from (LBX9_findFarr_6 4).trans (by decide +kernel)) (show cX9_findFar.data.toList[101]? = some 0x01 from (LBX9_findFarr_6 5).trans (by decide +kernel)) (by decide) (by decide)
theorem dX9_findFar_102 : decode cX9_findFar 102 = .ok (.goto (-86), 3) := dk_167_ (show cX9_findFar.data.toList[102]? = some 0xa7 from (LBX9_findFarr_6 6).trans (by decide +kernel)) (show cX9_findFar.data.toList[103]? = some 0xff from (LBX9_findFarr_6 7).trans (by decide +kernel)) (show cX9_findFar.data.toList[104]? = some 0xaa from (LBX9_findFarr_6 8).trans (by decide +kernel)) (by decide)
theorem dX9_findFar_105 : decode cX9_findFar 105 = .ok (.iinc 2 1, 3) := dk_132_ (show cX9_findFar.data.toList[105]? = some 0x84 from (LBX9_findFarr_6 9).trans (by decide +kernel)) (show cX9_findFar.data.toList[106]? = some 0x02 from (LBX9_findFarr_6 10).trans (by decide +kernel)) (show cX9_findFar.data.toList[107]? = some 0x01 from (LBX9_findFarr_6 11).trans (by decide +kernel)) (by decide) (by decide)
theorem dX9_findFar_108 : decode cX9_findFar 108 = .ok (.goto (-99), 3) := dk_167_ (show cX9_findFar.data.toList[108]? = some 0xa7 from (LBX9_findFarr_6 12).trans (by decide +kernel)) (show cX9_findFar.data.toList[109]? = some 0xff from (LBX9_findFarr_6 13).trans (by decide +kernel)) (show cX9_findFar.data.toList[110]? = some 0x9d from (LBX9_findFarr_6 14).trans (by decide +kernel)) (by decide)
theorem dX9_findFar_111 : decode cX9_findFar 111 = .ok (.iconst 0, 1) := dk_3_ (show cX9_findFar.data.toList[111]? = some 0x03 from (LBX9_findFarr_6 15).trans (by decide +kernel))
theorem dX9_findFar_112 : decode cX9_findFar 112 = .ok (.istore_n 2, 1) := dk_61_ (show cX9_findFar.data.toList[112]? = some 0x3d from (LBX9_findFarr_7 0).trans (by decide +kernel))
theorem dX9_findFar_113 : decode cX9_findFar 113 = .ok (.iload_n 2, 1) := dk_28_ (show cX9_findFar.data.toList[113]? = some 0x1c from (LBX9_findFarr_7 1).trans (by decide +kernel))
theorem dX9_findFar_114 : decode cX9_findFar 114 = .ok (.iload_n 1, 1) := dk_27_ (show cX9_findFar.data.toList[114]? = some 0x1b from (LBX9_findFarr_7 2).trans (by decide +kernel))
theorem dX9_findFar_115 : decode cX9_findFar 115 = .ok (.if_icmp .ge 45, 3) := dk_162_ (show cX9_findFar.data.toList[115]? = some 0xa2 from (LBX9_findFarr_7 3).trans (by decide +kernel)) (show cX9_findFar.data.toList[116]? = some 0x00 from (LBX9_findFarr_7 4).trans (by decide +kernel)) (show cX9_findFar.data.toList[117]? = some 0x2d from (LBX9_findFarr_7 5).trans (by decide +kernel)) (by decide)
theorem dX9_findFar_118 : decode cX9_findFar 118 = .ok (.iconst 0, 1) := dk_3_ (show cX9_findFar.data.toList[118]? = some 0x03 from (LBX9_findFarr_7 6).trans (by decide +kernel))
theorem dX9_findFar_119 : decode cX9_findFar 119 = .ok (.istore_n 3, 1) := dk_62_ (show cX9_findFar.data.toList[119]? = some 0x3e from (LBX9_findFarr_7 7).trans (by decide +kernel))
theorem dX9_findFar_120 : decode cX9_findFar 120 = .ok (.iload_n 3, 1) := dk_29_ (show cX9_findFar.data.toList[120]? = some 0x1d from (LBX9_findFarr_7 8).trans (by decide +kernel))
theorem dX9_findFar_121 : decode cX9_findFar 121 = .ok (.iload_n 1, 1) := dk_27_ (show cX9_findFar.data.toList[121]? = some 0x1b from (LBX9_findFarr_7 9).trans (by decide +kernel))
theorem dX9_findFar_122 : decode cX9_findFar 122 = .ok (.if_icmp .ge 32, 3) := dk_162_ (show cX9_findFar.data.toList[122]? = some 0xa2 from (LBX9_findFarr_7 10).trans (by decide +kernel)) (show cX9_findFar.data.toList[123]? = some 0x00 from (LBX9_findFarr_7 11).trans (by decide +kernel)) (show cX9_findFar.data.toList[124]? = some 0x20 from (LBX9_findFarr_7 12).trans (by decide +kernel)) (by decide)
theorem dX9_findFar_125 : decode cX9_findFar 125 = .ok (.iconst 0, 1) := dk_3_ (show cX9_findFar.data.toList[125]? = some 0x03 from (LBX9_findFarr_7 13).trans (by decide +kernel))
theorem dX9_findFar_126 : decode cX9_findFar 126 = .ok (.istore 4, 2) := dk_54_ (show cX9_findFar.data.toList[126]? = some 0x36 from (LBX9_findFarr_7 14).trans (by decide +kernel)) (show cX9_findFar.data.toList[127]? = some 0x04 from (LBX9_findFarr_7 15).trans (by decide +kernel)) (by decide)
theorem dX9_findFar_128 : decode cX9_findFar 128 = .ok (.iload 4, 2) := dk_21_ (show cX9_findFar.data.toList[128]? = some 0x15 from (LBX9_findFarr_8 0).trans (by decide +kernel)) (show cX9_findFar.data.toList[129]? = some 0x04 from (LBX9_findFarr_8 1).trans (by decide +kernel)) (by decide)
theorem dX9_findFar_130 : decode cX9_findFar 130 = .ok (.iload_n 1, 1) := dk_27_ (show cX9_findFar.data.toList[130]? = some 0x1b from (LBX9_findFarr_8 2).trans (by decide +kernel))
theorem dX9_findFar_131 : decode cX9_findFar 131 = .ok (.if_icmp .ge 17, 3) := dk_162_ (show cX9_findFar.data.toList[131]? = some 0xa2 from (LBX9_findFarr_8 3).trans (by decide +kernel)) (show cX9_findFar.data.toList[132]? = some 0x00 from (LBX9_findFarr_8 4).trans (by decide +kernel)) (show cX9_findFar.data.toList[133]? = some 0x11 from (LBX9_findFarr_8 5).trans (by decide +kernel)) (by decide)
theorem dX9_findFar_134 : decode cX9_findFar 134 = .ok (.aload_n 0, 1) := dk_42_ (show cX9_findFar.data.toList[134]? = some 0x2a from (LBX9_findFarr_8 6).trans (by decide +kernel))
theorem dX9_findFar_135 : decode cX9_findFar 135 = .ok (.iload_n 3, 1) := dk_29_ (show cX9_findFar.data.toList[135]? = some 0x1d from (LBX9_findFarr_8 7).trans (by decide +kernel))
theorem dX9_findFar_136 : decode cX9_findFar 136 = .ok (.iload_n 2, 1) := dk_28_ (show cX9_findFar.data.toList[136]? = some 0x1c from (LBX9_findFarr_8 8).trans (by decide +kernel))
theorem dX9_findFar_137 : decode cX9_findFar 137 = .ok (.iload 4, 2) := dk_21_ (show cX9_findFar.data.toList[137]? = some 0x15 from (LBX9_findFarr_8 9).trans (by decide +kernel)) (show cX9_findFar.data.toList[138]? = some 0x04 from (LBX9_findFarr_8 10).trans (by decide +kernel)) (by decide)
theorem dX9_findFar_139 : decode cX9_findFar 139 = .ok (.invokevirtual 105, 3) := dk_182_ (show cX9_findFar.data.toList[139]? = some 0xb6 from (LBX9_findFarr_8 11).trans (by decide +kernel)) (show cX9_findFar.data.toList[140]? = some 0x00 from (LBX9_findFarr_8 12).trans (by decide +kernel)) (show cX9_findFar.data.toList[141]? = some 0x69 from (LBX9_findFarr_8 13).trans (by decide +kernel)) (by decide)
theorem dX9_findFar_142 : decode cX9_findFar 142 = .ok (.iinc 4 1, 3) := dk_132_ (show cX9_findFar.data.toList[142]? = some 0x84 from (LBX9_findFarr_8 14).trans (by decide +kernel)) (show cX9_findFar.data.toList[143]? = some 0x04 from (LBX9_findFarr_8 15).trans (by decide +kernel)) (show cX9_findFar.data.toList[144]? = some 0x01 from (LBX9_findFarr_9 0).trans (by decide +kernel)) (by decide) (by decide)
theorem dX9_findFar_145 : decode cX9_findFar 145 = .ok (.goto (-17), 3) := dk_167_ (show cX9_findFar.data.toList[145]? = some 0xa7 from (LBX9_findFarr_9 1).trans (by decide +kernel)) (show cX9_findFar.data.toList[146]? = some 0xff from (LBX9_findFarr_9 2).trans (by decide +kernel)) (show cX9_findFar.data.toList[147]? = some 0xef from (LBX9_findFarr_9 3).trans (by decide +kernel)) (by decide)
theorem dX9_findFar_148 : decode cX9_findFar 148 = .ok (.iinc 3 1, 3) := dk_132_ (show cX9_findFar.data.toList[148]? = some 0x84 from (LBX9_findFarr_9 4).trans (by decide +kernel)) (show cX9_findFar.data.toList[149]? = some 0x03 from (LBX9_findFarr_9 5).trans (by decide +kernel)) (show cX9_findFar.data.toList[150]? = some 0x01 from (LBX9_findFarr_9 6).trans (by decide +kernel)) (by decide) (by decide)
theorem dX9_findFar_151 : decode cX9_findFar 151 = .ok (.goto (-31), 3) := dk_167_ (show cX9_findFar.data.toList[151]? = some 0xa7 from (LBX9_findFarr_9 7).trans (by decide +kernel)) (show cX9_findFar.data.toList[152]? = some 0xff from (LBX9_findFarr_9 8).trans (by decide +kernel)) (show cX9_findFar.data.toList[153]? = some 0xe1 from (LBX9_findFarr_9 9).trans (by decide +kernel)) (by decide)
theorem dX9_findFar_154 : decode cX9_findFar 154 = .ok (.iinc 2 1, 3) := dk_132_ (show cX9_findFar.data.toList[154]? = some 0x84 from (LBX9_findFarr_9 10).trans (by decide +kernel)) (show cX9_findFar.data.toList[155]? = some 0x02 from (LBX9_findFarr_9 11).trans (by decide +kernel)) (show cX9_findFar.data.toList[156]? = some 0x01 from (LBX9_findFarr_9 12).trans (by decide +kernel)) (by decide) (by decide)
theorem dX9_findFar_157 : decode cX9_findFar 157 = .ok (.goto (-44), 3) := dk_167_ (show cX9_findFar.data.toList[157]? = some 0xa7 from (LBX9_findFarr_9 13).trans (by decide +kernel)) (show cX9_findFar.data.toList[158]? = some 0xff from (LBX9_findFarr_9 14).trans (by decide +kernel)) (show cX9_findFar.data.toList[159]? = some 0xd4 from (LBX9_findFarr_9 15).trans (by decide +kernel)) (by decide)
theorem dX9_findFar_160 : decode cX9_findFar 160 = .ok (.aload_n 0, 1) := dk_42_ (show cX9_findFar.data.toList[160]? = some 0x2a from (LBX9_findFarr_10 0).trans (by decide +kernel))
theorem dX9_findFar_161 : decode cX9_findFar 161 = .ok (.iconst 0, 1) := dk_3_ (show cX9_findFar.data.toList[161]? = some 0x03 from (LBX9_findFarr_10 1).trans (by decide +kernel))
theorem dX9_findFar_162 : decode cX9_findFar 162 = .ok (.putfield 109, 3) := dk_181_ (show cX9_findFar.data.toList[162]? = some 0xb5 from (LBX9_findFarr_10 2).trans (by decide +kernel)) (show cX9_findFar.data.toList[163]? = some 0x00 from (LBX9_findFarr_10 3).trans (by decide +kernel)) (show cX9_findFar.data.toList[164]? = some 0x6d from (LBX9_findFarr_10 4).trans (by decide +kernel)) (by decide)
theorem dX9_findFar_165 : decode cX9_findFar 165 = .ok (.iconst 0, 1) := dk_3_ (show cX9_findFar.data.toList[165]? = some 0x03 from (LBX9_findFarr_10 5).trans (by decide +kernel))
theorem dX9_findFar_166 : decode cX9_findFar 166 = .ok (.istore_n 2, 1) := dk_61_ (show cX9_findFar.data.toList[166]? = some 0x3d from (LBX9_findFarr_10 6).trans (by decide +kernel))
theorem dX9_findFar_167 : decode cX9_findFar 167 = .ok (.iload_n 2, 1) := dk_28_ (show cX9_findFar.data.toList[167]? = some 0x1c from (LBX9_findFarr_10 7).trans (by decide +kernel))
theorem dX9_findFar_168 : decode cX9_findFar 168 = .ok (.iload_n 1, 1) := dk_27_ (show cX9_findFar.data.toList[168]? = some 0x1b from (LBX9_findFarr_10 8).trans (by decide +kernel))
theorem dX9_findFar_169 : decode cX9_findFar 169 = .ok (.if_icmp .ge 37, 3) := dk_162_ (show cX9_findFar.data.toList[169]? = some 0xa2 from (LBX9_findFarr_10 9).trans (by decide +kernel)) (show cX9_findFar.data.toList[170]? = some 0x00 from (LBX9_findFarr_10 10).trans (by decide +kernel)) (show cX9_findFar.data.toList[171]? = some 0x25 from (LBX9_findFarr_10 11).trans (by decide +kernel)) (by decide)
theorem dX9_findFar_172 : decode cX9_findFar 172 = .ok (.aload_n 0, 1) := dk_42_ (show cX9_findFar.data.toList[172]? = some 0x2a from (LBX9_findFarr_10 12).trans (by decide +kernel))
theorem dX9_findFar_173 : decode cX9_findFar 173 = .ok (.aload_n 0, 1) := dk_42_ (show cX9_findFar.data.toList[173]? = some 0x2a from (LBX9_findFarr_10 13).trans (by decide +kernel))
theorem dX9_findFar_174 : decode cX9_findFar 174 = .ok (.getfield 109, 3) := dk_180_ (show cX9_findFar.data.toList[174]? = some 0xb4 from (LBX9_findFarr_10 14).trans (by decide +kernel)) (show cX9_findFar.data.toList[175]? = some 0x00 from (LBX9_findFarr_10 15).trans (by decide +kernel)) (show cX9_findFar.data.toList[176]? = some 0x6d from (LBX9_findFarr_11 0).trans (by decide +kernel)) (by decide)
theorem dX9_findFar_177 : decode cX9_findFar 177 = .ok (.ifCond .ne 15, 3) := dk_154_ (show cX9_findFar.data.toList[177]? = some 0x9a from (LBX9_findFarr_11 1).trans (by decide +kernel)) (show cX9_findFar.data.toList[178]? = some 0x00 from (LBX9_findFarr_11 2).trans (by decide +kernel)) (show cX9_findFar.data.toList[179]? = some 0x0f from (LBX9_findFarr_11 3).trans (by decide +kernel)) (by decide)
theorem dX9_findFar_180 : decode cX9_findFar 180 = .ok (.aload_n 0, 1) := dk_42_ (show cX9_findFar.data.toList[180]? = some 0x2a from (LBX9_findFarr_11 4).trans (by decide +kernel))
theorem dX9_findFar_181 : decode cX9_findFar 181 = .ok (.getfield 22, 3) := dk_180_ (show cX9_findFar.data.toList[181]? = some 0xb4 from (LBX9_findFarr_11 5).trans (by decide +kernel)) (show cX9_findFar.data.toList[182]? = some 0x00 from (LBX9_findFarr_11 6).trans (by decide +kernel)) (show cX9_findFar.data.toList[183]? = some 0x16 from (LBX9_findFarr_11 7).trans (by decide +kernel)) (by decide)
theorem dX9_findFar_184 : decode cX9_findFar 184 = .ok (.bipush 11, 2) := dk_16_ (show cX9_findFar.data.toList[184]? = some 0x10 from (LBX9_findFarr_11 8).trans (by decide +kernel)) (show cX9_findFar.data.toList[185]? = some 0x0b from (LBX9_findFarr_11 9).trans (by decide +kernel)) (by decide)
theorem dX9_findFar_186 : decode cX9_findFar 186 = .ok (.iload_n 2, 1) := dk_28_ (show cX9_findFar.data.toList[186]? = some 0x1c from (LBX9_findFarr_11 10).trans (by decide +kernel))
theorem dX9_findFar_187 : decode cX9_findFar 187 = .ok (.imul, 1) := dk_104_ (show cX9_findFar.data.toList[187]? = some 0x68 from (LBX9_findFarr_11 11).trans (by decide +kernel))
theorem dX9_findFar_188 : decode cX9_findFar 188 = .ok (.iaload, 1) := dk_46_ (show cX9_findFar.data.toList[188]? = some 0x2e from (LBX9_findFarr_11 12).trans (by decide +kernel))
theorem dX9_findFar_189 : decode cX9_findFar 189 = .ok (.ifCond .ge 7, 3) := dk_156_ (show cX9_findFar.data.toList[189]? = some 0x9c from (LBX9_findFarr_11 13).trans (by decide +kernel)) (show cX9_findFar.data.toList[190]? = some 0x00 from (LBX9_findFarr_11 14).trans (by decide +kernel)) (show cX9_findFar.data.toList[191]? = some 0x07 from (LBX9_findFarr_11 15).trans (by decide +kernel)) (by decide)
theorem dX9_findFar_192 : decode cX9_findFar 192 = .ok (.iconst 1, 1) := dk_4_ (show cX9_findFar.data.toList[192]? = some 0x04 from (LBX9_findFarr_12 0).trans (by decide +kernel))
theorem dX9_findFar_193 : decode cX9_findFar 193 = .ok (.goto 4, 3) := dk_167_ (show cX9_findFar.data.toList[193]? = some 0xa7 from (LBX9_findFarr_12 1).trans (by decide +kernel)) (show cX9_findFar.data.toList[194]? = some 0x00 from (LBX9_findFarr_12 2).trans (by decide +kernel)) (show cX9_findFar.data.toList[195]? = some 0x04 from (LBX9_findFarr_12 3).trans (by decide +kernel)) (by decide)
theorem dX9_findFar_196 : decode cX9_findFar 196 = .ok (.iconst 0, 1) := dk_3_ (show cX9_findFar.data.toList[196]? = some 0x03 from (LBX9_findFarr_12 4).trans (by decide +kernel))
theorem dX9_findFar_197 : decode cX9_findFar 197 = .ok (.putfield 109, 3) := dk_181_ (show cX9_findFar.data.toList[197]? = some 0xb5 from (LBX9_findFarr_12 5).trans (by decide +kernel)) (show cX9_findFar.data.toList[198]? = some 0x00 from (LBX9_findFarr_12 6).trans (by decide +kernel)) (show cX9_findFar.data.toList[199]? = some 0x6d from (LBX9_findFarr_12 7).trans (by decide +kernel)) (by decide)
theorem dX9_findFar_200 : decode cX9_findFar 200 = .ok (.iinc 2 1, 3) := dk_132_ (show cX9_findFar.data.toList[200]? = some 0x84 from (LBX9_findFarr_12 8).trans (by decide +kernel)) (show cX9_findFar.data.toList[201]? = some 0x02 from (LBX9_findFarr_12 9).trans (by decide +kernel)) (show cX9_findFar.data.toList[202]? = some 0x01 from (LBX9_findFarr_12 10).trans (by decide +kernel)) (by decide) (by decide)
theorem dX9_findFar_203 : decode cX9_findFar 203 = .ok (.goto (-36), 3) := dk_167_ (show cX9_findFar.data.toList[203]? = some 0xa7 from (LBX9_findFarr_12 11).trans (by decide +kernel)) (show cX9_findFar.data.toList[204]? = some 0xff from (LBX9_findFarr_12 12).trans (by decide +kernel)) (show cX9_findFar.data.toList[205]? = some 0xdc from (LBX9_findFarr_12 13).trans (by decide +kernel)) (by decide)
theorem dX9_findFar_206 : decode cX9_findFar 206 = .ok (.return_, 1) := dk_177_ (show cX9_findFar.data.toList[206]? = some 0xb1 from (LBX9_findFarr_12 14).trans (by decide +kernel))
def LRX9_far_5 : List UInt8 := []
def LBX9_far_4 : List UInt8 := [0x46, 0xa7, 0x00, 0x0e, 0x2a, 0xb4, 0x00, 0x16, 0x10, 0x0a, 0x1b, 0x68, 0x1c, 0x60, 0x2e, 0xac]
def LRX9_far_4 : List UInt8 := LBX9_far_4 ++ LRX9_far_5
def LBX9_far_3 : List UInt8 := [0x0a, 0x1b, 0x68, 0x1c, 0x60, 0x2e, 0x12, 0x68, 0xa0, 0x00, 0x0c, 0x2a, 0x12, 0x60, 0xb6, 0x00]
def LRX9_far_3 : List UInt8 := LBX9_far_3 ++ LRX9_far_4
def LBX9_far_2 : List UInt8 := [0x00, 0x0c, 0x2a, 0x12, 0x74, 0xb6, 0x00, 0x46, 0xa7, 0x00, 0x27, 0x2a, 0xb4, 0x00, 0x16, 0x10]
def LRX9_far_2 : List UInt8 := LBX9_far_2 ++ LRX9_far_3
def LBX9_far_1 : List UInt8 := [0x2a, 0x12, 0x38, 0xb6, 0x00, 0x46, 0xac, 0x2a, 0xb6, 0x00, 0x71, 0x2a, 0xb4, 0x00, 0x6d, 0x99]
def LRX9_far_1 : List UInt8 := LBX9_far_1 ++ LRX9_far_2
def LBX9_far_0 : List UInt8 := [0x2a, 0x1b, 0xb6, 0x00, 0x3d, 0x99, 0x00, 0x0b, 0x2a, 0x1c, 0xb6, 0x00, 0x3d, 0x9a, 0x00, 0x0a]
def LRX9_far_0 : List UInt8 := LBX9_far_0 ++ LRX9_far_1
set_option maxRecDepth 100000 in
theorem LBX9_far_eq : cX9_far.data.toList = LRX9_far_0 := by decide +kernel
theorem LBX9_farr_0 (k : Nat) : cX9_far.data.toList[0 + k]? = LRX9_far_0[k]? := by rw [LBX9_far_eq, Nat.zero_add]
theorem LBX9_farr_1 (k : Nat) : cX9_far.data.toList[16 + k]? = LRX9_far_1[k]? := by
  have h := LBX9_farr_0 (16 + k)
  rw [show 0 + (16 + k) = 16 + k by omega] at h
  rw [h]
  exact (List.getElem?_append_right (l₁ := LBX9_far_0) (l₂ := LRX9_far_1) (show 16 ≤ 16 + k by omega)).trans (congrArg (fun i => LRX9_far_1[i]?) (show 16 + k - 16 = k by omega))
theorem LBX9_farr_2 (k : Nat) : cX9_far.data.toList[32 + k]? = LRX9_far_2[k]? := by
  have h := LBX9_farr_1 (16 + k)
  rw [show 16 + (16 + k) = 32 + k by omega] at h
  rw [h]
  exact (List.getElem?_append_right (l₁ := LBX9_far_1) (l₂ := LRX9_far_2) (show 16 ≤ 16 + k by omega)).trans (congrArg (fun i => LRX9_far_2[i]?) (show 16 + k - 16 = k by omega))
theorem LBX9_farr_3 (k : Nat) : cX9_far.data.toList[48 + k]? = LRX9_far_3[k]? := by
  have h := LBX9_farr_2 (16 + k)
  rw [show 32 + (16 + k) = 48 + k by omega] at h
  rw [h]
  exact (List.getElem?_append_right (l₁ := LBX9_far_2) (l₂ := LRX9_far_3) (show 16 ≤ 16 + k by omega)).trans (congrArg (fun i => LRX9_far_3[i]?) (show 16 + k - 16 = k by omega))
theorem LBX9_farr_4 (k : Nat) : cX9_far.data.toList[64 + k]? = LRX9_far_4[k]? := by
  have h := LBX9_farr_3 (16 + k)
  rw [show 48 + (16 + k) = 64 + k by omega] at h
  rw [h]
  exact (List.getElem?_append_right (l₁ := LBX9_far_3) (l₂ := LRX9_far_4) (show 16 ≤ 16 + k by omega)).trans (congrArg (fun i => LRX9_far_4[i]?) (show 16 + k - 16 = k by omega))
theorem dX9_far_0 : decode cX9_far 0 = .ok (.aload_n 0, 1) := dk_42_ (show cX9_far.data.toList[0]? = some 0x2a from (LBX9_farr_0 0).trans (by decide +kernel))
theorem dX9_far_1 : decode cX9_far 1 = .ok (.iload_n 1, 1) := dk_27_ (show cX9_far.data.toList[1]? = some 0x1b from (LBX9_farr_0 1).trans (by decide +kernel))
theorem dX9_far_2 : decode cX9_far 2 = .ok (.invokevirtual 61, 3) := dk_182_ (show cX9_far.data.toList[2]? = some 0xb6 from (LBX9_farr_0 2).trans (by decide +kernel)) (show cX9_far.data.toList[3]? = some 0x00 from (LBX9_farr_0 3).trans (by decide +kernel)) (show cX9_far.data.toList[4]? = some 0x3d from (LBX9_farr_0 4).trans (by decide +kernel)) (by decide)
theorem dX9_far_5 : decode cX9_far 5 = .ok (.ifCond .eq 11, 3) := dk_153_ (show cX9_far.data.toList[5]? = some 0x99 from (LBX9_farr_0 5).trans (by decide +kernel)) (show cX9_far.data.toList[6]? = some 0x00 from (LBX9_farr_0 6).trans (by decide +kernel)) (show cX9_far.data.toList[7]? = some 0x0b from (LBX9_farr_0 7).trans (by decide +kernel)) (by decide)
theorem dX9_far_8 : decode cX9_far 8 = .ok (.aload_n 0, 1) := dk_42_ (show cX9_far.data.toList[8]? = some 0x2a from (LBX9_farr_0 8).trans (by decide +kernel))
theorem dX9_far_9 : decode cX9_far 9 = .ok (.iload_n 2, 1) := dk_28_ (show cX9_far.data.toList[9]? = some 0x1c from (LBX9_farr_0 9).trans (by decide +kernel))
theorem dX9_far_10 : decode cX9_far 10 = .ok (.invokevirtual 61, 3) := dk_182_ (show cX9_far.data.toList[10]? = some 0xb6 from (LBX9_farr_0 10).trans (by decide +kernel)) (show cX9_far.data.toList[11]? = some 0x00 from (LBX9_farr_0 11).trans (by decide +kernel)) (show cX9_far.data.toList[12]? = some 0x3d from (LBX9_farr_0 12).trans (by decide +kernel)) (by decide)
theorem dX9_far_13 : decode cX9_far 13 = .ok (.ifCond .ne 10, 3) := dk_154_ (show cX9_far.data.toList[13]? = some 0x9a from (LBX9_farr_0 13).trans (by decide +kernel)) (show cX9_far.data.toList[14]? = some 0x00 from (LBX9_farr_0 14).trans (by decide +kernel)) (show cX9_far.data.toList[15]? = some 0x0a from (LBX9_farr_0 15).trans (by decide +kernel)) (by decide)
theorem dX9_far_16 : decode cX9_far 16 = .ok (.aload_n 0, 1) := dk_42_ (show cX9_far.data.toList[16]? = some 0x2a from (LBX9_farr_1 0).trans (by decide +kernel))
theorem dX9_far_17 : decode cX9_far 17 = .ok (.ldc 56, 2) := dk_18_ (show cX9_far.data.toList[17]? = some 0x12 from (LBX9_farr_1 1).trans (by decide +kernel)) (show cX9_far.data.toList[18]? = some 0x38 from (LBX9_farr_1 2).trans (by decide +kernel)) (by decide)
theorem dX9_far_19 : decode cX9_far 19 = .ok (.invokevirtual 70, 3) := dk_182_ (show cX9_far.data.toList[19]? = some 0xb6 from (LBX9_farr_1 3).trans (by decide +kernel)) (show cX9_far.data.toList[20]? = some 0x00 from (LBX9_farr_1 4).trans (by decide +kernel)) (show cX9_far.data.toList[21]? = some 0x46 from (LBX9_farr_1 5).trans (by decide +kernel)) (by decide)
theorem dX9_far_22 : decode cX9_far 22 = .ok (.ireturn, 1) := dk_172_ (show cX9_far.data.toList[22]? = some 0xac from (LBX9_farr_1 6).trans (by decide +kernel))
theorem dX9_far_23 : decode cX9_far 23 = .ok (.aload_n 0, 1) := dk_42_ (show cX9_far.data.toList[23]? = some 0x2a from (LBX9_farr_1 7).trans (by decide +kernel))
theorem dX9_far_24 : decode cX9_far 24 = .ok (.invokevirtual 113, 3) := dk_182_ (show cX9_far.data.toList[24]? = some 0xb6 from (LBX9_farr_1 8).trans (by decide +kernel)) (show cX9_far.data.toList[25]? = some 0x00 from (LBX9_farr_1 9).trans (by decide +kernel)) (show cX9_far.data.toList[26]? = some 0x71 from (LBX9_farr_1 10).trans (by decide +kernel)) (by decide)
theorem dX9_far_27 : decode cX9_far 27 = .ok (.aload_n 0, 1) := dk_42_ (show cX9_far.data.toList[27]? = some 0x2a from (LBX9_farr_1 11).trans (by decide +kernel))
theorem dX9_far_28 : decode cX9_far 28 = .ok (.getfield 109, 3) := dk_180_ (show cX9_far.data.toList[28]? = some 0xb4 from (LBX9_farr_1 12).trans (by decide +kernel)) (show cX9_far.data.toList[29]? = some 0x00 from (LBX9_farr_1 13).trans (by decide +kernel)) (show cX9_far.data.toList[30]? = some 0x6d from (LBX9_farr_1 14).trans (by decide +kernel)) (by decide)
theorem dX9_far_31 : decode cX9_far 31 = .ok (.ifCond .eq 12, 3) := dk_153_ (show cX9_far.data.toList[31]? = some 0x99 from (LBX9_farr_1 15).trans (by decide +kernel)) (show cX9_far.data.toList[32]? = some 0x00 from (LBX9_farr_2 0).trans (by decide +kernel)) (show cX9_far.data.toList[33]? = some 0x0c from (LBX9_farr_2 1).trans (by decide +kernel)) (by decide)
theorem dX9_far_34 : decode cX9_far 34 = .ok (.aload_n 0, 1) := dk_42_ (show cX9_far.data.toList[34]? = some 0x2a from (LBX9_farr_2 2).trans (by decide +kernel))
theorem dX9_far_35 : decode cX9_far 35 = .ok (.ldc 116, 2) := dk_18_ (show cX9_far.data.toList[35]? = some 0x12 from (LBX9_farr_2 3).trans (by decide +kernel)) (show cX9_far.data.toList[36]? = some 0x74 from (LBX9_farr_2 4).trans (by decide +kernel)) (by decide)
theorem dX9_far_37 : decode cX9_far 37 = .ok (.invokevirtual 70, 3) := dk_182_ (show cX9_far.data.toList[37]? = some 0xb6 from (LBX9_farr_2 5).trans (by decide +kernel)) (show cX9_far.data.toList[38]? = some 0x00 from (LBX9_farr_2 6).trans (by decide +kernel)) (show cX9_far.data.toList[39]? = some 0x46 from (LBX9_farr_2 7).trans (by decide +kernel)) (by decide)
theorem dX9_far_40 : decode cX9_far 40 = .ok (.goto 39, 3) := dk_167_ (show cX9_far.data.toList[40]? = some 0xa7 from (LBX9_farr_2 8).trans (by decide +kernel)) (show cX9_far.data.toList[41]? = some 0x00 from (LBX9_farr_2 9).trans (by decide +kernel)) (show cX9_far.data.toList[42]? = some 0x27 from (LBX9_farr_2 10).trans (by decide +kernel)) (by decide)
theorem dX9_far_43 : decode cX9_far 43 = .ok (.aload_n 0, 1) := dk_42_ (show cX9_far.data.toList[43]? = some 0x2a from (LBX9_farr_2 11).trans (by decide +kernel))
theorem dX9_far_44 : decode cX9_far 44 = .ok (.getfield 22, 3) := dk_180_ (show cX9_far.data.toList[44]? = some 0xb4 from (LBX9_farr_2 12).trans (by decide +kernel)) (show cX9_far.data.toList[45]? = some 0x00 from (LBX9_farr_2 13).trans (by decide +kernel)) (show cX9_far.data.toList[46]? = some 0x16 from (LBX9_farr_2 14).trans (by decide +kernel)) (by decide)
theorem dX9_far_47 : decode cX9_far 47 = .ok (.bipush 10, 2) := dk_16_ (show cX9_far.data.toList[47]? = some 0x10 from (LBX9_farr_2 15).trans (by decide +kernel)) (show cX9_far.data.toList[48]? = some 0x0a from (LBX9_farr_3 0).trans (by decide +kernel)) (by decide)
theorem dX9_far_49 : decode cX9_far 49 = .ok (.iload_n 1, 1) := dk_27_ (show cX9_far.data.toList[49]? = some 0x1b from (LBX9_farr_3 1).trans (by decide +kernel))
theorem dX9_far_50 : decode cX9_far 50 = .ok (.imul, 1) := dk_104_ (show cX9_far.data.toList[50]? = some 0x68 from (LBX9_farr_3 2).trans (by decide +kernel))
theorem dX9_far_51 : decode cX9_far 51 = .ok (.iload_n 2, 1) := dk_28_ (show cX9_far.data.toList[51]? = some 0x1c from (LBX9_farr_3 3).trans (by decide +kernel))
theorem dX9_far_52 : decode cX9_far 52 = .ok (.iadd, 1) := dk_96_ (show cX9_far.data.toList[52]? = some 0x60 from (LBX9_farr_3 4).trans (by decide +kernel))
theorem dX9_far_53 : decode cX9_far 53 = .ok (.iaload, 1) := dk_46_ (show cX9_far.data.toList[53]? = some 0x2e from (LBX9_farr_3 5).trans (by decide +kernel))
theorem dX9_far_54 : decode cX9_far 54 = .ok (.ldc 104, 2) := dk_18_ (show cX9_far.data.toList[54]? = some 0x12 from (LBX9_farr_3 6).trans (by decide +kernel)) (show cX9_far.data.toList[55]? = some 0x68 from (LBX9_farr_3 7).trans (by decide +kernel)) (by decide)
theorem dX9_far_56 : decode cX9_far 56 = .ok (.if_icmp .ne 12, 3) := dk_160_ (show cX9_far.data.toList[56]? = some 0xa0 from (LBX9_farr_3 8).trans (by decide +kernel)) (show cX9_far.data.toList[57]? = some 0x00 from (LBX9_farr_3 9).trans (by decide +kernel)) (show cX9_far.data.toList[58]? = some 0x0c from (LBX9_farr_3 10).trans (by decide +kernel)) (by decide)
theorem dX9_far_59 : decode cX9_far 59 = .ok (.aload_n 0, 1) := dk_42_ (show cX9_far.data.toList[59]? = some 0x2a from (LBX9_farr_3 11).trans (by decide +kernel))
theorem dX9_far_60 : decode cX9_far 60 = .ok (.ldc 96, 2) := dk_18_ (show cX9_far.data.toList[60]? = some 0x12 from (LBX9_farr_3 12).trans (by decide +kernel)) (show cX9_far.data.toList[61]? = some 0x60 from (LBX9_farr_3 13).trans (by decide +kernel)) (by decide)
theorem dX9_far_62 : decode cX9_far 62 = .ok (.invokevirtual 70, 3) := dk_182_ (show cX9_far.data.toList[62]? = some 0xb6 from (LBX9_farr_3 14).trans (by decide +kernel)) (show cX9_far.data.toList[63]? = some 0x00 from (LBX9_farr_3 15).trans (by decide +kernel)) (show cX9_far.data.toList[64]? = some 0x46 from (LBX9_farr_4 0).trans (by decide +kernel)) (by decide)
theorem dX9_far_65 : decode cX9_far 65 = .ok (.goto 14, 3) := dk_167_ (show cX9_far.data.toList[65]? = some 0xa7 from (LBX9_farr_4 1).trans (by decide +kernel)) (show cX9_far.data.toList[66]? = some 0x00 from (LBX9_farr_4 2).trans (by decide +kernel)) (show cX9_far.data.toList[67]? = some 0x0e from (LBX9_farr_4 3).trans (by decide +kernel)) (by decide)
theorem dX9_far_68 : decode cX9_far 68 = .ok (.aload_n 0, 1) := dk_42_ (show cX9_far.data.toList[68]? = some 0x2a from (LBX9_farr_4 4).trans (by decide +kernel))
theorem dX9_far_69 : decode cX9_far 69 = .ok (.getfield 22, 3) := dk_180_ (show cX9_far.data.toList[69]? = some 0xb4 from (LBX9_farr_4 5).trans (by decide +kernel)) (show cX9_far.data.toList[70]? = some 0x00 from (LBX9_farr_4 6).trans (by decide +kernel)) (show cX9_far.data.toList[71]? = some 0x16 from (LBX9_farr_4 7).trans (by decide +kernel)) (by decide)
theorem dX9_far_72 : decode cX9_far 72 = .ok (.bipush 10, 2) := dk_16_ (show cX9_far.data.toList[72]? = some 0x10 from (LBX9_farr_4 8).trans (by decide +kernel)) (show cX9_far.data.toList[73]? = some 0x0a from (LBX9_farr_4 9).trans (by decide +kernel)) (by decide)
theorem dX9_far_74 : decode cX9_far 74 = .ok (.iload_n 1, 1) := dk_27_ (show cX9_far.data.toList[74]? = some 0x1b from (LBX9_farr_4 10).trans (by decide +kernel))
theorem dX9_far_75 : decode cX9_far 75 = .ok (.imul, 1) := dk_104_ (show cX9_far.data.toList[75]? = some 0x68 from (LBX9_farr_4 11).trans (by decide +kernel))
theorem dX9_far_76 : decode cX9_far 76 = .ok (.iload_n 2, 1) := dk_28_ (show cX9_far.data.toList[76]? = some 0x1c from (LBX9_farr_4 12).trans (by decide +kernel))
theorem dX9_far_77 : decode cX9_far 77 = .ok (.iadd, 1) := dk_96_ (show cX9_far.data.toList[77]? = some 0x60 from (LBX9_farr_4 13).trans (by decide +kernel))
theorem dX9_far_78 : decode cX9_far 78 = .ok (.iaload, 1) := dk_46_ (show cX9_far.data.toList[78]? = some 0x2e from (LBX9_farr_4 14).trans (by decide +kernel))
theorem dX9_far_79 : decode cX9_far 79 = .ok (.ireturn, 1) := dk_172_ (show cX9_far.data.toList[79]? = some 0xac from (LBX9_farr_4 15).trans (by decide +kernel))
def LRX9_by_18 : List UInt8 := []
def LBX9_by_17 : List UInt8 := [0x05, 0xac]
def LRX9_by_17 : List UInt8 := LBX9_by_17 ++ LRX9_by_18
def LBX9_by_16 : List UInt8 := [0x08, 0xff, 0xa7, 0xff, 0x7f, 0x15, 0x07, 0x36, 0x05, 0x84, 0x06, 0x01, 0xa7, 0xff, 0x62, 0x15]
def LRX9_by_16 : List UInt8 := LBX9_by_16 ++ LRX9_by_17
def LBX9_by_15 : List UInt8 := [0x1c, 0x60, 0x2e, 0xa0, 0x00, 0x08, 0x15, 0x08, 0xa7, 0x00, 0x05, 0x15, 0x07, 0x36, 0x07, 0x84]
def LRX9_by_15 : List UInt8 := LBX9_by_15 ++ LRX9_by_16
def LBX9_by_14 : List UInt8 := [0x08, 0x68, 0x1c, 0x60, 0x2e, 0x04, 0x60, 0x2a, 0xb4, 0x00, 0x19, 0x10, 0x0a, 0x15, 0x05, 0x68]
def LRX9_by_14 : List UInt8 := LBX9_by_14 ++ LRX9_by_15
def LBX9_by_13 : List UInt8 := [0x15, 0x05, 0x68, 0x1c, 0x60, 0x2e, 0xa0, 0x00, 0x25, 0x2a, 0xb4, 0x00, 0x19, 0x10, 0x0a, 0x15]
def LRX9_by_13 : List UInt8 := LBX9_by_13 ++ LRX9_by_14
def LBX9_by_12 : List UInt8 := [0x16, 0x10, 0x0a, 0x15, 0x08, 0x68, 0x1c, 0x60, 0x2e, 0x60, 0x2a, 0xb4, 0x00, 0x16, 0x10, 0x0a]
def LRX9_by_12 : List UInt8 := LBX9_by_12 ++ LRX9_by_13
def LBX9_by_11 : List UInt8 := [0x15, 0x09, 0x99, 0x00, 0x49, 0x2a, 0x15, 0x05, 0x15, 0x08, 0xb6, 0x00, 0x64, 0x2a, 0xb4, 0x00]
def LRX9_by_11 : List UInt8 := LBX9_by_11 ++ LRX9_by_12
def LBX9_by_10 : List UInt8 := [0x68, 0x1c, 0x60, 0x2e, 0x12, 0x68, 0x9f, 0x00, 0x07, 0x04, 0xa7, 0x00, 0x04, 0x03, 0x36, 0x09]
def LRX9_by_10 : List UInt8 := LBX9_by_10 ++ LRX9_by_11
def LBX9_by_9 : List UInt8 := [0x15, 0x08, 0xb6, 0x00, 0x61, 0x99, 0x00, 0x18, 0x2a, 0xb4, 0x00, 0x16, 0x10, 0x0a, 0x15, 0x08]
def LRX9_by_9 : List UInt8 := LBX9_by_9 ++ LRX9_by_10
def LBX9_by_8 : List UInt8 := [0x08, 0x15, 0x08, 0x9b, 0x00, 0x82, 0x15, 0x08, 0x15, 0x05, 0x9f, 0x00, 0x23, 0x2a, 0x15, 0x05]
def LRX9_by_8 : List UInt8 := LBX9_by_8 ++ LRX9_by_9
def LBX9_by_7 : List UInt8 := [0x1d, 0xa2, 0x00, 0x9e, 0x02, 0x36, 0x07, 0x2a, 0xb4, 0x00, 0x07, 0x03, 0x2e, 0x04, 0x64, 0x36]
def LRX9_by_7 : List UInt8 := LBX9_by_7 ++ LRX9_by_8
def LBX9_by_6 : List UInt8 := [0xac, 0x1d, 0x9c, 0x00, 0x06, 0x15, 0x04, 0xac, 0x1b, 0x36, 0x05, 0x03, 0x36, 0x06, 0x15, 0x06]
def LRX9_by_6 : List UInt8 := LBX9_by_6 ++ LRX9_by_7
def LBX9_by_5 : List UInt8 := [0x68, 0x9f, 0x00, 0x09, 0x1d, 0x15, 0x04, 0xa4, 0x00, 0x0a, 0x2a, 0x12, 0x60, 0xb6, 0x00, 0x46]
def LRX9_by_5 : List UInt8 := LBX9_by_5 ++ LRX9_by_6
def LBX9_by_4 : List UInt8 := [0x60, 0x2e, 0x36, 0x04, 0x2a, 0xb4, 0x00, 0x16, 0x10, 0x0a, 0x1b, 0x68, 0x1c, 0x60, 0x2e, 0x12]
def LRX9_by_4 : List UInt8 := LBX9_by_4 ++ LRX9_by_5
def LBX9_by_3 : List UInt8 := [0x2a, 0x12, 0x74, 0xb6, 0x00, 0x46, 0xac, 0x2a, 0xb4, 0x00, 0x19, 0x10, 0x0a, 0x1b, 0x68, 0x1c]
def LRX9_by_3 : List UInt8 := LBX9_by_3 ++ LRX9_by_4
def LBX9_by_2 : List UInt8 := [0x38, 0xb6, 0x00, 0x46, 0xac, 0x2a, 0xb6, 0x00, 0x71, 0x2a, 0xb4, 0x00, 0x6d, 0x99, 0x00, 0x0a]
def LRX9_by_2 : List UInt8 := LBX9_by_2 ++ LRX9_by_3
def LBX9_by_1 : List UInt8 := [0x1d, 0x85, 0x14, 0x00, 0x75, 0x14, 0x00, 0x77, 0xb8, 0x00, 0x39, 0x9a, 0x00, 0x0a, 0x2a, 0x12]
def LRX9_by_1 : List UInt8 := LBX9_by_1 ++ LRX9_by_2
def LBX9_by_0 : List UInt8 := [0x2a, 0x1b, 0xb6, 0x00, 0x3d, 0x99, 0x00, 0x19, 0x2a, 0x1c, 0xb6, 0x00, 0x3d, 0x99, 0x00, 0x11]
def LRX9_by_0 : List UInt8 := LBX9_by_0 ++ LRX9_by_1
set_option maxRecDepth 100000 in
theorem LBX9_by_eq : cX9_by.data.toList = LRX9_by_0 := by decide +kernel
theorem LBX9_byr_0 (k : Nat) : cX9_by.data.toList[0 + k]? = LRX9_by_0[k]? := by rw [LBX9_by_eq, Nat.zero_add]
theorem LBX9_byr_1 (k : Nat) : cX9_by.data.toList[16 + k]? = LRX9_by_1[k]? := by
  have h := LBX9_byr_0 (16 + k)
  rw [show 0 + (16 + k) = 16 + k by omega] at h
  rw [h]
  exact (List.getElem?_append_right (l₁ := LBX9_by_0) (l₂ := LRX9_by_1) (show 16 ≤ 16 + k by omega)).trans (congrArg (fun i => LRX9_by_1[i]?) (show 16 + k - 16 = k by omega))
theorem LBX9_byr_2 (k : Nat) : cX9_by.data.toList[32 + k]? = LRX9_by_2[k]? := by
  have h := LBX9_byr_1 (16 + k)
  rw [show 16 + (16 + k) = 32 + k by omega] at h
  rw [h]
  exact (List.getElem?_append_right (l₁ := LBX9_by_1) (l₂ := LRX9_by_2) (show 16 ≤ 16 + k by omega)).trans (congrArg (fun i => LRX9_by_2[i]?) (show 16 + k - 16 = k by omega))
theorem LBX9_byr_3 (k : Nat) : cX9_by.data.toList[48 + k]? = LRX9_by_3[k]? := by
  have h := LBX9_byr_2 (16 + k)
  rw [show 32 + (16 + k) = 48 + k by omega] at h
  rw [h]
  exact (List.getElem?_append_right (l₁ := LBX9_by_2) (l₂ := LRX9_by_3) (show 16 ≤ 16 + k by omega)).trans (congrArg (fun i => LRX9_by_3[i]?) (show 16 + k - 16 = k by omega))
theorem LBX9_byr_4 (k : Nat) : cX9_by.data.toList[64 + k]? = LRX9_by_4[k]? := by
  have h := LBX9_byr_3 (16 + k)
  rw [show 48 + (16 + k) = 64 + k by omega] at h
  rw [h]
  exact (List.getElem?_append_right (l₁ := LBX9_by_3) (l₂ := LRX9_by_4) (show 16 ≤ 16 + k by omega)).trans (congrArg (fun i => LRX9_by_4[i]?) (show 16 + k - 16 = k by omega))
theorem LBX9_byr_5 (k : Nat) : cX9_by.data.toList[80 + k]? = LRX9_by_5[k]? := by
  have h := LBX9_byr_4 (16 + k)
  rw [show 64 + (16 + k) = 80 + k by omega] at h
  rw [h]
  exact (List.getElem?_append_right (l₁ := LBX9_by_4) (l₂ := LRX9_by_5) (show 16 ≤ 16 + k by omega)).trans (congrArg (fun i => LRX9_by_5[i]?) (show 16 + k - 16 = k by omega))
theorem LBX9_byr_6 (k : Nat) : cX9_by.data.toList[96 + k]? = LRX9_by_6[k]? := by
  have h := LBX9_byr_5 (16 + k)
  rw [show 80 + (16 + k) = 96 + k by omega] at h
  rw [h]
  exact (List.getElem?_append_right (l₁ := LBX9_by_5) (l₂ := LRX9_by_6) (show 16 ≤ 16 + k by omega)).trans (congrArg (fun i => LRX9_by_6[i]?) (show 16 + k - 16 = k by omega))
theorem LBX9_byr_7 (k : Nat) : cX9_by.data.toList[112 + k]? = LRX9_by_7[k]? := by
  have h := LBX9_byr_6 (16 + k)
  rw [show 96 + (16 + k) = 112 + k by omega] at h
  rw [h]
  exact (List.getElem?_append_right (l₁ := LBX9_by_6) (l₂ := LRX9_by_7) (show 16 ≤ 16 + k by omega)).trans (congrArg (fun i => LRX9_by_7[i]?) (show 16 + k - 16 = k by omega))
theorem LBX9_byr_8 (k : Nat) : cX9_by.data.toList[128 + k]? = LRX9_by_8[k]? := by
  have h := LBX9_byr_7 (16 + k)
  rw [show 112 + (16 + k) = 128 + k by omega] at h
  rw [h]
  exact (List.getElem?_append_right (l₁ := LBX9_by_7) (l₂ := LRX9_by_8) (show 16 ≤ 16 + k by omega)).trans (congrArg (fun i => LRX9_by_8[i]?) (show 16 + k - 16 = k by omega))
theorem LBX9_byr_9 (k : Nat) : cX9_by.data.toList[144 + k]? = LRX9_by_9[k]? := by
  have h := LBX9_byr_8 (16 + k)
  rw [show 128 + (16 + k) = 144 + k by omega] at h
  rw [h]
  exact (List.getElem?_append_right (l₁ := LBX9_by_8) (l₂ := LRX9_by_9) (show 16 ≤ 16 + k by omega)).trans (congrArg (fun i => LRX9_by_9[i]?) (show 16 + k - 16 = k by omega))
theorem LBX9_byr_10 (k : Nat) : cX9_by.data.toList[160 + k]? = LRX9_by_10[k]? := by
  have h := LBX9_byr_9 (16 + k)
  rw [show 144 + (16 + k) = 160 + k by omega] at h
  rw [h]
  exact (List.getElem?_append_right (l₁ := LBX9_by_9) (l₂ := LRX9_by_10) (show 16 ≤ 16 + k by omega)).trans (congrArg (fun i => LRX9_by_10[i]?) (show 16 + k - 16 = k by omega))
theorem LBX9_byr_11 (k : Nat) : cX9_by.data.toList[176 + k]? = LRX9_by_11[k]? := by
  have h := LBX9_byr_10 (16 + k)
  rw [show 160 + (16 + k) = 176 + k by omega] at h
  rw [h]
  exact (List.getElem?_append_right (l₁ := LBX9_by_10) (l₂ := LRX9_by_11) (show 16 ≤ 16 + k by omega)).trans (congrArg (fun i => LRX9_by_11[i]?) (show 16 + k - 16 = k by omega))
theorem LBX9_byr_12 (k : Nat) : cX9_by.data.toList[192 + k]? = LRX9_by_12[k]? := by
  have h := LBX9_byr_11 (16 + k)
  rw [show 176 + (16 + k) = 192 + k by omega] at h
  rw [h]
  exact (List.getElem?_append_right (l₁ := LBX9_by_11) (l₂ := LRX9_by_12) (show 16 ≤ 16 + k by omega)).trans (congrArg (fun i => LRX9_by_12[i]?) (show 16 + k - 16 = k by omega))
theorem LBX9_byr_13 (k : Nat) : cX9_by.data.toList[208 + k]? = LRX9_by_13[k]? := by
  have h := LBX9_byr_12 (16 + k)
  rw [show 192 + (16 + k) = 208 + k by omega] at h
  rw [h]
  exact (List.getElem?_append_right (l₁ := LBX9_by_12) (l₂ := LRX9_by_13) (show 16 ≤ 16 + k by omega)).trans (congrArg (fun i => LRX9_by_13[i]?) (show 16 + k - 16 = k by omega))
theorem LBX9_byr_14 (k : Nat) : cX9_by.data.toList[224 + k]? = LRX9_by_14[k]? := by
  have h := LBX9_byr_13 (16 + k)
  rw [show 208 + (16 + k) = 224 + k by omega] at h
  rw [h]
  exact (List.getElem?_append_right (l₁ := LBX9_by_13) (l₂ := LRX9_by_14) (show 16 ≤ 16 + k by omega)).trans (congrArg (fun i => LRX9_by_14[i]?) (show 16 + k - 16 = k by omega))
theorem LBX9_byr_15 (k : Nat) : cX9_by.data.toList[240 + k]? = LRX9_by_15[k]? := by
  have h := LBX9_byr_14 (16 + k)
  rw [show 224 + (16 + k) = 240 + k by omega] at h
  rw [h]
  exact (List.getElem?_append_right (l₁ := LBX9_by_14) (l₂ := LRX9_by_15) (show 16 ≤ 16 + k by omega)).trans (congrArg (fun i => LRX9_by_15[i]?) (show 16 + k - 16 = k by omega))
theorem LBX9_byr_16 (k : Nat) : cX9_by.data.toList[256 + k]? = LRX9_by_16[k]? := by
  have h := LBX9_byr_15 (16 + k)
  rw [show 240 + (16 + k) = 256 + k by omega] at h
  rw [h]
  exact (List.getElem?_append_right (l₁ := LBX9_by_15) (l₂ := LRX9_by_16) (show 16 ≤ 16 + k by omega)).trans (congrArg (fun i => LRX9_by_16[i]?) (show 16 + k - 16 = k by omega))
theorem LBX9_byr_17 (k : Nat) : cX9_by.data.toList[272 + k]? = LRX9_by_17[k]? := by
  have h := LBX9_byr_16 (16 + k)
  rw [show 256 + (16 + k) = 272 + k by omega] at h
  rw [h]
  exact (List.getElem?_append_right (l₁ := LBX9_by_16) (l₂ := LRX9_by_17) (show 16 ≤ 16 + k by omega)).trans (congrArg (fun i => LRX9_by_17[i]?) (show 16 + k - 16 = k by omega))
theorem dX9_by_0 : decode cX9_by 0 = .ok (.aload_n 0, 1) := dk_42_ (show cX9_by.data.toList[0]? = some 0x2a from (LBX9_byr_0 0).trans (by decide +kernel))
theorem dX9_by_1 : decode cX9_by 1 = .ok (.iload_n 1, 1) := dk_27_ (show cX9_by.data.toList[1]? = some 0x1b from (LBX9_byr_0 1).trans (by decide +kernel))
theorem dX9_by_2 : decode cX9_by 2 = .ok (.invokevirtual 61, 3) := dk_182_ (show cX9_by.data.toList[2]? = some 0xb6 from (LBX9_byr_0 2).trans (by decide +kernel)) (show cX9_by.data.toList[3]? = some 0x00 from (LBX9_byr_0 3).trans (by decide +kernel)) (show cX9_by.data.toList[4]? = some 0x3d from (LBX9_byr_0 4).trans (by decide +kernel)) (by decide)
theorem dX9_by_5 : decode cX9_by 5 = .ok (.ifCond .eq 25, 3) := dk_153_ (show cX9_by.data.toList[5]? = some 0x99 from (LBX9_byr_0 5).trans (by decide +kernel)) (show cX9_by.data.toList[6]? = some 0x00 from (LBX9_byr_0 6).trans (by decide +kernel)) (show cX9_by.data.toList[7]? = some 0x19 from (LBX9_byr_0 7).trans (by decide +kernel)) (by decide)
theorem dX9_by_8 : decode cX9_by 8 = .ok (.aload_n 0, 1) := dk_42_ (show cX9_by.data.toList[8]? = some 0x2a from (LBX9_byr_0 8).trans (by decide +kernel))
theorem dX9_by_9 : decode cX9_by 9 = .ok (.iload_n 2, 1) := dk_28_ (show cX9_by.data.toList[9]? = some 0x1c from (LBX9_byr_0 9).trans (by decide +kernel))
theorem dX9_by_10 : decode cX9_by 10 = .ok (.invokevirtual 61, 3) := dk_182_ (show cX9_by.data.toList[10]? = some 0xb6 from (LBX9_byr_0 10).trans (by decide +kernel)) (show cX9_by.data.toList[11]? = some 0x00 from (LBX9_byr_0 11).trans (by decide +kernel)) (show cX9_by.data.toList[12]? = some 0x3d from (LBX9_byr_0 12).trans (by decide +kernel)) (by decide)
theorem dX9_by_13 : decode cX9_by 13 = .ok (.ifCond .eq 17, 3) := dk_153_ (show cX9_by.data.toList[13]? = some 0x99 from (LBX9_byr_0 13).trans (by decide +kernel)) (show cX9_by.data.toList[14]? = some 0x00 from (LBX9_byr_0 14).trans (by decide +kernel)) (show cX9_by.data.toList[15]? = some 0x11 from (LBX9_byr_0 15).trans (by decide +kernel)) (by decide)
theorem dX9_by_16 : decode cX9_by 16 = .ok (.iload_n 3, 1) := dk_29_ (show cX9_by.data.toList[16]? = some 0x1d from (LBX9_byr_1 0).trans (by decide +kernel))
theorem dX9_by_17 : decode cX9_by 17 = .ok (.i2l, 1) := dk_133_ (show cX9_by.data.toList[17]? = some 0x85 from (LBX9_byr_1 1).trans (by decide +kernel))
theorem dX9_by_18 : decode cX9_by 18 = .ok (.ldc2_w 117, 3) := dk_20_ (show cX9_by.data.toList[18]? = some 0x14 from (LBX9_byr_1 2).trans (by decide +kernel)) (show cX9_by.data.toList[19]? = some 0x00 from (LBX9_byr_1 3).trans (by decide +kernel)) (show cX9_by.data.toList[20]? = some 0x75 from (LBX9_byr_1 4).trans (by decide +kernel)) (by decide)
theorem dX9_by_21 : decode cX9_by 21 = .ok (.ldc2_w 119, 3) := dk_20_ (show cX9_by.data.toList[21]? = some 0x14 from (LBX9_byr_1 5).trans (by decide +kernel)) (show cX9_by.data.toList[22]? = some 0x00 from (LBX9_byr_1 6).trans (by decide +kernel)) (show cX9_by.data.toList[23]? = some 0x77 from (LBX9_byr_1 7).trans (by decide +kernel)) (by decide)
theorem dX9_by_24 : decode cX9_by 24 = .ok (.invokestatic 57, 3) := dk_184_ (show cX9_by.data.toList[24]? = some 0xb8 from (LBX9_byr_1 8).trans (by decide +kernel)) (show cX9_by.data.toList[25]? = some 0x00 from (LBX9_byr_1 9).trans (by decide +kernel)) (show cX9_by.data.toList[26]? = some 0x39 from (LBX9_byr_1 10).trans (by decide +kernel)) (by decide)
theorem dX9_by_27 : decode cX9_by 27 = .ok (.ifCond .ne 10, 3) := dk_154_ (show cX9_by.data.toList[27]? = some 0x9a from (LBX9_byr_1 11).trans (by decide +kernel)) (show cX9_by.data.toList[28]? = some 0x00 from (LBX9_byr_1 12).trans (by decide +kernel)) (show cX9_by.data.toList[29]? = some 0x0a from (LBX9_byr_1 13).trans (by decide +kernel)) (by decide)
theorem dX9_by_30 : decode cX9_by 30 = .ok (.aload_n 0, 1) := dk_42_ (show cX9_by.data.toList[30]? = some 0x2a from (LBX9_byr_1 14).trans (by decide +kernel))
theorem dX9_by_31 : decode cX9_by 31 = .ok (.ldc 56, 2) := dk_18_ (show cX9_by.data.toList[31]? = some 0x12 from (LBX9_byr_1 15).trans (by decide +kernel)) (show cX9_by.data.toList[32]? = some 0x38 from (LBX9_byr_2 0).trans (by decide +kernel)) (by decide)
theorem dX9_by_33 : decode cX9_by 33 = .ok (.invokevirtual 70, 3) := dk_182_ (show cX9_by.data.toList[33]? = some 0xb6 from (LBX9_byr_2 1).trans (by decide +kernel)) (show cX9_by.data.toList[34]? = some 0x00 from (LBX9_byr_2 2).trans (by decide +kernel)) (show cX9_by.data.toList[35]? = some 0x46 from (LBX9_byr_2 3).trans (by decide +kernel)) (by decide)
theorem dX9_by_36 : decode cX9_by 36 = .ok (.ireturn, 1) := dk_172_ (show cX9_by.data.toList[36]? = some 0xac from (LBX9_byr_2 4).trans (by decide +kernel))
theorem dX9_by_37 : decode cX9_by 37 = .ok (.aload_n 0, 1) := dk_42_ (show cX9_by.data.toList[37]? = some 0x2a from (LBX9_byr_2 5).trans (by decide +kernel))
theorem dX9_by_38 : decode cX9_by 38 = .ok (.invokevirtual 113, 3) := dk_182_ (show cX9_by.data.toList[38]? = some 0xb6 from (LBX9_byr_2 6).trans (by decide +kernel)) (show cX9_by.data.toList[39]? = some 0x00 from (LBX9_byr_2 7).trans (by decide +kernel)) (show cX9_by.data.toList[40]? = some 0x71 from (LBX9_byr_2 8).trans (by decide +kernel)) (by decide)
theorem dX9_by_41 : decode cX9_by 41 = .ok (.aload_n 0, 1) := dk_42_ (show cX9_by.data.toList[41]? = some 0x2a from (LBX9_byr_2 9).trans (by decide +kernel))
theorem dX9_by_42 : decode cX9_by 42 = .ok (.getfield 109, 3) := dk_180_ (show cX9_by.data.toList[42]? = some 0xb4 from (LBX9_byr_2 10).trans (by decide +kernel)) (show cX9_by.data.toList[43]? = some 0x00 from (LBX9_byr_2 11).trans (by decide +kernel)) (show cX9_by.data.toList[44]? = some 0x6d from (LBX9_byr_2 12).trans (by decide +kernel)) (by decide)
theorem dX9_by_45 : decode cX9_by 45 = .ok (.ifCond .eq 10, 3) := dk_153_ (show cX9_by.data.toList[45]? = some 0x99 from (LBX9_byr_2 13).trans (by decide +kernel)) (show cX9_by.data.toList[46]? = some 0x00 from (LBX9_byr_2 14).trans (by decide +kernel)) (show cX9_by.data.toList[47]? = some 0x0a from (LBX9_byr_2 15).trans (by decide +kernel)) (by decide)
theorem dX9_by_48 : decode cX9_by 48 = .ok (.aload_n 0, 1) := dk_42_ (show cX9_by.data.toList[48]? = some 0x2a from (LBX9_byr_3 0).trans (by decide +kernel))
theorem dX9_by_49 : decode cX9_by 49 = .ok (.ldc 116, 2) := dk_18_ (show cX9_by.data.toList[49]? = some 0x12 from (LBX9_byr_3 1).trans (by decide +kernel)) (show cX9_by.data.toList[50]? = some 0x74 from (LBX9_byr_3 2).trans (by decide +kernel)) (by decide)
theorem dX9_by_51 : decode cX9_by 51 = .ok (.invokevirtual 70, 3) := dk_182_ (show cX9_by.data.toList[51]? = some 0xb6 from (LBX9_byr_3 3).trans (by decide +kernel)) (show cX9_by.data.toList[52]? = some 0x00 from (LBX9_byr_3 4).trans (by decide +kernel)) (show cX9_by.data.toList[53]? = some 0x46 from (LBX9_byr_3 5).trans (by decide +kernel)) (by decide)
theorem dX9_by_54 : decode cX9_by 54 = .ok (.ireturn, 1) := dk_172_ (show cX9_by.data.toList[54]? = some 0xac from (LBX9_byr_3 6).trans (by decide +kernel))
theorem dX9_by_55 : decode cX9_by 55 = .ok (.aload_n 0, 1) := dk_42_ (show cX9_by.data.toList[55]? = some 0x2a from (LBX9_byr_3 7).trans (by decide +kernel))
theorem dX9_by_56 : decode cX9_by 56 = .ok (.getfield 25, 3) := dk_180_ (show cX9_by.data.toList[56]? = some 0xb4 from (LBX9_byr_3 8).trans (by decide +kernel)) (show cX9_by.data.toList[57]? = some 0x00 from (LBX9_byr_3 9).trans (by decide +kernel)) (show cX9_by.data.toList[58]? = some 0x19 from (LBX9_byr_3 10).trans (by decide +kernel)) (by decide)
theorem dX9_by_59 : decode cX9_by 59 = .ok (.bipush 10, 2) := dk_16_ (show cX9_by.data.toList[59]? = some 0x10 from (LBX9_byr_3 11).trans (by decide +kernel)) (show cX9_by.data.toList[60]? = some 0x0a from (LBX9_byr_3 12).trans (by decide +kernel)) (by decide)
theorem dX9_by_61 : decode cX9_by 61 = .ok (.iload_n 1, 1) := dk_27_ (show cX9_by.data.toList[61]? = some 0x1b from (LBX9_byr_3 13).trans (by decide +kernel))
theorem dX9_by_62 : decode cX9_by 62 = .ok (.imul, 1) := dk_104_ (show cX9_by.data.toList[62]? = some 0x68 from (LBX9_byr_3 14).trans (by decide +kernel))
theorem dX9_by_63 : decode cX9_by 63 = .ok (.iload_n 2, 1) := dk_28_ (show cX9_by.data.toList[63]? = some 0x1c from (LBX9_byr_3 15).trans (by decide +kernel))
theorem dX9_by_64 : decode cX9_by 64 = .ok (.iadd, 1) := dk_96_ (show cX9_by.data.toList[64]? = some 0x60 from (LBX9_byr_4 0).trans (by decide +kernel))
theorem dX9_by_65 : decode cX9_by 65 = .ok (.iaload, 1) := dk_46_ (show cX9_by.data.toList[65]? = some 0x2e from (LBX9_byr_4 1).trans (by decide +kernel))
theorem dX9_by_66 : decode cX9_by 66 = .ok (.istore 4, 2) := dk_54_ (show cX9_by.data.toList[66]? = some 0x36 from (LBX9_byr_4 2).trans (by decide +kernel)) (show cX9_by.data.toList[67]? = some 0x04 from (LBX9_byr_4 3).trans (by decide +kernel)) (by decide)
theorem dX9_by_68 : decode cX9_by 68 = .ok (.aload_n 0, 1) := dk_42_ (show cX9_by.data.toList[68]? = some 0x2a from (LBX9_byr_4 4).trans (by decide +kernel))
theorem dX9_by_69 : decode cX9_by 69 = .ok (.getfield 22, 3) := dk_180_ (show cX9_by.data.toList[69]? = some 0xb4 from (LBX9_byr_4 5).trans (by decide +kernel)) (show cX9_by.data.toList[70]? = some 0x00 from (LBX9_byr_4 6).trans (by decide +kernel)) (show cX9_by.data.toList[71]? = some 0x16 from (LBX9_byr_4 7).trans (by decide +kernel)) (by decide)
theorem dX9_by_72 : decode cX9_by 72 = .ok (.bipush 10, 2) := dk_16_ (show cX9_by.data.toList[72]? = some 0x10 from (LBX9_byr_4 8).trans (by decide +kernel)) (show cX9_by.data.toList[73]? = some 0x0a from (LBX9_byr_4 9).trans (by decide +kernel)) (by decide)
theorem dX9_by_74 : decode cX9_by 74 = .ok (.iload_n 1, 1) := dk_27_ (show cX9_by.data.toList[74]? = some 0x1b from (LBX9_byr_4 10).trans (by decide +kernel))
theorem dX9_by_75 : decode cX9_by 75 = .ok (.imul, 1) := dk_104_ (show cX9_by.data.toList[75]? = some 0x68 from (LBX9_byr_4 11).trans (by decide +kernel))
theorem dX9_by_76 : decode cX9_by 76 = .ok (.iload_n 2, 1) := dk_28_ (show cX9_by.data.toList[76]? = some 0x1c from (LBX9_byr_4 12).trans (by decide +kernel))
theorem dX9_by_77 : decode cX9_by 77 = .ok (.iadd, 1) := dk_96_ (show cX9_by.data.toList[77]? = some 0x60 from (LBX9_byr_4 13).trans (by decide +kernel))
theorem dX9_by_78 : decode cX9_by 78 = .ok (.iaload, 1) := dk_46_ (show cX9_by.data.toList[78]? = some 0x2e from (LBX9_byr_4 14).trans (by decide +kernel))
theorem dX9_by_79 : decode cX9_by 79 = .ok (.ldc 104, 2) := dk_18_ (show cX9_by.data.toList[79]? = some 0x12 from (LBX9_byr_4 15).trans (by decide +kernel)) (show cX9_by.data.toList[80]? = some 0x68 from (LBX9_byr_5 0).trans (by decide +kernel)) (by decide)
theorem dX9_by_81 : decode cX9_by 81 = .ok (.if_icmp .eq 9, 3) := dk_159_ (show cX9_by.data.toList[81]? = some 0x9f from (LBX9_byr_5 1).trans (by decide +kernel)) (show cX9_by.data.toList[82]? = some 0x00 from (LBX9_byr_5 2).trans (by decide +kernel)) (show cX9_by.data.toList[83]? = some 0x09 from (LBX9_byr_5 3).trans (by decide +kernel)) (by decide)
theorem dX9_by_84 : decode cX9_by 84 = .ok (.iload_n 3, 1) := dk_29_ (show cX9_by.data.toList[84]? = some 0x1d from (LBX9_byr_5 4).trans (by decide +kernel))
theorem dX9_by_85 : decode cX9_by 85 = .ok (.iload 4, 2) := dk_21_ (show cX9_by.data.toList[85]? = some 0x15 from (LBX9_byr_5 5).trans (by decide +kernel)) (show cX9_by.data.toList[86]? = some 0x04 from (LBX9_byr_5 6).trans (by decide +kernel)) (by decide)
theorem dX9_by_87 : decode cX9_by 87 = .ok (.if_icmp .le 10, 3) := dk_164_ (show cX9_by.data.toList[87]? = some 0xa4 from (LBX9_byr_5 7).trans (by decide +kernel)) (show cX9_by.data.toList[88]? = some 0x00 from (LBX9_byr_5 8).trans (by decide +kernel)) (show cX9_by.data.toList[89]? = some 0x0a from (LBX9_byr_5 9).trans (by decide +kernel)) (by decide)
theorem dX9_by_90 : decode cX9_by 90 = .ok (.aload_n 0, 1) := dk_42_ (show cX9_by.data.toList[90]? = some 0x2a from (LBX9_byr_5 10).trans (by decide +kernel))
theorem dX9_by_91 : decode cX9_by 91 = .ok (.ldc 96, 2) := dk_18_ (show cX9_by.data.toList[91]? = some 0x12 from (LBX9_byr_5 11).trans (by decide +kernel)) (show cX9_by.data.toList[92]? = some 0x60 from (LBX9_byr_5 12).trans (by decide +kernel)) (by decide)
theorem dX9_by_93 : decode cX9_by 93 = .ok (.invokevirtual 70, 3) := dk_182_ (show cX9_by.data.toList[93]? = some 0xb6 from (LBX9_byr_5 13).trans (by decide +kernel)) (show cX9_by.data.toList[94]? = some 0x00 from (LBX9_byr_5 14).trans (by decide +kernel)) (show cX9_by.data.toList[95]? = some 0x46 from (LBX9_byr_5 15).trans (by decide +kernel)) (by decide)
theorem dX9_by_96 : decode cX9_by 96 = .ok (.ireturn, 1) := dk_172_ (show cX9_by.data.toList[96]? = some 0xac from (LBX9_byr_6 0).trans (by decide +kernel))
theorem dX9_by_97 : decode cX9_by 97 = .ok (.iload_n 3, 1) := dk_29_ (show cX9_by.data.toList[97]? = some 0x1d from (LBX9_byr_6 1).trans (by decide +kernel))
theorem dX9_by_98 : decode cX9_by 98 = .ok (.ifCond .ge 6, 3) := dk_156_ (show cX9_by.data.toList[98]? = some 0x9c from (LBX9_byr_6 2).trans (by decide +kernel)) (show cX9_by.data.toList[99]? = some 0x00 from (LBX9_byr_6 3).trans (by decide +kernel)) (show cX9_by.data.toList[100]? = some 0x06 from (LBX9_byr_6 4).trans (by decide +kernel)) (by decide)
theorem dX9_by_101 : decode cX9_by 101 = .ok (.iload 4, 2) := dk_21_ (show cX9_by.data.toList[101]? = some 0x15 from (LBX9_byr_6 5).trans (by decide +kernel)) (show cX9_by.data.toList[102]? = some 0x04 from (LBX9_byr_6 6).trans (by decide +kernel)) (by decide)
theorem dX9_by_103 : decode cX9_by 103 = .ok (.ireturn, 1) := dk_172_ (show cX9_by.data.toList[103]? = some 0xac from (LBX9_byr_6 7).trans (by decide +kernel))
theorem dX9_by_104 : decode cX9_by 104 = .ok (.iload_n 1, 1) := dk_27_ (show cX9_by.data.toList[104]? = some 0x1b from (LBX9_byr_6 8).trans (by decide +kernel))
theorem dX9_by_105 : decode cX9_by 105 = .ok (.istore 5, 2) := dk_54_ (show cX9_by.data.toList[105]? = some 0x36 from (LBX9_byr_6 9).trans (by decide +kernel)) (show cX9_by.data.toList[106]? = some 0x05 from (LBX9_byr_6 10).trans (by decide +kernel)) (by decide)
theorem dX9_by_107 : decode cX9_by 107 = .ok (.iconst 0, 1) := dk_3_ (show cX9_by.data.toList[107]? = some 0x03 from (LBX9_byr_6 11).trans (by decide +kernel))
theorem dX9_by_108 : decode cX9_by 108 = .ok (.istore 6, 2) := dk_54_ (show cX9_by.data.toList[108]? = some 0x36 from (LBX9_byr_6 12).trans (by decide +kernel)) (show cX9_by.data.toList[109]? = some 0x06 from (LBX9_byr_6 13).trans (by decide +kernel)) (by decide)
theorem dX9_by_110 : decode cX9_by 110 = .ok (.iload 6, 2) := dk_21_ (show cX9_by.data.toList[110]? = some 0x15 from (LBX9_byr_6 14).trans (by decide +kernel)) (show cX9_by.data.toList[111]? = some 0x06 from (LBX9_byr_6 15).trans (by decide +kernel)) (by decide)
theorem dX9_by_112 : decode cX9_by 112 = .ok (.iload_n 3, 1) := dk_29_ (show cX9_by.data.toList[112]? = some 0x1d from (LBX9_byr_7 0).trans (by decide +kernel))
theorem dX9_by_113 : decode cX9_by 113 = .ok (.if_icmp .ge 158, 3) := dk_162_ (show cX9_by.data.toList[113]? = some 0xa2 from (LBX9_byr_7 1).trans (by decide +kernel)) (show cX9_by.data.toList[114]? = some 0x00 from (LBX9_byr_7 2).trans (by decide +kernel)) (show cX9_by.data.toList[115]? = some 0x9e from (LBX9_byr_7 3).trans (by decide +kernel)) (by decide)
theorem dX9_by_116 : decode cX9_by 116 = .ok (.iconst (-1), 1) := dk_2_ (show cX9_by.data.toList[116]? = some 0x02 from (LBX9_byr_7 4).trans (by decide +kernel))
theorem dX9_by_117 : decode cX9_by 117 = .ok (.istore 7, 2) := dk_54_ (show cX9_by.data.toList[117]? = some 0x36 from (LBX9_byr_7 5).trans (by decide +kernel)) (show cX9_by.data.toList[118]? = some 0x07 from (LBX9_byr_7 6).trans (by decide +kernel)) (by decide)
theorem dX9_by_119 : decode cX9_by 119 = .ok (.aload_n 0, 1) := dk_42_ (show cX9_by.data.toList[119]? = some 0x2a from (LBX9_byr_7 7).trans (by decide +kernel))
theorem dX9_by_120 : decode cX9_by 120 = .ok (.getfield 7, 3) := dk_180_ (show cX9_by.data.toList[120]? = some 0xb4 from (LBX9_byr_7 8).trans (by decide +kernel)) (show cX9_by.data.toList[121]? = some 0x00 from (LBX9_byr_7 9).trans (by decide +kernel)) (show cX9_by.data.toList[122]? = some 0x07 from (LBX9_byr_7 10).trans (by decide +kernel)) (by decide)
theorem dX9_by_123 : decode cX9_by 123 = .ok (.iconst 0, 1) := dk_3_ (show cX9_by.data.toList[123]? = some 0x03 from (LBX9_byr_7 11).trans (by decide +kernel))
theorem dX9_by_124 : decode cX9_by 124 = .ok (.iaload, 1) := dk_46_ (show cX9_by.data.toList[124]? = some 0x2e from (LBX9_byr_7 12).trans (by decide +kernel))
theorem dX9_by_125 : decode cX9_by 125 = .ok (.iconst 1, 1) := dk_4_ (show cX9_by.data.toList[125]? = some 0x04 from (LBX9_byr_7 13).trans (by decide +kernel))
theorem dX9_by_126 : decode cX9_by 126 = .ok (.isub, 1) := dk_100_ (show cX9_by.data.toList[126]? = some 0x64 from (LBX9_byr_7 14).trans (by decide +kernel))
theorem dX9_by_127 : decode cX9_by 127 = .ok (.istore 8, 2) := dk_54_ (show cX9_by.data.toList[127]? = some 0x36 from (LBX9_byr_7 15).trans (by decide +kernel)) (show cX9_by.data.toList[128]? = some 0x08 from (LBX9_byr_8 0).trans (by decide +kernel)) (by decide)
theorem dX9_by_129 : decode cX9_by 129 = .ok (.iload 8, 2) := dk_21_ (show cX9_by.data.toList[129]? = some 0x15 from (LBX9_byr_8 1).trans (by decide +kernel)) (show cX9_by.data.toList[130]? = some 0x08 from (LBX9_byr_8 2).trans (by decide +kernel)) (by decide)
theorem dX9_by_131 : decode cX9_by 131 = .ok (.ifCond .lt 130, 3) := dk_155_ (show cX9_by.data.toList[131]? = some 0x9b from (LBX9_byr_8 3).trans (by decide +kernel)) (show cX9_by.data.toList[132]? = some 0x00 from (LBX9_byr_8 4).trans (by decide +kernel)) (show cX9_by.data.toList[133]? = some 0x82 from (LBX9_byr_8 5).trans (by decide +kernel)) (by decide)
theorem dX9_by_134 : decode cX9_by 134 = .ok (.iload 8, 2) := dk_21_ (show cX9_by.data.toList[134]? = some 0x15 from (LBX9_byr_8 6).trans (by decide +kernel)) (show cX9_by.data.toList[135]? = some 0x08 from (LBX9_byr_8 7).trans (by decide +kernel)) (by decide)
theorem dX9_by_136 : decode cX9_by 136 = .ok (.iload 5, 2) := dk_21_ (show cX9_by.data.toList[136]? = some 0x15 from (LBX9_byr_8 8).trans (by decide +kernel)) (show cX9_by.data.toList[137]? = some 0x05 from (LBX9_byr_8 9).trans (by decide +kernel)) (by decide)
theorem dX9_by_138 : decode cX9_by 138 = .ok (.if_icmp .eq 35, 3) := dk_159_ (show cX9_by.data.toList[138]? = some 0x9f from (LBX9_byr_8 10).trans (by decide +kernel)) (show cX9_by.data.toList[139]? = some 0x00 from (LBX9_byr_8 11).trans (by decide +kernel)) (show cX9_by.data.toList[140]? = some 0x23 from (LBX9_byr_8 12).trans (by decide +kernel)) (by decide)
theorem dX9_by_141 : decode cX9_by 141 = .ok (.aload_n 0, 1) := dk_42_ (show cX9_by.data.toList[141]? = some 0x2a from (LBX9_byr_8 13).trans (by decide +kernel))
theorem dX9_by_142 : decode cX9_by 142 = .ok (.iload 5, 2) := dk_21_ (show cX9_by.data.toList[142]? = some 0x15 from (LBX9_byr_8 14).trans (by decide +kernel)) (show cX9_by.data.toList[143]? = some 0x05 from (LBX9_byr_8 15).trans (by decide +kernel)) (by decide)
theorem dX9_by_144 : decode cX9_by 144 = .ok (.iload 8, 2) := dk_21_ (show cX9_by.data.toList[144]? = some 0x15 from (LBX9_byr_9 0).trans (by decide +kernel)) (show cX9_by.data.toList[145]? = some 0x08 from (LBX9_byr_9 1).trans (by decide +kernel)) (by decide)
theorem dX9_by_146 : decode cX9_by 146 = .ok (.invokevirtual 97, 3) := dk_182_ (show cX9_by.data.toList[146]? = some 0xb6 from (LBX9_byr_9 2).trans (by decide +kernel)) (show cX9_by.data.toList[147]? = some 0x00 from (LBX9_byr_9 3).trans (by decide +kernel)) (show cX9_by.data.toList[148]? = some 0x61 from (LBX9_byr_9 4).trans (by decide +kernel)) (by decide)
theorem dX9_by_149 : decode cX9_by 149 = .ok (.ifCond .eq 24, 3) := dk_153_ (show cX9_by.data.toList[149]? = some 0x99 from (LBX9_byr_9 5).trans (by decide +kernel)) (show cX9_by.data.toList[150]? = some 0x00 from (LBX9_byr_9 6).trans (by decide +kernel)) (show cX9_by.data.toList[151]? = some 0x18 from (LBX9_byr_9 7).trans (by decide +kernel)) (by decide)
theorem dX9_by_152 : decode cX9_by 152 = .ok (.aload_n 0, 1) := dk_42_ (show cX9_by.data.toList[152]? = some 0x2a from (LBX9_byr_9 8).trans (by decide +kernel))
theorem dX9_by_153 : decode cX9_by 153 = .ok (.getfield 22, 3) := dk_180_ (show cX9_by.data.toList[153]? = some 0xb4 from (LBX9_byr_9 9).trans (by decide +kernel)) (show cX9_by.data.toList[154]? = some 0x00 from (LBX9_byr_9 10).trans (by decide +kernel)) (show cX9_by.data.toList[155]? = some 0x16 from (LBX9_byr_9 11).trans (by decide +kernel)) (by decide)
theorem dX9_by_156 : decode cX9_by 156 = .ok (.bipush 10, 2) := dk_16_ (show cX9_by.data.toList[156]? = some 0x10 from (LBX9_byr_9 12).trans (by decide +kernel)) (show cX9_by.data.toList[157]? = some 0x0a from (LBX9_byr_9 13).trans (by decide +kernel)) (by decide)
theorem dX9_by_158 : decode cX9_by 158 = .ok (.iload 8, 2) := dk_21_ (show cX9_by.data.toList[158]? = some 0x15 from (LBX9_byr_9 14).trans (by decide +kernel)) (show cX9_by.data.toList[159]? = some 0x08 from (LBX9_byr_9 15).trans (by decide +kernel)) (by decide)
theorem dX9_by_160 : decode cX9_by 160 = .ok (.imul, 1) := dk_104_ (show cX9_by.data.toList[160]? = some 0x68 from (LBX9_byr_10 0).trans (by decide +kernel))
theorem dX9_by_161 : decode cX9_by 161 = .ok (.iload_n 2, 1) := dk_28_ (show cX9_by.data.toList[161]? = some 0x1c from (LBX9_byr_10 1).trans (by decide +kernel))
theorem dX9_by_162 : decode cX9_by 162 = .ok (.iadd, 1) := dk_96_ (show cX9_by.data.toList[162]? = some 0x60 from (LBX9_byr_10 2).trans (by decide +kernel))
theorem dX9_by_163 : decode cX9_by 163 = .ok (.iaload, 1) := dk_46_ (show cX9_by.data.toList[163]? = some 0x2e from (LBX9_byr_10 3).trans (by decide +kernel))
theorem dX9_by_164 : decode cX9_by 164 = .ok (.ldc 104, 2) := dk_18_ (show cX9_by.data.toList[164]? = some 0x12 from (LBX9_byr_10 4).trans (by decide +kernel)) (show cX9_by.data.toList[165]? = some 0x68 from (LBX9_byr_10 5).trans (by decide +kernel)) (by decide)
theorem dX9_by_166 : decode cX9_by 166 = .ok (.if_icmp .eq 7, 3) := dk_159_ (show cX9_by.data.toList[166]? = some 0x9f from (LBX9_byr_10 6).trans (by decide +kernel)) (show cX9_by.data.toList[167]? = some 0x00 from (LBX9_byr_10 7).trans (by decide +kernel)) (show cX9_by.data.toList[168]? = some 0x07 from (LBX9_byr_10 8).trans (by decide +kernel)) (by decide)
theorem dX9_by_169 : decode cX9_by 169 = .ok (.iconst 1, 1) := dk_4_ (show cX9_by.data.toList[169]? = some 0x04 from (LBX9_byr_10 9).trans (by decide +kernel))
theorem dX9_by_170 : decode cX9_by 170 = .ok (.goto 4, 3) := dk_167_ (show cX9_by.data.toList[170]? = some 0xa7 from (LBX9_byr_10 10).trans (by decide +kernel)) (show cX9_by.data.toList[171]? = some 0x00 from (LBX9_byr_10 11).trans (by decide +kernel)) (show cX9_by.data.toList[172]? = some 0x04 from (LBX9_byr_10 12).trans (by decide +kernel)) (by decide)
theorem dX9_by_173 : decode cX9_by 173 = .ok (.iconst 0, 1) := dk_3_ (show cX9_by.data.toList[173]? = some 0x03 from (LBX9_byr_10 13).trans (by decide +kernel))
theorem dX9_by_174 : decode cX9_by 174 = .ok (.istore 9, 2) := dk_54_ (show cX9_by.data.toList[174]? = some 0x36 from (LBX9_byr_10 14).trans (by decide +kernel)) (show cX9_by.data.toList[175]? = some 0x09 from (LBX9_byr_10 15).trans (by decide +kernel)) (by decide)
theorem dX9_by_176 : decode cX9_by 176 = .ok (.iload 9, 2) := dk_21_ (show cX9_by.data.toList[176]? = some 0x15 from (LBX9_byr_11 0).trans (by decide +kernel)) (show cX9_by.data.toList[177]? = some 0x09 from (LBX9_byr_11 1).trans (by decide +kernel)) (by decide)
theorem dX9_by_178 : decode cX9_by 178 = .ok (.ifCond .eq 73, 3) := dk_153_ (show cX9_by.data.toList[178]? = some 0x99 from (LBX9_byr_11 2).trans (by decide +kernel)) (show cX9_by.data.toList[179]? = some 0x00 from (LBX9_byr_11 3).trans (by decide +kernel)) (show cX9_by.data.toList[180]? = some 0x49 from (LBX9_byr_11 4).trans (by decide +kernel)) (by decide)
theorem dX9_by_181 : decode cX9_by 181 = .ok (.aload_n 0, 1) := dk_42_ (show cX9_by.data.toList[181]? = some 0x2a from (LBX9_byr_11 5).trans (by decide +kernel))
theorem dX9_by_182 : decode cX9_by 182 = .ok (.iload 5, 2) := dk_21_ (show cX9_by.data.toList[182]? = some 0x15 from (LBX9_byr_11 6).trans (by decide +kernel)) (show cX9_by.data.toList[183]? = some 0x05 from (LBX9_byr_11 7).trans (by decide +kernel)) (by decide)
theorem dX9_by_184 : decode cX9_by 184 = .ok (.iload 8, 2) := dk_21_ (show cX9_by.data.toList[184]? = some 0x15 from (LBX9_byr_11 8).trans (by decide +kernel)) (show cX9_by.data.toList[185]? = some 0x08 from (LBX9_byr_11 9).trans (by decide +kernel)) (by decide)
theorem dX9_by_186 : decode cX9_by 186 = .ok (.invokevirtual 100, 3) := dk_182_ (show cX9_by.data.toList[186]? = some 0xb6 from (LBX9_byr_11 10).trans (by decide +kernel)) (show cX9_by.data.toList[187]? = some 0x00 from (LBX9_byr_11 11).trans (by decide +kernel)) (show cX9_by.data.toList[188]? = some 0x64 from (LBX9_byr_11 12).trans (by decide +kernel)) (by decide)
theorem dX9_by_189 : decode cX9_by 189 = .ok (.aload_n 0, 1) := dk_42_ (show cX9_by.data.toList[189]? = some 0x2a from (LBX9_byr_11 13).trans (by decide +kernel))
theorem dX9_by_190 : decode cX9_by 190 = .ok (.getfield 22, 3) := dk_180_ (show cX9_by.data.toList[190]? = some 0xb4 from (LBX9_byr_11 14).trans (by decide +kernel)) (show cX9_by.data.toList[191]? = some 0x00 from (LBX9_byr_11 15).trans (by decide +kernel)) (show cX9_by.data.toList[192]? = some 0x16 from (LBX9_byr_12 0).trans (by decide +kernel)) (by decide)
theorem dX9_by_193 : decode cX9_by 193 = .ok (.bipush 10, 2) := dk_16_ (show cX9_by.data.toList[193]? = some 0x10 from (LBX9_byr_12 1).trans (by decide +kernel)) (show cX9_by.data.toList[194]? = some 0x0a from (LBX9_byr_12 2).trans (by decide +kernel)) (by decide)
theorem dX9_by_195 : decode cX9_by 195 = .ok (.iload 8, 2) := dk_21_ (show cX9_by.data.toList[195]? = some 0x15 from (LBX9_byr_12 3).trans (by decide +kernel)) (show cX9_by.data.toList[196]? = some 0x08 from (LBX9_byr_12 4).trans (by decide +kernel)) (by decide)
theorem dX9_by_197 : decode cX9_by 197 = .ok (.imul, 1) := dk_104_ (show cX9_by.data.toList[197]? = some 0x68 from (LBX9_byr_12 5).trans (by decide +kernel))
theorem dX9_by_198 : decode cX9_by 198 = .ok (.iload_n 2, 1) := dk_28_ (show cX9_by.data.toList[198]? = some 0x1c from (LBX9_byr_12 6).trans (by decide +kernel))
theorem dX9_by_199 : decode cX9_by 199 = .ok (.iadd, 1) := dk_96_ (show cX9_by.data.toList[199]? = some 0x60 from (LBX9_byr_12 7).trans (by decide +kernel))
theorem dX9_by_200 : decode cX9_by 200 = .ok (.iaload, 1) := dk_46_ (show cX9_by.data.toList[200]? = some 0x2e from (LBX9_byr_12 8).trans (by decide +kernel))
theorem dX9_by_201 : decode cX9_by 201 = .ok (.iadd, 1) := dk_96_ (show cX9_by.data.toList[201]? = some 0x60 from (LBX9_byr_12 9).trans (by decide +kernel))
theorem dX9_by_202 : decode cX9_by 202 = .ok (.aload_n 0, 1) := dk_42_ (show cX9_by.data.toList[202]? = some 0x2a from (LBX9_byr_12 10).trans (by decide +kernel))
theorem dX9_by_203 : decode cX9_by 203 = .ok (.getfield 22, 3) := dk_180_ (show cX9_by.data.toList[203]? = some 0xb4 from (LBX9_byr_12 11).trans (by decide +kernel)) (show cX9_by.data.toList[204]? = some 0x00 from (LBX9_byr_12 12).trans (by decide +kernel)) (show cX9_by.data.toList[205]? = some 0x16 from (LBX9_byr_12 13).trans (by decide +kernel)) (by decide)
theorem dX9_by_206 : decode cX9_by 206 = .ok (.bipush 10, 2) := dk_16_ (show cX9_by.data.toList[206]? = some 0x10 from (LBX9_byr_12 14).trans (by decide +kernel)) (show cX9_by.data.toList[207]? = some 0x0a from (LBX9_byr_12 15).trans (by decide +kernel)) (by decide)
theorem dX9_by_208 : decode cX9_by 208 = .ok (.iload 5, 2) := dk_21_ (show cX9_by.data.toList[208]? = some 0x15 from (LBX9_byr_13 0).trans (by decide +kernel)) (show cX9_by.data.toList[209]? = some 0x05 from (LBX9_byr_13 1).trans (by decide +kernel)) (by decide)
theorem dX9_by_210 : decode cX9_by 210 = .ok (.imul, 1) := dk_104_ (show cX9_by.data.toList[210]? = some 0x68 from (LBX9_byr_13 2).trans (by decide +kernel))
theorem dX9_by_211 : decode cX9_by 211 = .ok (.iload_n 2, 1) := dk_28_ (show cX9_by.data.toList[211]? = some 0x1c from (LBX9_byr_13 3).trans (by decide +kernel))
theorem dX9_by_212 : decode cX9_by 212 = .ok (.iadd, 1) := dk_96_ (show cX9_by.data.toList[212]? = some 0x60 from (LBX9_byr_13 4).trans (by decide +kernel))
theorem dX9_by_213 : decode cX9_by 213 = .ok (.iaload, 1) := dk_46_ (show cX9_by.data.toList[213]? = some 0x2e from (LBX9_byr_13 5).trans (by decide +kernel))
theorem dX9_by_214 : decode cX9_by 214 = .ok (.if_icmp .ne 37, 3) := dk_160_ (show cX9_by.data.toList[214]? = some 0xa0 from (LBX9_byr_13 6).trans (by decide +kernel)) (show cX9_by.data.toList[215]? = some 0x00 from (LBX9_byr_13 7).trans (by decide +kernel)) (show cX9_by.data.toList[216]? = some 0x25 from (LBX9_byr_13 8).trans (by decide +kernel)) (by decide)
theorem dX9_by_217 : decode cX9_by 217 = .ok (.aload_n 0, 1) := dk_42_ (show cX9_by.data.toList[217]? = some 0x2a from (LBX9_byr_13 9).trans (by decide +kernel))
theorem dX9_by_218 : decode cX9_by 218 = .ok (.getfield 25, 3) := dk_180_ (show cX9_by.data.toList[218]? = some 0xb4 from (LBX9_byr_13 10).trans (by decide +kernel)) (show cX9_by.data.toList[219]? = some 0x00 from (LBX9_byr_13 11).trans (by decide +kernel)) (show cX9_by.data.toList[220]? = some 0x19 from (LBX9_byr_13 12).trans (by decide +kernel)) (by decide)
theorem dX9_by_221 : decode cX9_by 221 = .ok (.bipush 10, 2) := dk_16_ (show cX9_by.data.toList[221]? = some 0x10 from (LBX9_byr_13 13).trans (by decide +kernel)) (show cX9_by.data.toList[222]? = some 0x0a from (LBX9_byr_13 14).trans (by decide +kernel)) (by decide)
theorem dX9_by_223 : decode cX9_by 223 = .ok (.iload 8, 2) := dk_21_ (show cX9_by.data.toList[223]? = some 0x15 from (LBX9_byr_13 15).trans (by decide +kernel)) (show cX9_by.data.toList[224]? = some 0x08 from (LBX9_byr_14 0).trans (by decide +kernel)) (by decide)
theorem dX9_by_225 : decode cX9_by 225 = .ok (.imul, 1) := dk_104_ (show cX9_by.data.toList[225]? = some 0x68 from (LBX9_byr_14 1).trans (by decide +kernel))
theorem dX9_by_226 : decode cX9_by 226 = .ok (.iload_n 2, 1) := dk_28_ (show cX9_by.data.toList[226]? = some 0x1c from (LBX9_byr_14 2).trans (by decide +kernel))
theorem dX9_by_227 : decode cX9_by 227 = .ok (.iadd, 1) := dk_96_ (show cX9_by.data.toList[227]? = some 0x60 from (LBX9_byr_14 3).trans (by decide +kernel))
theorem dX9_by_228 : decode cX9_by 228 = .ok (.iaload, 1) := dk_46_ (show cX9_by.data.toList[228]? = some 0x2e from (LBX9_byr_14 4).trans (by decide +kernel))
theorem dX9_by_229 : decode cX9_by 229 = .ok (.iconst 1, 1) := dk_4_ (show cX9_by.data.toList[229]? = some 0x04 from (LBX9_byr_14 5).trans (by decide +kernel))
theorem dX9_by_230 : decode cX9_by 230 = .ok (.iadd, 1) := dk_96_ (show cX9_by.data.toList[230]? = some 0x60 from (LBX9_byr_14 6).trans (by decide +kernel))
theorem dX9_by_231 : decode cX9_by 231 = .ok (.aload_n 0, 1) := dk_42_ (show cX9_by.data.toList[231]? = some 0x2a from (LBX9_byr_14 7).trans (by decide +kernel))
theorem dX9_by_232 : decode cX9_by 232 = .ok (.getfield 25, 3) := dk_180_ (show cX9_by.data.toList[232]? = some 0xb4 from (LBX9_byr_14 8).trans (by decide +kernel)) (show cX9_by.data.toList[233]? = some 0x00 from (LBX9_byr_14 9).trans (by decide +kernel)) (show cX9_by.data.toList[234]? = some 0x19 from (LBX9_byr_14 10).trans (by decide +kernel)) (by decide)
theorem dX9_by_235 : decode cX9_by 235 = .ok (.bipush 10, 2) := dk_16_ (show cX9_by.data.toList[235]? = some 0x10 from (LBX9_byr_14 11).trans (by decide +kernel)) (show cX9_by.data.toList[236]? = some 0x0a from (LBX9_byr_14 12).trans (by decide +kernel)) (by decide)
theorem dX9_by_237 : decode cX9_by 237 = .ok (.iload 5, 2) := dk_21_ (show cX9_by.data.toList[237]? = some 0x15 from (LBX9_byr_14 13).trans (by decide +kernel)) (show cX9_by.data.toList[238]? = some 0x05 from (LBX9_byr_14 14).trans (by decide +kernel)) (by decide)
theorem dX9_by_239 : decode cX9_by 239 = .ok (.imul, 1) := dk_104_ (show cX9_by.data.toList[239]? = some 0x68 from (LBX9_byr_14 15).trans (by decide +kernel))
theorem dX9_by_240 : decode cX9_by 240 = .ok (.iload_n 2, 1) := dk_28_ (show cX9_by.data.toList[240]? = some 0x1c from (LBX9_byr_15 0).trans (by decide +kernel))
theorem dX9_by_241 : decode cX9_by 241 = .ok (.iadd, 1) := dk_96_ (show cX9_by.data.toList[241]? = some 0x60 from (LBX9_byr_15 1).trans (by decide +kernel))
theorem dX9_by_242 : decode cX9_by 242 = .ok (.iaload, 1) := dk_46_ (show cX9_by.data.toList[242]? = some 0x2e from (LBX9_byr_15 2).trans (by decide +kernel))
theorem dX9_by_243 : decode cX9_by 243 = .ok (.if_icmp .ne 8, 3) := dk_160_ (show cX9_by.data.toList[243]? = some 0xa0 from (LBX9_byr_15 3).trans (by decide +kernel)) (show cX9_by.data.toList[244]? = some 0x00 from (LBX9_byr_15 4).trans (by decide +kernel)) (show cX9_by.data.toList[245]? = some 0x08 from (LBX9_byr_15 5).trans (by decide +kernel)) (by decide)
theorem dX9_by_246 : decode cX9_by 246 = .ok (.iload 8, 2) := dk_21_ (show cX9_by.data.toList[246]? = some 0x15 from (LBX9_byr_15 6).trans (by decide +kernel)) (show cX9_by.data.toList[247]? = some 0x08 from (LBX9_byr_15 7).trans (by decide +kernel)) (by decide)
theorem dX9_by_248 : decode cX9_by 248 = .ok (.goto 5, 3) := dk_167_ (show cX9_by.data.toList[248]? = some 0xa7 from (LBX9_byr_15 8).trans (by decide +kernel)) (show cX9_by.data.toList[249]? = some 0x00 from (LBX9_byr_15 9).trans (by decide +kernel)) (show cX9_by.data.toList[250]? = some 0x05 from (LBX9_byr_15 10).trans (by decide +kernel)) (by decide)
theorem dX9_by_251 : decode cX9_by 251 = .ok (.iload 7, 2) := dk_21_ (show cX9_by.data.toList[251]? = some 0x15 from (LBX9_byr_15 11).trans (by decide +kernel)) (show cX9_by.data.toList[252]? = some 0x07 from (LBX9_byr_15 12).trans (by decide +kernel)) (by decide)
theorem dX9_by_253 : decode cX9_by 253 = .ok (.istore 7, 2) := dk_54_ (show cX9_by.data.toList[253]? = some 0x36 from (LBX9_byr_15 13).trans (by decide +kernel)) (show cX9_by.data.toList[254]? = some 0x07 from (LBX9_byr_15 14).trans (by decide +kernel)) (by decide)
theorem dX9_by_255 : decode cX9_by 255 = .ok (.iinc 8 (-1), 3) := dk_132_ (show cX9_by.data.toList[255]? = some 0x84 from (LBX9_byr_15 15).trans (by decide +kernel)) (show cX9_by.data.toList[256]? = some 0x08 from (LBX9_byr_16 0).trans (by decide +kernel)) (show cX9_by.data.toList[257]? = some 0xff from (LBX9_byr_16 1).trans (by decide +kernel)) (by decide) (by decide)
theorem dX9_by_258 : decode cX9_by 258 = .ok (.goto (-129), 3) := dk_167_ (show cX9_by.data.toList[258]? = some 0xa7 from (LBX9_byr_16 2).trans (by decide +kernel)) (show cX9_by.data.toList[259]? = some 0xff from (LBX9_byr_16 3).trans (by decide +kernel)) (show cX9_by.data.toList[260]? = some 0x7f from (LBX9_byr_16 4).trans (by decide +kernel)) (by decide)
theorem dX9_by_261 : decode cX9_by 261 = .ok (.iload 7, 2) := dk_21_ (show cX9_by.data.toList[261]? = some 0x15 from (LBX9_byr_16 5).trans (by decide +kernel)) (show cX9_by.data.toList[262]? = some 0x07 from (LBX9_byr_16 6).trans (by decide +kernel)) (by decide)
theorem dX9_by_263 : decode cX9_by 263 = .ok (.istore 5, 2) := dk_54_ (show cX9_by.data.toList[263]? = some 0x36 from (LBX9_byr_16 7).trans (by decide +kernel)) (show cX9_by.data.toList[264]? = some 0x05 from (LBX9_byr_16 8).trans (by decide +kernel)) (by decide)
theorem dX9_by_265 : decode cX9_by 265 = .ok (.iinc 6 1, 3) := dk_132_ (show cX9_by.data.toList[265]? = some 0x84 from (LBX9_byr_16 9).trans (by decide +kernel)) (show cX9_by.data.toList[266]? = some 0x06 from (LBX9_byr_16 10).trans (by decide +kernel)) (show cX9_by.data.toList[267]? = some 0x01 from (LBX9_byr_16 11).trans (by decide +kernel)) (by decide) (by decide)
theorem dX9_by_268 : decode cX9_by 268 = .ok (.goto (-158), 3) := dk_167_ (show cX9_by.data.toList[268]? = some 0xa7 from (LBX9_byr_16 12).trans (by decide +kernel)) (show cX9_by.data.toList[269]? = some 0xff from (LBX9_byr_16 13).trans (by decide +kernel)) (show cX9_by.data.toList[270]? = some 0x62 from (LBX9_byr_16 14).trans (by decide +kernel)) (by decide)
theorem dX9_by_271 : decode cX9_by 271 = .ok (.iload 5, 2) := dk_21_ (show cX9_by.data.toList[271]? = some 0x15 from (LBX9_byr_16 15).trans (by decide +kernel)) (show cX9_by.data.toList[272]? = some 0x05 from (LBX9_byr_17 0).trans (by decide +kernel)) (by decide)
theorem dX9_by_273 : decode cX9_by 273 = .ok (.ireturn, 1) := dk_172_ (show cX9_by.data.toList[273]? = some 0xac from (LBX9_byr_17 1).trans (by decide +kernel))
theorem uw700 : Cond.fieldLink RX9 22 "LongerBackModel" "far" "[I" ∈ wsU := ut4 (List.mem_of_getElem? (i := 213) rfl) rfl
theorem uw701 : Cond.constant RX9 104 100000000 ∈ wsU := ut5 (List.mem_of_getElem? (i := 123) rfl) rfl
theorem uw702 : Cond.fieldLink RX9 25 "LongerBackModel" "few" "[I" ∈ wsU := ut4 (List.mem_of_getElem? (i := 214) rfl) rfl
theorem uw703 : Cond.fieldLink RX9 109 "LongerBackModel" "isLooped" "Z" ∈ wsU := ut4 (List.mem_of_getElem? (i := 215) rfl) rfl
theorem uw704 : Cond.methodLink RX9 105 yX9_joins ∈ wsU := ut5 (List.mem_of_getElem? (i := 124) rfl) rfl
theorem uw705 : Cond.instanceMethod yX9_joins ∈ wsU := ut5 (List.mem_of_getElem? (i := 126) rfl) rfl
theorem uw706 : Cond.selects RX9 yX9_joins yX9_joins ∈ wsU := us_sel (q := (yX9_joins, 27)) (List.mem_of_getElem? (i := 38) (by decide +kernel)) rfl
theorem uw707 : Cond.code yX9_joins cX9_joins 9 none ∈ wsU := ut5 (List.mem_of_getElem? (i := 127) rfl) rfl
theorem uw708 : Cond.methodLink RX9 100 yX9_miles ∈ wsU := ut5 (List.mem_of_getElem? (i := 119) rfl) rfl
theorem uw709 : Cond.instanceMethod yX9_miles ∈ wsU := ut5 (List.mem_of_getElem? (i := 121) rfl) rfl
theorem uw710 : Cond.selects RX9 yX9_miles yX9_miles ∈ wsU := us_sel (q := (yX9_miles, 27)) (List.mem_of_getElem? (i := 37) (by decide +kernel)) rfl
theorem uw711 : Cond.code yX9_miles cX9_miles 3 (some .int) ∈ wsU := ut5 (List.mem_of_getElem? (i := 122) rfl) rfl
theorem uw712 : Cond.methodLink RX9 113 yX9_findFar ∈ wsU := ut5 (List.mem_of_getElem? (i := 111) rfl) rfl
theorem uw713 : Cond.instanceMethod yX9_findFar ∈ wsU := ut5 (List.mem_of_getElem? (i := 113) rfl) rfl
theorem uw714 : Cond.selects RX9 yX9_findFar yX9_findFar ∈ wsU := us_sel (q := (yX9_findFar, 27)) (List.mem_of_getElem? (i := 35) (by decide +kernel)) rfl
theorem uw715 : Cond.code yX9_findFar cX9_findFar 5 none ∈ wsU := ut5 (List.mem_of_getElem? (i := 114) rfl) rfl
theorem uw716 : Cond.constant RX9 116 (-1000000005) ∈ wsU := ut5 (List.mem_of_getElem? (i := 128) rfl) rfl
theorem uw717 : Cond.constantLong RX9 117 (-1) ∈ wsU := ut5 (List.mem_of_getElem? (i := 133) rfl) rfl
theorem uw718 : Cond.constantLong RX9 119 9 ∈ wsU := ut5 (List.mem_of_getElem? (i := 134) rfl) rfl
theorem kf_X9_22 : xWF RX9 22 9 5 RX9 TX9 27 := ⟨inUX9, rfl, by decide, uw700⟩
theorem kf_X9_25 : xWF RX9 25 9 6 RX9 TX9 27 := ⟨inUX9, rfl, by decide, uw702⟩
theorem kf_X9_109 : xWF RX9 109 9 7 RX9 TX9 27 := ⟨inUX9, rfl, by decide, uw703⟩
theorem kv_X9_105 : xWV RX9 105 RX9 yX9_joins cX9_joins 9 none 3 := ⟨⟨uw704, uw705, uw706, uw657, uw707⟩, by decide +kernel⟩
theorem kv_X9_100 : xWV RX9 100 RX9 yX9_miles cX9_miles 3 (some .int) 2 := ⟨⟨uw708, uw709, uw710, uw657, uw711⟩, by decide +kernel⟩
theorem kv_X9_113 : xWV RX9 113 RX9 yX9_findFar cX9_findFar 5 none 0 := ⟨⟨uw712, uw713, uw714, uw657, uw715⟩, by decide +kernel⟩
set_option maxHeartbeats 4000000 in
set_option maxRecDepth 100000 in
theorem c_X9_joins (l : Launch) (D : va_G) (cI cJ cZ cS : ClassId) (ta : Nat) (sa sv : Nat → Nat) (sz : Nat) (h0 : Nat) (ys : Nat) (yk : Nat) (yo : Nat) (yt : Nat) (mk0 : Int32) (yfa : Nat) (yfe : Nat) (mL : Int32) (mS : Int32) (mM : Int32) (yro : Nat) (yhe : Nat) (ygr : Nat) (mF : Int32) (mC : Int32) (mY : Int32) (yta : Nat) (mz : Nat) (mf : Nat) (mt : Nat) (mv : Int32) (mw : Int32) (ywa : Nat) (ybi : Nat) (ysi : Nat) (ynu : Nat) (ymo : Nat) (fa : Nat → Int32) (fe : Nat → Int32) (j : Nat) (t : Nat) (k : Nat) (hj : j < 10) (ht : t < 10) (hk : k < 10) : Met l yX9_joins (Cond.code yX9_joins cX9_joins 9 none :: wsU) ({ frames := 0, cells := 0, slots := 0, locals := 0 }) (va_Pc [.ref h0, .int (nI (j)), .int (nI (t)), .int (nI (k))] (XW D (xT cI cJ cZ cS) ta sa sv [(h0, .inr (9, [.ref ys, .ref yk, .ref yo, .ref yt, .int mk0, .ref yfa, .ref yfe, .int mL, .int mS, .int mM, .ref yro, .ref yhe, .ref ygr, .int mF, .int mC, .int mY, .ref yta, .int (nI (mz)), .int (nI (mf)), .int (nI (mt)), .int mv, .int mw, .ref ywa, .ref ybi, .ref ysi, .ref ynu, .ref ymo])), (yfa, .inl (cI, 100, .inl fa)), (yfe, .inl (cI, 100, .inl fe))] sz)) (XQv (fun (u : (Nat → Int32) × (Nat → Int32)) => match u with | (fa2, fe2) => (fw_JN fa fe j t k fa2 fe2)) D (fun (u : (Nat → Int32) × (Nat → Int32)) => match u with | (fa2, fe2) => [(h0, .inr (9, [.ref ys, .ref yk, .ref yo, .ref yt, .int mk0, .ref yfa, .ref yfe, .int mL, .int mS, .int mM, .ref yro, .ref yhe, .ref ygr, .int mF, .int mC, .int mY, .ref yta, .int (nI (mz)), .int (nI (mf)), .int (nI (mt)), .int mv, .int mw, .ref ywa, .ref ybi, .ref ysi, .ref ynu, .ref ymo])), (yfa, .inl (cI, 100, .inl fa2)), (yfe, .inl (cI, 100, .inl fe2))]) (va_A [(h0, .inr (9, [.ref ys, .ref yk, .ref yo, .ref yt, .int mk0, .ref yfa, .ref yfe, .int mL, .int mS, .int mM, .ref yro, .ref yhe, .ref ygr, .int mF, .int mC, .int mY, .ref yta, .int (nI (mz)), .int (nI (mf)), .int (nI (mt)), .int mv, .int mw, .ref ywa, .ref ybi, .ref ysi, .ref ynu, .ref ymo])), (yfa, .inl (cI, 100, .inl fa)), (yfe, .inl (cI, 100, .inl fe))] sz)) 0 0 (va_A [(h0, .inr (9, [.ref ys, .ref yk, .ref yo, .ref yt, .int mk0, .ref yfa, .ref yfe, .int mL, .int mS, .int mM, .ref yro, .ref yhe, .ref ygr, .int mF, .int mC, .int mY, .ref yta, .int (nI (mz)), .int (nI (mf)), .int (nI (mt)), .int mv, .int mw, .ref ywa, .ref ybi, .ref ysi, .ref ynu, .ref ymo])), (yfa, .inl (cI, 100, .inl fa)), (yfe, .inl (cI, 100, .inl fe))] sz) := by
  refine xh (QA := fun A => XQv (fun (u : (Nat → Int32) × (Nat → Int32)) => match u with | (fa2, fe2) => (fw_JN fa fe j t k fa2 fe2)) D (fun (u : (Nat → Int32) × (Nat → Int32)) => match u with | (fa2, fe2) => [(h0, .inr (9, [.ref ys, .ref yk, .ref yo, .ref yt, .int mk0, .ref yfa, .ref yfe, .int mL, .int mS, .int mM, .ref yro, .ref yhe, .ref ygr, .int mF, .int mC, .int mY, .ref yta, .int (nI (mz)), .int (nI (mf)), .int (nI (mt)), .int mv, .int mw, .ref ywa, .ref ybi, .ref ysi, .ref ynu, .ref ymo])), (yfa, .inl (cI, 100, .inl fa2)), (yfe, .inl (cI, 100, .inl fe2))]) A) (fr := fun A => A) (by decide) (Nat.le_of_ble_eq_true rfl) ?_
  intro p e s m below meth c ls A hF hr hlk hin hsz hP hK hD hN hZ hA hS hl
  have hF : CallFix p m c cX9_joins 9 s _ _ RX9 := hF
  have hx := hF.1
  have hb := hF.2.1
  have hml := hF.2.2.1
  have hown := hF.2.2.2.1
  have hu : ∀ w ∈ wsU, w.before _ s = true := fun w h => hF.2.2.2.2 w (List.mem_cons_of_mem _ h)
  have hl : lv_has ls 9 [(0, .ref h0), (1, .int (nI (j))), (2, .int (nI (t))), (3, .int (nI (k)))] := hl
  refine lv_aload_n hx hb dX9_joins_0 rfl (lv_at hl 0 rfl) ?_
  refine xg hF kf_X9_22 hK hP 0 rfl rfl dX9_joins_1 ?_
  refine lv_bipush (v := 10) hx hb dX9_joins_4 (by decide) ?_
  refine lv_iload_n hx hb dX9_joins_6 rfl (lv_at hl 1 rfl) ?_
  refine lv_imul hx hb dX9_joins_7 ?_
  refine xl_i (y := nI (10 * j)) (pk_mul 10 j) ?_
  refine lv_iload_n hx hb dX9_joins_8 rfl (lv_at hl 2 rfl) ?_
  refine lv_iadd hx hb dX9_joins_9 ?_
  refine xl_i (y := nI (10 * j + t)) (nI_add (10 * j) t) ?_
  refine va_iald hx hb hK hP 1 0 rfl rfl (vp_in_nI (show 10 * j + t < 100 by omega) (by decide)) dX9_joins_10 ?_
  refine xl_i (y := fa (10 * j + t)) (congrArg fa (nI_clamp (show 10 * j + t < 2 ^ 31 by omega))) ?_
  refine lv_istore (lv' := [(4, .int (fa (10 * j + t))), (0, .ref h0), (1, .int (nI (j))), (2, .int (nI (t))), (3, .int (nI (k)))]) hx hb dX9_joins_11 hl (by decide) rfl (fun ls hl => ?_)
  refine lv_aload_n hx hb dX9_joins_13 rfl (lv_at hl 1 rfl) ?_
  refine xg hF kf_X9_22 hK hP 0 rfl rfl dX9_joins_14 ?_
  refine lv_bipush (v := 10) hx hb dX9_joins_17 (by decide) ?_
  refine lv_iload_n hx hb dX9_joins_19 rfl (lv_at hl 3 rfl) ?_
  refine lv_imul hx hb dX9_joins_20 ?_
  refine xl_i (y := nI (10 * t)) (pk_mul 10 t) ?_
  refine lv_iload_n hx hb dX9_joins_21 rfl (lv_at hl 4 rfl) ?_
  refine lv_iadd hx hb dX9_joins_22 ?_
  refine xl_i (y := nI (10 * t + k)) (nI_add (10 * t) k) ?_
  refine va_iald hx hb hK hP 1 0 rfl rfl (vp_in_nI (show 10 * t + k < 100 by omega) (by decide)) dX9_joins_23 ?_
  refine xl_i (y := fa (10 * t + k)) (congrArg fa (nI_clamp (show 10 * t + k < 2 ^ 31 by omega))) ?_
  refine lv_istore (lv' := [(5, .int (fa (10 * t + k))), (4, .int (fa (10 * j + t))), (0, .ref h0), (1, .int (nI (j))), (2, .int (nI (t))), (3, .int (nI (k)))]) hx hb dX9_joins_24 hl (by decide) rfl (fun ls hl => ?_)
  refine lv_iload hx hb dX9_joins_26 (lv_at hl 1 rfl) ?_
  refine lv_ldc (v := 100000000) hx hb hown (hu _ uw701) dX9_joins_28 ?_
  refine lv_icmp_eq (tgt := 40) hx hb dX9_joins_30 (by decide) (fun c_1 => ?_) (fun c_1 => ?_)
  · skip
    exact W.vret hx hb hr (fun t ht hW => ⟨⟨(fa, fe), rfl, (by first | exact fw_JN.n1 (by assumption) | exact fw_JN.n2 (by assumption)), by rw [ht]; exact hP.sub [0, 1, 2] rfl, hD.sub [0, 1, 2] (by decide) rfl⟩, hS.F ht⟩) hS.2.2 dX9_joins_40 hlk
  · skip
    refine lv_iload hx hb dX9_joins_33 (lv_at hl 0 rfl) ?_
    refine lv_ldc (v := 100000000) hx hb hown (hu _ uw701) dX9_joins_35 ?_
    refine lv_icmp_ne (tgt := 41) hx hb dX9_joins_37 (by decide) (fun c_2 => ?_) (fun c_2 => ?_)
    · skip
      refine lv_iload hx hb dX9_joins_41 (lv_at hl 1 rfl) ?_
      refine lv_iload hx hb dX9_joins_43 (lv_at hl 0 rfl) ?_
      refine lv_iadd hx hb dX9_joins_45 ?_
      refine lv_istore (lv' := [(6, .int ((fa (10 * j + t)) + (fa (10 * t + k)))), (5, .int (fa (10 * t + k))), (4, .int (fa (10 * j + t))), (0, .ref h0), (1, .int (nI (j))), (2, .int (nI (t))), (3, .int (nI (k)))]) hx hb dX9_joins_46 hl (by decide) rfl (fun ls hl => ?_)
      refine lv_aload_n hx hb dX9_joins_48 rfl (lv_at hl 3 rfl) ?_
      refine xg hF kf_X9_25 hK hP 0 rfl rfl dX9_joins_49 ?_
      refine lv_bipush (v := 10) hx hb dX9_joins_52 (by decide) ?_
      refine lv_iload_n hx hb dX9_joins_54 rfl (lv_at hl 4 rfl) ?_
      refine lv_imul hx hb dX9_joins_55 ?_
      refine xl_i (y := nI (10 * j)) (pk_mul 10 j) ?_
      refine lv_iload_n hx hb dX9_joins_56 rfl (lv_at hl 5 rfl) ?_
      refine lv_iadd hx hb dX9_joins_57 ?_
      refine xl_i (y := nI (10 * j + t)) (nI_add (10 * j) t) ?_
      refine va_iald hx hb hK hP 2 0 rfl rfl (vp_in_nI (show 10 * j + t < 100 by omega) (by decide)) dX9_joins_58 ?_
      refine xl_i (y := fe (10 * j + t)) (congrArg fe (nI_clamp (show 10 * j + t < 2 ^ 31 by omega))) ?_
      refine lv_aload_n hx hb dX9_joins_59 rfl (lv_at hl 3 rfl) ?_
      refine xg hF kf_X9_25 hK hP 0 rfl rfl dX9_joins_60 ?_
      refine lv_bipush (v := 10) hx hb dX9_joins_63 (by decide) ?_
      refine lv_iload_n hx hb dX9_joins_65 rfl (lv_at hl 5 rfl) ?_
      refine lv_imul hx hb dX9_joins_66 ?_
      refine xl_i (y := nI (10 * t)) (pk_mul 10 t) ?_
      refine lv_iload_n hx hb dX9_joins_67 rfl (lv_at hl 6 rfl) ?_
      refine lv_iadd hx hb dX9_joins_68 ?_
      refine xl_i (y := nI (10 * t + k)) (nI_add (10 * t) k) ?_
      refine va_iald hx hb hK hP 2 0 rfl rfl (vp_in_nI (show 10 * t + k < 100 by omega) (by decide)) dX9_joins_69 ?_
      refine xl_i (y := fe (10 * t + k)) (congrArg fe (nI_clamp (show 10 * t + k < 2 ^ 31 by omega))) ?_
      refine lv_iadd hx hb dX9_joins_70 ?_
      refine lv_istore (lv' := [(7, .int ((fe (10 * j + t)) + (fe (10 * t + k)))), (6, .int ((fa (10 * j + t)) + (fa (10 * t + k)))), (5, .int (fa (10 * t + k))), (4, .int (fa (10 * j + t))), (0, .ref h0), (1, .int (nI (j))), (2, .int (nI (t))), (3, .int (nI (k)))]) hx hb dX9_joins_71 hl (by decide) rfl (fun ls hl => ?_)
      refine lv_bipush (v := 10) hx hb dX9_joins_73 (by decide) ?_
      refine lv_iload_n hx hb dX9_joins_75 rfl (lv_at hl 5 rfl) ?_
      refine lv_imul hx hb dX9_joins_76 ?_
      refine xl_i (y := nI (10 * j)) (pk_mul 10 j) ?_
      refine lv_iload_n hx hb dX9_joins_77 rfl (lv_at hl 7 rfl) ?_
      refine lv_iadd hx hb dX9_joins_78 ?_
      refine xl_i (y := nI (10 * j + k)) (nI_add (10 * j) k) ?_
      refine lv_istore (lv' := [(8, .int (nI (10 * j + k))), (7, .int ((fe (10 * j + t)) + (fe (10 * t + k)))), (6, .int ((fa (10 * j + t)) + (fa (10 * t + k)))), (5, .int (fa (10 * t + k))), (4, .int (fa (10 * j + t))), (0, .ref h0), (1, .int (nI (j))), (2, .int (nI (t))), (3, .int (nI (k)))]) hx hb dX9_joins_79 hl (by decide) rfl (fun ls hl => ?_)
      refine lv_iload hx hb dX9_joins_81 (lv_at hl 2 rfl) ?_
      refine lv_aload_n hx hb dX9_joins_83 rfl (lv_at hl 5 rfl) ?_
      refine xg hF kf_X9_22 hK hP 0 rfl rfl dX9_joins_84 ?_
      refine lv_iload hx hb dX9_joins_87 (lv_at hl 0 rfl) ?_
      refine va_iald hx hb hK hP 1 0 rfl rfl (vp_in_nI (show 10 * j + k < 100 by omega) (by decide)) dX9_joins_89 ?_
      refine xl_i (y := fa (10 * j + k)) (congrArg fa (nI_clamp (show 10 * j + k < 2 ^ 31 by omega))) ?_
      refine lv_icmp_lt (tgt := 117) hx hb dX9_joins_90 (by decide) (fun c_3 => ?_) (fun c_3 => ?_)
      · skip
        refine lv_aload_n hx hb dX9_joins_117 rfl (lv_at hl 5 rfl) ?_
        refine xg hF kf_X9_22 hK hP 0 rfl rfl dX9_joins_118 ?_
        refine lv_iload hx hb dX9_joins_121 (lv_at hl 0 rfl) ?_
        refine lv_iload hx hb dX9_joins_123 (lv_at hl 2 rfl) ?_
        refine va_iast hx hb hK hP hD hS 1 0 rfl rfl (vp_in_nI (show 10 * j + k < 100 by omega) (by decide)) dX9_joins_125 (fun H locs hP hD hS => ?_)
        rw [nI_clamp (show 10 * j + k < 2 ^ 31 by omega)] at hP hD
        obtain ⟨f_4, ef_4⟩ : ∃ g, g = upd fa (10 * j + k) ((fa (10 * j + t)) + (fa (10 * t + k))) := ⟨_, rfl⟩
        rw [← ef_4] at hP hD
        have hP : va_P D vwCl [(h0, .inr (9, [.ref ys, .ref yk, .ref yo, .ref yt, .int mk0, .ref yfa, .ref yfe, .int mL, .int mS, .int mM, .ref yro, .ref yhe, .ref ygr, .int mF, .int mC, .int mY, .ref yta, .int (nI (mz)), .int (nI (mf)), .int (nI (mt)), .int mv, .int mw, .ref ywa, .ref ybi, .ref ysi, .ref ynu, .ref ymo])), (yfa, .inl (cI, 100, .inl f_4)), (yfe, .inl (cI, 100, .inl fe))] H := hP
        have hD : va_D A [(h0, .inr (9, [.ref ys, .ref yk, .ref yo, .ref yt, .int mk0, .ref yfa, .ref yfe, .int mL, .int mS, .int mM, .ref yro, .ref yhe, .ref ygr, .int mF, .int mC, .int mY, .ref yta, .int (nI (mz)), .int (nI (mf)), .int (nI (mt)), .int mv, .int mw, .ref ywa, .ref ybi, .ref ysi, .ref ynu, .ref ymo])), (yfa, .inl (cI, 100, .inl f_4)), (yfe, .inl (cI, 100, .inl fe))] := hD
        refine lv_aload_n hx hb dX9_joins_126 rfl (lv_at hl 5 rfl) ?_
        refine xg hF kf_X9_25 hK hP 0 rfl rfl dX9_joins_127 ?_
        refine lv_iload hx hb dX9_joins_130 (lv_at hl 0 rfl) ?_
        refine lv_iload hx hb dX9_joins_132 (lv_at hl 1 rfl) ?_
        refine va_iast hx hb hK hP hD hS 2 0 rfl rfl (vp_in_nI (show 10 * j + k < 100 by omega) (by decide)) dX9_joins_134 (fun H locs hP hD hS => ?_)
        rw [nI_clamp (show 10 * j + k < 2 ^ 31 by omega)] at hP hD
        obtain ⟨f_5, ef_5⟩ : ∃ g, g = upd fe (10 * j + k) ((fe (10 * j + t)) + (fe (10 * t + k))) := ⟨_, rfl⟩
        rw [← ef_5] at hP hD
        have hP : va_P D vwCl [(h0, .inr (9, [.ref ys, .ref yk, .ref yo, .ref yt, .int mk0, .ref yfa, .ref yfe, .int mL, .int mS, .int mM, .ref yro, .ref yhe, .ref ygr, .int mF, .int mC, .int mY, .ref yta, .int (nI (mz)), .int (nI (mf)), .int (nI (mt)), .int mv, .int mw, .ref ywa, .ref ybi, .ref ysi, .ref ynu, .ref ymo])), (yfa, .inl (cI, 100, .inl f_4)), (yfe, .inl (cI, 100, .inl f_5))] H := hP
        have hD : va_D A [(h0, .inr (9, [.ref ys, .ref yk, .ref yo, .ref yt, .int mk0, .ref yfa, .ref yfe, .int mL, .int mS, .int mM, .ref yro, .ref yhe, .ref ygr, .int mF, .int mC, .int mY, .ref yta, .int (nI (mz)), .int (nI (mf)), .int (nI (mt)), .int mv, .int mw, .ref ywa, .ref ybi, .ref ysi, .ref ynu, .ref ymo])), (yfa, .inl (cI, 100, .inl f_4)), (yfe, .inl (cI, 100, .inl f_5))] := hD
        exact W.vret hx hb hr (fun t ht hW => ⟨⟨(f_4, f_5), rfl, (by first | exact fw_JN.y1 (by assumption) (by assumption) (by assumption) (by assumption) (by assumption) | exact fw_JN.y2 (by assumption) (by assumption) (by assumption) (by assumption) (by assumption) (by assumption) | exact fw_JN.n3 (by assumption) (by assumption) | exact fw_JN.n4 (by assumption) (by assumption)), by rw [ht]; exact hP.sub [0, 1, 2] rfl, hD.sub [0, 1, 2] (by decide) rfl⟩, hS.F ht⟩) hS.2.2 dX9_joins_135 hlk
      · skip
        refine lv_iload hx hb dX9_joins_93 (lv_at hl 2 rfl) ?_
        refine lv_aload_n hx hb dX9_joins_95 rfl (lv_at hl 5 rfl) ?_
        refine xg hF kf_X9_22 hK hP 0 rfl rfl dX9_joins_96 ?_
        refine lv_iload hx hb dX9_joins_99 (lv_at hl 0 rfl) ?_
        refine va_iald hx hb hK hP 1 0 rfl rfl (vp_in_nI (show 10 * j + k < 100 by omega) (by decide)) dX9_joins_101 ?_
        refine xl_i (y := fa (10 * j + k)) (congrArg fa (nI_clamp (show 10 * j + k < 2 ^ 31 by omega))) ?_
        refine lv_icmp_ne (tgt := 135) hx hb dX9_joins_102 (by decide) (fun c_6 => ?_) (fun c_6 => ?_)
        · skip
          exact W.vret hx hb hr (fun t ht hW => ⟨⟨(fa, fe), rfl, (by first | exact fw_JN.y1 (by assumption) (by assumption) (by assumption) (by assumption) (by assumption) | exact fw_JN.y2 (by assumption) (by assumption) (by assumption) (by assumption) (by assumption) (by assumption) | exact fw_JN.n3 (by assumption) (by assumption) | exact fw_JN.n4 (by assumption) (by assumption)), by rw [ht]; exact hP.sub [0, 1, 2] rfl, hD.sub [0, 1, 2] (by decide) rfl⟩, hS.F ht⟩) hS.2.2 dX9_joins_135 hlk
        · skip
          refine lv_iload hx hb dX9_joins_105 (lv_at hl 1 rfl) ?_
          refine lv_aload_n hx hb dX9_joins_107 rfl (lv_at hl 5 rfl) ?_
          refine xg hF kf_X9_25 hK hP 0 rfl rfl dX9_joins_108 ?_
          refine lv_iload hx hb dX9_joins_111 (lv_at hl 0 rfl) ?_
          refine va_iald hx hb hK hP 2 0 rfl rfl (vp_in_nI (show 10 * j + k < 100 by omega) (by decide)) dX9_joins_113 ?_
          refine xl_i (y := fe (10 * j + k)) (congrArg fe (nI_clamp (show 10 * j + k < 2 ^ 31 by omega))) ?_
          refine lv_icmp_ge (tgt := 135) hx hb dX9_joins_114 (by decide) (fun c_7 => ?_) (fun c_7 => ?_)
          · skip
            exact W.vret hx hb hr (fun t ht hW => ⟨⟨(fa, fe), rfl, (by first | exact fw_JN.y1 (by assumption) (by assumption) (by assumption) (by assumption) (by assumption) | exact fw_JN.y2 (by assumption) (by assumption) (by assumption) (by assumption) (by assumption) (by assumption) | exact fw_JN.n3 (by assumption) (by assumption) | exact fw_JN.n4 (by assumption) (by assumption)), by rw [ht]; exact hP.sub [0, 1, 2] rfl, hD.sub [0, 1, 2] (by decide) rfl⟩, hS.F ht⟩) hS.2.2 dX9_joins_135 hlk
          · skip
            refine lv_aload_n hx hb dX9_joins_117 rfl (lv_at hl 5 rfl) ?_
            refine xg hF kf_X9_22 hK hP 0 rfl rfl dX9_joins_118 ?_
            refine lv_iload hx hb dX9_joins_121 (lv_at hl 0 rfl) ?_
            refine lv_iload hx hb dX9_joins_123 (lv_at hl 2 rfl) ?_
            refine va_iast hx hb hK hP hD hS 1 0 rfl rfl (vp_in_nI (show 10 * j + k < 100 by omega) (by decide)) dX9_joins_125 (fun H locs hP hD hS => ?_)
            rw [nI_clamp (show 10 * j + k < 2 ^ 31 by omega)] at hP hD
            obtain ⟨f_8, ef_8⟩ : ∃ g, g = upd fa (10 * j + k) ((fa (10 * j + t)) + (fa (10 * t + k))) := ⟨_, rfl⟩
            rw [← ef_8] at hP hD
            have hP : va_P D vwCl [(h0, .inr (9, [.ref ys, .ref yk, .ref yo, .ref yt, .int mk0, .ref yfa, .ref yfe, .int mL, .int mS, .int mM, .ref yro, .ref yhe, .ref ygr, .int mF, .int mC, .int mY, .ref yta, .int (nI (mz)), .int (nI (mf)), .int (nI (mt)), .int mv, .int mw, .ref ywa, .ref ybi, .ref ysi, .ref ynu, .ref ymo])), (yfa, .inl (cI, 100, .inl f_8)), (yfe, .inl (cI, 100, .inl fe))] H := hP
            have hD : va_D A [(h0, .inr (9, [.ref ys, .ref yk, .ref yo, .ref yt, .int mk0, .ref yfa, .ref yfe, .int mL, .int mS, .int mM, .ref yro, .ref yhe, .ref ygr, .int mF, .int mC, .int mY, .ref yta, .int (nI (mz)), .int (nI (mf)), .int (nI (mt)), .int mv, .int mw, .ref ywa, .ref ybi, .ref ysi, .ref ynu, .ref ymo])), (yfa, .inl (cI, 100, .inl f_8)), (yfe, .inl (cI, 100, .inl fe))] := hD
            refine lv_aload_n hx hb dX9_joins_126 rfl (lv_at hl 5 rfl) ?_
            refine xg hF kf_X9_25 hK hP 0 rfl rfl dX9_joins_127 ?_
            refine lv_iload hx hb dX9_joins_130 (lv_at hl 0 rfl) ?_
            refine lv_iload hx hb dX9_joins_132 (lv_at hl 1 rfl) ?_
            refine va_iast hx hb hK hP hD hS 2 0 rfl rfl (vp_in_nI (show 10 * j + k < 100 by omega) (by decide)) dX9_joins_134 (fun H locs hP hD hS => ?_)
            rw [nI_clamp (show 10 * j + k < 2 ^ 31 by omega)] at hP hD
            obtain ⟨f_9, ef_9⟩ : ∃ g, g = upd fe (10 * j + k) ((fe (10 * j + t)) + (fe (10 * t + k))) := ⟨_, rfl⟩
            rw [← ef_9] at hP hD
            have hP : va_P D vwCl [(h0, .inr (9, [.ref ys, .ref yk, .ref yo, .ref yt, .int mk0, .ref yfa, .ref yfe, .int mL, .int mS, .int mM, .ref yro, .ref yhe, .ref ygr, .int mF, .int mC, .int mY, .ref yta, .int (nI (mz)), .int (nI (mf)), .int (nI (mt)), .int mv, .int mw, .ref ywa, .ref ybi, .ref ysi, .ref ynu, .ref ymo])), (yfa, .inl (cI, 100, .inl f_8)), (yfe, .inl (cI, 100, .inl f_9))] H := hP
            have hD : va_D A [(h0, .inr (9, [.ref ys, .ref yk, .ref yo, .ref yt, .int mk0, .ref yfa, .ref yfe, .int mL, .int mS, .int mM, .ref yro, .ref yhe, .ref ygr, .int mF, .int mC, .int mY, .ref yta, .int (nI (mz)), .int (nI (mf)), .int (nI (mt)), .int mv, .int mw, .ref ywa, .ref ybi, .ref ysi, .ref ynu, .ref ymo])), (yfa, .inl (cI, 100, .inl f_8)), (yfe, .inl (cI, 100, .inl f_9))] := hD
            exact W.vret hx hb hr (fun t ht hW => ⟨⟨(f_8, f_9), rfl, (by first | exact fw_JN.y1 (by assumption) (by assumption) (by assumption) (by assumption) (by assumption) | exact fw_JN.y2 (by assumption) (by assumption) (by assumption) (by assumption) (by assumption) (by assumption) | exact fw_JN.n3 (by assumption) (by assumption) | exact fw_JN.n4 (by assumption) (by assumption)), by rw [ht]; exact hP.sub [0, 1, 2] rfl, hD.sub [0, 1, 2] (by decide) rfl⟩, hS.F ht⟩) hS.2.2 dX9_joins_135 hlk
    · skip
      exact W.vret hx hb hr (fun t ht hW => ⟨⟨(fa, fe), rfl, (by first | exact fw_JN.n1 (by assumption) | exact fw_JN.n2 (by assumption)), by rw [ht]; exact hP.sub [0, 1, 2] rfl, hD.sub [0, 1, 2] (by decide) rfl⟩, hS.F ht⟩) hS.2.2 dX9_joins_40 hlk
set_option maxHeartbeats 4000000 in
set_option maxRecDepth 100000 in
theorem c_X9_findFar (l : Launch) (D : va_G) (cI cJ cZ cS : ClassId) (ta : Nat) (sa sv : Nat → Nat) (sz : Nat) (h0 : Nat) (ys : Nat) (yk : Nat) (yo : Nat) (yt : Nat) (mk0 : Int32) (yfa : Nat) (yfe : Nat) (mL : Int32) (mS : Int32) (mM : Int32) (yro : Nat) (yhe : Nat) (ygr : Nat) (mF : Int32) (mC : Int32) (mY : Int32) (yta : Nat) (mz : Nat) (mf : Nat) (mt : Nat) (mv : Int32) (mw : Int32) (ywa : Nat) (ybi : Nat) (ysi : Nat) (ynu : Nat) (ymo : Nat) (ms : Nat → Int32) (fa : Nat → Int32) (fe : Nat → Int32) (P : Nat) (Rn : Nat) (Wn : Nat) (fae : Nat → Int32) (fal : Nat → Int32) (fau : Nat → Int32) (fao : Nat → Int32) (farn : Nat → Int32) (farp : Nat → Int32) (fak : Nat → Int32) (fawn : Nat → Int32) (fawp : Nat → Int32) (fat : Nat → Int32) (fas : Nat → Int32) (hs0 : ms 0 = nI P) (hs1 : ms 1 = nI Rn) (hs2 : ms 2 = nI Wn) (hsS : SI ms) (hsM : MI ms) (hsp : P ≤ 10) (hsr : Rn ≤ 8) (hsw : Wn ≤ 8) (hsR : RI Rn ms) (hsG : FR P ms fae fal fau fao farn farp fak fawn fawp fat fas) : Met l yX9_findFar (Cond.code yX9_findFar cX9_findFar 5 none :: wsU) ({ frames := 1, cells := 0, slots := 0, locals := 28 }) (va_Pc [.ref h0] (XW D (xT cI cJ cZ cS) ta sa sv [(h0, .inr (9, [.ref ys, .ref yk, .ref yo, .ref yt, .int mk0, .ref yfa, .ref yfe, .int mL, .int mS, .int mM, .ref yro, .ref yhe, .ref ygr, .int mF, .int mC, .int mY, .ref yta, .int (nI (mz)), .int (nI (mf)), .int (nI (mt)), .int mv, .int mw, .ref ywa, .ref ybi, .ref ysi, .ref ynu, .ref ymo])), (ys, .inl (cI, 449, .inl ms)), (yfa, .inl (cI, 100, .inl fa)), (yfe, .inl (cI, 100, .inl fe))] sz)) (XQv (fun (u : Int32 × (Nat → Int32) × (Nat → Int32)) => match u with | (mL2, fa2, fe2) => (fw_Fin ms P mL2 fa2 fe2)) D (fun (u : Int32 × (Nat → Int32) × (Nat → Int32)) => match u with | (mL2, fa2, fe2) => [(h0, .inr (9, [.ref ys, .ref yk, .ref yo, .ref yt, .int mk0, .ref yfa, .ref yfe, .int mL2, .int mS, .int mM, .ref yro, .ref yhe, .ref ygr, .int mF, .int mC, .int mY, .ref yta, .int (nI (mz)), .int (nI (mf)), .int (nI (mt)), .int mv, .int mw, .ref ywa, .ref ybi, .ref ysi, .ref ynu, .ref ymo])), (ys, .inl (cI, 449, .inl ms)), (yfa, .inl (cI, 100, .inl fa2)), (yfe, .inl (cI, 100, .inl fe2))]) (va_A [(h0, .inr (9, [.ref ys, .ref yk, .ref yo, .ref yt, .int mk0, .ref yfa, .ref yfe, .int mL, .int mS, .int mM, .ref yro, .ref yhe, .ref ygr, .int mF, .int mC, .int mY, .ref yta, .int (nI (mz)), .int (nI (mf)), .int (nI (mt)), .int mv, .int mw, .ref ywa, .ref ybi, .ref ysi, .ref ynu, .ref ymo])), (ys, .inl (cI, 449, .inl ms)), (yfa, .inl (cI, 100, .inl fa)), (yfe, .inl (cI, 100, .inl fe))] sz)) 0 0 (va_A [(h0, .inr (9, [.ref ys, .ref yk, .ref yo, .ref yt, .int mk0, .ref yfa, .ref yfe, .int mL, .int mS, .int mM, .ref yro, .ref yhe, .ref ygr, .int mF, .int mC, .int mY, .ref yta, .int (nI (mz)), .int (nI (mf)), .int (nI (mt)), .int mv, .int mw, .ref ywa, .ref ybi, .ref ysi, .ref ynu, .ref ymo])), (ys, .inl (cI, 449, .inl ms)), (yfa, .inl (cI, 100, .inl fa)), (yfe, .inl (cI, 100, .inl fe))] sz) := by
  refine xh (QA := fun A => XQv (fun (u : Int32 × (Nat → Int32) × (Nat → Int32)) => match u with | (mL2, fa2, fe2) => (fw_Fin ms P mL2 fa2 fe2)) D (fun (u : Int32 × (Nat → Int32) × (Nat → Int32)) => match u with | (mL2, fa2, fe2) => [(h0, .inr (9, [.ref ys, .ref yk, .ref yo, .ref yt, .int mk0, .ref yfa, .ref yfe, .int mL2, .int mS, .int mM, .ref yro, .ref yhe, .ref ygr, .int mF, .int mC, .int mY, .ref yta, .int (nI (mz)), .int (nI (mf)), .int (nI (mt)), .int mv, .int mw, .ref ywa, .ref ybi, .ref ysi, .ref ynu, .ref ymo])), (ys, .inl (cI, 449, .inl ms)), (yfa, .inl (cI, 100, .inl fa2)), (yfe, .inl (cI, 100, .inl fe2))]) A) (fr := fun A => A) (by decide) (Nat.le_of_ble_eq_true rfl) ?_
  intro p e s m below meth c ls A hF hr hlk hin hsz hP hK hD hN hZ hA hS hl
  have hF : CallFix p m c cX9_findFar 5 s _ _ RX9 := hF
  have hx := hF.1
  have hb := hF.2.1
  have hml := hF.2.2.1
  have hown := hF.2.2.2.1
  have hu : ∀ w ∈ wsU, w.before _ s = true := fun w h => hF.2.2.2.2 w (List.mem_cons_of_mem _ h)
  have hl : lv_has ls 5 [(0, .ref h0)] := hl
  refine lv_aload_n hx hb dX9_findFar_0 rfl (lv_at hl 0 rfl) ?_
  refine xg hF kf_X9_7 hK hP 0 rfl rfl dX9_findFar_1 ?_
  refine lv_iconst (v := 0) hx hb dX9_findFar_4 (by decide) ?_
  refine va_iald hx hb hK hP 1 0 rfl rfl (xin 0 449 (by decide) (by decide)) dX9_findFar_5 ?_
  refine xl_i (y := nI (P)) hs0 ?_
  refine lv_istore_n (lv' := [(1, .int (nI (P))), (0, .ref h0)]) hx hb dX9_findFar_6 rfl hl (by decide) rfl (fun ls hl => ?_)
  refine lv_iconst (v := 0) hx hb dX9_findFar_7 (by decide) ?_
  refine lv_istore_n (lv' := [(2, .int 0), (1, .int (nI (P))), (0, .ref h0)]) hx hb dX9_findFar_8 rfl hl (by decide) rfl (fun ls hl => ?_)
  suffices loop_9 : ∀ (n_9 : Nat) (i : Nat) (f8 : Nat → Int32) (g8 : Nat → Int32) (H : Heap) (locs : List Loc) (ls : Array Slot), P - i < n_9 → (i ≤ P) → (fw_II ms P i 0 f8 g8) → va_P D vwCl [(h0, .inr (9, [.ref ys, .ref yk, .ref yo, .ref yt, .int mk0, .ref yfa, .ref yfe, .int mL, .int mS, .int mM, .ref yro, .ref yhe, .ref ygr, .int mF, .int mC, .int mY, .ref yta, .int (nI (mz)), .int (nI (mf)), .int (nI (mt)), .int mv, .int mw, .ref ywa, .ref ybi, .ref ysi, .ref ynu, .ref ymo])), (ys, .inl (cI, 449, .inl ms)), (yfa, .inl (cI, 100, .inl f8)), (yfe, .inl (cI, 100, .inl g8))] H → va_D A [(h0, .inr (9, [.ref ys, .ref yk, .ref yo, .ref yt, .int mk0, .ref yfa, .ref yfe, .int mL, .int mS, .int mM, .ref yro, .ref yhe, .ref ygr, .int mF, .int mC, .int mY, .ref yta, .int (nI (mz)), .int (nI (mf)), .int (nI (mt)), .int mv, .int mw, .ref ywa, .ref ybi, .ref ysi, .ref ynu, .ref ymo])), (ys, .inl (cI, 449, .inl ms)), (yfa, .inl (cI, 100, .inl f8)), (yfe, .inl (cI, 100, .inl g8))] → va_S A s.heap H locs → lv_has ls 5 [(2, .int (nI (i))), (1, .int (nI (P))), (0, .ref h0)] → W p l e ({ frames := 1, cells := 0, slots := 0, locals := 28 }) s m ([.ref h0] : List Value).toArray below meth c H locs 0 0 (MQ below (XQv (fun (u : Int32 × (Nat → Int32) × (Nat → Int32)) => match u with | (mL2, fa2, fe2) => (fw_Fin ms P mL2 fa2 fe2)) D (fun (u : Int32 × (Nat → Int32) × (Nat → Int32)) => match u with | (mL2, fa2, fe2) => [(h0, .inr (9, [.ref ys, .ref yk, .ref yo, .ref yt, .int mk0, .ref yfa, .ref yfe, .int mL2, .int mS, .int mM, .ref yro, .ref yhe, .ref ygr, .int mF, .int mC, .int mY, .ref yta, .int (nI (mz)), .int (nI (mf)), .int (nI (mt)), .int mv, .int mw, .ref ywa, .ref ybi, .ref ysi, .ref ynu, .ref ymo])), (ys, .inl (cI, 449, .inl ms)), (yfa, .inl (cI, 100, .inl fa2)), (yfe, .inl (cI, 100, .inl fe2))]) A) ([.ref h0] : List Value).toArray s 0 0 A) (F0 m 9 ls []) by
    exact loop_9 _ 0 fa fe _ _ _ (Nat.lt_succ_self _) (by omega) fw_II.zero hP hD hS (lv_sub hl [0, 1, 2] rfl)
  intro n_9
  induction n_9 with
  | zero =>
    intro i f8 g8 H locs ls hm_9
    exact absurd hm_9 (Nat.not_lt_zero _)
  | succ n_9 ih_9 =>
    intro i f8 g8 H locs ls hm_9 hi hI hP hD hS hl
    refine lv_iload_n hx hb dX9_findFar_9 rfl (lv_at hl 0 rfl) ?_
    refine lv_iload_n hx hb dX9_findFar_10 rfl (lv_at hl 1 rfl) ?_
    refine lv_icmp_ge (tgt := 111) hx hb dX9_findFar_11 (by decide) (fun c_1 => ?_) (fun c_1 => ?_)
    · skip
      have nc_1 : P ≤ i := xn_le (a := P) (b := i) (by omega) (by omega) c_1
      refine lv_iconst (v := 0) hx hb dX9_findFar_111 (by decide) ?_
      refine lv_istore_n (lv' := [(2, .int 0), (1, .int (nI (P))), (0, .ref h0)]) hx hb dX9_findFar_112 rfl hl (by decide) rfl (fun ls hl => ?_)
      suffices loop_113 : ∀ (n_113 : Nat) (i3 : Nat) (f6 : Nat → Int32) (g6 : Nat → Int32) (H : Heap) (locs : List Loc) (ls : Array Slot), P - i3 < n_113 → (i3 ≤ P) → (fw_FW ms P i3 0 0 f6 g6) → va_P D vwCl [(h0, .inr (9, [.ref ys, .ref yk, .ref yo, .ref yt, .int mk0, .ref yfa, .ref yfe, .int mL, .int mS, .int mM, .ref yro, .ref yhe, .ref ygr, .int mF, .int mC, .int mY, .ref yta, .int (nI (mz)), .int (nI (mf)), .int (nI (mt)), .int mv, .int mw, .ref ywa, .ref ybi, .ref ysi, .ref ynu, .ref ymo])), (ys, .inl (cI, 449, .inl ms)), (yfa, .inl (cI, 100, .inl f6)), (yfe, .inl (cI, 100, .inl g6))] H → va_D A [(h0, .inr (9, [.ref ys, .ref yk, .ref yo, .ref yt, .int mk0, .ref yfa, .ref yfe, .int mL, .int mS, .int mM, .ref yro, .ref yhe, .ref ygr, .int mF, .int mC, .int mY, .ref yta, .int (nI (mz)), .int (nI (mf)), .int (nI (mt)), .int mv, .int mw, .ref ywa, .ref ybi, .ref ysi, .ref ynu, .ref ymo])), (ys, .inl (cI, 449, .inl ms)), (yfa, .inl (cI, 100, .inl f6)), (yfe, .inl (cI, 100, .inl g6))] → va_S A s.heap H locs → lv_has ls 5 [(2, .int (nI (i3))), (1, .int (nI (P))), (0, .ref h0)] → W p l e ({ frames := 1, cells := 0, slots := 0, locals := 28 }) s m ([.ref h0] : List Value).toArray below meth c H locs 0 0 (MQ below (XQv (fun (u : Int32 × (Nat → Int32) × (Nat → Int32)) => match u with | (mL2, fa2, fe2) => (fw_Fin ms P mL2 fa2 fe2)) D (fun (u : Int32 × (Nat → Int32) × (Nat → Int32)) => match u with | (mL2, fa2, fe2) => [(h0, .inr (9, [.ref ys, .ref yk, .ref yo, .ref yt, .int mk0, .ref yfa, .ref yfe, .int mL2, .int mS, .int mM, .ref yro, .ref yhe, .ref ygr, .int mF, .int mC, .int mY, .ref yta, .int (nI (mz)), .int (nI (mf)), .int (nI (mt)), .int mv, .int mw, .ref ywa, .ref ybi, .ref ysi, .ref ynu, .ref ymo])), (ys, .inl (cI, 449, .inl ms)), (yfa, .inl (cI, 100, .inl fa2)), (yfe, .inl (cI, 100, .inl fe2))]) A) ([.ref h0] : List Value).toArray s 0 0 A) (F0 m 113 ls []) by
        exact loop_113 _ 0 f8 g8 _ _ _ (Nat.lt_succ_self _) (by omega) (fw_FW.start (by omega) hsM hI (by omega)) hP hD hS (lv_sub hl [0, 1, 2] rfl)
      intro n_113
      induction n_113 with
      | zero =>
        intro i3 f6 g6 H locs ls hm_113
        exact absurd hm_113 (Nat.not_lt_zero _)
      | succ n_113 ih_113 =>
        intro i3 f6 g6 H locs ls hm_113 hi3 hF3 hP hD hS hl
        refine lv_iload_n hx hb dX9_findFar_113 rfl (lv_at hl 0 rfl) ?_
        refine lv_iload_n hx hb dX9_findFar_114 rfl (lv_at hl 1 rfl) ?_
        refine lv_icmp_ge (tgt := 160) hx hb dX9_findFar_115 (by decide) (fun c_2 => ?_) (fun c_2 => ?_)
        · skip
          have nc_2 : P ≤ i3 := xn_le (a := P) (b := i3) (by omega) (by omega) c_2
          refine lv_aload_n hx hb dX9_findFar_160 rfl (lv_at hl 2 rfl) ?_
          refine lv_iconst (v := 0) hx hb dX9_findFar_161 (by decide) ?_
          refine xp hF kf_X9_109 tyX9_ok nmX9 hK hP hD hS 0 rfl rfl rfl rfl (Nat.le_of_ble_eq_true rfl) dX9_findFar_162 (fun H locs hP hD hS => ?_)
          have hP : va_P D vwCl [(h0, .inr (9, [.ref ys, .ref yk, .ref yo, .ref yt, .int mk0, .ref yfa, .ref yfe, .int 0, .int mS, .int mM, .ref yro, .ref yhe, .ref ygr, .int mF, .int mC, .int mY, .ref yta, .int (nI (mz)), .int (nI (mf)), .int (nI (mt)), .int mv, .int mw, .ref ywa, .ref ybi, .ref ysi, .ref ynu, .ref ymo])), (ys, .inl (cI, 449, .inl ms)), (yfa, .inl (cI, 100, .inl f6)), (yfe, .inl (cI, 100, .inl g6))] H := hP
          have hD : va_D A [(h0, .inr (9, [.ref ys, .ref yk, .ref yo, .ref yt, .int mk0, .ref yfa, .ref yfe, .int 0, .int mS, .int mM, .ref yro, .ref yhe, .ref ygr, .int mF, .int mC, .int mY, .ref yta, .int (nI (mz)), .int (nI (mf)), .int (nI (mt)), .int mv, .int mw, .ref ywa, .ref ybi, .ref ysi, .ref ynu, .ref ymo])), (ys, .inl (cI, 449, .inl ms)), (yfa, .inl (cI, 100, .inl f6)), (yfe, .inl (cI, 100, .inl g6))] := hD
          refine lv_iconst (v := 0) hx hb dX9_findFar_165 (by decide) ?_
          refine lv_istore_n (lv' := [(2, .int 0), (1, .int (nI (P))), (0, .ref h0)]) hx hb dX9_findFar_166 rfl hl (by decide) rfl (fun ls hl => ?_)
          suffices loop_167 : ∀ (n_167 : Nat) (i6 : Nat) (b6 : Int32) (H : Heap) (locs : List Loc) (ls : Array Slot), P - i6 < n_167 → (i6 ≤ P) → (fw_LB P i6 b6 f6) → va_P D vwCl [(h0, .inr (9, [.ref ys, .ref yk, .ref yo, .ref yt, .int mk0, .ref yfa, .ref yfe, .int b6, .int mS, .int mM, .ref yro, .ref yhe, .ref ygr, .int mF, .int mC, .int mY, .ref yta, .int (nI (mz)), .int (nI (mf)), .int (nI (mt)), .int mv, .int mw, .ref ywa, .ref ybi, .ref ysi, .ref ynu, .ref ymo])), (ys, .inl (cI, 449, .inl ms)), (yfa, .inl (cI, 100, .inl f6)), (yfe, .inl (cI, 100, .inl g6))] H → va_D A [(h0, .inr (9, [.ref ys, .ref yk, .ref yo, .ref yt, .int mk0, .ref yfa, .ref yfe, .int b6, .int mS, .int mM, .ref yro, .ref yhe, .ref ygr, .int mF, .int mC, .int mY, .ref yta, .int (nI (mz)), .int (nI (mf)), .int (nI (mt)), .int mv, .int mw, .ref ywa, .ref ybi, .ref ysi, .ref ynu, .ref ymo])), (ys, .inl (cI, 449, .inl ms)), (yfa, .inl (cI, 100, .inl f6)), (yfe, .inl (cI, 100, .inl g6))] → va_S A s.heap H locs → lv_has ls 5 [(2, .int (nI (i6))), (1, .int (nI (P))), (0, .ref h0)] → W p l e ({ frames := 1, cells := 0, slots := 0, locals := 28 }) s m ([.ref h0] : List Value).toArray below meth c H locs 0 0 (MQ below (XQv (fun (u : Int32 × (Nat → Int32) × (Nat → Int32)) => match u with | (mL2, fa2, fe2) => (fw_Fin ms P mL2 fa2 fe2)) D (fun (u : Int32 × (Nat → Int32) × (Nat → Int32)) => match u with | (mL2, fa2, fe2) => [(h0, .inr (9, [.ref ys, .ref yk, .ref yo, .ref yt, .int mk0, .ref yfa, .ref yfe, .int mL2, .int mS, .int mM, .ref yro, .ref yhe, .ref ygr, .int mF, .int mC, .int mY, .ref yta, .int (nI (mz)), .int (nI (mf)), .int (nI (mt)), .int mv, .int mw, .ref ywa, .ref ybi, .ref ysi, .ref ynu, .ref ymo])), (ys, .inl (cI, 449, .inl ms)), (yfa, .inl (cI, 100, .inl fa2)), (yfe, .inl (cI, 100, .inl fe2))]) A) ([.ref h0] : List Value).toArray s 0 0 A) (F0 m 167 ls []) by
            exact loop_167 _ 0 0 _ _ _ (Nat.lt_succ_self _) (by omega) fw_LB.z hP hD hS (lv_sub hl [0, 1, 2] rfl)
          intro n_167
          induction n_167 with
          | zero =>
            intro i6 b6 H locs ls hm_167
            exact absurd hm_167 (Nat.not_lt_zero _)
          | succ n_167 ih_167 =>
            intro i6 b6 H locs ls hm_167 hi6 hb6 hP hD hS hl
            refine lv_iload_n hx hb dX9_findFar_167 rfl (lv_at hl 0 rfl) ?_
            refine lv_iload_n hx hb dX9_findFar_168 rfl (lv_at hl 1 rfl) ?_
            refine lv_icmp_ge (tgt := 206) hx hb dX9_findFar_169 (by decide) (fun c_3 => ?_) (fun c_3 => ?_)
            · skip
              have nc_3 : P ≤ i6 := xn_le (a := P) (b := i6) (by omega) (by omega) c_3
              exact W.vret hx hb hr (fun t ht hW => ⟨⟨(b6, f6, g6), rfl, (fw_FW.fin hF3 (by omega) hb6 (by omega)), by rw [ht]; exact hP.sub [0, 1, 2, 3] rfl, hD.sub [0, 1, 2, 3] (by decide) rfl⟩, hS.F ht⟩) hS.2.2 dX9_findFar_206 hlk
            · skip
              have nc_3 : i6 < P := xn_nle (a := P) (b := i6) (by omega) (by omega) c_3
              refine lv_aload_n hx hb dX9_findFar_172 rfl (lv_at hl 2 rfl) ?_
              refine lv_aload_n hx hb dX9_findFar_173 rfl (lv_at hl 2 rfl) ?_
              refine xg hF kf_X9_109 hK hP 0 rfl rfl dX9_findFar_174 ?_
              refine lv_if_ne (tgt := 192) hx hb dX9_findFar_177 (by decide) (fun c_4 => ?_) (fun c_4 => ?_)
              · skip
                refine lv_iconst (v := 1) hx hb dX9_findFar_192 (by decide) ?_
                refine lv_goto (tgt := 197) hx hb dX9_findFar_193 (by decide) ?_
                refine xp hF kf_X9_109 tyX9_ok nmX9 hK hP hD hS 0 rfl rfl rfl rfl (Nat.le_of_ble_eq_true rfl) dX9_findFar_197 (fun H locs hP hD hS => ?_)
                have hP : va_P D vwCl [(h0, .inr (9, [.ref ys, .ref yk, .ref yo, .ref yt, .int mk0, .ref yfa, .ref yfe, .int 1, .int mS, .int mM, .ref yro, .ref yhe, .ref ygr, .int mF, .int mC, .int mY, .ref yta, .int (nI (mz)), .int (nI (mf)), .int (nI (mt)), .int mv, .int mw, .ref ywa, .ref ybi, .ref ysi, .ref ynu, .ref ymo])), (ys, .inl (cI, 449, .inl ms)), (yfa, .inl (cI, 100, .inl f6)), (yfe, .inl (cI, 100, .inl g6))] H := hP
                have hD : va_D A [(h0, .inr (9, [.ref ys, .ref yk, .ref yo, .ref yt, .int mk0, .ref yfa, .ref yfe, .int 1, .int mS, .int mM, .ref yro, .ref yhe, .ref ygr, .int mF, .int mC, .int mY, .ref yta, .int (nI (mz)), .int (nI (mf)), .int (nI (mt)), .int mv, .int mw, .ref ywa, .ref ybi, .ref ysi, .ref ynu, .ref ymo])), (ys, .inl (cI, 449, .inl ms)), (yfa, .inl (cI, 100, .inl f6)), (yfe, .inl (cI, 100, .inl g6))] := hD
                refine lv_iinc (v := nI (i6 + 1)) (lv' := [(2, .int (nI (i6 + 1))), (1, .int (nI (P))), (0, .ref h0)]) hx hb dX9_findFar_200 hl (k := 0) rfl (nI_1 (i6)) (by decide) rfl (fun ls hl => ?_)
                refine lv_goto (tgt := 167) hx hb dX9_findFar_203 (by decide) ?_
                exact ih_167 (i6 + 1) 1 _ _ _ (by omega) (by omega) (by first | exact fw_LB.t hb6 (by assumption) | exact fw_LB.y (by omega) (by assumption) | exact fw_LB.n hb6 (by assumption) (by assumption)) (hP.sub [0, 1, 2, 3] rfl) (hD.sub [0, 1, 2, 3] (by decide) rfl) hS (lv_sub hl [0, 1, 2] rfl)
              · skip
                refine lv_aload_n hx hb dX9_findFar_180 rfl (lv_at hl 2 rfl) ?_
                refine xg hF kf_X9_22 hK hP 0 rfl rfl dX9_findFar_181 ?_
                refine lv_bipush (v := 11) hx hb dX9_findFar_184 (by decide) ?_
                refine lv_iload_n hx hb dX9_findFar_186 rfl (lv_at hl 0 rfl) ?_
                refine lv_imul hx hb dX9_findFar_187 ?_
                refine xl_i (y := nI (11 * i6)) (pk_mul 11 i6) ?_
                refine va_iald hx hb hK hP 2 0 rfl rfl (vp_in_nI (show 11 * i6 < 100 by omega) (by decide)) dX9_findFar_188 ?_
                refine xl_i (y := f6 (11 * i6)) (congrArg f6 (nI_clamp (show 11 * i6 < 2 ^ 31 by omega))) ?_
                refine lv_if_ge (tgt := 196) hx hb dX9_findFar_189 (by decide) (fun c_5 => ?_) (fun c_5 => ?_)
                · skip
                  refine lv_iconst (v := 0) hx hb dX9_findFar_196 (by decide) ?_
                  refine xp hF kf_X9_109 tyX9_ok nmX9 hK hP hD hS 0 rfl rfl rfl rfl (Nat.le_of_ble_eq_true rfl) dX9_findFar_197 (fun H locs hP hD hS => ?_)
                  have hP : va_P D vwCl [(h0, .inr (9, [.ref ys, .ref yk, .ref yo, .ref yt, .int mk0, .ref yfa, .ref yfe, .int 0, .int mS, .int mM, .ref yro, .ref yhe, .ref ygr, .int mF, .int mC, .int mY, .ref yta, .int (nI (mz)), .int (nI (mf)), .int (nI (mt)), .int mv, .int mw, .ref ywa, .ref ybi, .ref ysi, .ref ynu, .ref ymo])), (ys, .inl (cI, 449, .inl ms)), (yfa, .inl (cI, 100, .inl f6)), (yfe, .inl (cI, 100, .inl g6))] H := hP
                  have hD : va_D A [(h0, .inr (9, [.ref ys, .ref yk, .ref yo, .ref yt, .int mk0, .ref yfa, .ref yfe, .int 0, .int mS, .int mM, .ref yro, .ref yhe, .ref ygr, .int mF, .int mC, .int mY, .ref yta, .int (nI (mz)), .int (nI (mf)), .int (nI (mt)), .int mv, .int mw, .ref ywa, .ref ybi, .ref ysi, .ref ynu, .ref ymo])), (ys, .inl (cI, 449, .inl ms)), (yfa, .inl (cI, 100, .inl f6)), (yfe, .inl (cI, 100, .inl g6))] := hD
                  refine lv_iinc (v := nI (i6 + 1)) (lv' := [(2, .int (nI (i6 + 1))), (1, .int (nI (P))), (0, .ref h0)]) hx hb dX9_findFar_200 hl (k := 0) rfl (nI_1 (i6)) (by decide) rfl (fun ls hl => ?_)
                  refine lv_goto (tgt := 167) hx hb dX9_findFar_203 (by decide) ?_
                  exact ih_167 (i6 + 1) 0 _ _ _ (by omega) (by omega) (by first | exact fw_LB.t hb6 (by assumption) | exact fw_LB.y (by omega) (by assumption) | exact fw_LB.n hb6 (by assumption) (by assumption)) (hP.sub [0, 1, 2, 3] rfl) (hD.sub [0, 1, 2, 3] (by decide) rfl) hS (lv_sub hl [0, 1, 2] rfl)
                · skip
                  refine lv_iconst (v := 1) hx hb dX9_findFar_192 (by decide) ?_
                  refine lv_goto (tgt := 197) hx hb dX9_findFar_193 (by decide) ?_
                  refine xp hF kf_X9_109 tyX9_ok nmX9 hK hP hD hS 0 rfl rfl rfl rfl (Nat.le_of_ble_eq_true rfl) dX9_findFar_197 (fun H locs hP hD hS => ?_)
                  have hP : va_P D vwCl [(h0, .inr (9, [.ref ys, .ref yk, .ref yo, .ref yt, .int mk0, .ref yfa, .ref yfe, .int 1, .int mS, .int mM, .ref yro, .ref yhe, .ref ygr, .int mF, .int mC, .int mY, .ref yta, .int (nI (mz)), .int (nI (mf)), .int (nI (mt)), .int mv, .int mw, .ref ywa, .ref ybi, .ref ysi, .ref ynu, .ref ymo])), (ys, .inl (cI, 449, .inl ms)), (yfa, .inl (cI, 100, .inl f6)), (yfe, .inl (cI, 100, .inl g6))] H := hP
                  have hD : va_D A [(h0, .inr (9, [.ref ys, .ref yk, .ref yo, .ref yt, .int mk0, .ref yfa, .ref yfe, .int 1, .int mS, .int mM, .ref yro, .ref yhe, .ref ygr, .int mF, .int mC, .int mY, .ref yta, .int (nI (mz)), .int (nI (mf)), .int (nI (mt)), .int mv, .int mw, .ref ywa, .ref ybi, .ref ysi, .ref ynu, .ref ymo])), (ys, .inl (cI, 449, .inl ms)), (yfa, .inl (cI, 100, .inl f6)), (yfe, .inl (cI, 100, .inl g6))] := hD
                  refine lv_iinc (v := nI (i6 + 1)) (lv' := [(2, .int (nI (i6 + 1))), (1, .int (nI (P))), (0, .ref h0)]) hx hb dX9_findFar_200 hl (k := 0) rfl (nI_1 (i6)) (by decide) rfl (fun ls hl => ?_)
                  refine lv_goto (tgt := 167) hx hb dX9_findFar_203 (by decide) ?_
                  exact ih_167 (i6 + 1) 1 _ _ _ (by omega) (by omega) (by first | exact fw_LB.t hb6 (by assumption) | exact fw_LB.y (by omega) (by assumption) | exact fw_LB.n hb6 (by assumption) (by assumption)) (hP.sub [0, 1, 2, 3] rfl) (hD.sub [0, 1, 2, 3] (by decide) rfl) hS (lv_sub hl [0, 1, 2] rfl)
        · skip
          have nc_2 : i3 < P := xn_nle (a := P) (b := i3) (by omega) (by omega) c_2
          refine lv_iconst (v := 0) hx hb dX9_findFar_118 (by decide) ?_
          refine lv_istore_n (lv' := [(3, .int 0), (2, .int (nI (i3))), (1, .int (nI (P))), (0, .ref h0)]) hx hb dX9_findFar_119 rfl hl (by decide) rfl (fun ls hl => ?_)
          suffices loop_120 : ∀ (n_120 : Nat) (i4 : Nat) (f5 : Nat → Int32) (g5 : Nat → Int32) (H : Heap) (locs : List Loc) (ls : Array Slot), P - i4 < n_120 → (i4 ≤ P) → (fw_FW ms P i3 i4 0 f5 g5) → va_P D vwCl [(h0, .inr (9, [.ref ys, .ref yk, .ref yo, .ref yt, .int mk0, .ref yfa, .ref yfe, .int mL, .int mS, .int mM, .ref yro, .ref yhe, .ref ygr, .int mF, .int mC, .int mY, .ref yta, .int (nI (mz)), .int (nI (mf)), .int (nI (mt)), .int mv, .int mw, .ref ywa, .ref ybi, .ref ysi, .ref ynu, .ref ymo])), (ys, .inl (cI, 449, .inl ms)), (yfa, .inl (cI, 100, .inl f5)), (yfe, .inl (cI, 100, .inl g5))] H → va_D A [(h0, .inr (9, [.ref ys, .ref yk, .ref yo, .ref yt, .int mk0, .ref yfa, .ref yfe, .int mL, .int mS, .int mM, .ref yro, .ref yhe, .ref ygr, .int mF, .int mC, .int mY, .ref yta, .int (nI (mz)), .int (nI (mf)), .int (nI (mt)), .int mv, .int mw, .ref ywa, .ref ybi, .ref ysi, .ref ynu, .ref ymo])), (ys, .inl (cI, 449, .inl ms)), (yfa, .inl (cI, 100, .inl f5)), (yfe, .inl (cI, 100, .inl g5))] → va_S A s.heap H locs → lv_has ls 5 [(3, .int (nI (i4))), (2, .int (nI (i3))), (1, .int (nI (P))), (0, .ref h0)] → W p l e ({ frames := 1, cells := 0, slots := 0, locals := 28 }) s m ([.ref h0] : List Value).toArray below meth c H locs 0 0 (MQ below (XQv (fun (u : Int32 × (Nat → Int32) × (Nat → Int32)) => match u with | (mL2, fa2, fe2) => (fw_Fin ms P mL2 fa2 fe2)) D (fun (u : Int32 × (Nat → Int32) × (Nat → Int32)) => match u with | (mL2, fa2, fe2) => [(h0, .inr (9, [.ref ys, .ref yk, .ref yo, .ref yt, .int mk0, .ref yfa, .ref yfe, .int mL2, .int mS, .int mM, .ref yro, .ref yhe, .ref ygr, .int mF, .int mC, .int mY, .ref yta, .int (nI (mz)), .int (nI (mf)), .int (nI (mt)), .int mv, .int mw, .ref ywa, .ref ybi, .ref ysi, .ref ynu, .ref ymo])), (ys, .inl (cI, 449, .inl ms)), (yfa, .inl (cI, 100, .inl fa2)), (yfe, .inl (cI, 100, .inl fe2))]) A) ([.ref h0] : List Value).toArray s 0 0 A) (F0 m 120 ls []) by
            exact loop_120 _ 0 f6 g6 _ _ _ (Nat.lt_succ_self _) (by omega) hF3 hP hD hS (lv_sub hl [0, 1, 2, 3] rfl)
          intro n_120
          induction n_120 with
          | zero =>
            intro i4 f5 g5 H locs ls hm_120
            exact absurd hm_120 (Nat.not_lt_zero _)
          | succ n_120 ih_120 =>
            intro i4 f5 g5 H locs ls hm_120 hi4 hF4 hP hD hS hl
            refine lv_iload_n hx hb dX9_findFar_120 rfl (lv_at hl 0 rfl) ?_
            refine lv_iload_n hx hb dX9_findFar_121 rfl (lv_at hl 2 rfl) ?_
            refine lv_icmp_ge (tgt := 154) hx hb dX9_findFar_122 (by decide) (fun c_6 => ?_) (fun c_6 => ?_)
            · skip
              have nc_6 : P ≤ i4 := xn_le (a := P) (b := i4) (by omega) (by omega) c_6
              refine lv_iinc (v := nI (i3 + 1)) (lv' := [(2, .int (nI (i3 + 1))), (3, .int (nI (i4))), (1, .int (nI (P))), (0, .ref h0)]) hx hb dX9_findFar_154 hl (k := 1) rfl (nI_1 (i3)) (by decide) rfl (fun ls hl => ?_)
              refine lv_goto (tgt := 113) hx hb dX9_findFar_157 (by decide) ?_
              exact ih_113 (i3 + 1) f5 g5 _ _ _ (by omega) (by omega) (fw_FW.next hF4 (by omega) (by omega) (by omega)) (hP.sub [0, 1, 2, 3] rfl) (hD.sub [0, 1, 2, 3] (by decide) rfl) hS (lv_sub hl [0, 2, 3] rfl)
            · skip
              have nc_6 : i4 < P := xn_nle (a := P) (b := i4) (by omega) (by omega) c_6
              refine lv_iconst (v := 0) hx hb dX9_findFar_125 (by decide) ?_
              refine lv_istore (lv' := [(4, .int 0), (3, .int (nI (i4))), (2, .int (nI (i3))), (1, .int (nI (P))), (0, .ref h0)]) hx hb dX9_findFar_126 hl (by decide) rfl (fun ls hl => ?_)
              suffices loop_128 : ∀ (n_128 : Nat) (i5 : Nat) (f4 : Nat → Int32) (g4 : Nat → Int32) (H : Heap) (locs : List Loc) (ls : Array Slot), P - i5 < n_128 → (i5 ≤ P) → (fw_FW ms P i3 i4 i5 f4 g4) → va_P D vwCl [(h0, .inr (9, [.ref ys, .ref yk, .ref yo, .ref yt, .int mk0, .ref yfa, .ref yfe, .int mL, .int mS, .int mM, .ref yro, .ref yhe, .ref ygr, .int mF, .int mC, .int mY, .ref yta, .int (nI (mz)), .int (nI (mf)), .int (nI (mt)), .int mv, .int mw, .ref ywa, .ref ybi, .ref ysi, .ref ynu, .ref ymo])), (ys, .inl (cI, 449, .inl ms)), (yfa, .inl (cI, 100, .inl f4)), (yfe, .inl (cI, 100, .inl g4))] H → va_D A [(h0, .inr (9, [.ref ys, .ref yk, .ref yo, .ref yt, .int mk0, .ref yfa, .ref yfe, .int mL, .int mS, .int mM, .ref yro, .ref yhe, .ref ygr, .int mF, .int mC, .int mY, .ref yta, .int (nI (mz)), .int (nI (mf)), .int (nI (mt)), .int mv, .int mw, .ref ywa, .ref ybi, .ref ysi, .ref ynu, .ref ymo])), (ys, .inl (cI, 449, .inl ms)), (yfa, .inl (cI, 100, .inl f4)), (yfe, .inl (cI, 100, .inl g4))] → va_S A s.heap H locs → lv_has ls 5 [(4, .int (nI (i5))), (3, .int (nI (i4))), (2, .int (nI (i3))), (1, .int (nI (P))), (0, .ref h0)] → W p l e ({ frames := 1, cells := 0, slots := 0, locals := 28 }) s m ([.ref h0] : List Value).toArray below meth c H locs 0 0 (MQ below (XQv (fun (u : Int32 × (Nat → Int32) × (Nat → Int32)) => match u with | (mL2, fa2, fe2) => (fw_Fin ms P mL2 fa2 fe2)) D (fun (u : Int32 × (Nat → Int32) × (Nat → Int32)) => match u with | (mL2, fa2, fe2) => [(h0, .inr (9, [.ref ys, .ref yk, .ref yo, .ref yt, .int mk0, .ref yfa, .ref yfe, .int mL2, .int mS, .int mM, .ref yro, .ref yhe, .ref ygr, .int mF, .int mC, .int mY, .ref yta, .int (nI (mz)), .int (nI (mf)), .int (nI (mt)), .int mv, .int mw, .ref ywa, .ref ybi, .ref ysi, .ref ynu, .ref ymo])), (ys, .inl (cI, 449, .inl ms)), (yfa, .inl (cI, 100, .inl fa2)), (yfe, .inl (cI, 100, .inl fe2))]) A) ([.ref h0] : List Value).toArray s 0 0 A) (F0 m 128 ls []) by
                exact loop_128 _ 0 f5 g5 _ _ _ (Nat.lt_succ_self _) (by omega) hF4 hP hD hS (lv_sub hl [0, 1, 2, 3, 4] rfl)
              intro n_128
              induction n_128 with
              | zero =>
                intro i5 f4 g4 H locs ls hm_128
                exact absurd hm_128 (Nat.not_lt_zero _)
              | succ n_128 ih_128 =>
                intro i5 f4 g4 H locs ls hm_128 hi5 hF5 hP hD hS hl
                refine lv_iload hx hb dX9_findFar_128 (lv_at hl 0 rfl) ?_
                refine lv_iload_n hx hb dX9_findFar_130 rfl (lv_at hl 3 rfl) ?_
                refine lv_icmp_ge (tgt := 148) hx hb dX9_findFar_131 (by decide) (fun c_7 => ?_) (fun c_7 => ?_)
                · skip
                  have nc_7 : P ≤ i5 := xn_le (a := P) (b := i5) (by omega) (by omega) c_7
                  refine lv_iinc (v := nI (i4 + 1)) (lv' := [(3, .int (nI (i4 + 1))), (4, .int (nI (i5))), (2, .int (nI (i3))), (1, .int (nI (P))), (0, .ref h0)]) hx hb dX9_findFar_148 hl (k := 1) rfl (nI_1 (i4)) (by decide) rfl (fun ls hl => ?_)
                  refine lv_goto (tgt := 120) hx hb dX9_findFar_151 (by decide) ?_
                  exact ih_120 (i4 + 1) f4 g4 _ _ _ (by omega) (by omega) (fw_FW.row hF5 (by omega)) (hP.sub [0, 1, 2, 3] rfl) (hD.sub [0, 1, 2, 3] (by decide) rfl) hS (lv_sub hl [0, 2, 3, 4] rfl)
                · skip
                  have nc_7 : i5 < P := xn_nle (a := P) (b := i5) (by omega) (by omega) c_7
                  refine lv_aload_n hx hb dX9_findFar_134 rfl (lv_at hl 4 rfl) ?_
                  refine lv_iload_n hx hb dX9_findFar_135 rfl (lv_at hl 1 rfl) ?_
                  refine lv_iload_n hx hb dX9_findFar_136 rfl (lv_at hl 2 rfl) ?_
                  refine lv_iload hx hb dX9_findFar_137 (lv_at hl 0 rfl) ?_
                  refine xc_Vv (wr := [(ys, .inl (cI, 449, .inl ms))]) hF (c_X9_joins l D cI cJ cZ cS ta sa sv H.size h0 ys yk yo yt mk0 yfa yfe mL mS mM yro yhe ygr mF mC mY yta mz mf mt mv mw ywa ybi ysi ynu ymo f4 g4 i4 i3 i5 (by omega) (by omega) (by omega)) kv_X9_105 ⟨rfl, rfl, Nat.le_of_ble_eq_true rfl, Nat.le_of_ble_eq_true rfl⟩ ⟨Nat.le_of_ble_eq_true rfl, Nat.le_of_ble_eq_true rfl⟩ hK hN hZ hP hD hS hA [0, 2, 3] [1] rfl rfl rfl rfl (by decide) 0 rfl rfl rfl rfl hl.1 rfl (Nat.le_of_ble_eq_true rfl) dX9_findFar_139 (fun u_r_8 H locs hw_r_8 hP hD hS => ?_)
                  obtain ⟨fa2_9, fe2_10⟩ := u_r_8
                  try dsimp only at hw_r_8
                  have i_11 := hw_r_8
                  have hP : va_P D vwCl [(ys, .inl (cI, 449, .inl ms)), (h0, .inr (9, [.ref ys, .ref yk, .ref yo, .ref yt, .int mk0, .ref yfa, .ref yfe, .int mL, .int mS, .int mM, .ref yro, .ref yhe, .ref ygr, .int mF, .int mC, .int mY, .ref yta, .int (nI (mz)), .int (nI (mf)), .int (nI (mt)), .int mv, .int mw, .ref ywa, .ref ybi, .ref ysi, .ref ynu, .ref ymo])), (yfa, .inl (cI, 100, .inl fa2_9)), (yfe, .inl (cI, 100, .inl fe2_10))] H := hP
                  have hD : va_D A [(ys, .inl (cI, 449, .inl ms)), (h0, .inr (9, [.ref ys, .ref yk, .ref yo, .ref yt, .int mk0, .ref yfa, .ref yfe, .int mL, .int mS, .int mM, .ref yro, .ref yhe, .ref ygr, .int mF, .int mC, .int mY, .ref yta, .int (nI (mz)), .int (nI (mf)), .int (nI (mt)), .int mv, .int mw, .ref ywa, .ref ybi, .ref ysi, .ref ynu, .ref ymo])), (yfa, .inl (cI, 100, .inl fa2_9)), (yfe, .inl (cI, 100, .inl fe2_10))] := hD
                  refine lv_iinc (v := nI (i5 + 1)) (lv' := [(4, .int (nI (i5 + 1))), (3, .int (nI (i4))), (2, .int (nI (i3))), (1, .int (nI (P))), (0, .ref h0)]) hx hb dX9_findFar_142 hl (k := 0) rfl (nI_1 (i5)) (by decide) rfl (fun ls hl => ?_)
                  refine lv_goto (tgt := 128) hx hb dX9_findFar_145 (by decide) ?_
                  exact ih_128 (i5 + 1) fa2_9 fe2_10 _ _ _ (by omega) (by omega) (fw_FW.step hF5 (by omega) (by omega) (by omega) (by omega) i_11) (hP.sub [1, 0, 2, 3] rfl) (hD.sub [1, 0, 2, 3] (by decide) rfl) hS (lv_sub hl [0, 1, 2, 3, 4] rfl)
    · skip
      have nc_1 : i < P := xn_nle (a := P) (b := i) (by omega) (by omega) c_1
      refine lv_iconst (v := 0) hx hb dX9_findFar_14 (by decide) ?_
      refine lv_istore_n (lv' := [(3, .int 0), (2, .int (nI (i))), (1, .int (nI (P))), (0, .ref h0)]) hx hb dX9_findFar_15 rfl hl (by decide) rfl (fun ls hl => ?_)
      suffices loop_16 : ∀ (n_16 : Nat) (i2 : Nat) (f7 : Nat → Int32) (g7 : Nat → Int32) (H : Heap) (locs : List Loc) (ls : Array Slot), P - i2 < n_16 → (i2 ≤ P) → (fw_II ms P i i2 f7 g7) → va_P D vwCl [(h0, .inr (9, [.ref ys, .ref yk, .ref yo, .ref yt, .int mk0, .ref yfa, .ref yfe, .int mL, .int mS, .int mM, .ref yro, .ref yhe, .ref ygr, .int mF, .int mC, .int mY, .ref yta, .int (nI (mz)), .int (nI (mf)), .int (nI (mt)), .int mv, .int mw, .ref ywa, .ref ybi, .ref ysi, .ref ynu, .ref ymo])), (ys, .inl (cI, 449, .inl ms)), (yfa, .inl (cI, 100, .inl f7)), (yfe, .inl (cI, 100, .inl g7))] H → va_D A [(h0, .inr (9, [.ref ys, .ref yk, .ref yo, .ref yt, .int mk0, .ref yfa, .ref yfe, .int mL, .int mS, .int mM, .ref yro, .ref yhe, .ref ygr, .int mF, .int mC, .int mY, .ref yta, .int (nI (mz)), .int (nI (mf)), .int (nI (mt)), .int mv, .int mw, .ref ywa, .ref ybi, .ref ysi, .ref ynu, .ref ymo])), (ys, .inl (cI, 449, .inl ms)), (yfa, .inl (cI, 100, .inl f7)), (yfe, .inl (cI, 100, .inl g7))] → va_S A s.heap H locs → lv_has ls 5 [(3, .int (nI (i2))), (2, .int (nI (i))), (1, .int (nI (P))), (0, .ref h0)] → W p l e ({ frames := 1, cells := 0, slots := 0, locals := 28 }) s m ([.ref h0] : List Value).toArray below meth c H locs 0 0 (MQ below (XQv (fun (u : Int32 × (Nat → Int32) × (Nat → Int32)) => match u with | (mL2, fa2, fe2) => (fw_Fin ms P mL2 fa2 fe2)) D (fun (u : Int32 × (Nat → Int32) × (Nat → Int32)) => match u with | (mL2, fa2, fe2) => [(h0, .inr (9, [.ref ys, .ref yk, .ref yo, .ref yt, .int mk0, .ref yfa, .ref yfe, .int mL2, .int mS, .int mM, .ref yro, .ref yhe, .ref ygr, .int mF, .int mC, .int mY, .ref yta, .int (nI (mz)), .int (nI (mf)), .int (nI (mt)), .int mv, .int mw, .ref ywa, .ref ybi, .ref ysi, .ref ynu, .ref ymo])), (ys, .inl (cI, 449, .inl ms)), (yfa, .inl (cI, 100, .inl fa2)), (yfe, .inl (cI, 100, .inl fe2))]) A) ([.ref h0] : List Value).toArray s 0 0 A) (F0 m 16 ls []) by
        exact loop_16 _ 0 f8 g8 _ _ _ (Nat.lt_succ_self _) (by omega) hI hP hD hS (lv_sub hl [0, 1, 2, 3] rfl)
      intro n_16
      induction n_16 with
      | zero =>
        intro i2 f7 g7 H locs ls hm_16
        exact absurd hm_16 (Nat.not_lt_zero _)
      | succ n_16 ih_16 =>
        intro i2 f7 g7 H locs ls hm_16 hi2 hI2 hP hD hS hl
        refine lv_iload_n hx hb dX9_findFar_16 rfl (lv_at hl 0 rfl) ?_
        refine lv_iload_n hx hb dX9_findFar_17 rfl (lv_at hl 2 rfl) ?_
        refine lv_icmp_ge (tgt := 105) hx hb dX9_findFar_18 (by decide) (fun c_12 => ?_) (fun c_12 => ?_)
        · skip
          have nc_12 : P ≤ i2 := xn_le (a := P) (b := i2) (by omega) (by omega) c_12
          refine lv_iinc (v := nI (i + 1)) (lv' := [(2, .int (nI (i + 1))), (3, .int (nI (i2))), (1, .int (nI (P))), (0, .ref h0)]) hx hb dX9_findFar_105 hl (k := 1) rfl (nI_1 (i)) (by decide) rfl (fun ls hl => ?_)
          refine lv_goto (tgt := 9) hx hb dX9_findFar_108 (by decide) ?_
          exact ih_9 (i + 1) f7 g7 _ _ _ (by omega) (by omega) (fw_II.row hI2 (by omega)) (hP.sub [0, 1, 2, 3] rfl) (hD.sub [0, 1, 2, 3] (by decide) rfl) hS (lv_sub hl [0, 2, 3] rfl)
        · skip
          have nc_12 : i2 < P := xn_nle (a := P) (b := i2) (by omega) (by omega) c_12
          refine lv_iload_n hx hb dX9_findFar_21 rfl (lv_at hl 1 rfl) ?_
          refine lv_iload_n hx hb dX9_findFar_22 rfl (lv_at hl 0 rfl) ?_
          refine lv_icmp_eq (tgt := 39) hx hb dX9_findFar_23 (by decide) (fun c_13 => ?_) (fun c_13 => ?_)
          · skip
            have nc_13 : i = i2 := xn_eq (a := i) (b := i2) (by omega) (by omega) c_13
            refine lv_iconst (v := 0) hx hb dX9_findFar_39 (by decide) ?_
            refine lv_istore (lv' := [(4, .int 0), (3, .int (nI (i2))), (2, .int (nI (i))), (1, .int (nI (P))), (0, .ref h0)]) hx hb dX9_findFar_40 hl (by decide) rfl (fun ls hl => ?_)
            refine lv_aload_n hx hb dX9_findFar_42 rfl (lv_at hl 4 rfl) ?_
            refine xg hF kf_X9_22 hK hP 0 rfl rfl dX9_findFar_43 ?_
            refine lv_bipush (v := 10) hx hb dX9_findFar_46 (by decide) ?_
            refine lv_iload_n hx hb dX9_findFar_48 rfl (lv_at hl 2 rfl) ?_
            refine lv_imul hx hb dX9_findFar_49 ?_
            refine xl_i (y := nI (10 * i)) (pk_mul 10 i) ?_
            refine lv_iload_n hx hb dX9_findFar_50 rfl (lv_at hl 1 rfl) ?_
            refine lv_iadd hx hb dX9_findFar_51 ?_
            refine xl_i (y := nI (10 * i + i2)) (nI_add (10 * i) i2) ?_
            refine lv_iload_n hx hb dX9_findFar_52 rfl (lv_at hl 2 rfl) ?_
            refine lv_iload_n hx hb dX9_findFar_53 rfl (lv_at hl 1 rfl) ?_
            refine lv_icmp_ne (tgt := 61) hx hb dX9_findFar_54 (by decide) (fun c_14 => ?_) (fun c_14 => ?_)
            · skip
              have nc_14 : i ≠ i2 := xn_ne (a := i) (b := i2) (by omega) (by omega) c_14
              refine lv_iload hx hb dX9_findFar_61 (lv_at hl 0 rfl) ?_
              refine lv_if_eq (tgt := 75) hx hb dX9_findFar_63 (by decide) (fun c_15 => ?_) (fun c_15 => absurd (by decide) c_15)
              refine lv_ldc (v := 100000000) hx hb hown (hu _ uw701) dX9_findFar_75 ?_
              refine va_iast hx hb hK hP hD hS 2 0 rfl rfl (vp_in_nI (show 10 * i + i2 < 100 by omega) (by decide)) dX9_findFar_77 (fun H locs hP hD hS => ?_)
              rw [nI_clamp (show 10 * i + i2 < 2 ^ 31 by omega)] at hP hD
              obtain ⟨f_16, ef_16⟩ : ∃ g, g = upd f7 (10 * i + i2) 100000000 := ⟨_, rfl⟩
              rw [← ef_16] at hP hD
              have hP : va_P D vwCl [(h0, .inr (9, [.ref ys, .ref yk, .ref yo, .ref yt, .int mk0, .ref yfa, .ref yfe, .int mL, .int mS, .int mM, .ref yro, .ref yhe, .ref ygr, .int mF, .int mC, .int mY, .ref yta, .int (nI (mz)), .int (nI (mf)), .int (nI (mt)), .int mv, .int mw, .ref ywa, .ref ybi, .ref ysi, .ref ynu, .ref ymo])), (ys, .inl (cI, 449, .inl ms)), (yfa, .inl (cI, 100, .inl f_16)), (yfe, .inl (cI, 100, .inl g7))] H := hP
              have hD : va_D A [(h0, .inr (9, [.ref ys, .ref yk, .ref yo, .ref yt, .int mk0, .ref yfa, .ref yfe, .int mL, .int mS, .int mM, .ref yro, .ref yhe, .ref ygr, .int mF, .int mC, .int mY, .ref yta, .int (nI (mz)), .int (nI (mf)), .int (nI (mt)), .int mv, .int mw, .ref ywa, .ref ybi, .ref ysi, .ref ynu, .ref ymo])), (ys, .inl (cI, 449, .inl ms)), (yfa, .inl (cI, 100, .inl f_16)), (yfe, .inl (cI, 100, .inl g7))] := hD
              refine lv_aload_n hx hb dX9_findFar_78 rfl (lv_at hl 4 rfl) ?_
              refine xg hF kf_X9_25 hK hP 0 rfl rfl dX9_findFar_79 ?_
              refine lv_bipush (v := 10) hx hb dX9_findFar_82 (by decide) ?_
              refine lv_iload_n hx hb dX9_findFar_84 rfl (lv_at hl 2 rfl) ?_
              refine lv_imul hx hb dX9_findFar_85 ?_
              refine xl_i (y := nI (10 * i)) (pk_mul 10 i) ?_
              refine lv_iload_n hx hb dX9_findFar_86 rfl (lv_at hl 1 rfl) ?_
              refine lv_iadd hx hb dX9_findFar_87 ?_
              refine xl_i (y := nI (10 * i + i2)) (nI_add (10 * i) i2) ?_
              refine lv_iload_n hx hb dX9_findFar_88 rfl (lv_at hl 2 rfl) ?_
              refine lv_iload_n hx hb dX9_findFar_89 rfl (lv_at hl 1 rfl) ?_
              refine lv_icmp_ne (tgt := 97) hx hb dX9_findFar_90 (by decide) (fun c_17 => ?_) (fun c_17 => ?_)
              · skip
                have nc_17 : i ≠ i2 := xn_ne (a := i) (b := i2) (by omega) (by omega) c_17
                refine lv_iconst (v := 1) hx hb dX9_findFar_97 (by decide) ?_
                refine va_iast hx hb hK hP hD hS 3 0 rfl rfl (vp_in_nI (show 10 * i + i2 < 100 by omega) (by decide)) dX9_findFar_98 (fun H locs hP hD hS => ?_)
                rw [nI_clamp (show 10 * i + i2 < 2 ^ 31 by omega)] at hP hD
                obtain ⟨f_18, ef_18⟩ : ∃ g, g = upd g7 (10 * i + i2) 1 := ⟨_, rfl⟩
                rw [← ef_18] at hP hD
                have hP : va_P D vwCl [(h0, .inr (9, [.ref ys, .ref yk, .ref yo, .ref yt, .int mk0, .ref yfa, .ref yfe, .int mL, .int mS, .int mM, .ref yro, .ref yhe, .ref ygr, .int mF, .int mC, .int mY, .ref yta, .int (nI (mz)), .int (nI (mf)), .int (nI (mt)), .int mv, .int mw, .ref ywa, .ref ybi, .ref ysi, .ref ynu, .ref ymo])), (ys, .inl (cI, 449, .inl ms)), (yfa, .inl (cI, 100, .inl f_16)), (yfe, .inl (cI, 100, .inl f_18))] H := hP
                have hD : va_D A [(h0, .inr (9, [.ref ys, .ref yk, .ref yo, .ref yt, .int mk0, .ref yfa, .ref yfe, .int mL, .int mS, .int mM, .ref yro, .ref yhe, .ref ygr, .int mF, .int mC, .int mY, .ref yta, .int (nI (mz)), .int (nI (mf)), .int (nI (mt)), .int mv, .int mw, .ref ywa, .ref ybi, .ref ysi, .ref ynu, .ref ymo])), (ys, .inl (cI, 449, .inl ms)), (yfa, .inl (cI, 100, .inl f_16)), (yfe, .inl (cI, 100, .inl f_18))] := hD
                refine lv_iinc (v := nI (i2 + 1)) (lv' := [(3, .int (nI (i2 + 1))), (4, .int 0), (2, .int (nI (i))), (1, .int (nI (P))), (0, .ref h0)]) hx hb dX9_findFar_99 hl (k := 1) rfl (nI_1 (i2)) (by decide) rfl (fun ls hl => ?_)
                refine lv_goto (tgt := 16) hx hb dX9_findFar_102 (by decide) ?_
                exact ih_16 (i2 + 1) f_16 f_18 _ _ _ (by omega) (by omega) (by first | exact fw_II.put hI2 (by omega) (by omega) (by omega) ef_16 ef_18 (Or.inl ⟨by omega, rfl, rfl⟩) | exact fw_II.put hI2 (by omega) (by omega) (by omega) ef_16 ef_18 (Or.inr ⟨by omega, rfl, Or.inl ⟨by assumption, rfl⟩⟩) | exact fw_II.put hI2 (by omega) (by omega) (by omega) ef_16 ef_18 (Or.inr ⟨by omega, rfl, Or.inr ⟨by assumption, rfl⟩⟩) | (exfalso; omega)) (hP.sub [0, 1, 2, 3] rfl) (hD.sub [0, 1, 2, 3] (by decide) rfl) hS (lv_sub hl [0, 2, 3, 4] rfl)
              · skip
                have nc_17 : i = i2 := xn_eq (a := i) (b := i2) (by omega) (by omega) c_17
                refine lv_iconst (v := 0) hx hb dX9_findFar_93 (by decide) ?_
                refine lv_goto (tgt := 98) hx hb dX9_findFar_94 (by decide) ?_
                refine va_iast hx hb hK hP hD hS 3 0 rfl rfl (vp_in_nI (show 10 * i + i2 < 100 by omega) (by decide)) dX9_findFar_98 (fun H locs hP hD hS => ?_)
                rw [nI_clamp (show 10 * i + i2 < 2 ^ 31 by omega)] at hP hD
                obtain ⟨f_19, ef_19⟩ : ∃ g, g = upd g7 (10 * i + i2) 0 := ⟨_, rfl⟩
                rw [← ef_19] at hP hD
                have hP : va_P D vwCl [(h0, .inr (9, [.ref ys, .ref yk, .ref yo, .ref yt, .int mk0, .ref yfa, .ref yfe, .int mL, .int mS, .int mM, .ref yro, .ref yhe, .ref ygr, .int mF, .int mC, .int mY, .ref yta, .int (nI (mz)), .int (nI (mf)), .int (nI (mt)), .int mv, .int mw, .ref ywa, .ref ybi, .ref ysi, .ref ynu, .ref ymo])), (ys, .inl (cI, 449, .inl ms)), (yfa, .inl (cI, 100, .inl f_16)), (yfe, .inl (cI, 100, .inl f_19))] H := hP
                have hD : va_D A [(h0, .inr (9, [.ref ys, .ref yk, .ref yo, .ref yt, .int mk0, .ref yfa, .ref yfe, .int mL, .int mS, .int mM, .ref yro, .ref yhe, .ref ygr, .int mF, .int mC, .int mY, .ref yta, .int (nI (mz)), .int (nI (mf)), .int (nI (mt)), .int mv, .int mw, .ref ywa, .ref ybi, .ref ysi, .ref ynu, .ref ymo])), (ys, .inl (cI, 449, .inl ms)), (yfa, .inl (cI, 100, .inl f_16)), (yfe, .inl (cI, 100, .inl f_19))] := hD
                refine lv_iinc (v := nI (i2 + 1)) (lv' := [(3, .int (nI (i2 + 1))), (4, .int 0), (2, .int (nI (i))), (1, .int (nI (P))), (0, .ref h0)]) hx hb dX9_findFar_99 hl (k := 1) rfl (nI_1 (i2)) (by decide) rfl (fun ls hl => ?_)
                refine lv_goto (tgt := 16) hx hb dX9_findFar_102 (by decide) ?_
                exact ih_16 (i2 + 1) f_16 f_19 _ _ _ (by omega) (by omega) (by first | exact fw_II.put hI2 (by omega) (by omega) (by omega) ef_16 ef_19 (Or.inl ⟨by omega, rfl, rfl⟩) | exact fw_II.put hI2 (by omega) (by omega) (by omega) ef_16 ef_19 (Or.inr ⟨by omega, rfl, Or.inl ⟨by assumption, rfl⟩⟩) | exact fw_II.put hI2 (by omega) (by omega) (by omega) ef_16 ef_19 (Or.inr ⟨by omega, rfl, Or.inr ⟨by assumption, rfl⟩⟩) | (exfalso; omega)) (hP.sub [0, 1, 2, 3] rfl) (hD.sub [0, 1, 2, 3] (by decide) rfl) hS (lv_sub hl [0, 2, 3, 4] rfl)
            · skip
              have nc_14 : i = i2 := xn_eq (a := i) (b := i2) (by omega) (by omega) c_14
              refine lv_iconst (v := 0) hx hb dX9_findFar_57 (by decide) ?_
              refine lv_goto (tgt := 77) hx hb dX9_findFar_58 (by decide) ?_
              refine va_iast hx hb hK hP hD hS 2 0 rfl rfl (vp_in_nI (show 10 * i + i2 < 100 by omega) (by decide)) dX9_findFar_77 (fun H locs hP hD hS => ?_)
              rw [nI_clamp (show 10 * i + i2 < 2 ^ 31 by omega)] at hP hD
              obtain ⟨f_20, ef_20⟩ : ∃ g, g = upd f7 (10 * i + i2) 0 := ⟨_, rfl⟩
              rw [← ef_20] at hP hD
              have hP : va_P D vwCl [(h0, .inr (9, [.ref ys, .ref yk, .ref yo, .ref yt, .int mk0, .ref yfa, .ref yfe, .int mL, .int mS, .int mM, .ref yro, .ref yhe, .ref ygr, .int mF, .int mC, .int mY, .ref yta, .int (nI (mz)), .int (nI (mf)), .int (nI (mt)), .int mv, .int mw, .ref ywa, .ref ybi, .ref ysi, .ref ynu, .ref ymo])), (ys, .inl (cI, 449, .inl ms)), (yfa, .inl (cI, 100, .inl f_20)), (yfe, .inl (cI, 100, .inl g7))] H := hP
              have hD : va_D A [(h0, .inr (9, [.ref ys, .ref yk, .ref yo, .ref yt, .int mk0, .ref yfa, .ref yfe, .int mL, .int mS, .int mM, .ref yro, .ref yhe, .ref ygr, .int mF, .int mC, .int mY, .ref yta, .int (nI (mz)), .int (nI (mf)), .int (nI (mt)), .int mv, .int mw, .ref ywa, .ref ybi, .ref ysi, .ref ynu, .ref ymo])), (ys, .inl (cI, 449, .inl ms)), (yfa, .inl (cI, 100, .inl f_20)), (yfe, .inl (cI, 100, .inl g7))] := hD
              refine lv_aload_n hx hb dX9_findFar_78 rfl (lv_at hl 4 rfl) ?_
              refine xg hF kf_X9_25 hK hP 0 rfl rfl dX9_findFar_79 ?_
              refine lv_bipush (v := 10) hx hb dX9_findFar_82 (by decide) ?_
              refine lv_iload_n hx hb dX9_findFar_84 rfl (lv_at hl 2 rfl) ?_
              refine lv_imul hx hb dX9_findFar_85 ?_
              refine xl_i (y := nI (10 * i)) (pk_mul 10 i) ?_
              refine lv_iload_n hx hb dX9_findFar_86 rfl (lv_at hl 1 rfl) ?_
              refine lv_iadd hx hb dX9_findFar_87 ?_
              refine xl_i (y := nI (10 * i + i2)) (nI_add (10 * i) i2) ?_
              refine lv_iload_n hx hb dX9_findFar_88 rfl (lv_at hl 2 rfl) ?_
              refine lv_iload_n hx hb dX9_findFar_89 rfl (lv_at hl 1 rfl) ?_
              refine lv_icmp_ne (tgt := 97) hx hb dX9_findFar_90 (by decide) (fun c_21 => ?_) (fun c_21 => ?_)
              · skip
                have nc_21 : i ≠ i2 := xn_ne (a := i) (b := i2) (by omega) (by omega) c_21
                refine lv_iconst (v := 1) hx hb dX9_findFar_97 (by decide) ?_
                refine va_iast hx hb hK hP hD hS 3 0 rfl rfl (vp_in_nI (show 10 * i + i2 < 100 by omega) (by decide)) dX9_findFar_98 (fun H locs hP hD hS => ?_)
                rw [nI_clamp (show 10 * i + i2 < 2 ^ 31 by omega)] at hP hD
                obtain ⟨f_22, ef_22⟩ : ∃ g, g = upd g7 (10 * i + i2) 1 := ⟨_, rfl⟩
                rw [← ef_22] at hP hD
                have hP : va_P D vwCl [(h0, .inr (9, [.ref ys, .ref yk, .ref yo, .ref yt, .int mk0, .ref yfa, .ref yfe, .int mL, .int mS, .int mM, .ref yro, .ref yhe, .ref ygr, .int mF, .int mC, .int mY, .ref yta, .int (nI (mz)), .int (nI (mf)), .int (nI (mt)), .int mv, .int mw, .ref ywa, .ref ybi, .ref ysi, .ref ynu, .ref ymo])), (ys, .inl (cI, 449, .inl ms)), (yfa, .inl (cI, 100, .inl f_20)), (yfe, .inl (cI, 100, .inl f_22))] H := hP
                have hD : va_D A [(h0, .inr (9, [.ref ys, .ref yk, .ref yo, .ref yt, .int mk0, .ref yfa, .ref yfe, .int mL, .int mS, .int mM, .ref yro, .ref yhe, .ref ygr, .int mF, .int mC, .int mY, .ref yta, .int (nI (mz)), .int (nI (mf)), .int (nI (mt)), .int mv, .int mw, .ref ywa, .ref ybi, .ref ysi, .ref ynu, .ref ymo])), (ys, .inl (cI, 449, .inl ms)), (yfa, .inl (cI, 100, .inl f_20)), (yfe, .inl (cI, 100, .inl f_22))] := hD
                refine lv_iinc (v := nI (i2 + 1)) (lv' := [(3, .int (nI (i2 + 1))), (4, .int 0), (2, .int (nI (i))), (1, .int (nI (P))), (0, .ref h0)]) hx hb dX9_findFar_99 hl (k := 1) rfl (nI_1 (i2)) (by decide) rfl (fun ls hl => ?_)
                refine lv_goto (tgt := 16) hx hb dX9_findFar_102 (by decide) ?_
                exact ih_16 (i2 + 1) f_20 f_22 _ _ _ (by omega) (by omega) (by first | exact fw_II.put hI2 (by omega) (by omega) (by omega) ef_20 ef_22 (Or.inl ⟨by omega, rfl, rfl⟩) | exact fw_II.put hI2 (by omega) (by omega) (by omega) ef_20 ef_22 (Or.inr ⟨by omega, rfl, Or.inl ⟨by assumption, rfl⟩⟩) | exact fw_II.put hI2 (by omega) (by omega) (by omega) ef_20 ef_22 (Or.inr ⟨by omega, rfl, Or.inr ⟨by assumption, rfl⟩⟩) | (exfalso; omega)) (hP.sub [0, 1, 2, 3] rfl) (hD.sub [0, 1, 2, 3] (by decide) rfl) hS (lv_sub hl [0, 2, 3, 4] rfl)
              · skip
                have nc_21 : i = i2 := xn_eq (a := i) (b := i2) (by omega) (by omega) c_21
                refine lv_iconst (v := 0) hx hb dX9_findFar_93 (by decide) ?_
                refine lv_goto (tgt := 98) hx hb dX9_findFar_94 (by decide) ?_
                refine va_iast hx hb hK hP hD hS 3 0 rfl rfl (vp_in_nI (show 10 * i + i2 < 100 by omega) (by decide)) dX9_findFar_98 (fun H locs hP hD hS => ?_)
                rw [nI_clamp (show 10 * i + i2 < 2 ^ 31 by omega)] at hP hD
                obtain ⟨f_23, ef_23⟩ : ∃ g, g = upd g7 (10 * i + i2) 0 := ⟨_, rfl⟩
                rw [← ef_23] at hP hD
                have hP : va_P D vwCl [(h0, .inr (9, [.ref ys, .ref yk, .ref yo, .ref yt, .int mk0, .ref yfa, .ref yfe, .int mL, .int mS, .int mM, .ref yro, .ref yhe, .ref ygr, .int mF, .int mC, .int mY, .ref yta, .int (nI (mz)), .int (nI (mf)), .int (nI (mt)), .int mv, .int mw, .ref ywa, .ref ybi, .ref ysi, .ref ynu, .ref ymo])), (ys, .inl (cI, 449, .inl ms)), (yfa, .inl (cI, 100, .inl f_20)), (yfe, .inl (cI, 100, .inl f_23))] H := hP
                have hD : va_D A [(h0, .inr (9, [.ref ys, .ref yk, .ref yo, .ref yt, .int mk0, .ref yfa, .ref yfe, .int mL, .int mS, .int mM, .ref yro, .ref yhe, .ref ygr, .int mF, .int mC, .int mY, .ref yta, .int (nI (mz)), .int (nI (mf)), .int (nI (mt)), .int mv, .int mw, .ref ywa, .ref ybi, .ref ysi, .ref ynu, .ref ymo])), (ys, .inl (cI, 449, .inl ms)), (yfa, .inl (cI, 100, .inl f_20)), (yfe, .inl (cI, 100, .inl f_23))] := hD
                refine lv_iinc (v := nI (i2 + 1)) (lv' := [(3, .int (nI (i2 + 1))), (4, .int 0), (2, .int (nI (i))), (1, .int (nI (P))), (0, .ref h0)]) hx hb dX9_findFar_99 hl (k := 1) rfl (nI_1 (i2)) (by decide) rfl (fun ls hl => ?_)
                refine lv_goto (tgt := 16) hx hb dX9_findFar_102 (by decide) ?_
                exact ih_16 (i2 + 1) f_20 f_23 _ _ _ (by omega) (by omega) (by first | exact fw_II.put hI2 (by omega) (by omega) (by omega) ef_20 ef_23 (Or.inl ⟨by omega, rfl, rfl⟩) | exact fw_II.put hI2 (by omega) (by omega) (by omega) ef_20 ef_23 (Or.inr ⟨by omega, rfl, Or.inl ⟨by assumption, rfl⟩⟩) | exact fw_II.put hI2 (by omega) (by omega) (by omega) ef_20 ef_23 (Or.inr ⟨by omega, rfl, Or.inr ⟨by assumption, rfl⟩⟩) | (exfalso; omega)) (hP.sub [0, 1, 2, 3] rfl) (hD.sub [0, 1, 2, 3] (by decide) rfl) hS (lv_sub hl [0, 2, 3, 4] rfl)
          · skip
            have nc_13 : i ≠ i2 := xn_ne (a := i) (b := i2) (by omega) (by omega) c_13
            refine lv_aload_n hx hb dX9_findFar_26 rfl (lv_at hl 3 rfl) ?_
            refine lv_iload_n hx hb dX9_findFar_27 rfl (lv_at hl 1 rfl) ?_
            refine lv_iload_n hx hb dX9_findFar_28 rfl (lv_at hl 0 rfl) ?_
            refine xc_Vr hF (c_X9_isOpen l D cI cJ cZ cS ta sa sv H.size h0 ys yk yo yt mk0 yfa yfe mL mS mM yro yhe ygr mF mC mY yta mz mf mt mv mw ywa ybi ysi ynu ymo ms P Rn Wn fae fal fau fao farn farp fak fawn fawp fat fas i i2 (by omega) (by omega) hs0 hs1 hs2 hsS hsM hsp hsr hsw hsR hsG) kv_X9_97 ⟨rfl, rfl, Nat.le_of_ble_eq_true rfl, Nat.le_of_ble_eq_true rfl⟩ ⟨Nat.le_of_ble_eq_true rfl, Nat.le_of_ble_eq_true rfl⟩ hK hN hZ hP hD hS hA [0, 1] rfl rfl 0 rfl rfl rfl rfl hl.1 rfl (Nat.le_of_ble_eq_true rfl) dX9_findFar_29 (fun r_24 hw_r_24 => ?_)
            rcases hw_r_24 with ⟨rfl, h_25⟩ | ⟨rfl, h_26⟩
            · skip
              refine lv_if_eq (tgt := 39) hx hb dX9_findFar_32 (by decide) (fun c_27 => absurd c_27 (by decide)) (fun c_27 => ?_)
              refine lv_iconst (v := 1) hx hb dX9_findFar_35 (by decide) ?_
              refine lv_goto (tgt := 40) hx hb dX9_findFar_36 (by decide) ?_
              refine lv_istore (lv' := [(4, .int 1), (3, .int (nI (i2))), (2, .int (nI (i))), (1, .int (nI (P))), (0, .ref h0)]) hx hb dX9_findFar_40 hl (by decide) rfl (fun ls hl => ?_)
              refine lv_aload_n hx hb dX9_findFar_42 rfl (lv_at hl 4 rfl) ?_
              refine xg hF kf_X9_22 hK hP 0 rfl rfl dX9_findFar_43 ?_
              refine lv_bipush (v := 10) hx hb dX9_findFar_46 (by decide) ?_
              refine lv_iload_n hx hb dX9_findFar_48 rfl (lv_at hl 2 rfl) ?_
              refine lv_imul hx hb dX9_findFar_49 ?_
              refine xl_i (y := nI (10 * i)) (pk_mul 10 i) ?_
              refine lv_iload_n hx hb dX9_findFar_50 rfl (lv_at hl 1 rfl) ?_
              refine lv_iadd hx hb dX9_findFar_51 ?_
              refine xl_i (y := nI (10 * i + i2)) (nI_add (10 * i) i2) ?_
              refine lv_iload_n hx hb dX9_findFar_52 rfl (lv_at hl 2 rfl) ?_
              refine lv_iload_n hx hb dX9_findFar_53 rfl (lv_at hl 1 rfl) ?_
              refine lv_icmp_ne (tgt := 61) hx hb dX9_findFar_54 (by decide) (fun c_28 => ?_) (fun c_28 => ?_)
              · skip
                have nc_28 : i ≠ i2 := xn_ne (a := i) (b := i2) (by omega) (by omega) c_28
                refine lv_iload hx hb dX9_findFar_61 (lv_at hl 0 rfl) ?_
                refine lv_if_eq (tgt := 75) hx hb dX9_findFar_63 (by decide) (fun c_29 => absurd c_29 (by decide)) (fun c_29 => ?_)
                refine lv_aload_n hx hb dX9_findFar_66 rfl (lv_at hl 4 rfl) ?_
                refine lv_iload_n hx hb dX9_findFar_67 rfl (lv_at hl 2 rfl) ?_
                refine lv_iload_n hx hb dX9_findFar_68 rfl (lv_at hl 1 rfl) ?_
                refine xc_Vr hF (c_X9_miles l D cI cJ cZ cS ta sa sv H.size h0 ys yk yo yt mk0 yfa yfe mL mS mM yro yhe ygr mF mC mY yta mz mf mt mv mw ywa ybi ysi ynu ymo ms P Rn Wn fae fal fau fao farn farp fak fawn fawp fat fas i i2 (by omega) (by omega) hs0 hs1 hs2 hsS hsM hsp hsr hsw hsR hsG) kv_X9_100 ⟨rfl, rfl, Nat.le_of_ble_eq_true rfl, Nat.le_of_ble_eq_true rfl⟩ ⟨Nat.le_of_ble_eq_true rfl, Nat.le_of_ble_eq_true rfl⟩ hK hN hZ hP hD hS hA [0, 1] rfl rfl 0 rfl rfl rfl rfl hl.1 rfl (Nat.le_of_ble_eq_true rfl) dX9_findFar_69 (fun r_30 hw_r_30 => ?_)
                subst hw_r_30
                refine lv_goto (tgt := 77) hx hb dX9_findFar_72 (by decide) ?_
                refine va_iast hx hb hK hP hD hS 2 0 rfl rfl (vp_in_nI (show 10 * i + i2 < 100 by omega) (by decide)) dX9_findFar_77 (fun H locs hP hD hS => ?_)
                rw [nI_clamp (show 10 * i + i2 < 2 ^ 31 by omega)] at hP hD
                obtain ⟨f_31, ef_31⟩ : ∃ g, g = upd f7 (10 * i + i2) (ms (13 + 10 * i + i2)) := ⟨_, rfl⟩
                rw [← ef_31] at hP hD
                have hP : va_P D vwCl [(h0, .inr (9, [.ref ys, .ref yk, .ref yo, .ref yt, .int mk0, .ref yfa, .ref yfe, .int mL, .int mS, .int mM, .ref yro, .ref yhe, .ref ygr, .int mF, .int mC, .int mY, .ref yta, .int (nI (mz)), .int (nI (mf)), .int (nI (mt)), .int mv, .int mw, .ref ywa, .ref ybi, .ref ysi, .ref ynu, .ref ymo])), (ys, .inl (cI, 449, .inl ms)), (yfa, .inl (cI, 100, .inl f_31)), (yfe, .inl (cI, 100, .inl g7))] H := hP
                have hD : va_D A [(h0, .inr (9, [.ref ys, .ref yk, .ref yo, .ref yt, .int mk0, .ref yfa, .ref yfe, .int mL, .int mS, .int mM, .ref yro, .ref yhe, .ref ygr, .int mF, .int mC, .int mY, .ref yta, .int (nI (mz)), .int (nI (mf)), .int (nI (mt)), .int mv, .int mw, .ref ywa, .ref ybi, .ref ysi, .ref ynu, .ref ymo])), (ys, .inl (cI, 449, .inl ms)), (yfa, .inl (cI, 100, .inl f_31)), (yfe, .inl (cI, 100, .inl g7))] := hD
                refine lv_aload_n hx hb dX9_findFar_78 rfl (lv_at hl 4 rfl) ?_
                refine xg hF kf_X9_25 hK hP 0 rfl rfl dX9_findFar_79 ?_
                refine lv_bipush (v := 10) hx hb dX9_findFar_82 (by decide) ?_
                refine lv_iload_n hx hb dX9_findFar_84 rfl (lv_at hl 2 rfl) ?_
                refine lv_imul hx hb dX9_findFar_85 ?_
                refine xl_i (y := nI (10 * i)) (pk_mul 10 i) ?_
                refine lv_iload_n hx hb dX9_findFar_86 rfl (lv_at hl 1 rfl) ?_
                refine lv_iadd hx hb dX9_findFar_87 ?_
                refine xl_i (y := nI (10 * i + i2)) (nI_add (10 * i) i2) ?_
                refine lv_iload_n hx hb dX9_findFar_88 rfl (lv_at hl 2 rfl) ?_
                refine lv_iload_n hx hb dX9_findFar_89 rfl (lv_at hl 1 rfl) ?_
                refine lv_icmp_ne (tgt := 97) hx hb dX9_findFar_90 (by decide) (fun c_32 => ?_) (fun c_32 => ?_)
                · skip
                  have nc_32 : i ≠ i2 := xn_ne (a := i) (b := i2) (by omega) (by omega) c_32
                  refine lv_iconst (v := 1) hx hb dX9_findFar_97 (by decide) ?_
                  refine va_iast hx hb hK hP hD hS 3 0 rfl rfl (vp_in_nI (show 10 * i + i2 < 100 by omega) (by decide)) dX9_findFar_98 (fun H locs hP hD hS => ?_)
                  rw [nI_clamp (show 10 * i + i2 < 2 ^ 31 by omega)] at hP hD
                  obtain ⟨f_33, ef_33⟩ : ∃ g, g = upd g7 (10 * i + i2) 1 := ⟨_, rfl⟩
                  rw [← ef_33] at hP hD
                  have hP : va_P D vwCl [(h0, .inr (9, [.ref ys, .ref yk, .ref yo, .ref yt, .int mk0, .ref yfa, .ref yfe, .int mL, .int mS, .int mM, .ref yro, .ref yhe, .ref ygr, .int mF, .int mC, .int mY, .ref yta, .int (nI (mz)), .int (nI (mf)), .int (nI (mt)), .int mv, .int mw, .ref ywa, .ref ybi, .ref ysi, .ref ynu, .ref ymo])), (ys, .inl (cI, 449, .inl ms)), (yfa, .inl (cI, 100, .inl f_31)), (yfe, .inl (cI, 100, .inl f_33))] H := hP
                  have hD : va_D A [(h0, .inr (9, [.ref ys, .ref yk, .ref yo, .ref yt, .int mk0, .ref yfa, .ref yfe, .int mL, .int mS, .int mM, .ref yro, .ref yhe, .ref ygr, .int mF, .int mC, .int mY, .ref yta, .int (nI (mz)), .int (nI (mf)), .int (nI (mt)), .int mv, .int mw, .ref ywa, .ref ybi, .ref ysi, .ref ynu, .ref ymo])), (ys, .inl (cI, 449, .inl ms)), (yfa, .inl (cI, 100, .inl f_31)), (yfe, .inl (cI, 100, .inl f_33))] := hD
                  refine lv_iinc (v := nI (i2 + 1)) (lv' := [(3, .int (nI (i2 + 1))), (4, .int 1), (2, .int (nI (i))), (1, .int (nI (P))), (0, .ref h0)]) hx hb dX9_findFar_99 hl (k := 1) rfl (nI_1 (i2)) (by decide) rfl (fun ls hl => ?_)
                  refine lv_goto (tgt := 16) hx hb dX9_findFar_102 (by decide) ?_
                  exact ih_16 (i2 + 1) f_31 f_33 _ _ _ (by omega) (by omega) (by first | exact fw_II.put hI2 (by omega) (by omega) (by omega) ef_31 ef_33 (Or.inl ⟨by omega, rfl, rfl⟩) | exact fw_II.put hI2 (by omega) (by omega) (by omega) ef_31 ef_33 (Or.inr ⟨by omega, rfl, Or.inl ⟨by assumption, rfl⟩⟩) | exact fw_II.put hI2 (by omega) (by omega) (by omega) ef_31 ef_33 (Or.inr ⟨by omega, rfl, Or.inr ⟨by assumption, rfl⟩⟩) | (exfalso; omega)) (hP.sub [0, 1, 2, 3] rfl) (hD.sub [0, 1, 2, 3] (by decide) rfl) hS (lv_sub hl [0, 2, 3, 4] rfl)
                · skip
                  have nc_32 : i = i2 := xn_eq (a := i) (b := i2) (by omega) (by omega) c_32
                  refine lv_iconst (v := 0) hx hb dX9_findFar_93 (by decide) ?_
                  refine lv_goto (tgt := 98) hx hb dX9_findFar_94 (by decide) ?_
                  refine va_iast hx hb hK hP hD hS 3 0 rfl rfl (vp_in_nI (show 10 * i + i2 < 100 by omega) (by decide)) dX9_findFar_98 (fun H locs hP hD hS => ?_)
                  rw [nI_clamp (show 10 * i + i2 < 2 ^ 31 by omega)] at hP hD
                  obtain ⟨f_34, ef_34⟩ : ∃ g, g = upd g7 (10 * i + i2) 0 := ⟨_, rfl⟩
                  rw [← ef_34] at hP hD
                  have hP : va_P D vwCl [(h0, .inr (9, [.ref ys, .ref yk, .ref yo, .ref yt, .int mk0, .ref yfa, .ref yfe, .int mL, .int mS, .int mM, .ref yro, .ref yhe, .ref ygr, .int mF, .int mC, .int mY, .ref yta, .int (nI (mz)), .int (nI (mf)), .int (nI (mt)), .int mv, .int mw, .ref ywa, .ref ybi, .ref ysi, .ref ynu, .ref ymo])), (ys, .inl (cI, 449, .inl ms)), (yfa, .inl (cI, 100, .inl f_31)), (yfe, .inl (cI, 100, .inl f_34))] H := hP
                  have hD : va_D A [(h0, .inr (9, [.ref ys, .ref yk, .ref yo, .ref yt, .int mk0, .ref yfa, .ref yfe, .int mL, .int mS, .int mM, .ref yro, .ref yhe, .ref ygr, .int mF, .int mC, .int mY, .ref yta, .int (nI (mz)), .int (nI (mf)), .int (nI (mt)), .int mv, .int mw, .ref ywa, .ref ybi, .ref ysi, .ref ynu, .ref ymo])), (ys, .inl (cI, 449, .inl ms)), (yfa, .inl (cI, 100, .inl f_31)), (yfe, .inl (cI, 100, .inl f_34))] := hD
                  refine lv_iinc (v := nI (i2 + 1)) (lv' := [(3, .int (nI (i2 + 1))), (4, .int 1), (2, .int (nI (i))), (1, .int (nI (P))), (0, .ref h0)]) hx hb dX9_findFar_99 hl (k := 1) rfl (nI_1 (i2)) (by decide) rfl (fun ls hl => ?_)
                  refine lv_goto (tgt := 16) hx hb dX9_findFar_102 (by decide) ?_
                  exact ih_16 (i2 + 1) f_31 f_34 _ _ _ (by omega) (by omega) (by first | exact fw_II.put hI2 (by omega) (by omega) (by omega) ef_31 ef_34 (Or.inl ⟨by omega, rfl, rfl⟩) | exact fw_II.put hI2 (by omega) (by omega) (by omega) ef_31 ef_34 (Or.inr ⟨by omega, rfl, Or.inl ⟨by assumption, rfl⟩⟩) | exact fw_II.put hI2 (by omega) (by omega) (by omega) ef_31 ef_34 (Or.inr ⟨by omega, rfl, Or.inr ⟨by assumption, rfl⟩⟩) | (exfalso; omega)) (hP.sub [0, 1, 2, 3] rfl) (hD.sub [0, 1, 2, 3] (by decide) rfl) hS (lv_sub hl [0, 2, 3, 4] rfl)
              · skip
                have nc_28 : i = i2 := xn_eq (a := i) (b := i2) (by omega) (by omega) c_28
                refine lv_iconst (v := 0) hx hb dX9_findFar_57 (by decide) ?_
                refine lv_goto (tgt := 77) hx hb dX9_findFar_58 (by decide) ?_
                refine va_iast hx hb hK hP hD hS 2 0 rfl rfl (vp_in_nI (show 10 * i + i2 < 100 by omega) (by decide)) dX9_findFar_77 (fun H locs hP hD hS => ?_)
                rw [nI_clamp (show 10 * i + i2 < 2 ^ 31 by omega)] at hP hD
                obtain ⟨f_35, ef_35⟩ : ∃ g, g = upd f7 (10 * i + i2) 0 := ⟨_, rfl⟩
                rw [← ef_35] at hP hD
                have hP : va_P D vwCl [(h0, .inr (9, [.ref ys, .ref yk, .ref yo, .ref yt, .int mk0, .ref yfa, .ref yfe, .int mL, .int mS, .int mM, .ref yro, .ref yhe, .ref ygr, .int mF, .int mC, .int mY, .ref yta, .int (nI (mz)), .int (nI (mf)), .int (nI (mt)), .int mv, .int mw, .ref ywa, .ref ybi, .ref ysi, .ref ynu, .ref ymo])), (ys, .inl (cI, 449, .inl ms)), (yfa, .inl (cI, 100, .inl f_35)), (yfe, .inl (cI, 100, .inl g7))] H := hP
                have hD : va_D A [(h0, .inr (9, [.ref ys, .ref yk, .ref yo, .ref yt, .int mk0, .ref yfa, .ref yfe, .int mL, .int mS, .int mM, .ref yro, .ref yhe, .ref ygr, .int mF, .int mC, .int mY, .ref yta, .int (nI (mz)), .int (nI (mf)), .int (nI (mt)), .int mv, .int mw, .ref ywa, .ref ybi, .ref ysi, .ref ynu, .ref ymo])), (ys, .inl (cI, 449, .inl ms)), (yfa, .inl (cI, 100, .inl f_35)), (yfe, .inl (cI, 100, .inl g7))] := hD
                refine lv_aload_n hx hb dX9_findFar_78 rfl (lv_at hl 4 rfl) ?_
                refine xg hF kf_X9_25 hK hP 0 rfl rfl dX9_findFar_79 ?_
                refine lv_bipush (v := 10) hx hb dX9_findFar_82 (by decide) ?_
                refine lv_iload_n hx hb dX9_findFar_84 rfl (lv_at hl 2 rfl) ?_
                refine lv_imul hx hb dX9_findFar_85 ?_
                refine xl_i (y := nI (10 * i)) (pk_mul 10 i) ?_
                refine lv_iload_n hx hb dX9_findFar_86 rfl (lv_at hl 1 rfl) ?_
                refine lv_iadd hx hb dX9_findFar_87 ?_
                refine xl_i (y := nI (10 * i + i2)) (nI_add (10 * i) i2) ?_
                refine lv_iload_n hx hb dX9_findFar_88 rfl (lv_at hl 2 rfl) ?_
                refine lv_iload_n hx hb dX9_findFar_89 rfl (lv_at hl 1 rfl) ?_
                refine lv_icmp_ne (tgt := 97) hx hb dX9_findFar_90 (by decide) (fun c_36 => ?_) (fun c_36 => ?_)
                · skip
                  have nc_36 : i ≠ i2 := xn_ne (a := i) (b := i2) (by omega) (by omega) c_36
                  refine lv_iconst (v := 1) hx hb dX9_findFar_97 (by decide) ?_
                  refine va_iast hx hb hK hP hD hS 3 0 rfl rfl (vp_in_nI (show 10 * i + i2 < 100 by omega) (by decide)) dX9_findFar_98 (fun H locs hP hD hS => ?_)
                  rw [nI_clamp (show 10 * i + i2 < 2 ^ 31 by omega)] at hP hD
                  obtain ⟨f_37, ef_37⟩ : ∃ g, g = upd g7 (10 * i + i2) 1 := ⟨_, rfl⟩
                  rw [← ef_37] at hP hD
                  have hP : va_P D vwCl [(h0, .inr (9, [.ref ys, .ref yk, .ref yo, .ref yt, .int mk0, .ref yfa, .ref yfe, .int mL, .int mS, .int mM, .ref yro, .ref yhe, .ref ygr, .int mF, .int mC, .int mY, .ref yta, .int (nI (mz)), .int (nI (mf)), .int (nI (mt)), .int mv, .int mw, .ref ywa, .ref ybi, .ref ysi, .ref ynu, .ref ymo])), (ys, .inl (cI, 449, .inl ms)), (yfa, .inl (cI, 100, .inl f_35)), (yfe, .inl (cI, 100, .inl f_37))] H := hP
                  have hD : va_D A [(h0, .inr (9, [.ref ys, .ref yk, .ref yo, .ref yt, .int mk0, .ref yfa, .ref yfe, .int mL, .int mS, .int mM, .ref yro, .ref yhe, .ref ygr, .int mF, .int mC, .int mY, .ref yta, .int (nI (mz)), .int (nI (mf)), .int (nI (mt)), .int mv, .int mw, .ref ywa, .ref ybi, .ref ysi, .ref ynu, .ref ymo])), (ys, .inl (cI, 449, .inl ms)), (yfa, .inl (cI, 100, .inl f_35)), (yfe, .inl (cI, 100, .inl f_37))] := hD
                  refine lv_iinc (v := nI (i2 + 1)) (lv' := [(3, .int (nI (i2 + 1))), (4, .int 1), (2, .int (nI (i))), (1, .int (nI (P))), (0, .ref h0)]) hx hb dX9_findFar_99 hl (k := 1) rfl (nI_1 (i2)) (by decide) rfl (fun ls hl => ?_)
                  refine lv_goto (tgt := 16) hx hb dX9_findFar_102 (by decide) ?_
                  exact ih_16 (i2 + 1) f_35 f_37 _ _ _ (by omega) (by omega) (by first | exact fw_II.put hI2 (by omega) (by omega) (by omega) ef_35 ef_37 (Or.inl ⟨by omega, rfl, rfl⟩) | exact fw_II.put hI2 (by omega) (by omega) (by omega) ef_35 ef_37 (Or.inr ⟨by omega, rfl, Or.inl ⟨by assumption, rfl⟩⟩) | exact fw_II.put hI2 (by omega) (by omega) (by omega) ef_35 ef_37 (Or.inr ⟨by omega, rfl, Or.inr ⟨by assumption, rfl⟩⟩) | (exfalso; omega)) (hP.sub [0, 1, 2, 3] rfl) (hD.sub [0, 1, 2, 3] (by decide) rfl) hS (lv_sub hl [0, 2, 3, 4] rfl)
                · skip
                  have nc_36 : i = i2 := xn_eq (a := i) (b := i2) (by omega) (by omega) c_36
                  refine lv_iconst (v := 0) hx hb dX9_findFar_93 (by decide) ?_
                  refine lv_goto (tgt := 98) hx hb dX9_findFar_94 (by decide) ?_
                  refine va_iast hx hb hK hP hD hS 3 0 rfl rfl (vp_in_nI (show 10 * i + i2 < 100 by omega) (by decide)) dX9_findFar_98 (fun H locs hP hD hS => ?_)
                  rw [nI_clamp (show 10 * i + i2 < 2 ^ 31 by omega)] at hP hD
                  obtain ⟨f_38, ef_38⟩ : ∃ g, g = upd g7 (10 * i + i2) 0 := ⟨_, rfl⟩
                  rw [← ef_38] at hP hD
                  have hP : va_P D vwCl [(h0, .inr (9, [.ref ys, .ref yk, .ref yo, .ref yt, .int mk0, .ref yfa, .ref yfe, .int mL, .int mS, .int mM, .ref yro, .ref yhe, .ref ygr, .int mF, .int mC, .int mY, .ref yta, .int (nI (mz)), .int (nI (mf)), .int (nI (mt)), .int mv, .int mw, .ref ywa, .ref ybi, .ref ysi, .ref ynu, .ref ymo])), (ys, .inl (cI, 449, .inl ms)), (yfa, .inl (cI, 100, .inl f_35)), (yfe, .inl (cI, 100, .inl f_38))] H := hP
                  have hD : va_D A [(h0, .inr (9, [.ref ys, .ref yk, .ref yo, .ref yt, .int mk0, .ref yfa, .ref yfe, .int mL, .int mS, .int mM, .ref yro, .ref yhe, .ref ygr, .int mF, .int mC, .int mY, .ref yta, .int (nI (mz)), .int (nI (mf)), .int (nI (mt)), .int mv, .int mw, .ref ywa, .ref ybi, .ref ysi, .ref ynu, .ref ymo])), (ys, .inl (cI, 449, .inl ms)), (yfa, .inl (cI, 100, .inl f_35)), (yfe, .inl (cI, 100, .inl f_38))] := hD
                  refine lv_iinc (v := nI (i2 + 1)) (lv' := [(3, .int (nI (i2 + 1))), (4, .int 1), (2, .int (nI (i))), (1, .int (nI (P))), (0, .ref h0)]) hx hb dX9_findFar_99 hl (k := 1) rfl (nI_1 (i2)) (by decide) rfl (fun ls hl => ?_)
                  refine lv_goto (tgt := 16) hx hb dX9_findFar_102 (by decide) ?_
                  exact ih_16 (i2 + 1) f_35 f_38 _ _ _ (by omega) (by omega) (by first | exact fw_II.put hI2 (by omega) (by omega) (by omega) ef_35 ef_38 (Or.inl ⟨by omega, rfl, rfl⟩) | exact fw_II.put hI2 (by omega) (by omega) (by omega) ef_35 ef_38 (Or.inr ⟨by omega, rfl, Or.inl ⟨by assumption, rfl⟩⟩) | exact fw_II.put hI2 (by omega) (by omega) (by omega) ef_35 ef_38 (Or.inr ⟨by omega, rfl, Or.inr ⟨by assumption, rfl⟩⟩) | (exfalso; omega)) (hP.sub [0, 1, 2, 3] rfl) (hD.sub [0, 1, 2, 3] (by decide) rfl) hS (lv_sub hl [0, 2, 3, 4] rfl)
            · skip
              refine lv_if_eq (tgt := 39) hx hb dX9_findFar_32 (by decide) (fun c_39 => ?_) (fun c_39 => absurd (by decide) c_39)
              refine lv_iconst (v := 0) hx hb dX9_findFar_39 (by decide) ?_
              refine lv_istore (lv' := [(4, .int 0), (3, .int (nI (i2))), (2, .int (nI (i))), (1, .int (nI (P))), (0, .ref h0)]) hx hb dX9_findFar_40 hl (by decide) rfl (fun ls hl => ?_)
              refine lv_aload_n hx hb dX9_findFar_42 rfl (lv_at hl 4 rfl) ?_
              refine xg hF kf_X9_22 hK hP 0 rfl rfl dX9_findFar_43 ?_
              refine lv_bipush (v := 10) hx hb dX9_findFar_46 (by decide) ?_
              refine lv_iload_n hx hb dX9_findFar_48 rfl (lv_at hl 2 rfl) ?_
              refine lv_imul hx hb dX9_findFar_49 ?_
              refine xl_i (y := nI (10 * i)) (pk_mul 10 i) ?_
              refine lv_iload_n hx hb dX9_findFar_50 rfl (lv_at hl 1 rfl) ?_
              refine lv_iadd hx hb dX9_findFar_51 ?_
              refine xl_i (y := nI (10 * i + i2)) (nI_add (10 * i) i2) ?_
              refine lv_iload_n hx hb dX9_findFar_52 rfl (lv_at hl 2 rfl) ?_
              refine lv_iload_n hx hb dX9_findFar_53 rfl (lv_at hl 1 rfl) ?_
              refine lv_icmp_ne (tgt := 61) hx hb dX9_findFar_54 (by decide) (fun c_40 => ?_) (fun c_40 => ?_)
              · skip
                have nc_40 : i ≠ i2 := xn_ne (a := i) (b := i2) (by omega) (by omega) c_40
                refine lv_iload hx hb dX9_findFar_61 (lv_at hl 0 rfl) ?_
                refine lv_if_eq (tgt := 75) hx hb dX9_findFar_63 (by decide) (fun c_41 => ?_) (fun c_41 => absurd (by decide) c_41)
                refine lv_ldc (v := 100000000) hx hb hown (hu _ uw701) dX9_findFar_75 ?_
                refine va_iast hx hb hK hP hD hS 2 0 rfl rfl (vp_in_nI (show 10 * i + i2 < 100 by omega) (by decide)) dX9_findFar_77 (fun H locs hP hD hS => ?_)
                rw [nI_clamp (show 10 * i + i2 < 2 ^ 31 by omega)] at hP hD
                obtain ⟨f_42, ef_42⟩ : ∃ g, g = upd f7 (10 * i + i2) 100000000 := ⟨_, rfl⟩
                rw [← ef_42] at hP hD
                have hP : va_P D vwCl [(h0, .inr (9, [.ref ys, .ref yk, .ref yo, .ref yt, .int mk0, .ref yfa, .ref yfe, .int mL, .int mS, .int mM, .ref yro, .ref yhe, .ref ygr, .int mF, .int mC, .int mY, .ref yta, .int (nI (mz)), .int (nI (mf)), .int (nI (mt)), .int mv, .int mw, .ref ywa, .ref ybi, .ref ysi, .ref ynu, .ref ymo])), (ys, .inl (cI, 449, .inl ms)), (yfa, .inl (cI, 100, .inl f_42)), (yfe, .inl (cI, 100, .inl g7))] H := hP
                have hD : va_D A [(h0, .inr (9, [.ref ys, .ref yk, .ref yo, .ref yt, .int mk0, .ref yfa, .ref yfe, .int mL, .int mS, .int mM, .ref yro, .ref yhe, .ref ygr, .int mF, .int mC, .int mY, .ref yta, .int (nI (mz)), .int (nI (mf)), .int (nI (mt)), .int mv, .int mw, .ref ywa, .ref ybi, .ref ysi, .ref ynu, .ref ymo])), (ys, .inl (cI, 449, .inl ms)), (yfa, .inl (cI, 100, .inl f_42)), (yfe, .inl (cI, 100, .inl g7))] := hD
                refine lv_aload_n hx hb dX9_findFar_78 rfl (lv_at hl 4 rfl) ?_
                refine xg hF kf_X9_25 hK hP 0 rfl rfl dX9_findFar_79 ?_
                refine lv_bipush (v := 10) hx hb dX9_findFar_82 (by decide) ?_
                refine lv_iload_n hx hb dX9_findFar_84 rfl (lv_at hl 2 rfl) ?_
                refine lv_imul hx hb dX9_findFar_85 ?_
                refine xl_i (y := nI (10 * i)) (pk_mul 10 i) ?_
                refine lv_iload_n hx hb dX9_findFar_86 rfl (lv_at hl 1 rfl) ?_
                refine lv_iadd hx hb dX9_findFar_87 ?_
                refine xl_i (y := nI (10 * i + i2)) (nI_add (10 * i) i2) ?_
                refine lv_iload_n hx hb dX9_findFar_88 rfl (lv_at hl 2 rfl) ?_
                refine lv_iload_n hx hb dX9_findFar_89 rfl (lv_at hl 1 rfl) ?_
                refine lv_icmp_ne (tgt := 97) hx hb dX9_findFar_90 (by decide) (fun c_43 => ?_) (fun c_43 => ?_)
                · skip
                  have nc_43 : i ≠ i2 := xn_ne (a := i) (b := i2) (by omega) (by omega) c_43
                  refine lv_iconst (v := 1) hx hb dX9_findFar_97 (by decide) ?_
                  refine va_iast hx hb hK hP hD hS 3 0 rfl rfl (vp_in_nI (show 10 * i + i2 < 100 by omega) (by decide)) dX9_findFar_98 (fun H locs hP hD hS => ?_)
                  rw [nI_clamp (show 10 * i + i2 < 2 ^ 31 by omega)] at hP hD
                  obtain ⟨f_44, ef_44⟩ : ∃ g, g = upd g7 (10 * i + i2) 1 := ⟨_, rfl⟩
                  rw [← ef_44] at hP hD
                  have hP : va_P D vwCl [(h0, .inr (9, [.ref ys, .ref yk, .ref yo, .ref yt, .int mk0, .ref yfa, .ref yfe, .int mL, .int mS, .int mM, .ref yro, .ref yhe, .ref ygr, .int mF, .int mC, .int mY, .ref yta, .int (nI (mz)), .int (nI (mf)), .int (nI (mt)), .int mv, .int mw, .ref ywa, .ref ybi, .ref ysi, .ref ynu, .ref ymo])), (ys, .inl (cI, 449, .inl ms)), (yfa, .inl (cI, 100, .inl f_42)), (yfe, .inl (cI, 100, .inl f_44))] H := hP
                  have hD : va_D A [(h0, .inr (9, [.ref ys, .ref yk, .ref yo, .ref yt, .int mk0, .ref yfa, .ref yfe, .int mL, .int mS, .int mM, .ref yro, .ref yhe, .ref ygr, .int mF, .int mC, .int mY, .ref yta, .int (nI (mz)), .int (nI (mf)), .int (nI (mt)), .int mv, .int mw, .ref ywa, .ref ybi, .ref ysi, .ref ynu, .ref ymo])), (ys, .inl (cI, 449, .inl ms)), (yfa, .inl (cI, 100, .inl f_42)), (yfe, .inl (cI, 100, .inl f_44))] := hD
                  refine lv_iinc (v := nI (i2 + 1)) (lv' := [(3, .int (nI (i2 + 1))), (4, .int 0), (2, .int (nI (i))), (1, .int (nI (P))), (0, .ref h0)]) hx hb dX9_findFar_99 hl (k := 1) rfl (nI_1 (i2)) (by decide) rfl (fun ls hl => ?_)
                  refine lv_goto (tgt := 16) hx hb dX9_findFar_102 (by decide) ?_
                  exact ih_16 (i2 + 1) f_42 f_44 _ _ _ (by omega) (by omega) (by first | exact fw_II.put hI2 (by omega) (by omega) (by omega) ef_42 ef_44 (Or.inl ⟨by omega, rfl, rfl⟩) | exact fw_II.put hI2 (by omega) (by omega) (by omega) ef_42 ef_44 (Or.inr ⟨by omega, rfl, Or.inl ⟨by assumption, rfl⟩⟩) | exact fw_II.put hI2 (by omega) (by omega) (by omega) ef_42 ef_44 (Or.inr ⟨by omega, rfl, Or.inr ⟨by assumption, rfl⟩⟩) | (exfalso; omega)) (hP.sub [0, 1, 2, 3] rfl) (hD.sub [0, 1, 2, 3] (by decide) rfl) hS (lv_sub hl [0, 2, 3, 4] rfl)
                · skip
                  have nc_43 : i = i2 := xn_eq (a := i) (b := i2) (by omega) (by omega) c_43
                  refine lv_iconst (v := 0) hx hb dX9_findFar_93 (by decide) ?_
                  refine lv_goto (tgt := 98) hx hb dX9_findFar_94 (by decide) ?_
                  refine va_iast hx hb hK hP hD hS 3 0 rfl rfl (vp_in_nI (show 10 * i + i2 < 100 by omega) (by decide)) dX9_findFar_98 (fun H locs hP hD hS => ?_)
                  rw [nI_clamp (show 10 * i + i2 < 2 ^ 31 by omega)] at hP hD
                  obtain ⟨f_45, ef_45⟩ : ∃ g, g = upd g7 (10 * i + i2) 0 := ⟨_, rfl⟩
                  rw [← ef_45] at hP hD
                  have hP : va_P D vwCl [(h0, .inr (9, [.ref ys, .ref yk, .ref yo, .ref yt, .int mk0, .ref yfa, .ref yfe, .int mL, .int mS, .int mM, .ref yro, .ref yhe, .ref ygr, .int mF, .int mC, .int mY, .ref yta, .int (nI (mz)), .int (nI (mf)), .int (nI (mt)), .int mv, .int mw, .ref ywa, .ref ybi, .ref ysi, .ref ynu, .ref ymo])), (ys, .inl (cI, 449, .inl ms)), (yfa, .inl (cI, 100, .inl f_42)), (yfe, .inl (cI, 100, .inl f_45))] H := hP
                  have hD : va_D A [(h0, .inr (9, [.ref ys, .ref yk, .ref yo, .ref yt, .int mk0, .ref yfa, .ref yfe, .int mL, .int mS, .int mM, .ref yro, .ref yhe, .ref ygr, .int mF, .int mC, .int mY, .ref yta, .int (nI (mz)), .int (nI (mf)), .int (nI (mt)), .int mv, .int mw, .ref ywa, .ref ybi, .ref ysi, .ref ynu, .ref ymo])), (ys, .inl (cI, 449, .inl ms)), (yfa, .inl (cI, 100, .inl f_42)), (yfe, .inl (cI, 100, .inl f_45))] := hD
                  refine lv_iinc (v := nI (i2 + 1)) (lv' := [(3, .int (nI (i2 + 1))), (4, .int 0), (2, .int (nI (i))), (1, .int (nI (P))), (0, .ref h0)]) hx hb dX9_findFar_99 hl (k := 1) rfl (nI_1 (i2)) (by decide) rfl (fun ls hl => ?_)
                  refine lv_goto (tgt := 16) hx hb dX9_findFar_102 (by decide) ?_
                  exact ih_16 (i2 + 1) f_42 f_45 _ _ _ (by omega) (by omega) (by first | exact fw_II.put hI2 (by omega) (by omega) (by omega) ef_42 ef_45 (Or.inl ⟨by omega, rfl, rfl⟩) | exact fw_II.put hI2 (by omega) (by omega) (by omega) ef_42 ef_45 (Or.inr ⟨by omega, rfl, Or.inl ⟨by assumption, rfl⟩⟩) | exact fw_II.put hI2 (by omega) (by omega) (by omega) ef_42 ef_45 (Or.inr ⟨by omega, rfl, Or.inr ⟨by assumption, rfl⟩⟩) | (exfalso; omega)) (hP.sub [0, 1, 2, 3] rfl) (hD.sub [0, 1, 2, 3] (by decide) rfl) hS (lv_sub hl [0, 2, 3, 4] rfl)
              · skip
                have nc_40 : i = i2 := xn_eq (a := i) (b := i2) (by omega) (by omega) c_40
                refine lv_iconst (v := 0) hx hb dX9_findFar_57 (by decide) ?_
                refine lv_goto (tgt := 77) hx hb dX9_findFar_58 (by decide) ?_
                refine va_iast hx hb hK hP hD hS 2 0 rfl rfl (vp_in_nI (show 10 * i + i2 < 100 by omega) (by decide)) dX9_findFar_77 (fun H locs hP hD hS => ?_)
                rw [nI_clamp (show 10 * i + i2 < 2 ^ 31 by omega)] at hP hD
                obtain ⟨f_46, ef_46⟩ : ∃ g, g = upd f7 (10 * i + i2) 0 := ⟨_, rfl⟩
                rw [← ef_46] at hP hD
                have hP : va_P D vwCl [(h0, .inr (9, [.ref ys, .ref yk, .ref yo, .ref yt, .int mk0, .ref yfa, .ref yfe, .int mL, .int mS, .int mM, .ref yro, .ref yhe, .ref ygr, .int mF, .int mC, .int mY, .ref yta, .int (nI (mz)), .int (nI (mf)), .int (nI (mt)), .int mv, .int mw, .ref ywa, .ref ybi, .ref ysi, .ref ynu, .ref ymo])), (ys, .inl (cI, 449, .inl ms)), (yfa, .inl (cI, 100, .inl f_46)), (yfe, .inl (cI, 100, .inl g7))] H := hP
                have hD : va_D A [(h0, .inr (9, [.ref ys, .ref yk, .ref yo, .ref yt, .int mk0, .ref yfa, .ref yfe, .int mL, .int mS, .int mM, .ref yro, .ref yhe, .ref ygr, .int mF, .int mC, .int mY, .ref yta, .int (nI (mz)), .int (nI (mf)), .int (nI (mt)), .int mv, .int mw, .ref ywa, .ref ybi, .ref ysi, .ref ynu, .ref ymo])), (ys, .inl (cI, 449, .inl ms)), (yfa, .inl (cI, 100, .inl f_46)), (yfe, .inl (cI, 100, .inl g7))] := hD
                refine lv_aload_n hx hb dX9_findFar_78 rfl (lv_at hl 4 rfl) ?_
                refine xg hF kf_X9_25 hK hP 0 rfl rfl dX9_findFar_79 ?_
                refine lv_bipush (v := 10) hx hb dX9_findFar_82 (by decide) ?_
                refine lv_iload_n hx hb dX9_findFar_84 rfl (lv_at hl 2 rfl) ?_
                refine lv_imul hx hb dX9_findFar_85 ?_
                refine xl_i (y := nI (10 * i)) (pk_mul 10 i) ?_
                refine lv_iload_n hx hb dX9_findFar_86 rfl (lv_at hl 1 rfl) ?_
                refine lv_iadd hx hb dX9_findFar_87 ?_
                refine xl_i (y := nI (10 * i + i2)) (nI_add (10 * i) i2) ?_
                refine lv_iload_n hx hb dX9_findFar_88 rfl (lv_at hl 2 rfl) ?_
                refine lv_iload_n hx hb dX9_findFar_89 rfl (lv_at hl 1 rfl) ?_
                refine lv_icmp_ne (tgt := 97) hx hb dX9_findFar_90 (by decide) (fun c_47 => ?_) (fun c_47 => ?_)
                · skip
                  have nc_47 : i ≠ i2 := xn_ne (a := i) (b := i2) (by omega) (by omega) c_47
                  refine lv_iconst (v := 1) hx hb dX9_findFar_97 (by decide) ?_
                  refine va_iast hx hb hK hP hD hS 3 0 rfl rfl (vp_in_nI (show 10 * i + i2 < 100 by omega) (by decide)) dX9_findFar_98 (fun H locs hP hD hS => ?_)
                  rw [nI_clamp (show 10 * i + i2 < 2 ^ 31 by omega)] at hP hD
                  obtain ⟨f_48, ef_48⟩ : ∃ g, g = upd g7 (10 * i + i2) 1 := ⟨_, rfl⟩
                  rw [← ef_48] at hP hD
                  have hP : va_P D vwCl [(h0, .inr (9, [.ref ys, .ref yk, .ref yo, .ref yt, .int mk0, .ref yfa, .ref yfe, .int mL, .int mS, .int mM, .ref yro, .ref yhe, .ref ygr, .int mF, .int mC, .int mY, .ref yta, .int (nI (mz)), .int (nI (mf)), .int (nI (mt)), .int mv, .int mw, .ref ywa, .ref ybi, .ref ysi, .ref ynu, .ref ymo])), (ys, .inl (cI, 449, .inl ms)), (yfa, .inl (cI, 100, .inl f_46)), (yfe, .inl (cI, 100, .inl f_48))] H := hP
                  have hD : va_D A [(h0, .inr (9, [.ref ys, .ref yk, .ref yo, .ref yt, .int mk0, .ref yfa, .ref yfe, .int mL, .int mS, .int mM, .ref yro, .ref yhe, .ref ygr, .int mF, .int mC, .int mY, .ref yta, .int (nI (mz)), .int (nI (mf)), .int (nI (mt)), .int mv, .int mw, .ref ywa, .ref ybi, .ref ysi, .ref ynu, .ref ymo])), (ys, .inl (cI, 449, .inl ms)), (yfa, .inl (cI, 100, .inl f_46)), (yfe, .inl (cI, 100, .inl f_48))] := hD
                  refine lv_iinc (v := nI (i2 + 1)) (lv' := [(3, .int (nI (i2 + 1))), (4, .int 0), (2, .int (nI (i))), (1, .int (nI (P))), (0, .ref h0)]) hx hb dX9_findFar_99 hl (k := 1) rfl (nI_1 (i2)) (by decide) rfl (fun ls hl => ?_)
                  refine lv_goto (tgt := 16) hx hb dX9_findFar_102 (by decide) ?_
                  exact ih_16 (i2 + 1) f_46 f_48 _ _ _ (by omega) (by omega) (by first | exact fw_II.put hI2 (by omega) (by omega) (by omega) ef_46 ef_48 (Or.inl ⟨by omega, rfl, rfl⟩) | exact fw_II.put hI2 (by omega) (by omega) (by omega) ef_46 ef_48 (Or.inr ⟨by omega, rfl, Or.inl ⟨by assumption, rfl⟩⟩) | exact fw_II.put hI2 (by omega) (by omega) (by omega) ef_46 ef_48 (Or.inr ⟨by omega, rfl, Or.inr ⟨by assumption, rfl⟩⟩) | (exfalso; omega)) (hP.sub [0, 1, 2, 3] rfl) (hD.sub [0, 1, 2, 3] (by decide) rfl) hS (lv_sub hl [0, 2, 3, 4] rfl)
                · skip
                  have nc_47 : i = i2 := xn_eq (a := i) (b := i2) (by omega) (by omega) c_47
                  refine lv_iconst (v := 0) hx hb dX9_findFar_93 (by decide) ?_
                  refine lv_goto (tgt := 98) hx hb dX9_findFar_94 (by decide) ?_
                  refine va_iast hx hb hK hP hD hS 3 0 rfl rfl (vp_in_nI (show 10 * i + i2 < 100 by omega) (by decide)) dX9_findFar_98 (fun H locs hP hD hS => ?_)
                  rw [nI_clamp (show 10 * i + i2 < 2 ^ 31 by omega)] at hP hD
                  obtain ⟨f_49, ef_49⟩ : ∃ g, g = upd g7 (10 * i + i2) 0 := ⟨_, rfl⟩
                  rw [← ef_49] at hP hD
                  have hP : va_P D vwCl [(h0, .inr (9, [.ref ys, .ref yk, .ref yo, .ref yt, .int mk0, .ref yfa, .ref yfe, .int mL, .int mS, .int mM, .ref yro, .ref yhe, .ref ygr, .int mF, .int mC, .int mY, .ref yta, .int (nI (mz)), .int (nI (mf)), .int (nI (mt)), .int mv, .int mw, .ref ywa, .ref ybi, .ref ysi, .ref ynu, .ref ymo])), (ys, .inl (cI, 449, .inl ms)), (yfa, .inl (cI, 100, .inl f_46)), (yfe, .inl (cI, 100, .inl f_49))] H := hP
                  have hD : va_D A [(h0, .inr (9, [.ref ys, .ref yk, .ref yo, .ref yt, .int mk0, .ref yfa, .ref yfe, .int mL, .int mS, .int mM, .ref yro, .ref yhe, .ref ygr, .int mF, .int mC, .int mY, .ref yta, .int (nI (mz)), .int (nI (mf)), .int (nI (mt)), .int mv, .int mw, .ref ywa, .ref ybi, .ref ysi, .ref ynu, .ref ymo])), (ys, .inl (cI, 449, .inl ms)), (yfa, .inl (cI, 100, .inl f_46)), (yfe, .inl (cI, 100, .inl f_49))] := hD
                  refine lv_iinc (v := nI (i2 + 1)) (lv' := [(3, .int (nI (i2 + 1))), (4, .int 0), (2, .int (nI (i))), (1, .int (nI (P))), (0, .ref h0)]) hx hb dX9_findFar_99 hl (k := 1) rfl (nI_1 (i2)) (by decide) rfl (fun ls hl => ?_)
                  refine lv_goto (tgt := 16) hx hb dX9_findFar_102 (by decide) ?_
                  exact ih_16 (i2 + 1) f_46 f_49 _ _ _ (by omega) (by omega) (by first | exact fw_II.put hI2 (by omega) (by omega) (by omega) ef_46 ef_49 (Or.inl ⟨by omega, rfl, rfl⟩) | exact fw_II.put hI2 (by omega) (by omega) (by omega) ef_46 ef_49 (Or.inr ⟨by omega, rfl, Or.inl ⟨by assumption, rfl⟩⟩) | exact fw_II.put hI2 (by omega) (by omega) (by omega) ef_46 ef_49 (Or.inr ⟨by omega, rfl, Or.inr ⟨by assumption, rfl⟩⟩) | (exfalso; omega)) (hP.sub [0, 1, 2, 3] rfl) (hD.sub [0, 1, 2, 3] (by decide) rfl) hS (lv_sub hl [0, 2, 3, 4] rfl)
set_option maxHeartbeats 4000000 in
set_option maxRecDepth 100000 in
theorem c_X9_far (l : Launch) (D : va_G) (cI cJ cZ cS : ClassId) (ta : Nat) (sa sv : Nat → Nat) (sz : Nat) (h0 : Nat) (ys : Nat) (yk : Nat) (yo : Nat) (yt : Nat) (mk0 : Int32) (yfa : Nat) (yfe : Nat) (mL : Int32) (mS : Int32) (mM : Int32) (yro : Nat) (yhe : Nat) (ygr : Nat) (mF : Int32) (mC : Int32) (mY : Int32) (yta : Nat) (mz : Nat) (mf : Nat) (mt : Nat) (mv : Int32) (mw : Int32) (ywa : Nat) (ybi : Nat) (ysi : Nat) (ynu : Nat) (ymo : Nat) (ms : Nat → Int32) (fa : Nat → Int32) (fe : Nat → Int32) (mq : Nat → Int32) (P : Nat) (Rn : Nat) (Wn : Nat) (fae : Nat → Int32) (fal : Nat → Int32) (fau : Nat → Int32) (fao : Nat → Int32) (farn : Nat → Int32) (farp : Nat → Int32) (fak : Nat → Int32) (fawn : Nat → Int32) (fawp : Nat → Int32) (fat : Nat → Int32) (fas : Nat → Int32) (p0 : Int32) (p1 : Int32) (hs0 : ms 0 = nI P) (hs1 : ms 1 = nI Rn) (hs2 : ms 2 = nI Wn) (hsS : SI ms) (hsM : MI ms) (hsp : P ≤ 10) (hsr : Rn ≤ 8) (hsw : Wn ≤ 8) (hsR : RI Rn ms) (hsG : FR P ms fae fal fau fao farn farp fak fawn fawp fat fas) : Met l yX9_far (Cond.code yX9_far cX9_far 3 (some .int) :: wsU) ({ frames := 2, cells := 0, slots := 0, locals := 52 }) (va_Pc [.ref h0, .int p0, .int p1] (XW D (xT cI cJ cZ cS) ta sa sv [(h0, .inr (9, [.ref ys, .ref yk, .ref yo, .ref yt, .int mk0, .ref yfa, .ref yfe, .int mL, .int mS, .int mM, .ref yro, .ref yhe, .ref ygr, .int mF, .int mC, .int mY, .ref yta, .int (nI (mz)), .int (nI (mf)), .int (nI (mt)), .int mv, .int mw, .ref ywa, .ref ybi, .ref ysi, .ref ynu, .ref ymo])), (ys, .inl (cI, 449, .inl ms)), (yfa, .inl (cI, 100, .inl fa)), (yfe, .inl (cI, 100, .inl fe)), (yt, .inl (cI, 7, .inl mq))] sz)) (XQi (fun (r : Int32) (u : Int32 × (Nat → Int32) × (Nat → Int32) × (Nat → Int32)) => match u with | (mL2, fa2, fe2, mq2) => (True)) D (fun (u : Int32 × (Nat → Int32) × (Nat → Int32) × (Nat → Int32)) => match u with | (mL2, fa2, fe2, mq2) => [(h0, .inr (9, [.ref ys, .ref yk, .ref yo, .ref yt, .int mk0, .ref yfa, .ref yfe, .int mL2, .int mS, .int mM, .ref yro, .ref yhe, .ref ygr, .int mF, .int mC, .int mY, .ref yta, .int (nI (mz)), .int (nI (mf)), .int (nI (mt)), .int mv, .int mw, .ref ywa, .ref ybi, .ref ysi, .ref ynu, .ref ymo])), (ys, .inl (cI, 449, .inl ms)), (yfa, .inl (cI, 100, .inl fa2)), (yfe, .inl (cI, 100, .inl fe2)), (yt, .inl (cI, 7, .inl mq2))]) (va_A [(h0, .inr (9, [.ref ys, .ref yk, .ref yo, .ref yt, .int mk0, .ref yfa, .ref yfe, .int mL, .int mS, .int mM, .ref yro, .ref yhe, .ref ygr, .int mF, .int mC, .int mY, .ref yta, .int (nI (mz)), .int (nI (mf)), .int (nI (mt)), .int mv, .int mw, .ref ywa, .ref ybi, .ref ysi, .ref ynu, .ref ymo])), (ys, .inl (cI, 449, .inl ms)), (yfa, .inl (cI, 100, .inl fa)), (yfe, .inl (cI, 100, .inl fe)), (yt, .inl (cI, 7, .inl mq))] sz)) 0 0 (va_A [(h0, .inr (9, [.ref ys, .ref yk, .ref yo, .ref yt, .int mk0, .ref yfa, .ref yfe, .int mL, .int mS, .int mM, .ref yro, .ref yhe, .ref ygr, .int mF, .int mC, .int mY, .ref yta, .int (nI (mz)), .int (nI (mf)), .int (nI (mt)), .int mv, .int mw, .ref ywa, .ref ybi, .ref ysi, .ref ynu, .ref ymo])), (ys, .inl (cI, 449, .inl ms)), (yfa, .inl (cI, 100, .inl fa)), (yfe, .inl (cI, 100, .inl fe)), (yt, .inl (cI, 7, .inl mq))] sz) := by
  refine xh (QA := fun A => XQi (fun (r : Int32) (u : Int32 × (Nat → Int32) × (Nat → Int32) × (Nat → Int32)) => match u with | (mL2, fa2, fe2, mq2) => (True)) D (fun (u : Int32 × (Nat → Int32) × (Nat → Int32) × (Nat → Int32)) => match u with | (mL2, fa2, fe2, mq2) => [(h0, .inr (9, [.ref ys, .ref yk, .ref yo, .ref yt, .int mk0, .ref yfa, .ref yfe, .int mL2, .int mS, .int mM, .ref yro, .ref yhe, .ref ygr, .int mF, .int mC, .int mY, .ref yta, .int (nI (mz)), .int (nI (mf)), .int (nI (mt)), .int mv, .int mw, .ref ywa, .ref ybi, .ref ysi, .ref ynu, .ref ymo])), (ys, .inl (cI, 449, .inl ms)), (yfa, .inl (cI, 100, .inl fa2)), (yfe, .inl (cI, 100, .inl fe2)), (yt, .inl (cI, 7, .inl mq2))]) A) (fr := fun A => A) (by decide) (Nat.le_of_ble_eq_true rfl) ?_
  intro p e s m below meth c ls A hF hr hlk hin hsz hP hK hD hN hZ hA hS hl
  have hF : CallFix p m c cX9_far 3 s _ _ RX9 := hF
  have hx := hF.1
  have hb := hF.2.1
  have hml := hF.2.2.1
  have hown := hF.2.2.2.1
  have hu : ∀ w ∈ wsU, w.before _ s = true := fun w h => hF.2.2.2.2 w (List.mem_cons_of_mem _ h)
  have hl : lv_has ls 3 [(0, .ref h0), (1, .int p0), (2, .int p1)] := hl
  refine lv_aload_n hx hb dX9_far_0 rfl (lv_at hl 0 rfl) ?_
  refine lv_iload_n hx hb dX9_far_1 rfl (lv_at hl 1 rfl) ?_
  refine xc_Vr hF (c_X9_isPlace l D cI cJ cZ cS ta sa sv s.heap.size h0 ys yk yo yt mk0 yfa yfe mL mS mM yro yhe ygr mF mC mY yta mz mf mt mv mw ywa ybi ysi ynu ymo ms P Rn Wn fae fal fau fao farn farp fak fawn fawp fat fas p0 hs0 hs1 hs2 hsS hsM hsp hsr hsw hsR hsG) kv_X9_61 ⟨rfl, rfl, Nat.le_of_ble_eq_true rfl, Nat.le_of_ble_eq_true rfl⟩ ⟨Nat.le_of_ble_eq_true rfl, Nat.le_of_ble_eq_true rfl⟩ hK hN hZ hP hD hS hA [0, 1] rfl rfl 0 rfl rfl rfl rfl hl.1 rfl (Nat.le_of_ble_eq_true rfl) dX9_far_2 (fun r_1 hw_r_1 => ?_)
  rcases hw_r_1 with ⟨k_2, rfl, rfl, h_4⟩ | ⟨rfl, h_5⟩
  · skip
    refine lv_if_eq (tgt := 16) hx hb dX9_far_5 (by decide) (fun c_6 => absurd c_6 (by decide)) (fun c_6 => ?_)
    refine lv_aload_n hx hb dX9_far_8 rfl (lv_at hl 0 rfl) ?_
    refine lv_iload_n hx hb dX9_far_9 rfl (lv_at hl 2 rfl) ?_
    refine xc_Vr hF (c_X9_isPlace l D cI cJ cZ cS ta sa sv s.heap.size h0 ys yk yo yt mk0 yfa yfe mL mS mM yro yhe ygr mF mC mY yta mz mf mt mv mw ywa ybi ysi ynu ymo ms P Rn Wn fae fal fau fao farn farp fak fawn fawp fat fas p1 hs0 hs1 hs2 hsS hsM hsp hsr hsw hsR hsG) kv_X9_61 ⟨rfl, rfl, Nat.le_of_ble_eq_true rfl, Nat.le_of_ble_eq_true rfl⟩ ⟨Nat.le_of_ble_eq_true rfl, Nat.le_of_ble_eq_true rfl⟩ hK hN hZ hP hD hS hA [0, 1] rfl rfl 0 rfl rfl rfl rfl hl.1 rfl (Nat.le_of_ble_eq_true rfl) dX9_far_10 (fun r_7 hw_r_7 => ?_)
    rcases hw_r_7 with ⟨k_8, rfl, rfl, h_10⟩ | ⟨rfl, h_11⟩
    · skip
      refine lv_if_ne (tgt := 23) hx hb dX9_far_13 (by decide) (fun c_12 => ?_) (fun c_12 => absurd c_12 (by decide))
      refine lv_aload_n hx hb dX9_far_23 rfl (lv_at hl 0 rfl) ?_
      refine xc_Vv (wr := [(yt, .inl (cI, 7, .inl mq))]) hF (c_X9_findFar l D cI cJ cZ cS ta sa sv s.heap.size h0 ys yk yo yt mk0 yfa yfe mL mS mM yro yhe ygr mF mC mY yta mz mf mt mv mw ywa ybi ysi ynu ymo ms fa fe P Rn Wn fae fal fau fao farn farp fak fawn fawp fat fas hs0 hs1 hs2 hsS hsM hsp hsr hsw hsR hsG) kv_X9_113 ⟨rfl, rfl, Nat.le_of_ble_eq_true rfl, Nat.le_of_ble_eq_true rfl⟩ ⟨Nat.le_of_ble_eq_true rfl, Nat.le_of_ble_eq_true rfl⟩ hK hN hZ hP hD hS hA [0, 1, 2, 3] [4] rfl rfl rfl rfl (by decide) 0 rfl rfl rfl rfl hl.1 rfl (Nat.le_of_ble_eq_true rfl) dX9_far_24 (fun u_r_13 H locs hw_r_13 hP hD hS => ?_)
      obtain ⟨mL2_14, fa2_15, fe2_16⟩ := u_r_13
      try dsimp only at hw_r_13
      have i_17 := hw_r_13
      have hP : va_P D vwCl [(yt, .inl (cI, 7, .inl mq)), (h0, .inr (9, [.ref ys, .ref yk, .ref yo, .ref yt, .int mk0, .ref yfa, .ref yfe, .int mL2_14, .int mS, .int mM, .ref yro, .ref yhe, .ref ygr, .int mF, .int mC, .int mY, .ref yta, .int (nI (mz)), .int (nI (mf)), .int (nI (mt)), .int mv, .int mw, .ref ywa, .ref ybi, .ref ysi, .ref ynu, .ref ymo])), (ys, .inl (cI, 449, .inl ms)), (yfa, .inl (cI, 100, .inl fa2_15)), (yfe, .inl (cI, 100, .inl fe2_16))] H := hP
      have hD : va_D A [(yt, .inl (cI, 7, .inl mq)), (h0, .inr (9, [.ref ys, .ref yk, .ref yo, .ref yt, .int mk0, .ref yfa, .ref yfe, .int mL2_14, .int mS, .int mM, .ref yro, .ref yhe, .ref ygr, .int mF, .int mC, .int mY, .ref yta, .int (nI (mz)), .int (nI (mf)), .int (nI (mt)), .int mv, .int mw, .ref ywa, .ref ybi, .ref ysi, .ref ynu, .ref ymo])), (ys, .inl (cI, 449, .inl ms)), (yfa, .inl (cI, 100, .inl fa2_15)), (yfe, .inl (cI, 100, .inl fe2_16))] := hD
      refine lv_aload_n hx hb dX9_far_27 rfl (lv_at hl 0 rfl) ?_
      refine xg hF kf_X9_109 hK hP 1 rfl rfl dX9_far_28 ?_
      refine lv_if_eq (tgt := 43) hx hb dX9_far_31 (by decide) (fun c_18 => ?_) (fun c_18 => ?_)
      · skip
        refine lv_aload_n hx hb dX9_far_43 rfl (lv_at hl 0 rfl) ?_
        refine xg hF kf_X9_22 hK hP 1 rfl rfl dX9_far_44 ?_
        refine lv_bipush (v := 10) hx hb dX9_far_47 (by decide) ?_
        refine lv_iload_n hx hb dX9_far_49 rfl (lv_at hl 1 rfl) ?_
        refine lv_imul hx hb dX9_far_50 ?_
        refine xl_i (y := nI (10 * k_2)) (pk_mul 10 k_2) ?_
        refine lv_iload_n hx hb dX9_far_51 rfl (lv_at hl 2 rfl) ?_
        refine lv_iadd hx hb dX9_far_52 ?_
        refine xl_i (y := nI (10 * k_2 + k_8)) (nI_add (10 * k_2) k_8) ?_
        refine va_iald hx hb hK hP 3 0 rfl rfl (vp_in_nI (show 10 * k_2 + k_8 < 100 by omega) (by decide)) dX9_far_53 ?_
        refine xl_i (y := fa2_15 (10 * k_2 + k_8)) (congrArg fa2_15 (nI_clamp (show 10 * k_2 + k_8 < 2 ^ 31 by omega))) ?_
        refine lv_ldc (v := 100000000) hx hb hown (hu _ uw701) dX9_far_54 ?_
        refine lv_icmp_ne (tgt := 68) hx hb dX9_far_56 (by decide) (fun c_19 => ?_) (fun c_19 => ?_)
        · skip
          refine lv_aload_n hx hb dX9_far_68 rfl (lv_at hl 0 rfl) ?_
          refine xg hF kf_X9_22 hK hP 1 rfl rfl dX9_far_69 ?_
          refine lv_bipush (v := 10) hx hb dX9_far_72 (by decide) ?_
          refine lv_iload_n hx hb dX9_far_74 rfl (lv_at hl 1 rfl) ?_
          refine lv_imul hx hb dX9_far_75 ?_
          refine xl_i (y := nI (10 * k_2)) (pk_mul 10 k_2) ?_
          refine lv_iload_n hx hb dX9_far_76 rfl (lv_at hl 2 rfl) ?_
          refine lv_iadd hx hb dX9_far_77 ?_
          refine xl_i (y := nI (10 * k_2 + k_8)) (nI_add (10 * k_2) k_8) ?_
          refine va_iald hx hb hK hP 3 0 rfl rfl (vp_in_nI (show 10 * k_2 + k_8 < 100 by omega) (by decide)) dX9_far_78 ?_
          refine xl_i (y := fa2_15 (10 * k_2 + k_8)) (congrArg fa2_15 (nI_clamp (show 10 * k_2 + k_8 < 2 ^ 31 by omega))) ?_
          exact W.iret (v := fa2_15 (10 * k_2 + k_8)) hx hb hr (fun t ht hW => ⟨⟨fa2_15 (10 * k_2 + k_8), (mL2_14, fa2_15, fe2_16, mq), rfl, trivial, by rw [ht]; exact hP.sub [1, 2, 3, 4, 0] rfl, hD.sub [1, 2, 3, 4, 0] (by decide +kernel) rfl⟩, hS.F ht⟩) hS.2.2 dX9_far_79 hlk
        · skip
          refine lv_aload_n hx hb dX9_far_59 rfl (lv_at hl 0 rfl) ?_
          refine lv_ldc (v := (-1000000004)) hx hb hown (hu _ uw699) dX9_far_60 ?_
          refine xc_Vi (wr := [(ys, .inl (cI, 449, .inl ms)), (yfa, .inl (cI, 100, .inl fa2_15)), (yfe, .inl (cI, 100, .inl fe2_16))]) hF (c_X9_finds_N l D cI cJ cZ cS ta sa sv H.size h0 ys yk yo yt mk0 yfa yfe mL2_14 mS mM yro yhe ygr mF mC mY yta mz mf mt mv mw ywa ybi ysi ynu ymo mq ) kv_X9_70 ⟨rfl, rfl, Nat.le_of_ble_eq_true rfl, Nat.le_of_ble_eq_true rfl⟩ ⟨Nat.le_of_ble_eq_true rfl, Nat.le_of_ble_eq_true rfl⟩ hK hN hZ hP hD hS hA [1, 0] [2, 3, 4] rfl rfl rfl rfl (by decide) 0 rfl rfl rfl rfl hl.1 rfl (Nat.le_of_ble_eq_true rfl) dX9_far_62 (fun r_20 u_r_20 H locs hw_r_20 hP hD hS => ?_)
          obtain ⟨mq2_21, rfl⟩ : ∃ z, z = u_r_20 := ⟨_, rfl⟩
          try dsimp only at hw_r_20
          have hP : va_P D vwCl [(ys, .inl (cI, 449, .inl ms)), (yfa, .inl (cI, 100, .inl fa2_15)), (yfe, .inl (cI, 100, .inl fe2_16)), (h0, .inr (9, [.ref ys, .ref yk, .ref yo, .ref yt, .int mk0, .ref yfa, .ref yfe, .int mL2_14, .int mS, .int mM, .ref yro, .ref yhe, .ref ygr, .int mF, .int mC, .int mY, .ref yta, .int (nI (mz)), .int (nI (mf)), .int (nI (mt)), .int mv, .int mw, .ref ywa, .ref ybi, .ref ysi, .ref ynu, .ref ymo])), (yt, .inl (cI, 7, .inl mq2_21))] H := hP
          have hD : va_D A [(ys, .inl (cI, 449, .inl ms)), (yfa, .inl (cI, 100, .inl fa2_15)), (yfe, .inl (cI, 100, .inl fe2_16)), (h0, .inr (9, [.ref ys, .ref yk, .ref yo, .ref yt, .int mk0, .ref yfa, .ref yfe, .int mL2_14, .int mS, .int mM, .ref yro, .ref yhe, .ref ygr, .int mF, .int mC, .int mY, .ref yta, .int (nI (mz)), .int (nI (mf)), .int (nI (mt)), .int mv, .int mw, .ref ywa, .ref ybi, .ref ysi, .ref ynu, .ref ymo])), (yt, .inl (cI, 7, .inl mq2_21))] := hD
          subst hw_r_20
          refine lv_goto (tgt := 79) hx hb dX9_far_65 (by decide) ?_
          exact W.iret (v := (-1000000004)) hx hb hr (fun t ht hW => ⟨⟨(-1000000004), (mL2_14, fa2_15, fe2_16, mq2_21), rfl, trivial, by rw [ht]; exact hP.sub [3, 0, 1, 2, 4] rfl, hD.sub [3, 0, 1, 2, 4] (by decide +kernel) rfl⟩, hS.F ht⟩) hS.2.2 dX9_far_79 hlk
      · skip
        refine lv_aload_n hx hb dX9_far_34 rfl (lv_at hl 0 rfl) ?_
        refine lv_ldc (v := (-1000000005)) hx hb hown (hu _ uw716) dX9_far_35 ?_
        refine xc_Vi (wr := [(ys, .inl (cI, 449, .inl ms)), (yfa, .inl (cI, 100, .inl fa2_15)), (yfe, .inl (cI, 100, .inl fe2_16))]) hF (c_X9_finds_T l D cI cJ cZ cS ta sa sv H.size h0 ys yk yo yt mk0 yfa yfe mL2_14 mS mM yro yhe ygr mF mC mY yta mz mf mt mv mw ywa ybi ysi ynu ymo mq ) kv_X9_70 ⟨rfl, rfl, Nat.le_of_ble_eq_true rfl, Nat.le_of_ble_eq_true rfl⟩ ⟨Nat.le_of_ble_eq_true rfl, Nat.le_of_ble_eq_true rfl⟩ hK hN hZ hP hD hS hA [1, 0] [2, 3, 4] rfl rfl rfl rfl (by decide) 0 rfl rfl rfl rfl hl.1 rfl (Nat.le_of_ble_eq_true rfl) dX9_far_37 (fun r_22 u_r_22 H locs hw_r_22 hP hD hS => ?_)
        obtain ⟨mq2_23, rfl⟩ : ∃ z, z = u_r_22 := ⟨_, rfl⟩
        try dsimp only at hw_r_22
        have hP : va_P D vwCl [(ys, .inl (cI, 449, .inl ms)), (yfa, .inl (cI, 100, .inl fa2_15)), (yfe, .inl (cI, 100, .inl fe2_16)), (h0, .inr (9, [.ref ys, .ref yk, .ref yo, .ref yt, .int mk0, .ref yfa, .ref yfe, .int mL2_14, .int mS, .int mM, .ref yro, .ref yhe, .ref ygr, .int mF, .int mC, .int mY, .ref yta, .int (nI (mz)), .int (nI (mf)), .int (nI (mt)), .int mv, .int mw, .ref ywa, .ref ybi, .ref ysi, .ref ynu, .ref ymo])), (yt, .inl (cI, 7, .inl mq2_23))] H := hP
        have hD : va_D A [(ys, .inl (cI, 449, .inl ms)), (yfa, .inl (cI, 100, .inl fa2_15)), (yfe, .inl (cI, 100, .inl fe2_16)), (h0, .inr (9, [.ref ys, .ref yk, .ref yo, .ref yt, .int mk0, .ref yfa, .ref yfe, .int mL2_14, .int mS, .int mM, .ref yro, .ref yhe, .ref ygr, .int mF, .int mC, .int mY, .ref yta, .int (nI (mz)), .int (nI (mf)), .int (nI (mt)), .int mv, .int mw, .ref ywa, .ref ybi, .ref ysi, .ref ynu, .ref ymo])), (yt, .inl (cI, 7, .inl mq2_23))] := hD
        subst hw_r_22
        refine lv_goto (tgt := 79) hx hb dX9_far_40 (by decide) ?_
        exact W.iret (v := (-1000000005)) hx hb hr (fun t ht hW => ⟨⟨(-1000000005), (mL2_14, fa2_15, fe2_16, mq2_23), rfl, trivial, by rw [ht]; exact hP.sub [3, 0, 1, 2, 4] rfl, hD.sub [3, 0, 1, 2, 4] (by decide +kernel) rfl⟩, hS.F ht⟩) hS.2.2 dX9_far_79 hlk
    · skip
      refine lv_if_ne (tgt := 23) hx hb dX9_far_13 (by decide) (fun c_24 => absurd (by decide) c_24) (fun c_24 => ?_)
      refine lv_aload_n hx hb dX9_far_16 rfl (lv_at hl 0 rfl) ?_
      refine lv_ldc (v := (-1000000001)) hx hb hown (hu _ uw648) dX9_far_17 ?_
      refine xc_Vi (wr := [(ys, .inl (cI, 449, .inl ms)), (yfa, .inl (cI, 100, .inl fa)), (yfe, .inl (cI, 100, .inl fe))]) hF (c_X9_finds_B l D cI cJ cZ cS ta sa sv s.heap.size h0 ys yk yo yt mk0 yfa yfe mL mS mM yro yhe ygr mF mC mY yta mz mf mt mv mw ywa ybi ysi ynu ymo mq ) kv_X9_70 ⟨rfl, rfl, Nat.le_of_ble_eq_true rfl, Nat.le_of_ble_eq_true rfl⟩ ⟨Nat.le_of_ble_eq_true rfl, Nat.le_of_ble_eq_true rfl⟩ hK hN hZ hP hD hS hA [0, 4] [1, 2, 3] rfl rfl rfl rfl (by decide) 0 rfl rfl rfl rfl hl.1 rfl (Nat.le_of_ble_eq_true rfl) dX9_far_19 (fun r_25 u_r_25 H locs hw_r_25 hP hD hS => ?_)
      obtain ⟨mq2_26, rfl⟩ : ∃ z, z = u_r_25 := ⟨_, rfl⟩
      try dsimp only at hw_r_25
      have hP : va_P D vwCl [(ys, .inl (cI, 449, .inl ms)), (yfa, .inl (cI, 100, .inl fa)), (yfe, .inl (cI, 100, .inl fe)), (h0, .inr (9, [.ref ys, .ref yk, .ref yo, .ref yt, .int mk0, .ref yfa, .ref yfe, .int mL, .int mS, .int mM, .ref yro, .ref yhe, .ref ygr, .int mF, .int mC, .int mY, .ref yta, .int (nI (mz)), .int (nI (mf)), .int (nI (mt)), .int mv, .int mw, .ref ywa, .ref ybi, .ref ysi, .ref ynu, .ref ymo])), (yt, .inl (cI, 7, .inl mq2_26))] H := hP
      have hD : va_D A [(ys, .inl (cI, 449, .inl ms)), (yfa, .inl (cI, 100, .inl fa)), (yfe, .inl (cI, 100, .inl fe)), (h0, .inr (9, [.ref ys, .ref yk, .ref yo, .ref yt, .int mk0, .ref yfa, .ref yfe, .int mL, .int mS, .int mM, .ref yro, .ref yhe, .ref ygr, .int mF, .int mC, .int mY, .ref yta, .int (nI (mz)), .int (nI (mf)), .int (nI (mt)), .int mv, .int mw, .ref ywa, .ref ybi, .ref ysi, .ref ynu, .ref ymo])), (yt, .inl (cI, 7, .inl mq2_26))] := hD
      subst hw_r_25
      exact W.iret (v := (-1000000001)) hx hb hr (fun t ht hW => ⟨⟨(-1000000001), (mL, fa, fe, mq2_26), rfl, trivial, by rw [ht]; exact hP.sub [3, 0, 1, 2, 4] rfl, hD.sub [3, 0, 1, 2, 4] (by decide +kernel) rfl⟩, hS.F ht⟩) hS.2.2 dX9_far_22 hlk
  · skip
    refine lv_if_eq (tgt := 16) hx hb dX9_far_5 (by decide) (fun c_27 => ?_) (fun c_27 => absurd (by decide) c_27)
    refine lv_aload_n hx hb dX9_far_16 rfl (lv_at hl 0 rfl) ?_
    refine lv_ldc (v := (-1000000001)) hx hb hown (hu _ uw648) dX9_far_17 ?_
    refine xc_Vi (wr := [(ys, .inl (cI, 449, .inl ms)), (yfa, .inl (cI, 100, .inl fa)), (yfe, .inl (cI, 100, .inl fe))]) hF (c_X9_finds_B l D cI cJ cZ cS ta sa sv s.heap.size h0 ys yk yo yt mk0 yfa yfe mL mS mM yro yhe ygr mF mC mY yta mz mf mt mv mw ywa ybi ysi ynu ymo mq ) kv_X9_70 ⟨rfl, rfl, Nat.le_of_ble_eq_true rfl, Nat.le_of_ble_eq_true rfl⟩ ⟨Nat.le_of_ble_eq_true rfl, Nat.le_of_ble_eq_true rfl⟩ hK hN hZ hP hD hS hA [0, 4] [1, 2, 3] rfl rfl rfl rfl (by decide) 0 rfl rfl rfl rfl hl.1 rfl (Nat.le_of_ble_eq_true rfl) dX9_far_19 (fun r_28 u_r_28 H locs hw_r_28 hP hD hS => ?_)
    obtain ⟨mq2_29, rfl⟩ : ∃ z, z = u_r_28 := ⟨_, rfl⟩
    try dsimp only at hw_r_28
    have hP : va_P D vwCl [(ys, .inl (cI, 449, .inl ms)), (yfa, .inl (cI, 100, .inl fa)), (yfe, .inl (cI, 100, .inl fe)), (h0, .inr (9, [.ref ys, .ref yk, .ref yo, .ref yt, .int mk0, .ref yfa, .ref yfe, .int mL, .int mS, .int mM, .ref yro, .ref yhe, .ref ygr, .int mF, .int mC, .int mY, .ref yta, .int (nI (mz)), .int (nI (mf)), .int (nI (mt)), .int mv, .int mw, .ref ywa, .ref ybi, .ref ysi, .ref ynu, .ref ymo])), (yt, .inl (cI, 7, .inl mq2_29))] H := hP
    have hD : va_D A [(ys, .inl (cI, 449, .inl ms)), (yfa, .inl (cI, 100, .inl fa)), (yfe, .inl (cI, 100, .inl fe)), (h0, .inr (9, [.ref ys, .ref yk, .ref yo, .ref yt, .int mk0, .ref yfa, .ref yfe, .int mL, .int mS, .int mM, .ref yro, .ref yhe, .ref ygr, .int mF, .int mC, .int mY, .ref yta, .int (nI (mz)), .int (nI (mf)), .int (nI (mt)), .int mv, .int mw, .ref ywa, .ref ybi, .ref ysi, .ref ynu, .ref ymo])), (yt, .inl (cI, 7, .inl mq2_29))] := hD
    subst hw_r_28
    exact W.iret (v := (-1000000001)) hx hb hr (fun t ht hW => ⟨⟨(-1000000001), (mL, fa, fe, mq2_29), rfl, trivial, by rw [ht]; exact hP.sub [3, 0, 1, 2, 4] rfl, hD.sub [3, 0, 1, 2, 4] (by decide +kernel) rfl⟩, hS.F ht⟩) hS.2.2 dX9_far_22 hlk
set_option maxHeartbeats 4000000 in
set_option maxRecDepth 100000 in
theorem c_X9_by (l : Launch) (D : va_G) (cI cJ cZ cS : ClassId) (ta : Nat) (sa sv : Nat → Nat) (sz : Nat) (h0 : Nat) (ys : Nat) (yk : Nat) (yo : Nat) (yt : Nat) (mk0 : Int32) (yfa : Nat) (yfe : Nat) (mL : Int32) (mS : Int32) (mM : Int32) (yro : Nat) (yhe : Nat) (ygr : Nat) (mF : Int32) (mC : Int32) (mY : Int32) (yta : Nat) (mz : Nat) (mf : Nat) (mt : Nat) (mv : Int32) (mw : Int32) (ywa : Nat) (ybi : Nat) (ysi : Nat) (ynu : Nat) (ymo : Nat) (ms : Nat → Int32) (fa : Nat → Int32) (fe : Nat → Int32) (mq : Nat → Int32) (P : Nat) (Rn : Nat) (Wn : Nat) (fae : Nat → Int32) (fal : Nat → Int32) (fau : Nat → Int32) (fao : Nat → Int32) (farn : Nat → Int32) (farp : Nat → Int32) (fak : Nat → Int32) (fawn : Nat → Int32) (fawp : Nat → Int32) (fat : Nat → Int32) (fas : Nat → Int32) (p0 : Int32) (p1 : Int32) (p2 : Int32) (hs0 : ms 0 = nI P) (hs1 : ms 1 = nI Rn) (hs2 : ms 2 = nI Wn) (hsS : SI ms) (hsM : MI ms) (hsp : P ≤ 10) (hsr : Rn ≤ 8) (hsw : Wn ≤ 8) (hsR : RI Rn ms) (hsG : FR P ms fae fal fau fao farn farp fak fawn fawp fat fas) : Met l yX9_by (Cond.code yX9_by cX9_by 10 (some .int) :: wsU) ({ frames := 2, cells := 0, slots := 0, locals := 52 }) (va_Pc [.ref h0, .int p0, .int p1, .int p2] (XW D (xT cI cJ cZ cS) ta sa sv [(h0, .inr (9, [.ref ys, .ref yk, .ref yo, .ref yt, .int mk0, .ref yfa, .ref yfe, .int mL, .int mS, .int mM, .ref yro, .ref yhe, .ref ygr, .int mF, .int mC, .int mY, .ref yta, .int (nI (mz)), .int (nI (mf)), .int (nI (mt)), .int mv, .int mw, .ref ywa, .ref ybi, .ref ysi, .ref ynu, .ref ymo])), (ys, .inl (cI, 449, .inl ms)), (yfa, .inl (cI, 100, .inl fa)), (yfe, .inl (cI, 100, .inl fe)), (yt, .inl (cI, 7, .inl mq))] sz)) (XQi (fun (r : Int32) (u : Int32 × (Nat → Int32) × (Nat → Int32) × (Nat → Int32)) => match u with | (mL2, fa2, fe2, mq2) => (True)) D (fun (u : Int32 × (Nat → Int32) × (Nat → Int32) × (Nat → Int32)) => match u with | (mL2, fa2, fe2, mq2) => [(h0, .inr (9, [.ref ys, .ref yk, .ref yo, .ref yt, .int mk0, .ref yfa, .ref yfe, .int mL2, .int mS, .int mM, .ref yro, .ref yhe, .ref ygr, .int mF, .int mC, .int mY, .ref yta, .int (nI (mz)), .int (nI (mf)), .int (nI (mt)), .int mv, .int mw, .ref ywa, .ref ybi, .ref ysi, .ref ynu, .ref ymo])), (ys, .inl (cI, 449, .inl ms)), (yfa, .inl (cI, 100, .inl fa2)), (yfe, .inl (cI, 100, .inl fe2)), (yt, .inl (cI, 7, .inl mq2))]) (va_A [(h0, .inr (9, [.ref ys, .ref yk, .ref yo, .ref yt, .int mk0, .ref yfa, .ref yfe, .int mL, .int mS, .int mM, .ref yro, .ref yhe, .ref ygr, .int mF, .int mC, .int mY, .ref yta, .int (nI (mz)), .int (nI (mf)), .int (nI (mt)), .int mv, .int mw, .ref ywa, .ref ybi, .ref ysi, .ref ynu, .ref ymo])), (ys, .inl (cI, 449, .inl ms)), (yfa, .inl (cI, 100, .inl fa)), (yfe, .inl (cI, 100, .inl fe)), (yt, .inl (cI, 7, .inl mq))] sz)) 0 0 (va_A [(h0, .inr (9, [.ref ys, .ref yk, .ref yo, .ref yt, .int mk0, .ref yfa, .ref yfe, .int mL, .int mS, .int mM, .ref yro, .ref yhe, .ref ygr, .int mF, .int mC, .int mY, .ref yta, .int (nI (mz)), .int (nI (mf)), .int (nI (mt)), .int mv, .int mw, .ref ywa, .ref ybi, .ref ysi, .ref ynu, .ref ymo])), (ys, .inl (cI, 449, .inl ms)), (yfa, .inl (cI, 100, .inl fa)), (yfe, .inl (cI, 100, .inl fe)), (yt, .inl (cI, 7, .inl mq))] sz) := by
  refine xh (QA := fun A => XQi (fun (r : Int32) (u : Int32 × (Nat → Int32) × (Nat → Int32) × (Nat → Int32)) => match u with | (mL2, fa2, fe2, mq2) => (True)) D (fun (u : Int32 × (Nat → Int32) × (Nat → Int32) × (Nat → Int32)) => match u with | (mL2, fa2, fe2, mq2) => [(h0, .inr (9, [.ref ys, .ref yk, .ref yo, .ref yt, .int mk0, .ref yfa, .ref yfe, .int mL2, .int mS, .int mM, .ref yro, .ref yhe, .ref ygr, .int mF, .int mC, .int mY, .ref yta, .int (nI (mz)), .int (nI (mf)), .int (nI (mt)), .int mv, .int mw, .ref ywa, .ref ybi, .ref ysi, .ref ynu, .ref ymo])), (ys, .inl (cI, 449, .inl ms)), (yfa, .inl (cI, 100, .inl fa2)), (yfe, .inl (cI, 100, .inl fe2)), (yt, .inl (cI, 7, .inl mq2))]) A) (fr := fun A => A) (by decide) (Nat.le_of_ble_eq_true rfl) ?_
  intro p e s m below meth c ls A hF hr hlk hin hsz hP hK hD hN hZ hA hS hl
  have hF : CallFix p m c cX9_by 10 s _ _ RX9 := hF
  have hx := hF.1
  have hb := hF.2.1
  have hml := hF.2.2.1
  have hown := hF.2.2.2.1
  have hu : ∀ w ∈ wsU, w.before _ s = true := fun w h => hF.2.2.2.2 w (List.mem_cons_of_mem _ h)
  have hl : lv_has ls 10 [(0, .ref h0), (1, .int p0), (2, .int p1), (3, .int p2)] := hl
  refine lv_aload_n hx hb dX9_by_0 rfl (lv_at hl 0 rfl) ?_
  refine lv_iload_n hx hb dX9_by_1 rfl (lv_at hl 1 rfl) ?_
  refine xc_Vr hF (c_X9_isPlace l D cI cJ cZ cS ta sa sv s.heap.size h0 ys yk yo yt mk0 yfa yfe mL mS mM yro yhe ygr mF mC mY yta mz mf mt mv mw ywa ybi ysi ynu ymo ms P Rn Wn fae fal fau fao farn farp fak fawn fawp fat fas p0 hs0 hs1 hs2 hsS hsM hsp hsr hsw hsR hsG) kv_X9_61 ⟨rfl, rfl, Nat.le_of_ble_eq_true rfl, Nat.le_of_ble_eq_true rfl⟩ ⟨Nat.le_of_ble_eq_true rfl, Nat.le_of_ble_eq_true rfl⟩ hK hN hZ hP hD hS hA [0, 1] rfl rfl 0 rfl rfl rfl rfl hl.1 rfl (Nat.le_of_ble_eq_true rfl) dX9_by_2 (fun r_1 hw_r_1 => ?_)
  rcases hw_r_1 with ⟨k_2, rfl, rfl, h_4⟩ | ⟨rfl, h_5⟩
  · skip
    refine lv_if_eq (tgt := 30) hx hb dX9_by_5 (by decide) (fun c_6 => absurd c_6 (by decide)) (fun c_6 => ?_)
    refine lv_aload_n hx hb dX9_by_8 rfl (lv_at hl 0 rfl) ?_
    refine lv_iload_n hx hb dX9_by_9 rfl (lv_at hl 2 rfl) ?_
    refine xc_Vr hF (c_X9_isPlace l D cI cJ cZ cS ta sa sv s.heap.size h0 ys yk yo yt mk0 yfa yfe mL mS mM yro yhe ygr mF mC mY yta mz mf mt mv mw ywa ybi ysi ynu ymo ms P Rn Wn fae fal fau fao farn farp fak fawn fawp fat fas p1 hs0 hs1 hs2 hsS hsM hsp hsr hsw hsR hsG) kv_X9_61 ⟨rfl, rfl, Nat.le_of_ble_eq_true rfl, Nat.le_of_ble_eq_true rfl⟩ ⟨Nat.le_of_ble_eq_true rfl, Nat.le_of_ble_eq_true rfl⟩ hK hN hZ hP hD hS hA [0, 1] rfl rfl 0 rfl rfl rfl rfl hl.1 rfl (Nat.le_of_ble_eq_true rfl) dX9_by_10 (fun r_7 hw_r_7 => ?_)
    rcases hw_r_7 with ⟨k_8, rfl, rfl, h_10⟩ | ⟨rfl, h_11⟩
    · skip
      refine lv_if_eq (tgt := 30) hx hb dX9_by_13 (by decide) (fun c_12 => absurd c_12 (by decide)) (fun c_12 => ?_)
      refine lv_iload_n hx hb dX9_by_16 rfl (lv_at hl 3 rfl) ?_
      refine lv_i2l (v := p2.toInt64) hx hb dX9_by_17 rfl ?_
      refine lv_ldc2 (v := (-1)) hx hb hown (hu _ uw717) dX9_by_18 ?_
      refine xl_l (y := (-1 : Int32).toInt64) (by decide) ?_
      refine lv_ldc2 (v := 9) hx hb hown (hu _ uw718) dX9_by_21 ?_
      refine xl_l (y := (9 : Int32).toInt64) (by decide) ?_
      refine xc_Sr hF (c_X9_in l D cI cJ cZ cS ta sa sv s.heap.size p2 (-1) 9 ) ks_X9_57 ⟨rfl, rfl, Nat.le_of_ble_eq_true rfl, Nat.le_of_ble_eq_true rfl⟩ ⟨Nat.le_of_ble_eq_true rfl, Nat.le_of_ble_eq_true rfl⟩ hK hN hZ hP hD hS hA [] rfl rfl rfl hl.1 rfl (Nat.le_of_ble_eq_true rfl) dX9_by_24 (fun r_13 hw_r_13 => ?_)
      rcases hw_r_13 with ⟨rfl, h_14, h_15⟩ | ⟨rfl, h_16⟩
      · skip
        refine lv_if_ne (tgt := 37) hx hb dX9_by_27 (by decide) (fun c_17 => ?_) (fun c_17 => absurd c_17 (by decide))
        refine lv_aload_n hx hb dX9_by_37 rfl (lv_at hl 0 rfl) ?_
        refine xc_Vv (wr := [(yt, .inl (cI, 7, .inl mq))]) hF (c_X9_findFar l D cI cJ cZ cS ta sa sv s.heap.size h0 ys yk yo yt mk0 yfa yfe mL mS mM yro yhe ygr mF mC mY yta mz mf mt mv mw ywa ybi ysi ynu ymo ms fa fe P Rn Wn fae fal fau fao farn farp fak fawn fawp fat fas hs0 hs1 hs2 hsS hsM hsp hsr hsw hsR hsG) kv_X9_113 ⟨rfl, rfl, Nat.le_of_ble_eq_true rfl, Nat.le_of_ble_eq_true rfl⟩ ⟨Nat.le_of_ble_eq_true rfl, Nat.le_of_ble_eq_true rfl⟩ hK hN hZ hP hD hS hA [0, 1, 2, 3] [4] rfl rfl rfl rfl (by decide) 0 rfl rfl rfl rfl hl.1 rfl (Nat.le_of_ble_eq_true rfl) dX9_by_38 (fun u_r_18 H locs hw_r_18 hP hD hS => ?_)
        obtain ⟨mL2_19, fa2_20, fe2_21⟩ := u_r_18
        try dsimp only at hw_r_18
        have i_22 := hw_r_18
        have hP : va_P D vwCl [(yt, .inl (cI, 7, .inl mq)), (h0, .inr (9, [.ref ys, .ref yk, .ref yo, .ref yt, .int mk0, .ref yfa, .ref yfe, .int mL2_19, .int mS, .int mM, .ref yro, .ref yhe, .ref ygr, .int mF, .int mC, .int mY, .ref yta, .int (nI (mz)), .int (nI (mf)), .int (nI (mt)), .int mv, .int mw, .ref ywa, .ref ybi, .ref ysi, .ref ynu, .ref ymo])), (ys, .inl (cI, 449, .inl ms)), (yfa, .inl (cI, 100, .inl fa2_20)), (yfe, .inl (cI, 100, .inl fe2_21))] H := hP
        have hD : va_D A [(yt, .inl (cI, 7, .inl mq)), (h0, .inr (9, [.ref ys, .ref yk, .ref yo, .ref yt, .int mk0, .ref yfa, .ref yfe, .int mL2_19, .int mS, .int mM, .ref yro, .ref yhe, .ref ygr, .int mF, .int mC, .int mY, .ref yta, .int (nI (mz)), .int (nI (mf)), .int (nI (mt)), .int mv, .int mw, .ref ywa, .ref ybi, .ref ysi, .ref ynu, .ref ymo])), (ys, .inl (cI, 449, .inl ms)), (yfa, .inl (cI, 100, .inl fa2_20)), (yfe, .inl (cI, 100, .inl fe2_21))] := hD
        refine lv_aload_n hx hb dX9_by_41 rfl (lv_at hl 0 rfl) ?_
        refine xg hF kf_X9_109 hK hP 1 rfl rfl dX9_by_42 ?_
        refine lv_if_eq (tgt := 55) hx hb dX9_by_45 (by decide) (fun c_23 => ?_) (fun c_23 => ?_)
        · skip
          have hG := (fw_Fin.g i_22 c_23)
          refine lv_aload_n hx hb dX9_by_55 rfl (lv_at hl 0 rfl) ?_
          refine xg hF kf_X9_25 hK hP 1 rfl rfl dX9_by_56 ?_
          refine lv_bipush (v := 10) hx hb dX9_by_59 (by decide) ?_
          refine lv_iload_n hx hb dX9_by_61 rfl (lv_at hl 1 rfl) ?_
          refine lv_imul hx hb dX9_by_62 ?_
          refine xl_i (y := nI (10 * k_2)) (pk_mul 10 k_2) ?_
          refine lv_iload_n hx hb dX9_by_63 rfl (lv_at hl 2 rfl) ?_
          refine lv_iadd hx hb dX9_by_64 ?_
          refine xl_i (y := nI (10 * k_2 + k_8)) (nI_add (10 * k_2) k_8) ?_
          refine va_iald hx hb hK hP 4 0 rfl rfl (vp_in_nI (show 10 * k_2 + k_8 < 100 by omega) (by decide)) dX9_by_65 ?_
          refine xl_i (y := fe2_21 (10 * k_2 + k_8)) (congrArg fe2_21 (nI_clamp (show 10 * k_2 + k_8 < 2 ^ 31 by omega))) ?_
          refine lv_istore (lv' := [(4, .int (fe2_21 (10 * k_2 + k_8))), (0, .ref h0), (1, .int (nI (k_2))), (2, .int (nI (k_8))), (3, .int p2)]) hx hb dX9_by_66 hl (by decide) rfl (fun ls hl => ?_)
          refine lv_aload_n hx hb dX9_by_68 rfl (lv_at hl 1 rfl) ?_
          refine xg hF kf_X9_22 hK hP 1 rfl rfl dX9_by_69 ?_
          refine lv_bipush (v := 10) hx hb dX9_by_72 (by decide) ?_
          refine lv_iload_n hx hb dX9_by_74 rfl (lv_at hl 2 rfl) ?_
          refine lv_imul hx hb dX9_by_75 ?_
          refine xl_i (y := nI (10 * k_2)) (pk_mul 10 k_2) ?_
          refine lv_iload_n hx hb dX9_by_76 rfl (lv_at hl 3 rfl) ?_
          refine lv_iadd hx hb dX9_by_77 ?_
          refine xl_i (y := nI (10 * k_2 + k_8)) (nI_add (10 * k_2) k_8) ?_
          refine va_iald hx hb hK hP 3 0 rfl rfl (vp_in_nI (show 10 * k_2 + k_8 < 100 by omega) (by decide)) dX9_by_78 ?_
          refine xl_i (y := fa2_20 (10 * k_2 + k_8)) (congrArg fa2_20 (nI_clamp (show 10 * k_2 + k_8 < 2 ^ 31 by omega))) ?_
          refine lv_ldc (v := 100000000) hx hb hown (hu _ uw701) dX9_by_79 ?_
          refine lv_icmp_eq (tgt := 90) hx hb dX9_by_81 (by decide) (fun c_24 => ?_) (fun c_24 => ?_)
          · skip
            refine lv_aload_n hx hb dX9_by_90 rfl (lv_at hl 1 rfl) ?_
            refine lv_ldc (v := (-1000000004)) hx hb hown (hu _ uw699) dX9_by_91 ?_
            refine xc_Vi (wr := [(ys, .inl (cI, 449, .inl ms)), (yfa, .inl (cI, 100, .inl fa2_20)), (yfe, .inl (cI, 100, .inl fe2_21))]) hF (c_X9_finds_N l D cI cJ cZ cS ta sa sv H.size h0 ys yk yo yt mk0 yfa yfe mL2_19 mS mM yro yhe ygr mF mC mY yta mz mf mt mv mw ywa ybi ysi ynu ymo mq ) kv_X9_70 ⟨rfl, rfl, Nat.le_of_ble_eq_true rfl, Nat.le_of_ble_eq_true rfl⟩ ⟨Nat.le_of_ble_eq_true rfl, Nat.le_of_ble_eq_true rfl⟩ hK hN hZ hP hD hS hA [1, 0] [2, 3, 4] rfl rfl rfl rfl (by decide) 0 rfl rfl rfl rfl hl.1 rfl (Nat.le_of_ble_eq_true rfl) dX9_by_93 (fun r_25 u_r_25 H locs hw_r_25 hP hD hS => ?_)
            obtain ⟨mq2_26, rfl⟩ : ∃ z, z = u_r_25 := ⟨_, rfl⟩
            try dsimp only at hw_r_25
            have hP : va_P D vwCl [(ys, .inl (cI, 449, .inl ms)), (yfa, .inl (cI, 100, .inl fa2_20)), (yfe, .inl (cI, 100, .inl fe2_21)), (h0, .inr (9, [.ref ys, .ref yk, .ref yo, .ref yt, .int mk0, .ref yfa, .ref yfe, .int mL2_19, .int mS, .int mM, .ref yro, .ref yhe, .ref ygr, .int mF, .int mC, .int mY, .ref yta, .int (nI (mz)), .int (nI (mf)), .int (nI (mt)), .int mv, .int mw, .ref ywa, .ref ybi, .ref ysi, .ref ynu, .ref ymo])), (yt, .inl (cI, 7, .inl mq2_26))] H := hP
            have hD : va_D A [(ys, .inl (cI, 449, .inl ms)), (yfa, .inl (cI, 100, .inl fa2_20)), (yfe, .inl (cI, 100, .inl fe2_21)), (h0, .inr (9, [.ref ys, .ref yk, .ref yo, .ref yt, .int mk0, .ref yfa, .ref yfe, .int mL2_19, .int mS, .int mM, .ref yro, .ref yhe, .ref ygr, .int mF, .int mC, .int mY, .ref yta, .int (nI (mz)), .int (nI (mf)), .int (nI (mt)), .int mv, .int mw, .ref ywa, .ref ybi, .ref ysi, .ref ynu, .ref ymo])), (yt, .inl (cI, 7, .inl mq2_26))] := hD
            subst hw_r_25
            exact W.iret (v := (-1000000004)) hx hb hr (fun t ht hW => ⟨⟨(-1000000004), (mL2_19, fa2_20, fe2_21, mq2_26), rfl, trivial, by rw [ht]; exact hP.sub [3, 0, 1, 2, 4] rfl, hD.sub [3, 0, 1, 2, 4] (by decide +kernel) rfl⟩, hS.F ht⟩) hS.2.2 dX9_by_96 hlk
          · skip
            refine lv_iload_n hx hb dX9_by_84 rfl (lv_at hl 4 rfl) ?_
            refine lv_iload hx hb dX9_by_85 (lv_at hl 0 rfl) ?_
            refine lv_icmp_le (tgt := 97) hx hb dX9_by_87 (by decide) (fun c_27 => ?_) (fun c_27 => ?_)
            · skip
              refine lv_iload_n hx hb dX9_by_97 rfl (lv_at hl 4 rfl) ?_
              refine lv_if_ge (tgt := 104) hx hb dX9_by_98 (by decide) (fun c_28 => ?_) (fun c_28 => ?_)
              · skip
                obtain ⟨y_29, hy_29, rfl⟩ := xrange (w := 9) (by omega) (fun h => absurd c_28 (Int32.not_le.mpr h)) h_15
                refine lv_iload_n hx hb dX9_by_104 rfl (lv_at hl 2 rfl) ?_
                refine lv_istore (lv' := [(5, .int (nI (k_2))), (4, .int (fe2_21 (10 * k_2 + k_8))), (0, .ref h0), (1, .int (nI (k_2))), (2, .int (nI (k_8))), (3, .int (nI (y_29)))]) hx hb dX9_by_105 hl (by decide) rfl (fun ls hl => ?_)
                refine lv_iconst (v := 0) hx hb dX9_by_107 (by decide) ?_
                refine lv_istore (lv' := [(6, .int 0), (5, .int (nI (k_2))), (4, .int (fe2_21 (10 * k_2 + k_8))), (0, .ref h0), (1, .int (nI (k_2))), (2, .int (nI (k_8))), (3, .int (nI (y_29)))]) hx hb dX9_by_108 hl (by decide) rfl (fun ls hl => ?_)
                suffices loop_110 : ∀ (n_110 : Nat) (i9 : Nat) (y9 : Nat) (H : Heap) (locs : List Loc) (ls : Array Slot), y_29 - i9 < n_110 → (i9 ≤ y_29) → (y9 < P) → (fw_BS fa2_20 fe2_21 P k_8 y_29 i9 y9) → va_P D vwCl [(yt, .inl (cI, 7, .inl mq)), (h0, .inr (9, [.ref ys, .ref yk, .ref yo, .ref yt, .int mk0, .ref yfa, .ref yfe, .int mL2_19, .int mS, .int mM, .ref yro, .ref yhe, .ref ygr, .int mF, .int mC, .int mY, .ref yta, .int (nI (mz)), .int (nI (mf)), .int (nI (mt)), .int mv, .int mw, .ref ywa, .ref ybi, .ref ysi, .ref ynu, .ref ymo])), (ys, .inl (cI, 449, .inl ms)), (yfa, .inl (cI, 100, .inl fa2_20)), (yfe, .inl (cI, 100, .inl fe2_21))] H → va_D A [(yt, .inl (cI, 7, .inl mq)), (h0, .inr (9, [.ref ys, .ref yk, .ref yo, .ref yt, .int mk0, .ref yfa, .ref yfe, .int mL2_19, .int mS, .int mM, .ref yro, .ref yhe, .ref ygr, .int mF, .int mC, .int mY, .ref yta, .int (nI (mz)), .int (nI (mf)), .int (nI (mt)), .int mv, .int mw, .ref ywa, .ref ybi, .ref ysi, .ref ynu, .ref ymo])), (ys, .inl (cI, 449, .inl ms)), (yfa, .inl (cI, 100, .inl fa2_20)), (yfe, .inl (cI, 100, .inl fe2_21))] → va_S A s.heap H locs → lv_has ls 10 [(6, .int (nI (i9))), (5, .int (nI (y9))), (4, .int (fe2_21 (10 * k_2 + k_8))), (0, .ref h0), (1, .int (nI (k_2))), (2, .int (nI (k_8))), (3, .int (nI (y_29)))] → W p l e ({ frames := 2, cells := 0, slots := 0, locals := 52 }) s m ([.ref h0, .int (nI (k_2)), .int (nI (k_8)), .int (nI (y_29))] : List Value).toArray below meth c H locs 0 0 (MQ below (XQi (fun (r : Int32) (u : Int32 × (Nat → Int32) × (Nat → Int32) × (Nat → Int32)) => match u with | (mL2, fa2, fe2, mq2) => (True)) D (fun (u : Int32 × (Nat → Int32) × (Nat → Int32) × (Nat → Int32)) => match u with | (mL2, fa2, fe2, mq2) => [(h0, .inr (9, [.ref ys, .ref yk, .ref yo, .ref yt, .int mk0, .ref yfa, .ref yfe, .int mL2, .int mS, .int mM, .ref yro, .ref yhe, .ref ygr, .int mF, .int mC, .int mY, .ref yta, .int (nI (mz)), .int (nI (mf)), .int (nI (mt)), .int mv, .int mw, .ref ywa, .ref ybi, .ref ysi, .ref ynu, .ref ymo])), (ys, .inl (cI, 449, .inl ms)), (yfa, .inl (cI, 100, .inl fa2)), (yfe, .inl (cI, 100, .inl fe2)), (yt, .inl (cI, 7, .inl mq2))]) A) ([.ref h0, .int (nI (k_2)), .int (nI (k_8)), .int (nI (y_29))] : List Value).toArray s 0 0 A) (F0 m 110 ls []) by
                  exact loop_110 _ 0 k_2 _ _ _ (Nat.lt_succ_self _) (by omega) (by omega) (fw_BS.start (by omega) (by omega) (by assumption) (by assumption)) hP hD hS (lv_sub hl [0, 1, 2, 3, 4, 5, 6] rfl)
                intro n_110
                induction n_110 with
                | zero =>
                  intro i9 y9 H locs ls hm_110
                  exact absurd hm_110 (Nat.not_lt_zero _)
                | succ n_110 ih_110 =>
                  intro i9 y9 H locs ls hm_110 hi9 hz9 hy9 hP hD hS hl
                  refine lv_iload hx hb dX9_by_110 (lv_at hl 0 rfl) ?_
                  refine lv_iload_n hx hb dX9_by_112 rfl (lv_at hl 6 rfl) ?_
                  refine lv_icmp_ge (tgt := 271) hx hb dX9_by_113 (by decide) (fun c_30 => ?_) (fun c_30 => ?_)
                  · skip
                    have nc_30 : y_29 ≤ i9 := xn_le (a := y_29) (b := i9) (by omega) (by omega) c_30
                    refine lv_iload hx hb dX9_by_271 (lv_at hl 1 rfl) ?_
                    exact W.iret (v := nI (y9)) hx hb hr (fun t ht hW => ⟨⟨nI (y9), (mL2_19, fa2_20, fe2_21, mq), rfl, trivial, by rw [ht]; exact hP.sub [1, 2, 3, 4, 0] rfl, hD.sub [1, 2, 3, 4, 0] (by decide +kernel) rfl⟩, hS.F ht⟩) hS.2.2 dX9_by_273 hlk
                  · skip
                    have nc_30 : i9 < y_29 := xn_nle (a := y_29) (b := i9) (by omega) (by omega) c_30
                    refine lv_iconst (v := (-1)) hx hb dX9_by_116 (by decide) ?_
                    refine lv_istore (lv' := [(7, .int (-1)), (6, .int (nI (i9))), (5, .int (nI (y9))), (4, .int (fe2_21 (10 * k_2 + k_8))), (0, .ref h0), (1, .int (nI (k_2))), (2, .int (nI (k_8))), (3, .int (nI (y_29)))]) hx hb dX9_by_117 hl (by decide) rfl (fun ls hl => ?_)
                    refine lv_aload_n hx hb dX9_by_119 rfl (lv_at hl 4 rfl) ?_
                    refine xg hF kf_X9_7 hK hP 1 rfl rfl dX9_by_120 ?_
                    refine lv_iconst (v := 0) hx hb dX9_by_123 (by decide) ?_
                    refine va_iald hx hb hK hP 2 0 rfl rfl (xin 0 449 (by decide) (by decide)) dX9_by_124 ?_
                    refine xl_i (y := nI (P)) hs0 ?_
                    refine lv_iconst (v := 1) hx hb dX9_by_125 (by decide) ?_
                    refine lv_isub hx hb dX9_by_126 ?_
                    refine lv_istore (lv' := [(8, .int ((nI (P)) - 1)), (7, .int (-1)), (6, .int (nI (i9))), (5, .int (nI (y9))), (4, .int (fe2_21 (10 * k_2 + k_8))), (0, .ref h0), (1, .int (nI (k_2))), (2, .int (nI (k_8))), (3, .int (nI (y_29)))]) hx hb dX9_by_127 hl (by decide) rfl (fun ls hl => ?_)
                    suffices loop_129 : ∀ (n_129 : Nat) (u9 : Int32) (n9 : Nat) (nx : Int32) (H : Heap) (locs : List Loc) (ls : Array Slot), n9 < n_129 → (n9 ≤ P) → (u9 = nI n9 - 1) → (fw_BX ms fa2_20 fe2_21 P y9 k_8 n9 nx) → va_P D vwCl [(yt, .inl (cI, 7, .inl mq)), (h0, .inr (9, [.ref ys, .ref yk, .ref yo, .ref yt, .int mk0, .ref yfa, .ref yfe, .int mL2_19, .int mS, .int mM, .ref yro, .ref yhe, .ref ygr, .int mF, .int mC, .int mY, .ref yta, .int (nI (mz)), .int (nI (mf)), .int (nI (mt)), .int mv, .int mw, .ref ywa, .ref ybi, .ref ysi, .ref ynu, .ref ymo])), (ys, .inl (cI, 449, .inl ms)), (yfa, .inl (cI, 100, .inl fa2_20)), (yfe, .inl (cI, 100, .inl fe2_21))] H → va_D A [(yt, .inl (cI, 7, .inl mq)), (h0, .inr (9, [.ref ys, .ref yk, .ref yo, .ref yt, .int mk0, .ref yfa, .ref yfe, .int mL2_19, .int mS, .int mM, .ref yro, .ref yhe, .ref ygr, .int mF, .int mC, .int mY, .ref yta, .int (nI (mz)), .int (nI (mf)), .int (nI (mt)), .int mv, .int mw, .ref ywa, .ref ybi, .ref ysi, .ref ynu, .ref ymo])), (ys, .inl (cI, 449, .inl ms)), (yfa, .inl (cI, 100, .inl fa2_20)), (yfe, .inl (cI, 100, .inl fe2_21))] → va_S A s.heap H locs → lv_has ls 10 [(8, .int u9), (7, .int nx), (6, .int (nI (i9))), (5, .int (nI (y9))), (4, .int (fe2_21 (10 * k_2 + k_8))), (0, .ref h0), (1, .int (nI (k_2))), (2, .int (nI (k_8))), (3, .int (nI (y_29)))] → W p l e ({ frames := 2, cells := 0, slots := 0, locals := 52 }) s m ([.ref h0, .int (nI (k_2)), .int (nI (k_8)), .int (nI (y_29))] : List Value).toArray below meth c H locs 0 0 (MQ below (XQi (fun (r : Int32) (u : Int32 × (Nat → Int32) × (Nat → Int32) × (Nat → Int32)) => match u with | (mL2, fa2, fe2, mq2) => (True)) D (fun (u : Int32 × (Nat → Int32) × (Nat → Int32) × (Nat → Int32)) => match u with | (mL2, fa2, fe2, mq2) => [(h0, .inr (9, [.ref ys, .ref yk, .ref yo, .ref yt, .int mk0, .ref yfa, .ref yfe, .int mL2, .int mS, .int mM, .ref yro, .ref yhe, .ref ygr, .int mF, .int mC, .int mY, .ref yta, .int (nI (mz)), .int (nI (mf)), .int (nI (mt)), .int mv, .int mw, .ref ywa, .ref ybi, .ref ysi, .ref ynu, .ref ymo])), (ys, .inl (cI, 449, .inl ms)), (yfa, .inl (cI, 100, .inl fa2)), (yfe, .inl (cI, 100, .inl fe2)), (yt, .inl (cI, 7, .inl mq2))]) A) ([.ref h0, .int (nI (k_2)), .int (nI (k_8)), .int (nI (y_29))] : List Value).toArray s 0 0 A) (F0 m 129 ls []) by
                      exact loop_129 _ ((nI (P)) - 1) P (-1) _ _ _ (Nat.lt_succ_self _) (by omega) rfl (fw_BX.start (Nat.le_refl _)) hP hD hS (lv_sub hl [0, 1, 2, 3, 4, 5, 6, 7, 8] rfl)
                    intro n_129
                    induction n_129 with
                    | zero =>
                      intro u9 n9 nx H locs ls hm_129
                      exact absurd hm_129 (Nat.not_lt_zero _)
                    | succ n_129 ih_129 =>
                      intro u9 n9 nx H locs ls hm_129 hn9 hu9 hx9 hP hD hS hl
                      refine lv_iload hx hb dX9_by_129 (lv_at hl 0 rfl) ?_
                      refine lv_if_lt (tgt := 261) hx hb dX9_by_131 (by decide) (fun c_31 => ?_) (fun c_31 => ?_)
                      · skip
                        obtain ⟨y_32, hy_32, rfl⟩ := fw_BS.next hG (by omega) hsM (by omega) hy9 (by omega) hx9 hu9 (by omega) c_31
                        refine lv_iload hx hb dX9_by_261 (lv_at hl 1 rfl) ?_
                        refine lv_istore (lv' := [(5, .int (nI (y_32))), (8, .int u9), (7, .int (nI (y_32))), (6, .int (nI (i9))), (4, .int (fe2_21 (10 * k_2 + k_8))), (0, .ref h0), (1, .int (nI (k_2))), (2, .int (nI (k_8))), (3, .int (nI (y_29)))]) hx hb dX9_by_263 hl (by decide) rfl (fun ls hl => ?_)
                        refine lv_iinc (v := nI (i9 + 1)) (lv' := [(6, .int (nI (i9 + 1))), (5, .int (nI (y_32))), (8, .int u9), (7, .int (nI (y_32))), (4, .int (fe2_21 (10 * k_2 + k_8))), (0, .ref h0), (1, .int (nI (k_2))), (2, .int (nI (k_8))), (3, .int (nI (y_29)))]) hx hb dX9_by_265 hl (k := 3) rfl (nI_1 (i9)) (by decide) rfl (fun ls hl => ?_)
                        refine lv_goto (tgt := 110) hx hb dX9_by_268 (by decide) ?_
                        exact ih_110 (i9 + 1) y_32 _ _ _ (by omega) (by omega) (by omega) (by first | assumption | (exact And.right (by assumption))) (hP.sub [0, 1, 2, 3, 4] rfl) (hD.sub [0, 1, 2, 3, 4] (by decide +kernel) rfl) hS (lv_sub hl [0, 1, 4, 5, 6, 7, 8] rfl)
                      · skip
                        obtain ⟨y_33, hy_33, rfl⟩ := x_dn hu9 (by omega) c_31
                        refine lv_iload hx hb dX9_by_134 (lv_at hl 0 rfl) ?_
                        refine lv_iload hx hb dX9_by_136 (lv_at hl 3 rfl) ?_
                        refine lv_icmp_eq (tgt := 173) hx hb dX9_by_138 (by decide) (fun c_34 => ?_) (fun c_34 => ?_)
                        · skip
                          have nc_34 : y_33 = y9 := xn_eq (a := y_33) (b := y9) (by omega) (by omega) c_34
                          refine lv_iconst (v := 0) hx hb dX9_by_173 (by decide) ?_
                          refine lv_istore (lv' := [(9, .int 0), (8, .int (nI (y_33))), (7, .int nx), (6, .int (nI (i9))), (5, .int (nI (y9))), (4, .int (fe2_21 (10 * k_2 + k_8))), (0, .ref h0), (1, .int (nI (k_2))), (2, .int (nI (k_8))), (3, .int (nI (y_29)))]) hx hb dX9_by_174 hl (by decide) rfl (fun ls hl => ?_)
                          refine lv_iload hx hb dX9_by_176 (lv_at hl 0 rfl) ?_
                          refine lv_if_eq (tgt := 251) hx hb dX9_by_178 (by decide) (fun c_35 => ?_) (fun c_35 => absurd (by decide) c_35)
                          refine lv_iload hx hb dX9_by_251 (lv_at hl 2 rfl) ?_
                          refine lv_istore (lv' := [(7, .int nx), (9, .int 0), (8, .int (nI (y_33))), (6, .int (nI (i9))), (5, .int (nI (y9))), (4, .int (fe2_21 (10 * k_2 + k_8))), (0, .ref h0), (1, .int (nI (k_2))), (2, .int (nI (k_8))), (3, .int (nI (y_29)))]) hx hb dX9_by_253 hl (by decide) rfl (fun ls hl => ?_)
                          refine lv_iinc (v := (nI (y_33)) + (-1)) (lv' := [(8, .int ((nI (y_33)) + (-1))), (7, .int nx), (9, .int 0), (6, .int (nI (i9))), (5, .int (nI (y9))), (4, .int (fe2_21 (10 * k_2 + k_8))), (0, .ref h0), (1, .int (nI (k_2))), (2, .int (nI (k_8))), (3, .int (nI (y_29)))]) hx hb dX9_by_255 hl (k := 2) rfl rfl (by decide) rfl (fun ls hl => ?_)
                          refine lv_goto (tgt := 129) hx hb dX9_by_258 (by decide) ?_
                          exact ih_129 ((nI (y_33)) + (-1)) y_33 nx _ _ _ (by omega) (by omega) (xm1 _) (fw_BX.no hx9 (by omega) (fun h9 => by obtain ⟨h91, h92, h93, h94, h95⟩ := h9; first | omega | contradiction)) (hP.sub [0, 1, 2, 3, 4] rfl) (hD.sub [0, 1, 2, 3, 4] (by decide +kernel) rfl) hS (lv_sub hl [0, 1, 3, 4, 5, 6, 7, 8, 9] rfl)
                        · skip
                          have nc_34 : y_33 ≠ y9 := xn_ne (a := y_33) (b := y9) (by omega) (by omega) c_34
                          refine lv_aload_n hx hb dX9_by_141 rfl (lv_at hl 5 rfl) ?_
                          refine lv_iload hx hb dX9_by_142 (lv_at hl 3 rfl) ?_
                          refine lv_iload hx hb dX9_by_144 (lv_at hl 0 rfl) ?_
                          refine xc_Vr hF (c_X9_isOpen l D cI cJ cZ cS ta sa sv H.size h0 ys yk yo yt mk0 yfa yfe mL2_19 mS mM yro yhe ygr mF mC mY yta mz mf mt mv mw ywa ybi ysi ynu ymo ms P Rn Wn fae fal fau fao farn farp fak fawn fawp fat fas y9 y_33 (by omega) (by omega) hs0 hs1 hs2 hsS hsM hsp hsr hsw hsR hsG) kv_X9_97 ⟨rfl, rfl, Nat.le_of_ble_eq_true rfl, Nat.le_of_ble_eq_true rfl⟩ ⟨Nat.le_of_ble_eq_true rfl, Nat.le_of_ble_eq_true rfl⟩ hK hN hZ hP hD hS hA [1, 2] rfl rfl 0 rfl rfl rfl rfl hl.1 rfl (Nat.le_of_ble_eq_true rfl) dX9_by_146 (fun r_36 hw_r_36 => ?_)
                          rcases hw_r_36 with ⟨rfl, h_37⟩ | ⟨rfl, h_38⟩
                          · skip
                            refine lv_if_eq (tgt := 173) hx hb dX9_by_149 (by decide) (fun c_39 => absurd c_39 (by decide)) (fun c_39 => ?_)
                            refine lv_aload_n hx hb dX9_by_152 rfl (lv_at hl 5 rfl) ?_
                            refine xg hF kf_X9_22 hK hP 1 rfl rfl dX9_by_153 ?_
                            refine lv_bipush (v := 10) hx hb dX9_by_156 (by decide) ?_
                            refine lv_iload hx hb dX9_by_158 (lv_at hl 0 rfl) ?_
                            refine lv_imul hx hb dX9_by_160 ?_
                            refine xl_i (y := nI (10 * y_33)) (pk_mul 10 y_33) ?_
                            refine lv_iload_n hx hb dX9_by_161 rfl (lv_at hl 7 rfl) ?_
                            refine lv_iadd hx hb dX9_by_162 ?_
                            refine xl_i (y := nI (10 * y_33 + k_8)) (nI_add (10 * y_33) k_8) ?_
                            refine va_iald hx hb hK hP 3 0 rfl rfl (vp_in_nI (show 10 * y_33 + k_8 < 100 by omega) (by decide)) dX9_by_163 ?_
                            refine xl_i (y := fa2_20 (10 * y_33 + k_8)) (congrArg fa2_20 (nI_clamp (show 10 * y_33 + k_8 < 2 ^ 31 by omega))) ?_
                            refine lv_ldc (v := 100000000) hx hb hown (hu _ uw701) dX9_by_164 ?_
                            refine lv_icmp_eq (tgt := 173) hx hb dX9_by_166 (by decide) (fun c_40 => ?_) (fun c_40 => ?_)
                            · skip
                              refine lv_iconst (v := 0) hx hb dX9_by_173 (by decide) ?_
                              refine lv_istore (lv' := [(9, .int 0), (8, .int (nI (y_33))), (7, .int nx), (6, .int (nI (i9))), (5, .int (nI (y9))), (4, .int (fe2_21 (10 * k_2 + k_8))), (0, .ref h0), (1, .int (nI (k_2))), (2, .int (nI (k_8))), (3, .int (nI (y_29)))]) hx hb dX9_by_174 hl (by decide) rfl (fun ls hl => ?_)
                              refine lv_iload hx hb dX9_by_176 (lv_at hl 0 rfl) ?_
                              refine lv_if_eq (tgt := 251) hx hb dX9_by_178 (by decide) (fun c_41 => ?_) (fun c_41 => absurd (by decide) c_41)
                              refine lv_iload hx hb dX9_by_251 (lv_at hl 2 rfl) ?_
                              refine lv_istore (lv' := [(7, .int nx), (9, .int 0), (8, .int (nI (y_33))), (6, .int (nI (i9))), (5, .int (nI (y9))), (4, .int (fe2_21 (10 * k_2 + k_8))), (0, .ref h0), (1, .int (nI (k_2))), (2, .int (nI (k_8))), (3, .int (nI (y_29)))]) hx hb dX9_by_253 hl (by decide) rfl (fun ls hl => ?_)
                              refine lv_iinc (v := (nI (y_33)) + (-1)) (lv' := [(8, .int ((nI (y_33)) + (-1))), (7, .int nx), (9, .int 0), (6, .int (nI (i9))), (5, .int (nI (y9))), (4, .int (fe2_21 (10 * k_2 + k_8))), (0, .ref h0), (1, .int (nI (k_2))), (2, .int (nI (k_8))), (3, .int (nI (y_29)))]) hx hb dX9_by_255 hl (k := 2) rfl rfl (by decide) rfl (fun ls hl => ?_)
                              refine lv_goto (tgt := 129) hx hb dX9_by_258 (by decide) ?_
                              exact ih_129 ((nI (y_33)) + (-1)) y_33 nx _ _ _ (by omega) (by omega) (xm1 _) (fw_BX.no hx9 (by omega) (fun h9 => by obtain ⟨h91, h92, h93, h94, h95⟩ := h9; first | omega | contradiction)) (hP.sub [0, 1, 2, 3, 4] rfl) (hD.sub [0, 1, 2, 3, 4] (by decide +kernel) rfl) hS (lv_sub hl [0, 1, 3, 4, 5, 6, 7, 8, 9] rfl)
                            · skip
                              refine lv_iconst (v := 1) hx hb dX9_by_169 (by decide) ?_
                              refine lv_goto (tgt := 174) hx hb dX9_by_170 (by decide) ?_
                              refine lv_istore (lv' := [(9, .int 1), (8, .int (nI (y_33))), (7, .int nx), (6, .int (nI (i9))), (5, .int (nI (y9))), (4, .int (fe2_21 (10 * k_2 + k_8))), (0, .ref h0), (1, .int (nI (k_2))), (2, .int (nI (k_8))), (3, .int (nI (y_29)))]) hx hb dX9_by_174 hl (by decide) rfl (fun ls hl => ?_)
                              refine lv_iload hx hb dX9_by_176 (lv_at hl 0 rfl) ?_
                              refine lv_if_eq (tgt := 251) hx hb dX9_by_178 (by decide) (fun c_42 => absurd c_42 (by decide)) (fun c_42 => ?_)
                              refine lv_aload_n hx hb dX9_by_181 rfl (lv_at hl 6 rfl) ?_
                              refine lv_iload hx hb dX9_by_182 (lv_at hl 4 rfl) ?_
                              refine lv_iload hx hb dX9_by_184 (lv_at hl 1 rfl) ?_
                              refine xc_Vr hF (c_X9_miles l D cI cJ cZ cS ta sa sv H.size h0 ys yk yo yt mk0 yfa yfe mL2_19 mS mM yro yhe ygr mF mC mY yta mz mf mt mv mw ywa ybi ysi ynu ymo ms P Rn Wn fae fal fau fao farn farp fak fawn fawp fat fas y9 y_33 (by omega) (by omega) hs0 hs1 hs2 hsS hsM hsp hsr hsw hsR hsG) kv_X9_100 ⟨rfl, rfl, Nat.le_of_ble_eq_true rfl, Nat.le_of_ble_eq_true rfl⟩ ⟨Nat.le_of_ble_eq_true rfl, Nat.le_of_ble_eq_true rfl⟩ hK hN hZ hP hD hS hA [1, 2] rfl rfl 0 rfl rfl rfl rfl hl.1 rfl (Nat.le_of_ble_eq_true rfl) dX9_by_186 (fun r_43 hw_r_43 => ?_)
                              subst hw_r_43
                              refine lv_aload_n hx hb dX9_by_189 rfl (lv_at hl 6 rfl) ?_
                              refine xg hF kf_X9_22 hK hP 1 rfl rfl dX9_by_190 ?_
                              refine lv_bipush (v := 10) hx hb dX9_by_193 (by decide) ?_
                              refine lv_iload hx hb dX9_by_195 (lv_at hl 1 rfl) ?_
                              refine lv_imul hx hb dX9_by_197 ?_
                              refine xl_i (y := nI (10 * y_33)) (pk_mul 10 y_33) ?_
                              refine lv_iload_n hx hb dX9_by_198 rfl (lv_at hl 8 rfl) ?_
                              refine lv_iadd hx hb dX9_by_199 ?_
                              refine xl_i (y := nI (10 * y_33 + k_8)) (nI_add (10 * y_33) k_8) ?_
                              refine va_iald hx hb hK hP 3 0 rfl rfl (vp_in_nI (show 10 * y_33 + k_8 < 100 by omega) (by decide)) dX9_by_200 ?_
                              refine xl_i (y := fa2_20 (10 * y_33 + k_8)) (congrArg fa2_20 (nI_clamp (show 10 * y_33 + k_8 < 2 ^ 31 by omega))) ?_
                              refine lv_iadd hx hb dX9_by_201 ?_
                              refine lv_aload_n hx hb dX9_by_202 rfl (lv_at hl 6 rfl) ?_
                              refine xg hF kf_X9_22 hK hP 1 rfl rfl dX9_by_203 ?_
                              refine lv_bipush (v := 10) hx hb dX9_by_206 (by decide) ?_
                              refine lv_iload hx hb dX9_by_208 (lv_at hl 4 rfl) ?_
                              refine lv_imul hx hb dX9_by_210 ?_
                              refine xl_i (y := nI (10 * y9)) (pk_mul 10 y9) ?_
                              refine lv_iload_n hx hb dX9_by_211 rfl (lv_at hl 8 rfl) ?_
                              refine lv_iadd hx hb dX9_by_212 ?_
                              refine xl_i (y := nI (10 * y9 + k_8)) (nI_add (10 * y9) k_8) ?_
                              refine va_iald hx hb hK hP 3 0 rfl rfl (vp_in_nI (show 10 * y9 + k_8 < 100 by omega) (by decide)) dX9_by_213 ?_
                              refine xl_i (y := fa2_20 (10 * y9 + k_8)) (congrArg fa2_20 (nI_clamp (show 10 * y9 + k_8 < 2 ^ 31 by omega))) ?_
                              refine lv_icmp_ne (tgt := 251) hx hb dX9_by_214 (by decide) (fun c_44 => ?_) (fun c_44 => ?_)
                              · skip
                                refine lv_iload hx hb dX9_by_251 (lv_at hl 2 rfl) ?_
                                refine lv_istore (lv' := [(7, .int nx), (9, .int 1), (8, .int (nI (y_33))), (6, .int (nI (i9))), (5, .int (nI (y9))), (4, .int (fe2_21 (10 * k_2 + k_8))), (0, .ref h0), (1, .int (nI (k_2))), (2, .int (nI (k_8))), (3, .int (nI (y_29)))]) hx hb dX9_by_253 hl (by decide) rfl (fun ls hl => ?_)
                                refine lv_iinc (v := (nI (y_33)) + (-1)) (lv' := [(8, .int ((nI (y_33)) + (-1))), (7, .int nx), (9, .int 1), (6, .int (nI (i9))), (5, .int (nI (y9))), (4, .int (fe2_21 (10 * k_2 + k_8))), (0, .ref h0), (1, .int (nI (k_2))), (2, .int (nI (k_8))), (3, .int (nI (y_29)))]) hx hb dX9_by_255 hl (k := 2) rfl rfl (by decide) rfl (fun ls hl => ?_)
                                refine lv_goto (tgt := 129) hx hb dX9_by_258 (by decide) ?_
                                exact ih_129 ((nI (y_33)) + (-1)) y_33 nx _ _ _ (by omega) (by omega) (xm1 _) (fw_BX.no hx9 (by omega) (fun h9 => by obtain ⟨h91, h92, h93, h94, h95⟩ := h9; first | omega | contradiction)) (hP.sub [0, 1, 2, 3, 4] rfl) (hD.sub [0, 1, 2, 3, 4] (by decide +kernel) rfl) hS (lv_sub hl [0, 1, 3, 4, 5, 6, 7, 8, 9] rfl)
                              · skip
                                refine lv_aload_n hx hb dX9_by_217 rfl (lv_at hl 6 rfl) ?_
                                refine xg hF kf_X9_25 hK hP 1 rfl rfl dX9_by_218 ?_
                                refine lv_bipush (v := 10) hx hb dX9_by_221 (by decide) ?_
                                refine lv_iload hx hb dX9_by_223 (lv_at hl 1 rfl) ?_
                                refine lv_imul hx hb dX9_by_225 ?_
                                refine xl_i (y := nI (10 * y_33)) (pk_mul 10 y_33) ?_
                                refine lv_iload_n hx hb dX9_by_226 rfl (lv_at hl 8 rfl) ?_
                                refine lv_iadd hx hb dX9_by_227 ?_
                                refine xl_i (y := nI (10 * y_33 + k_8)) (nI_add (10 * y_33) k_8) ?_
                                refine va_iald hx hb hK hP 4 0 rfl rfl (vp_in_nI (show 10 * y_33 + k_8 < 100 by omega) (by decide)) dX9_by_228 ?_
                                refine xl_i (y := fe2_21 (10 * y_33 + k_8)) (congrArg fe2_21 (nI_clamp (show 10 * y_33 + k_8 < 2 ^ 31 by omega))) ?_
                                refine lv_iconst (v := 1) hx hb dX9_by_229 (by decide) ?_
                                refine lv_iadd hx hb dX9_by_230 ?_
                                refine lv_aload_n hx hb dX9_by_231 rfl (lv_at hl 6 rfl) ?_
                                refine xg hF kf_X9_25 hK hP 1 rfl rfl dX9_by_232 ?_
                                refine lv_bipush (v := 10) hx hb dX9_by_235 (by decide) ?_
                                refine lv_iload hx hb dX9_by_237 (lv_at hl 4 rfl) ?_
                                refine lv_imul hx hb dX9_by_239 ?_
                                refine xl_i (y := nI (10 * y9)) (pk_mul 10 y9) ?_
                                refine lv_iload_n hx hb dX9_by_240 rfl (lv_at hl 8 rfl) ?_
                                refine lv_iadd hx hb dX9_by_241 ?_
                                refine xl_i (y := nI (10 * y9 + k_8)) (nI_add (10 * y9) k_8) ?_
                                refine va_iald hx hb hK hP 4 0 rfl rfl (vp_in_nI (show 10 * y9 + k_8 < 100 by omega) (by decide)) dX9_by_242 ?_
                                refine xl_i (y := fe2_21 (10 * y9 + k_8)) (congrArg fe2_21 (nI_clamp (show 10 * y9 + k_8 < 2 ^ 31 by omega))) ?_
                                refine lv_icmp_ne (tgt := 251) hx hb dX9_by_243 (by decide) (fun c_45 => ?_) (fun c_45 => ?_)
                                · skip
                                  refine lv_iload hx hb dX9_by_251 (lv_at hl 2 rfl) ?_
                                  refine lv_istore (lv' := [(7, .int nx), (9, .int 1), (8, .int (nI (y_33))), (6, .int (nI (i9))), (5, .int (nI (y9))), (4, .int (fe2_21 (10 * k_2 + k_8))), (0, .ref h0), (1, .int (nI (k_2))), (2, .int (nI (k_8))), (3, .int (nI (y_29)))]) hx hb dX9_by_253 hl (by decide) rfl (fun ls hl => ?_)
                                  refine lv_iinc (v := (nI (y_33)) + (-1)) (lv' := [(8, .int ((nI (y_33)) + (-1))), (7, .int nx), (9, .int 1), (6, .int (nI (i9))), (5, .int (nI (y9))), (4, .int (fe2_21 (10 * k_2 + k_8))), (0, .ref h0), (1, .int (nI (k_2))), (2, .int (nI (k_8))), (3, .int (nI (y_29)))]) hx hb dX9_by_255 hl (k := 2) rfl rfl (by decide) rfl (fun ls hl => ?_)
                                  refine lv_goto (tgt := 129) hx hb dX9_by_258 (by decide) ?_
                                  exact ih_129 ((nI (y_33)) + (-1)) y_33 nx _ _ _ (by omega) (by omega) (xm1 _) (fw_BX.no hx9 (by omega) (fun h9 => by obtain ⟨h91, h92, h93, h94, h95⟩ := h9; first | omega | contradiction)) (hP.sub [0, 1, 2, 3, 4] rfl) (hD.sub [0, 1, 2, 3, 4] (by decide +kernel) rfl) hS (lv_sub hl [0, 1, 3, 4, 5, 6, 7, 8, 9] rfl)
                                · skip
                                  refine lv_iload hx hb dX9_by_246 (lv_at hl 1 rfl) ?_
                                  refine lv_goto (tgt := 253) hx hb dX9_by_248 (by decide) ?_
                                  refine lv_istore (lv' := [(7, .int (nI (y_33))), (9, .int 1), (8, .int (nI (y_33))), (6, .int (nI (i9))), (5, .int (nI (y9))), (4, .int (fe2_21 (10 * k_2 + k_8))), (0, .ref h0), (1, .int (nI (k_2))), (2, .int (nI (k_8))), (3, .int (nI (y_29)))]) hx hb dX9_by_253 hl (by decide) rfl (fun ls hl => ?_)
                                  refine lv_iinc (v := (nI (y_33)) + (-1)) (lv' := [(8, .int ((nI (y_33)) + (-1))), (7, .int (nI (y_33))), (9, .int 1), (6, .int (nI (i9))), (5, .int (nI (y9))), (4, .int (fe2_21 (10 * k_2 + k_8))), (0, .ref h0), (1, .int (nI (k_2))), (2, .int (nI (k_8))), (3, .int (nI (y_29)))]) hx hb dX9_by_255 hl (k := 2) rfl rfl (by decide) rfl (fun ls hl => ?_)
                                  refine lv_goto (tgt := 129) hx hb dX9_by_258 (by decide) ?_
                                  exact ih_129 ((nI (y_33)) + (-1)) y_33 (nI (y_33)) _ _ _ (by omega) (by omega) (xm1 _) (Or.inr ⟨y_33, by omega, rfl, by omega, by assumption, by assumption, by assumption, by assumption⟩) (hP.sub [0, 1, 2, 3, 4] rfl) (hD.sub [0, 1, 2, 3, 4] (by decide +kernel) rfl) hS (lv_sub hl [0, 1, 3, 4, 5, 6, 7, 8, 9] rfl)
                          · skip
                            refine lv_if_eq (tgt := 173) hx hb dX9_by_149 (by decide) (fun c_46 => ?_) (fun c_46 => absurd (by decide) c_46)
                            refine lv_iconst (v := 0) hx hb dX9_by_173 (by decide) ?_
                            refine lv_istore (lv' := [(9, .int 0), (8, .int (nI (y_33))), (7, .int nx), (6, .int (nI (i9))), (5, .int (nI (y9))), (4, .int (fe2_21 (10 * k_2 + k_8))), (0, .ref h0), (1, .int (nI (k_2))), (2, .int (nI (k_8))), (3, .int (nI (y_29)))]) hx hb dX9_by_174 hl (by decide) rfl (fun ls hl => ?_)
                            refine lv_iload hx hb dX9_by_176 (lv_at hl 0 rfl) ?_
                            refine lv_if_eq (tgt := 251) hx hb dX9_by_178 (by decide) (fun c_47 => ?_) (fun c_47 => absurd (by decide) c_47)
                            refine lv_iload hx hb dX9_by_251 (lv_at hl 2 rfl) ?_
                            refine lv_istore (lv' := [(7, .int nx), (9, .int 0), (8, .int (nI (y_33))), (6, .int (nI (i9))), (5, .int (nI (y9))), (4, .int (fe2_21 (10 * k_2 + k_8))), (0, .ref h0), (1, .int (nI (k_2))), (2, .int (nI (k_8))), (3, .int (nI (y_29)))]) hx hb dX9_by_253 hl (by decide) rfl (fun ls hl => ?_)
                            refine lv_iinc (v := (nI (y_33)) + (-1)) (lv' := [(8, .int ((nI (y_33)) + (-1))), (7, .int nx), (9, .int 0), (6, .int (nI (i9))), (5, .int (nI (y9))), (4, .int (fe2_21 (10 * k_2 + k_8))), (0, .ref h0), (1, .int (nI (k_2))), (2, .int (nI (k_8))), (3, .int (nI (y_29)))]) hx hb dX9_by_255 hl (k := 2) rfl rfl (by decide) rfl (fun ls hl => ?_)
                            refine lv_goto (tgt := 129) hx hb dX9_by_258 (by decide) ?_
                            exact ih_129 ((nI (y_33)) + (-1)) y_33 nx _ _ _ (by omega) (by omega) (xm1 _) (fw_BX.no hx9 (by omega) (fun h9 => by obtain ⟨h91, h92, h93, h94, h95⟩ := h9; first | omega | contradiction)) (hP.sub [0, 1, 2, 3, 4] rfl) (hD.sub [0, 1, 2, 3, 4] (by decide +kernel) rfl) hS (lv_sub hl [0, 1, 3, 4, 5, 6, 7, 8, 9] rfl)
              · skip
                refine lv_iload hx hb dX9_by_101 (lv_at hl 0 rfl) ?_
                exact W.iret (v := fe2_21 (10 * k_2 + k_8)) hx hb hr (fun t ht hW => ⟨⟨fe2_21 (10 * k_2 + k_8), (mL2_19, fa2_20, fe2_21, mq), rfl, trivial, by rw [ht]; exact hP.sub [1, 2, 3, 4, 0] rfl, hD.sub [1, 2, 3, 4, 0] (by decide +kernel) rfl⟩, hS.F ht⟩) hS.2.2 dX9_by_103 hlk
            · skip
              refine lv_aload_n hx hb dX9_by_90 rfl (lv_at hl 1 rfl) ?_
              refine lv_ldc (v := (-1000000004)) hx hb hown (hu _ uw699) dX9_by_91 ?_
              refine xc_Vi (wr := [(ys, .inl (cI, 449, .inl ms)), (yfa, .inl (cI, 100, .inl fa2_20)), (yfe, .inl (cI, 100, .inl fe2_21))]) hF (c_X9_finds_N l D cI cJ cZ cS ta sa sv H.size h0 ys yk yo yt mk0 yfa yfe mL2_19 mS mM yro yhe ygr mF mC mY yta mz mf mt mv mw ywa ybi ysi ynu ymo mq ) kv_X9_70 ⟨rfl, rfl, Nat.le_of_ble_eq_true rfl, Nat.le_of_ble_eq_true rfl⟩ ⟨Nat.le_of_ble_eq_true rfl, Nat.le_of_ble_eq_true rfl⟩ hK hN hZ hP hD hS hA [1, 0] [2, 3, 4] rfl rfl rfl rfl (by decide) 0 rfl rfl rfl rfl hl.1 rfl (Nat.le_of_ble_eq_true rfl) dX9_by_93 (fun r_48 u_r_48 H locs hw_r_48 hP hD hS => ?_)
              obtain ⟨mq2_49, rfl⟩ : ∃ z, z = u_r_48 := ⟨_, rfl⟩
              try dsimp only at hw_r_48
              have hP : va_P D vwCl [(ys, .inl (cI, 449, .inl ms)), (yfa, .inl (cI, 100, .inl fa2_20)), (yfe, .inl (cI, 100, .inl fe2_21)), (h0, .inr (9, [.ref ys, .ref yk, .ref yo, .ref yt, .int mk0, .ref yfa, .ref yfe, .int mL2_19, .int mS, .int mM, .ref yro, .ref yhe, .ref ygr, .int mF, .int mC, .int mY, .ref yta, .int (nI (mz)), .int (nI (mf)), .int (nI (mt)), .int mv, .int mw, .ref ywa, .ref ybi, .ref ysi, .ref ynu, .ref ymo])), (yt, .inl (cI, 7, .inl mq2_49))] H := hP
              have hD : va_D A [(ys, .inl (cI, 449, .inl ms)), (yfa, .inl (cI, 100, .inl fa2_20)), (yfe, .inl (cI, 100, .inl fe2_21)), (h0, .inr (9, [.ref ys, .ref yk, .ref yo, .ref yt, .int mk0, .ref yfa, .ref yfe, .int mL2_19, .int mS, .int mM, .ref yro, .ref yhe, .ref ygr, .int mF, .int mC, .int mY, .ref yta, .int (nI (mz)), .int (nI (mf)), .int (nI (mt)), .int mv, .int mw, .ref ywa, .ref ybi, .ref ysi, .ref ynu, .ref ymo])), (yt, .inl (cI, 7, .inl mq2_49))] := hD
              subst hw_r_48
              exact W.iret (v := (-1000000004)) hx hb hr (fun t ht hW => ⟨⟨(-1000000004), (mL2_19, fa2_20, fe2_21, mq2_49), rfl, trivial, by rw [ht]; exact hP.sub [3, 0, 1, 2, 4] rfl, hD.sub [3, 0, 1, 2, 4] (by decide +kernel) rfl⟩, hS.F ht⟩) hS.2.2 dX9_by_96 hlk
        · skip
          refine lv_aload_n hx hb dX9_by_48 rfl (lv_at hl 0 rfl) ?_
          refine lv_ldc (v := (-1000000005)) hx hb hown (hu _ uw716) dX9_by_49 ?_
          refine xc_Vi (wr := [(ys, .inl (cI, 449, .inl ms)), (yfa, .inl (cI, 100, .inl fa2_20)), (yfe, .inl (cI, 100, .inl fe2_21))]) hF (c_X9_finds_T l D cI cJ cZ cS ta sa sv H.size h0 ys yk yo yt mk0 yfa yfe mL2_19 mS mM yro yhe ygr mF mC mY yta mz mf mt mv mw ywa ybi ysi ynu ymo mq ) kv_X9_70 ⟨rfl, rfl, Nat.le_of_ble_eq_true rfl, Nat.le_of_ble_eq_true rfl⟩ ⟨Nat.le_of_ble_eq_true rfl, Nat.le_of_ble_eq_true rfl⟩ hK hN hZ hP hD hS hA [1, 0] [2, 3, 4] rfl rfl rfl rfl (by decide) 0 rfl rfl rfl rfl hl.1 rfl (Nat.le_of_ble_eq_true rfl) dX9_by_51 (fun r_50 u_r_50 H locs hw_r_50 hP hD hS => ?_)
          obtain ⟨mq2_51, rfl⟩ : ∃ z, z = u_r_50 := ⟨_, rfl⟩
          try dsimp only at hw_r_50
          have hP : va_P D vwCl [(ys, .inl (cI, 449, .inl ms)), (yfa, .inl (cI, 100, .inl fa2_20)), (yfe, .inl (cI, 100, .inl fe2_21)), (h0, .inr (9, [.ref ys, .ref yk, .ref yo, .ref yt, .int mk0, .ref yfa, .ref yfe, .int mL2_19, .int mS, .int mM, .ref yro, .ref yhe, .ref ygr, .int mF, .int mC, .int mY, .ref yta, .int (nI (mz)), .int (nI (mf)), .int (nI (mt)), .int mv, .int mw, .ref ywa, .ref ybi, .ref ysi, .ref ynu, .ref ymo])), (yt, .inl (cI, 7, .inl mq2_51))] H := hP
          have hD : va_D A [(ys, .inl (cI, 449, .inl ms)), (yfa, .inl (cI, 100, .inl fa2_20)), (yfe, .inl (cI, 100, .inl fe2_21)), (h0, .inr (9, [.ref ys, .ref yk, .ref yo, .ref yt, .int mk0, .ref yfa, .ref yfe, .int mL2_19, .int mS, .int mM, .ref yro, .ref yhe, .ref ygr, .int mF, .int mC, .int mY, .ref yta, .int (nI (mz)), .int (nI (mf)), .int (nI (mt)), .int mv, .int mw, .ref ywa, .ref ybi, .ref ysi, .ref ynu, .ref ymo])), (yt, .inl (cI, 7, .inl mq2_51))] := hD
          subst hw_r_50
          exact W.iret (v := (-1000000005)) hx hb hr (fun t ht hW => ⟨⟨(-1000000005), (mL2_19, fa2_20, fe2_21, mq2_51), rfl, trivial, by rw [ht]; exact hP.sub [3, 0, 1, 2, 4] rfl, hD.sub [3, 0, 1, 2, 4] (by decide +kernel) rfl⟩, hS.F ht⟩) hS.2.2 dX9_by_54 hlk
      · skip
        refine lv_if_ne (tgt := 37) hx hb dX9_by_27 (by decide) (fun c_52 => absurd (by decide) c_52) (fun c_52 => ?_)
        refine lv_aload_n hx hb dX9_by_30 rfl (lv_at hl 0 rfl) ?_
        refine lv_ldc (v := (-1000000001)) hx hb hown (hu _ uw648) dX9_by_31 ?_
        refine xc_Vi (wr := [(ys, .inl (cI, 449, .inl ms)), (yfa, .inl (cI, 100, .inl fa)), (yfe, .inl (cI, 100, .inl fe))]) hF (c_X9_finds_B l D cI cJ cZ cS ta sa sv s.heap.size h0 ys yk yo yt mk0 yfa yfe mL mS mM yro yhe ygr mF mC mY yta mz mf mt mv mw ywa ybi ysi ynu ymo mq ) kv_X9_70 ⟨rfl, rfl, Nat.le_of_ble_eq_true rfl, Nat.le_of_ble_eq_true rfl⟩ ⟨Nat.le_of_ble_eq_true rfl, Nat.le_of_ble_eq_true rfl⟩ hK hN hZ hP hD hS hA [0, 4] [1, 2, 3] rfl rfl rfl rfl (by decide) 0 rfl rfl rfl rfl hl.1 rfl (Nat.le_of_ble_eq_true rfl) dX9_by_33 (fun r_53 u_r_53 H locs hw_r_53 hP hD hS => ?_)
        obtain ⟨mq2_54, rfl⟩ : ∃ z, z = u_r_53 := ⟨_, rfl⟩
        try dsimp only at hw_r_53
        have hP : va_P D vwCl [(ys, .inl (cI, 449, .inl ms)), (yfa, .inl (cI, 100, .inl fa)), (yfe, .inl (cI, 100, .inl fe)), (h0, .inr (9, [.ref ys, .ref yk, .ref yo, .ref yt, .int mk0, .ref yfa, .ref yfe, .int mL, .int mS, .int mM, .ref yro, .ref yhe, .ref ygr, .int mF, .int mC, .int mY, .ref yta, .int (nI (mz)), .int (nI (mf)), .int (nI (mt)), .int mv, .int mw, .ref ywa, .ref ybi, .ref ysi, .ref ynu, .ref ymo])), (yt, .inl (cI, 7, .inl mq2_54))] H := hP
        have hD : va_D A [(ys, .inl (cI, 449, .inl ms)), (yfa, .inl (cI, 100, .inl fa)), (yfe, .inl (cI, 100, .inl fe)), (h0, .inr (9, [.ref ys, .ref yk, .ref yo, .ref yt, .int mk0, .ref yfa, .ref yfe, .int mL, .int mS, .int mM, .ref yro, .ref yhe, .ref ygr, .int mF, .int mC, .int mY, .ref yta, .int (nI (mz)), .int (nI (mf)), .int (nI (mt)), .int mv, .int mw, .ref ywa, .ref ybi, .ref ysi, .ref ynu, .ref ymo])), (yt, .inl (cI, 7, .inl mq2_54))] := hD
        subst hw_r_53
        exact W.iret (v := (-1000000001)) hx hb hr (fun t ht hW => ⟨⟨(-1000000001), (mL, fa, fe, mq2_54), rfl, trivial, by rw [ht]; exact hP.sub [3, 0, 1, 2, 4] rfl, hD.sub [3, 0, 1, 2, 4] (by decide +kernel) rfl⟩, hS.F ht⟩) hS.2.2 dX9_by_36 hlk
    · skip
      refine lv_if_eq (tgt := 30) hx hb dX9_by_13 (by decide) (fun c_55 => ?_) (fun c_55 => absurd (by decide) c_55)
      refine lv_aload_n hx hb dX9_by_30 rfl (lv_at hl 0 rfl) ?_
      refine lv_ldc (v := (-1000000001)) hx hb hown (hu _ uw648) dX9_by_31 ?_
      refine xc_Vi (wr := [(ys, .inl (cI, 449, .inl ms)), (yfa, .inl (cI, 100, .inl fa)), (yfe, .inl (cI, 100, .inl fe))]) hF (c_X9_finds_B l D cI cJ cZ cS ta sa sv s.heap.size h0 ys yk yo yt mk0 yfa yfe mL mS mM yro yhe ygr mF mC mY yta mz mf mt mv mw ywa ybi ysi ynu ymo mq ) kv_X9_70 ⟨rfl, rfl, Nat.le_of_ble_eq_true rfl, Nat.le_of_ble_eq_true rfl⟩ ⟨Nat.le_of_ble_eq_true rfl, Nat.le_of_ble_eq_true rfl⟩ hK hN hZ hP hD hS hA [0, 4] [1, 2, 3] rfl rfl rfl rfl (by decide) 0 rfl rfl rfl rfl hl.1 rfl (Nat.le_of_ble_eq_true rfl) dX9_by_33 (fun r_56 u_r_56 H locs hw_r_56 hP hD hS => ?_)
      obtain ⟨mq2_57, rfl⟩ : ∃ z, z = u_r_56 := ⟨_, rfl⟩
      try dsimp only at hw_r_56
      have hP : va_P D vwCl [(ys, .inl (cI, 449, .inl ms)), (yfa, .inl (cI, 100, .inl fa)), (yfe, .inl (cI, 100, .inl fe)), (h0, .inr (9, [.ref ys, .ref yk, .ref yo, .ref yt, .int mk0, .ref yfa, .ref yfe, .int mL, .int mS, .int mM, .ref yro, .ref yhe, .ref ygr, .int mF, .int mC, .int mY, .ref yta, .int (nI (mz)), .int (nI (mf)), .int (nI (mt)), .int mv, .int mw, .ref ywa, .ref ybi, .ref ysi, .ref ynu, .ref ymo])), (yt, .inl (cI, 7, .inl mq2_57))] H := hP
      have hD : va_D A [(ys, .inl (cI, 449, .inl ms)), (yfa, .inl (cI, 100, .inl fa)), (yfe, .inl (cI, 100, .inl fe)), (h0, .inr (9, [.ref ys, .ref yk, .ref yo, .ref yt, .int mk0, .ref yfa, .ref yfe, .int mL, .int mS, .int mM, .ref yro, .ref yhe, .ref ygr, .int mF, .int mC, .int mY, .ref yta, .int (nI (mz)), .int (nI (mf)), .int (nI (mt)), .int mv, .int mw, .ref ywa, .ref ybi, .ref ysi, .ref ynu, .ref ymo])), (yt, .inl (cI, 7, .inl mq2_57))] := hD
      subst hw_r_56
      exact W.iret (v := (-1000000001)) hx hb hr (fun t ht hW => ⟨⟨(-1000000001), (mL, fa, fe, mq2_57), rfl, trivial, by rw [ht]; exact hP.sub [3, 0, 1, 2, 4] rfl, hD.sub [3, 0, 1, 2, 4] (by decide +kernel) rfl⟩, hS.F ht⟩) hS.2.2 dX9_by_36 hlk
  · skip
    refine lv_if_eq (tgt := 30) hx hb dX9_by_5 (by decide) (fun c_58 => ?_) (fun c_58 => absurd (by decide) c_58)
    refine lv_aload_n hx hb dX9_by_30 rfl (lv_at hl 0 rfl) ?_
    refine lv_ldc (v := (-1000000001)) hx hb hown (hu _ uw648) dX9_by_31 ?_
    refine xc_Vi (wr := [(ys, .inl (cI, 449, .inl ms)), (yfa, .inl (cI, 100, .inl fa)), (yfe, .inl (cI, 100, .inl fe))]) hF (c_X9_finds_B l D cI cJ cZ cS ta sa sv s.heap.size h0 ys yk yo yt mk0 yfa yfe mL mS mM yro yhe ygr mF mC mY yta mz mf mt mv mw ywa ybi ysi ynu ymo mq ) kv_X9_70 ⟨rfl, rfl, Nat.le_of_ble_eq_true rfl, Nat.le_of_ble_eq_true rfl⟩ ⟨Nat.le_of_ble_eq_true rfl, Nat.le_of_ble_eq_true rfl⟩ hK hN hZ hP hD hS hA [0, 4] [1, 2, 3] rfl rfl rfl rfl (by decide) 0 rfl rfl rfl rfl hl.1 rfl (Nat.le_of_ble_eq_true rfl) dX9_by_33 (fun r_59 u_r_59 H locs hw_r_59 hP hD hS => ?_)
    obtain ⟨mq2_60, rfl⟩ : ∃ z, z = u_r_59 := ⟨_, rfl⟩
    try dsimp only at hw_r_59
    have hP : va_P D vwCl [(ys, .inl (cI, 449, .inl ms)), (yfa, .inl (cI, 100, .inl fa)), (yfe, .inl (cI, 100, .inl fe)), (h0, .inr (9, [.ref ys, .ref yk, .ref yo, .ref yt, .int mk0, .ref yfa, .ref yfe, .int mL, .int mS, .int mM, .ref yro, .ref yhe, .ref ygr, .int mF, .int mC, .int mY, .ref yta, .int (nI (mz)), .int (nI (mf)), .int (nI (mt)), .int mv, .int mw, .ref ywa, .ref ybi, .ref ysi, .ref ynu, .ref ymo])), (yt, .inl (cI, 7, .inl mq2_60))] H := hP
    have hD : va_D A [(ys, .inl (cI, 449, .inl ms)), (yfa, .inl (cI, 100, .inl fa)), (yfe, .inl (cI, 100, .inl fe)), (h0, .inr (9, [.ref ys, .ref yk, .ref yo, .ref yt, .int mk0, .ref yfa, .ref yfe, .int mL, .int mS, .int mM, .ref yro, .ref yhe, .ref ygr, .int mF, .int mC, .int mY, .ref yta, .int (nI (mz)), .int (nI (mf)), .int (nI (mt)), .int mv, .int mw, .ref ywa, .ref ybi, .ref ysi, .ref ynu, .ref ymo])), (yt, .inl (cI, 7, .inl mq2_60))] := hD
    subst hw_r_59
    exact W.iret (v := (-1000000001)) hx hb hr (fun t ht hW => ⟨⟨(-1000000001), (mL, fa, fe, mq2_60), rfl, trivial, by rw [ht]; exact hP.sub [3, 0, 1, 2, 4] rfl, hD.sub [3, 0, 1, 2, 4] (by decide +kernel) rfl⟩, hS.F ht⟩) hS.2.2 dX9_by_36 hlk
