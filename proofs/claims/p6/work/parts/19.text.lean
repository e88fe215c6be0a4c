def LRX7_addByte_2 : List UInt8 := []
def LBX7_addByte_1 : List UInt8 := [0x09, 0x1b, 0x4f, 0x2a, 0x59, 0xb4, 0x00, 0x09, 0x04, 0x60, 0xb5, 0x00, 0x09, 0xb1]
def LRX7_addByte_1 : List UInt8 := LBX7_addByte_1 ++ LRX7_addByte_2
def LBX7_addByte_0 : List UInt8 := [0x2a, 0xb4, 0x00, 0x09, 0x10, 0x78, 0xa2, 0x00, 0x17, 0x2a, 0xb4, 0x00, 0x0f, 0x2a, 0xb4, 0x00]
def LRX7_addByte_0 : List UInt8 := LBX7_addByte_0 ++ LRX7_addByte_1
set_option maxRecDepth 100000 in
theorem LBX7_addByte_eq : cX7_addByte.data.toList = LRX7_addByte_0 := by decide +kernel
theorem LBX7_addByter_0 (k : Nat) : cX7_addByte.data.toList[0 + k]? = LRX7_addByte_0[k]? := by rw [LBX7_addByte_eq, Nat.zero_add]
theorem LBX7_addByter_1 (k : Nat) : cX7_addByte.data.toList[16 + k]? = LRX7_addByte_1[k]? := by
  have h := LBX7_addByter_0 (16 + k)
  rw [show 0 + (16 + k) = 16 + k by omega] at h
  rw [h]
  exact (List.getElem?_append_right (l₁ := LBX7_addByte_0) (l₂ := LRX7_addByte_1) (show 16 ≤ 16 + k by omega)).trans (congrArg (fun i => LRX7_addByte_1[i]?) (show 16 + k - 16 = k by omega))
theorem dX7_addByte_0 : decode cX7_addByte 0 = .ok (.aload_n 0, 1) := dk_42_ (show cX7_addByte.data.toList[0]? = some 0x2a from (LBX7_addByter_0 0).trans (by decide +kernel))
theorem dX7_addByte_1 : decode cX7_addByte 1 = .ok (.getfield 9, 3) := dk_180_ (show cX7_addByte.data.toList[1]? = some 0xb4 from (LBX7_addByter_0 1).trans (by decide +kernel)) (show cX7_addByte.data.toList[2]? = some 0x00 from (LBX7_addByter_0 2).trans (by decide +kernel)) (show cX7_addByte.data.toList[3]? = some 0x09 from (LBX7_addByter_0 3).trans (by decide +kernel)) (by decide)
theorem dX7_addByte_4 : decode cX7_addByte 4 = .ok (.bipush 120, 2) := dk_16_ (show cX7_addByte.data.toList[4]? = some 0x10 from (LBX7_addByter_0 4).trans (by decide +kernel)) (show cX7_addByte.data.toList[5]? = some 0x78 from (LBX7_addByter_0 5).trans (by decide +kernel)) (by decide)
theorem dX7_addByte_6 : decode cX7_addByte 6 = .ok (.if_icmp .ge 23, 3) := dk_162_ (show cX7_addByte.data.toList[6]? = some 0xa2 from (LBX7_addByter_0 6).trans (by decide +kernel)) (show cX7_addByte.data.toList[7]? = some 0x00 from (LBX7_addByter_0 7).trans (by decide +kernel)) (show cX7_addByte.data.toList[8]? = some 0x17 from (LBX7_addByter_0 8).trans (by decide +kernel)) (by decide)
theorem dX7_addByte_9 : decode cX7_addByte 9 = .ok (.aload_n 0, 1) := dk_42_ (show cX7_addByte.data.toList[9]? = some 0x2a from (LBX7_addByter_0 9).trans (by decide +kernel))
theorem dX7_addByte_10 : decode cX7_addByte 10 = .ok (.getfield 15, 3) := dk_180_ (show cX7_addByte.data.toList[10]? = some 0xb4 from (LBX7_addByter_0 10).trans (by decide +kernel)) (show cX7_addByte.data.toList[11]? = some 0x00 from (LBX7_addByter_0 11).trans (by decide +kernel)) (show cX7_addByte.data.toList[12]? = some 0x0f from (LBX7_addByter_0 12).trans (by decide +kernel)) (by decide)
theorem dX7_addByte_13 : decode cX7_addByte 13 = .ok (.aload_n 0, 1) := dk_42_ (show cX7_addByte.data.toList[13]? = some 0x2a from (LBX7_addByter_0 13).trans (by decide +kernel))
theorem dX7_addByte_14 : decode cX7_addByte 14 = .ok (.getfield 9, 3) := dk_180_ (show cX7_addByte.data.toList[14]? = some 0xb4 from (LBX7_addByter_0 14).trans (by decide +kernel)) (show cX7_addByte.data.toList[15]? = some 0x00 from (LBX7_addByter_0 15).trans (by decide +kernel)) (show cX7_addByte.data.toList[16]? = some 0x09 from (LBX7_addByter_1 0).trans (by decide +kernel)) (by decide)
theorem dX7_addByte_17 : decode cX7_addByte 17 = .ok (.iload_n 1, 1) := dk_27_ (show cX7_addByte.data.toList[17]? = some 0x1b from (LBX7_addByter_1 1).trans (by decide +kernel))
theorem dX7_addByte_18 : decode cX7_addByte 18 = .ok (.iastore, 1) := dk_79_ (show cX7_addByte.data.toList[18]? = some 0x4f from (LBX7_addByter_1 2).trans (by decide +kernel))
theorem dX7_addByte_19 : decode cX7_addByte 19 = .ok (.aload_n 0, 1) := dk_42_ (show cX7_addByte.data.toList[19]? = some 0x2a from (LBX7_addByter_1 3).trans (by decide +kernel))
theorem dX7_addByte_20 : decode cX7_addByte 20 = .ok (.dup, 1) := dk_89_ (show cX7_addByte.data.toList[20]? = some 0x59 from (LBX7_addByter_1 4).trans (by decide +kernel))
theorem dX7_addByte_21 : decode cX7_addByte 21 = .ok (.getfield 9, 3) := dk_180_ (show cX7_addByte.data.toList[21]? = some 0xb4 from (LBX7_addByter_1 5).trans (by decide +kernel)) (show cX7_addByte.data.toList[22]? = some 0x00 from (LBX7_addByter_1 6).trans (by decide +kernel)) (show cX7_addByte.data.toList[23]? = some 0x09 from (LBX7_addByter_1 7).trans (by decide +kernel)) (by decide)
theorem dX7_addByte_24 : decode cX7_addByte 24 = .ok (.iconst 1, 1) := dk_4_ (show cX7_addByte.data.toList[24]? = some 0x04 from (LBX7_addByter_1 8).trans (by decide +kernel))
theorem dX7_addByte_25 : decode cX7_addByte 25 = .ok (.iadd, 1) := dk_96_ (show cX7_addByte.data.toList[25]? = some 0x60 from (LBX7_addByter_1 9).trans (by decide +kernel))
theorem dX7_addByte_26 : decode cX7_addByte 26 = .ok (.putfield 9, 3) := dk_181_ (show cX7_addByte.data.toList[26]? = some 0xb5 from (LBX7_addByter_1 10).trans (by decide +kernel)) (show cX7_addByte.data.toList[27]? = some 0x00 from (LBX7_addByter_1 11).trans (by decide +kernel)) (show cX7_addByte.data.toList[28]? = some 0x09 from (LBX7_addByter_1 12).trans (by decide +kernel)) (by decide)
theorem dX7_addByte_29 : decode cX7_addByte 29 = .ok (.return_, 1) := dk_177_ (show cX7_addByte.data.toList[29]? = some 0xb1 from (LBX7_addByter_1 13).trans (by decide +kernel))
def LRX7_kindAt_5 : List UInt8 := []
def LBX7_kindAt_4 : List UInt8 := [0xac]
def LRX7_kindAt_4 : List UInt8 := LBX7_kindAt_4 ++ LRX7_kindAt_5
def LBX7_kindAt_3 : List UInt8 := [0xa0, 0x00, 0x05, 0x06, 0xac, 0x1c, 0x10, 0x2d, 0xa0, 0x00, 0x07, 0x07, 0xa7, 0x00, 0x04, 0x08]
def LRX7_kindAt_3 : List UInt8 := LBX7_kindAt_3 ++ LRX7_kindAt_4
def LBX7_kindAt_2 : List UInt8 := [0x10, 0x30, 0xa1, 0x00, 0x0b, 0x1c, 0x10, 0x39, 0xa3, 0x00, 0x05, 0x05, 0xac, 0x1c, 0x10, 0x3b]
def LRX7_kindAt_2 : List UInt8 := LBX7_kindAt_2 ++ LRX7_kindAt_3
def LBX7_kindAt_1 : List UInt8 := [0x3d, 0x1c, 0x10, 0x61, 0xa1, 0x00, 0x0b, 0x1c, 0x10, 0x7a, 0xa3, 0x00, 0x05, 0x04, 0xac, 0x1c]
def LRX7_kindAt_1 : List UInt8 := LBX7_kindAt_1 ++ LRX7_kindAt_2
def LBX7_kindAt_0 : List UInt8 := [0x1b, 0x2a, 0xb4, 0x00, 0x09, 0xa1, 0x00, 0x05, 0x03, 0xac, 0x2a, 0xb4, 0x00, 0x0f, 0x1b, 0x2e]
def LRX7_kindAt_0 : List UInt8 := LBX7_kindAt_0 ++ LRX7_kindAt_1
set_option maxRecDepth 100000 in
theorem LBX7_kindAt_eq : cX7_kindAt.data.toList = LRX7_kindAt_0 := by decide +kernel
theorem LBX7_kindAtr_0 (k : Nat) : cX7_kindAt.data.toList[0 + k]? = LRX7_kindAt_0[k]? := by rw [LBX7_kindAt_eq, Nat.zero_add]
theorem LBX7_kindAtr_1 (k : Nat) : cX7_kindAt.data.toList[16 + k]? = LRX7_kindAt_1[k]? := by
  have h := LBX7_kindAtr_0 (16 + k)
  rw [show 0 + (16 + k) = 16 + k by omega] at h
  rw [h]
  exact (List.getElem?_append_right (l₁ := LBX7_kindAt_0) (l₂ := LRX7_kindAt_1) (show 16 ≤ 16 + k by omega)).trans (congrArg (fun i => LRX7_kindAt_1[i]?) (show 16 + k - 16 = k by omega))
theorem LBX7_kindAtr_2 (k : Nat) : cX7_kindAt.data.toList[32 + k]? = LRX7_kindAt_2[k]? := by
  have h := LBX7_kindAtr_1 (16 + k)
  rw [show 16 + (16 + k) = 32 + k by omega] at h
  rw [h]
  exact (List.getElem?_append_right (l₁ := LBX7_kindAt_1) (l₂ := LRX7_kindAt_2) (show 16 ≤ 16 + k by omega)).trans (congrArg (fun i => LRX7_kindAt_2[i]?) (show 16 + k - 16 = k by omega))
theorem LBX7_kindAtr_3 (k : Nat) : cX7_kindAt.data.toList[48 + k]? = LRX7_kindAt_3[k]? := by
  have h := LBX7_kindAtr_2 (16 + k)
  rw [show 32 + (16 + k) = 48 + k by omega] at h
  rw [h]
  exact (List.getElem?_append_right (l₁ := LBX7_kindAt_2) (l₂ := LRX7_kindAt_3) (show 16 ≤ 16 + k by omega)).trans (congrArg (fun i => LRX7_kindAt_3[i]?) (show 16 + k - 16 = k by omega))
theorem LBX7_kindAtr_4 (k : Nat) : cX7_kindAt.data.toList[64 + k]? = LRX7_kindAt_4[k]? := by
  have h := LBX7_kindAtr_3 (16 + k)
  rw [show 48 + (16 + k) = 64 + k by omega] at h
  rw [h]
  exact (List.getElem?_append_right (l₁ := LBX7_kindAt_3) (l₂ := LRX7_kindAt_4) (show 16 ≤ 16 + k by omega)).trans (congrArg (fun i => LRX7_kindAt_4[i]?) (show 16 + k - 16 = k by omega))
theorem dX7_kindAt_0 : decode cX7_kindAt 0 = .ok (.iload_n 1, 1) := dk_27_ (show cX7_kindAt.data.toList[0]? = some 0x1b from (LBX7_kindAtr_0 0).trans (by decide +kernel))
theorem dX7_kindAt_1 : decode cX7_kindAt 1 = .ok (.aload_n 0, 1) := dk_42_ (show cX7_kindAt.data.toList[1]? = some 0x2a from (LBX7_kindAtr_0 1).trans (by decide +kernel))
theorem dX7_kindAt_2 : decode cX7_kindAt 2 = .ok (.getfield 9, 3) := dk_180_ (show cX7_kindAt.data.toList[2]? = some 0xb4 from (LBX7_kindAtr_0 2).trans (by decide +kernel)) (show cX7_kindAt.data.toList[3]? = some 0x00 from (LBX7_kindAtr_0 3).trans (by decide +kernel)) (show cX7_kindAt.data.toList[4]? = some 0x09 from (LBX7_kindAtr_0 4).trans (by decide +kernel)) (by decide)
theorem dX7_kindAt_5 : decode cX7_kindAt 5 = .ok (.if_icmp .lt 5, 3) := dk_161_ (show cX7_kindAt.data.toList[5]? = some 0xa1 from (LBX7_kindAtr_0 5).trans (by decide +kernel)) (show cX7_kindAt.data.toList[6]? = some 0x00 from (LBX7_kindAtr_0 6).trans (by decide +kernel)) (show cX7_kindAt.data.toList[7]? = some 0x05 from (LBX7_kindAtr_0 7).trans (by decide +kernel)) (by decide)
theorem dX7_kindAt_8 : decode cX7_kindAt 8 = .ok (.iconst 0, 1) := dk_3_ (show cX7_kindAt.data.toList[8]? = some 0x03 from (LBX7_kindAtr_0 8).trans (by decide +kernel))
theorem dX7_kindAt_9 : decode cX7_kindAt 9 = .ok (.ireturn, 1) := dk_172_ (show cX7_kindAt.data.toList[9]? = some 0xac from (LBX7_kindAtr_0 9).trans (by decide +kernel))
theorem dX7_kindAt_10 : decode cX7_kindAt 10 = .ok (.aload_n 0, 1) := dk_42_ (show cX7_kindAt.data.toList[10]? = some 0x2a from (LBX7_kindAtr_0 10).trans (by decide +kernel))
theorem dX7_kindAt_11 : decode cX7_kindAt 11 = .ok (.getfield 15, 3) := dk_180_ (show cX7_kindAt.data.toList[11]? = some 0xb4 from (LBX7_kindAtr_0 11).trans (by decide +kernel)) (show cX7_kindAt.data.toList[12]? = some 0x00 from (LBX7_kindAtr_0 12).trans (by decide +kernel)) (show cX7_kindAt.data.toList[13]? = some 0x0f from (LBX7_kindAtr_0 13).trans (by decide +kernel)) (by decide)
theorem dX7_kindAt_14 : decode cX7_kindAt 14 = .ok (.iload_n 1, 1) := dk_27_ (show cX7_kindAt.data.toList[14]? = some 0x1b from (LBX7_kindAtr_0 14).trans (by decide +kernel))
theorem dX7_kindAt_15 : decode cX7_kindAt 15 = .ok (.iaload, 1) := dk_46_ (show cX7_kindAt.data.toList[15]? = some 0x2e from (LBX7_kindAtr_0 15).trans (by decide +kernel))
theorem dX7_kindAt_16 : decode cX7_kindAt 16 = .ok (.istore_n 2, 1) := dk_61_ (show cX7_kindAt.data.toList[16]? = some 0x3d from (LBX7_kindAtr_1 0).trans (by decide +kernel))
theorem dX7_kindAt_17 : decode cX7_kindAt 17 = .ok (.iload_n 2, 1) := dk_28_ (show cX7_kindAt.data.toList[17]? = some 0x1c from (LBX7_kindAtr_1 1).trans (by decide +kernel))
theorem dX7_kindAt_18 : decode cX7_kindAt 18 = .ok (.bipush 97, 2) := dk_16_ (show cX7_kindAt.data.toList[18]? = some 0x10 from (LBX7_kindAtr_1 2).trans (by decide +kernel)) (show cX7_kindAt.data.toList[19]? = some 0x61 from (LBX7_kindAtr_1 3).trans (by decide +kernel)) (by decide)
theorem dX7_kindAt_20 : decode cX7_kindAt 20 = .ok (.if_icmp .lt 11, 3) := dk_161_ (show cX7_kindAt.data.toList[20]? = some 0xa1 from (LBX7_kindAtr_1 4).trans (by decide +kernel)) (show cX7_kindAt.data.toList[21]? = some 0x00 from (LBX7_kindAtr_1 5).trans (by decide +kernel)) (show cX7_kindAt.data.toList[22]? = some 0x0b from (LBX7_kindAtr_1 6).trans (by decide +kernel)) (by decide)
theorem dX7_kindAt_23 : decode cX7_kindAt 23 = .ok (.iload_n 2, 1) := dk_28_ (show cX7_kindAt.data.toList[23]? = some 0x1c from (LBX7_kindAtr_1 7).trans (by decide +kernel))
theorem dX7_kindAt_24 : decode cX7_kindAt 24 = .ok (.bipush 122, 2) := dk_16_ (show cX7_kindAt.data.toList[24]? = some 0x10 from (LBX7_kindAtr_1 8).trans (by decide +kernel)) (show cX7_kindAt.data.toList[25]? = some 0x7a from (LBX7_kindAtr_1 9).trans (by decide +kernel)) (by decide)
theorem dX7_kindAt_26 : decode cX7_kindAt 26 = .ok (.if_icmp .gt 5, 3) := dk_163_ (show cX7_kindAt.data.toList[26]? = some 0xa3 from (LBX7_kindAtr_1 10).trans (by decide +kernel)) (show cX7_kindAt.data.toList[27]? = some 0x00 from (LBX7_kindAtr_1 11).trans (by decide +kernel)) (show cX7_kindAt.data.toList[28]? = some 0x05 from (LBX7_kindAtr_1 12).trans (by decide +kernel)) (by decide)
theorem dX7_kindAt_29 : decode cX7_kindAt 29 = .ok (.iconst 1, 1) := dk_4_ (show cX7_kindAt.data.toList[29]? = some 0x04 from (LBX7_kindAtr_1 13).trans (by decide +kernel))
theorem dX7_kindAt_30 : decode cX7_kindAt 30 = .ok (.ireturn, 1) := dk_172_ (show cX7_kindAt.data.toList[30]? = some 0xac from (LBX7_kindAtr_1 14).trans (by decide +kernel))
theorem dX7_kindAt_31 : decode cX7_kindAt 31 = .ok (.iload_n 2, 1) := dk_28_ (show cX7_kindAt.data.toList[31]? = some 0x1c from (LBX7_kindAtr_1 15).trans (by decide +kernel))
theorem dX7_kindAt_32 : decode cX7_kindAt 32 = .ok (.bipush 48, 2) := dk_16_ (show cX7_kindAt.data.toList[32]? = some 0x10 from (LBX7_kindAtr_2 0).trans (by decide +kernel)) (show cX7_kindAt.data.toList[33]? = some 0x30 from (LBX7_kindAtr_2 1).trans (by decide +kernel)) (by decide)
theorem dX7_kindAt_34 : decode cX7_kindAt 34 = .ok (.if_icmp .lt 11, 3) := dk_161_ (show cX7_kindAt.data.toList[34]? = some 0xa1 from (LBX7_kindAtr_2 2).trans (by decide +kernel)) (show cX7_kindAt.data.toList[35]? = some 0x00 from (LBX7_kindAtr_2 3).trans (by decide +kernel)) (show cX7_kindAt.data.toList[36]? = some 0x0b from (LBX7_kindAtr_2 4).trans (by decide +kernel)) (by decide)
theorem dX7_kindAt_37 : decode cX7_kindAt 37 = .ok (.iload_n 2, 1) := dk_28_ (show cX7_kindAt.data.toList[37]? = some 0x1c from (LBX7_kindAtr_2 5).trans (by decide +kernel))
theorem dX7_kindAt_38 : decode cX7_kindAt 38 = .ok (.bipush 57, 2) := dk_16_ (show cX7_kindAt.data.toList[38]? = some 0x10 from (LBX7_kindAtr_2 6).trans (by decide +kernel)) (show cX7_kindAt.data.toList[39]? = some 0x39 from (LBX7_kindAtr_2 7).trans (by decide +kernel)) (by decide)
theorem dX7_kindAt_40 : decode cX7_kindAt 40 = .ok (.if_icmp .gt 5, 3) := dk_163_ (show cX7_kindAt.data.toList[40]? = some 0xa3 from (LBX7_kindAtr_2 8).trans (by decide +kernel)) (show cX7_kindAt.data.toList[41]? = some 0x00 from (LBX7_kindAtr_2 9).trans (by decide +kernel)) (show cX7_kindAt.data.toList[42]? = some 0x05 from (LBX7_kindAtr_2 10).trans (by decide +kernel)) (by decide)
theorem dX7_kindAt_43 : decode cX7_kindAt 43 = .ok (.iconst 2, 1) := dk_5_ (show cX7_kindAt.data.toList[43]? = some 0x05 from (LBX7_kindAtr_2 11).trans (by decide +kernel))
theorem dX7_kindAt_44 : decode cX7_kindAt 44 = .ok (.ireturn, 1) := dk_172_ (show cX7_kindAt.data.toList[44]? = some 0xac from (LBX7_kindAtr_2 12).trans (by decide +kernel))
theorem dX7_kindAt_45 : decode cX7_kindAt 45 = .ok (.iload_n 2, 1) := dk_28_ (show cX7_kindAt.data.toList[45]? = some 0x1c from (LBX7_kindAtr_2 13).trans (by decide +kernel))
theorem dX7_kindAt_46 : decode cX7_kindAt 46 = .ok (.bipush 59, 2) := dk_16_ (show cX7_kindAt.data.toList[46]? = some 0x10 from (LBX7_kindAtr_2 14).trans (by decide +kernel)) (show cX7_kindAt.data.toList[47]? = some 0x3b from (LBX7_kindAtr_2 15).trans (by decide +kernel)) (by decide)
theorem dX7_kindAt_48 : decode cX7_kindAt 48 = .ok (.if_icmp .ne 5, 3) := dk_160_ (show cX7_kindAt.data.toList[48]? = some 0xa0 from (LBX7_kindAtr_3 0).trans (by decide +kernel)) (show cX7_kindAt.data.toList[49]? = some 0x00 from (LBX7_kindAtr_3 1).trans (by decide +kernel)) (show cX7_kindAt.data.toList[50]? = some 0x05 from (LBX7_kindAtr_3 2).trans (by decide +kernel)) (by decide)
theorem dX7_kindAt_51 : decode cX7_kindAt 51 = .ok (.iconst 3, 1) := dk_6_ (show cX7_kindAt.data.toList[51]? = some 0x06 from (LBX7_kindAtr_3 3).trans (by decide +kernel))
theorem dX7_kindAt_52 : decode cX7_kindAt 52 = .ok (.ireturn, 1) := dk_172_ (show cX7_kindAt.data.toList[52]? = some 0xac from (LBX7_kindAtr_3 4).trans (by decide +kernel))
theorem dX7_kindAt_53 : decode cX7_kindAt 53 = .ok (.iload_n 2, 1) := dk_28_ (show cX7_kindAt.data.toList[53]? = some 0x1c from (LBX7_kindAtr_3 5).trans (by decide +kernel))
theorem dX7_kindAt_54 : decode cX7_kindAt 54 = .ok (.bipush 45, 2) := dk_16_ (show cX7_kindAt.data.toList[54]? = some 0x10 from (LBX7_kindAtr_3 6).trans (by decide +kernel)) (show cX7_kindAt.data.toList[55]? = some 0x2d from (LBX7_kindAtr_3 7).trans (by decide +kernel)) (by decide)
theorem dX7_kindAt_56 : decode cX7_kindAt 56 = .ok (.if_icmp .ne 7, 3) := dk_160_ (show cX7_kindAt.data.toList[56]? = some 0xa0 from (LBX7_kindAtr_3 8).trans (by decide +kernel)) (show cX7_kindAt.data.toList[57]? = some 0x00 from (LBX7_kindAtr_3 9).trans (by decide +kernel)) (show cX7_kindAt.data.toList[58]? = some 0x07 from (LBX7_kindAtr_3 10).trans (by decide +kernel)) (by decide)
theorem dX7_kindAt_59 : decode cX7_kindAt 59 = .ok (.iconst 4, 1) := dk_7_ (show cX7_kindAt.data.toList[59]? = some 0x07 from (LBX7_kindAtr_3 11).trans (by decide +kernel))
theorem dX7_kindAt_60 : decode cX7_kindAt 60 = .ok (.goto 4, 3) := dk_167_ (show cX7_kindAt.data.toList[60]? = some 0xa7 from (LBX7_kindAtr_3 12).trans (by decide +kernel)) (show cX7_kindAt.data.toList[61]? = some 0x00 from (LBX7_kindAtr_3 13).trans (by decide +kernel)) (show cX7_kindAt.data.toList[62]? = some 0x04 from (LBX7_kindAtr_3 14).trans (by decide +kernel)) (by decide)
theorem dX7_kindAt_63 : decode cX7_kindAt 63 = .ok (.iconst 5, 1) := dk_8_ (show cX7_kindAt.data.toList[63]? = some 0x08 from (LBX7_kindAtr_3 15).trans (by decide +kernel))
theorem dX7_kindAt_64 : decode cX7_kindAt 64 = .ok (.ireturn, 1) := dk_172_ (show cX7_kindAt.data.toList[64]? = some 0xac from (LBX7_kindAtr_4 0).trans (by decide +kernel))
def LRX7_step_10 : List UInt8 := []
def LBX7_step_9 : List UInt8 := [0x2a, 0x1b, 0xb5, 0x00, 0x19, 0xb1]
def LRX7_step_9 : List UInt8 := LBX7_step_9 ++ LRX7_step_10
def LBX7_step_8 : List UInt8 := [0x64, 0x11, 0x27, 0x10, 0xb8, 0x00, 0x91, 0xb5, 0x00, 0x1c, 0x84, 0x01, 0x01, 0xa7, 0xff, 0xba]
def LRX7_step_8 : List UInt8 := LBX7_step_8 ++ LRX7_step_9
def LBX7_step_7 : List UInt8 := [0x10, 0x0a, 0x2a, 0xb4, 0x00, 0x1c, 0x68, 0x2a, 0xb4, 0x00, 0x0f, 0x1b, 0x2e, 0x60, 0x10, 0x30]
def LRX7_step_7 : List UInt8 := LBX7_step_7 ++ LRX7_step_8
def LBX7_step_6 : List UInt8 := [0x9f, 0x00, 0x07, 0x1c, 0x99, 0x00, 0x2c, 0x2a, 0xb4, 0x00, 0x13, 0x05, 0xa0, 0x00, 0x1e, 0x2a]
def LRX7_step_6 : List UInt8 := LBX7_step_6 ++ LRX7_step_7
def LBX7_step_5 : List UInt8 := [0x1b, 0xb6, 0x00, 0x8e, 0x2a, 0xb4, 0x00, 0x13, 0xa0, 0x00, 0x38, 0x1b, 0x2a, 0xb4, 0x00, 0x16]
def LRX7_step_5 : List UInt8 := LBX7_step_5 ++ LRX7_step_6
def LBX7_step_4 : List UInt8 := [0x07, 0x04, 0xa7, 0x00, 0x04, 0x03, 0x3d, 0x1b, 0x2a, 0xb4, 0x00, 0x09, 0xa2, 0x00, 0x44, 0x2a]
def LRX7_step_4 : List UInt8 := LBX7_step_4 ++ LRX7_step_5
def LBX7_step_3 : List UInt8 := [0x1c, 0x2a, 0xb4, 0x00, 0x13, 0x04, 0x9f, 0x00, 0x0b, 0x2a, 0xb4, 0x00, 0x13, 0x05, 0xa0, 0x00]
def LRX7_step_3 : List UInt8 := LBX7_step_3 ++ LRX7_step_4
def LBX7_step_2 : List UInt8 := [0xb5, 0x00, 0x16, 0x2a, 0x2a, 0x1b, 0xb6, 0x00, 0x8e, 0xb5, 0x00, 0x13, 0x2a, 0x03, 0xb5, 0x00]
def LRX7_step_2 : List UInt8 := LBX7_step_2 ++ LRX7_step_3
def LBX7_step_1 : List UInt8 := [0x0f, 0x1b, 0x2e, 0x10, 0x20, 0xa0, 0x00, 0x09, 0x84, 0x01, 0x01, 0xa7, 0xff, 0xea, 0x2a, 0x1b]
def LRX7_step_1 : List UInt8 := LBX7_step_1 ++ LRX7_step_2
def LBX7_step_0 : List UInt8 := [0x2a, 0xb4, 0x00, 0x19, 0x3c, 0x1b, 0x2a, 0xb4, 0x00, 0x09, 0xa2, 0x00, 0x14, 0x2a, 0xb4, 0x00]
def LRX7_step_0 : List UInt8 := LBX7_step_0 ++ LRX7_step_1
set_option maxRecDepth 100000 in
theorem LBX7_step_eq : cX7_step.data.toList = LRX7_step_0 := by decide +kernel
theorem LBX7_stepr_0 (k : Nat) : cX7_step.data.toList[0 + k]? = LRX7_step_0[k]? := by rw [LBX7_step_eq, Nat.zero_add]
theorem LBX7_stepr_1 (k : Nat) : cX7_step.data.toList[16 + k]? = LRX7_step_1[k]? := by
  have h := LBX7_stepr_0 (16 + k)
  rw [show 0 + (16 + k) = 16 + k by omega] at h
  rw [h]
  exact (List.getElem?_append_right (l₁ := LBX7_step_0) (l₂ := LRX7_step_1) (show 16 ≤ 16 + k by omega)).trans (congrArg (fun i => LRX7_step_1[i]?) (show 16 + k - 16 = k by omega))
theorem LBX7_stepr_2 (k : Nat) : cX7_step.data.toList[32 + k]? = LRX7_step_2[k]? := by
  have h := LBX7_stepr_1 (16 + k)
  rw [show 16 + (16 + k) = 32 + k by omega] at h
  rw [h]
  exact (List.getElem?_append_right (l₁ := LBX7_step_1) (l₂ := LRX7_step_2) (show 16 ≤ 16 + k by omega)).trans (congrArg (fun i => LRX7_step_2[i]?) (show 16 + k - 16 = k by omega))
theorem LBX7_stepr_3 (k : Nat) : cX7_step.data.toList[48 + k]? = LRX7_step_3[k]? := by
  have h := LBX7_stepr_2 (16 + k)
  rw [show 32 + (16 + k) = 48 + k by omega] at h
  rw [h]
  exact (List.getElem?_append_right (l₁ := LBX7_step_2) (l₂ := LRX7_step_3) (show 16 ≤ 16 + k by omega)).trans (congrArg (fun i => LRX7_step_3[i]?) (show 16 + k - 16 = k by omega))
theorem LBX7_stepr_4 (k : Nat) : cX7_step.data.toList[64 + k]? = LRX7_step_4[k]? := by
  have h := LBX7_stepr_3 (16 + k)
  rw [show 48 + (16 + k) = 64 + k by omega] at h
  rw [h]
  exact (List.getElem?_append_right (l₁ := LBX7_step_3) (l₂ := LRX7_step_4) (show 16 ≤ 16 + k by omega)).trans (congrArg (fun i => LRX7_step_4[i]?) (show 16 + k - 16 = k by omega))
theorem LBX7_stepr_5 (k : Nat) : cX7_step.data.toList[80 + k]? = LRX7_step_5[k]? := by
  have h := LBX7_stepr_4 (16 + k)
  rw [show 64 + (16 + k) = 80 + k by omega] at h
  rw [h]
  exact (List.getElem?_append_right (l₁ := LBX7_step_4) (l₂ := LRX7_step_5) (show 16 ≤ 16 + k by omega)).trans (congrArg (fun i => LRX7_step_5[i]?) (show 16 + k - 16 = k by omega))
theorem LBX7_stepr_6 (k : Nat) : cX7_step.data.toList[96 + k]? = LRX7_step_6[k]? := by
  have h := LBX7_stepr_5 (16 + k)
  rw [show 80 + (16 + k) = 96 + k by omega] at h
  rw [h]
  exact (List.getElem?_append_right (l₁ := LBX7_step_5) (l₂ := LRX7_step_6) (show 16 ≤ 16 + k by omega)).trans (congrArg (fun i => LRX7_step_6[i]?) (show 16 + k - 16 = k by omega))
theorem LBX7_stepr_7 (k : Nat) : cX7_step.data.toList[112 + k]? = LRX7_step_7[k]? := by
  have h := LBX7_stepr_6 (16 + k)
  rw [show 96 + (16 + k) = 112 + k by omega] at h
  rw [h]
  exact (List.getElem?_append_right (l₁ := LBX7_step_6) (l₂ := LRX7_step_7) (show 16 ≤ 16 + k by omega)).trans (congrArg (fun i => LRX7_step_7[i]?) (show 16 + k - 16 = k by omega))
theorem LBX7_stepr_8 (k : Nat) : cX7_step.data.toList[128 + k]? = LRX7_step_8[k]? := by
  have h := LBX7_stepr_7 (16 + k)
  rw [show 112 + (16 + k) = 128 + k by omega] at h
  rw [h]
  exact (List.getElem?_append_right (l₁ := LBX7_step_7) (l₂ := LRX7_step_8) (show 16 ≤ 16 + k by omega)).trans (congrArg (fun i => LRX7_step_8[i]?) (show 16 + k - 16 = k by omega))
theorem LBX7_stepr_9 (k : Nat) : cX7_step.data.toList[144 + k]? = LRX7_step_9[k]? := by
  have h := LBX7_stepr_8 (16 + k)
  rw [show 128 + (16 + k) = 144 + k by omega] at h
  rw [h]
  exact (List.getElem?_append_right (l₁ := LBX7_step_8) (l₂ := LRX7_step_9) (show 16 ≤ 16 + k by omega)).trans (congrArg (fun i => LRX7_step_9[i]?) (show 16 + k - 16 = k by omega))
theorem dX7_step_0 : decode cX7_step 0 = .ok (.aload_n 0, 1) := dk_42_ (show cX7_step.data.toList[0]? = some 0x2a from (LBX7_stepr_0 0).trans (by decide +kernel))
theorem dX7_step_1 : decode cX7_step 1 = .ok (.getfield 25, 3) := dk_180_ (show cX7_step.data.toList[1]? = some 0xb4 from (LBX7_stepr_0 1).trans (by decide +kernel)) (show cX7_step.data.toList[2]? = some 0x00 from (LBX7_stepr_0 2).trans (by decide +kernel)) (show cX7_step.data.toList[3]? = some 0x19 from (LBX7_stepr_0 3).trans (by decide +kernel)) (by decide)
theorem dX7_step_4 : decode cX7_step 4 = .ok (.istore_n 1, 1) := dk_60_ (show cX7_step.data.toList[4]? = some 0x3c from (LBX7_stepr_0 4).trans (by decide +kernel))
theorem dX7_step_5 : decode cX7_step 5 = .ok (.iload_n 1, 1) := dk_27_ (show cX7_step.data.toList[5]? = some 0x1b from (LBX7_stepr_0 5).trans (by decide +kernel))
theorem dX7_step_6 : decode cX7_step 6 = .ok (.aload_n 0, 1) := dk_42_ (show cX7_step.data.toList[6]? = some 0x2a from (LBX7_stepr_0 6).trans (by decide +kernel))
theorem dX7_step_7 : decode cX7_step 7 = .ok (.getfield 9, 3) := dk_180_ (show cX7_step.data.toList[7]? = some 0xb4 from (LBX7_stepr_0 7).trans (by decide +kernel)) (show cX7_step.data.toList[8]? = some 0x00 from (LBX7_stepr_0 8).trans (by decide +kernel)) (show cX7_step.data.toList[9]? = some 0x09 from (LBX7_stepr_0 9).trans (by decide +kernel)) (by decide)
theorem dX7_step_10 : decode cX7_step 10 = .ok (.if_icmp .ge 20, 3) := dk_162_ (show cX7_step.data.toList[10]? = some 0xa2 from (LBX7_stepr_0 10).trans (by decide +kernel)) (show cX7_step.data.toList[11]? = some 0x00 from (LBX7_stepr_0 11).trans (by decide +kernel)) (show cX7_step.data.toList[12]? = some 0x14 from (LBX7_stepr_0 12).trans (by decide +kernel)) (by decide)
theorem dX7_step_13 : decode cX7_step 13 = .ok (.aload_n 0, 1) := dk_42_ (show cX7_step.data.toList[13]? = some 0x2a from (LBX7_stepr_0 13).trans (by decide +kernel))
theorem dX7_step_14 : decode cX7_step 14 = .ok (.getfield 15, 3) := dk_180_ (show cX7_step.data.toList[14]? = some 0xb4 from (LBX7_stepr_0 14).trans (by decide +kernel)) (show cX7_step.data.toList[15]? = some 0x00 from (LBX7_stepr_0 15).trans (by decide +kernel)) (show cX7_step.data.toList[16]? = some 0x0f from (LBX7_stepr_1 0).trans (by decide +kernel)) (by decide)
theorem dX7_step_17 : decode cX7_step 17 = .ok (.iload_n 1, 1) := dk_27_ (show cX7_step.data.toList[17]? = some 0x1b from (LBX7_stepr_1 1).trans (by decide +kernel))
theorem dX7_step_18 : decode cX7_step 18 = .ok (.iaload, 1) := dk_46_ (show cX7_step.data.toList[18]? = some 0x2e from (LBX7_stepr_1 2).trans (by decide +kernel))
theorem dX7_step_19 : decode cX7_step 19 = .ok (.bipush 32, 2) := dk_16_ (show cX7_step.data.toList[19]? = some 0x10 from (LBX7_stepr_1 3).trans (by decide +kernel)) (show cX7_step.data.toList[20]? = some 0x20 from (LBX7_stepr_1 4).trans (by decide +kernel)) (by decide)
theorem dX7_step_21 : decode cX7_step 21 = .ok (.if_icmp .ne 9, 3) := dk_160_ (show cX7_step.data.toList[21]? = some 0xa0 from (LBX7_stepr_1 5).trans (by decide +kernel)) (show cX7_step.data.toList[22]? = some 0x00 from (LBX7_stepr_1 6).trans (by decide +kernel)) (show cX7_step.data.toList[23]? = some 0x09 from (LBX7_stepr_1 7).trans (by decide +kernel)) (by decide)
theorem dX7_step_24 : decode cX7_step 24 = .ok (.iinc 1 1, 3) := dk_132_ (show cX7_step.data.toList[24]? = some 0x84 from (LBX7_stepr_1 8).trans (by decide +kernel)) (show cX7_step.data.toList[25]? = some 0x01 from (LBX7_stepr_1 9).trans (by decide +kernel)) (show cX7_step.data.toList[26]? = some 0x01 from (LBX7_stepr_1 10).trans (by decide +kernel)) (by decide) (by decide)
theorem dX7_step_27 : decode cX7_step 27 = .ok (.goto (-22), 3) := dk_167_ (show cX7_step.data.toList[27]? = some 0xa7 from (LBX7_stepr_1 11).trans (by decide +kernel)) (show cX7_step.data.toList[28]? = some 0xff from (LBX7_stepr_1 12).trans (by decide +kernel)) (show cX7_step.data.toList[29]? = some 0xea from (LBX7_stepr_1 13).trans (by decide +kernel)) (by decide)
theorem dX7_step_30 : decode cX7_step 30 = .ok (.aload_n 0, 1) := dk_42_ (show cX7_step.data.toList[30]? = some 0x2a from (LBX7_stepr_1 14).trans (by decide +kernel))
theorem dX7_step_31 : decode cX7_step 31 = .ok (.iload_n 1, 1) := dk_27_ (show cX7_step.data.toList[31]? = some 0x1b from (LBX7_stepr_1 15).trans (by decide +kernel))
theorem dX7_step_32 : decode cX7_step 32 = .ok (.putfield 22, 3) := dk_181_ (show cX7_step.data.toList[32]? = some 0xb5 from (LBX7_stepr_2 0).trans (by decide +kernel)) (show cX7_step.data.toList[33]? = some 0x00 from (LBX7_stepr_2 1).trans (by decide +kernel)) (show cX7_step.data.toList[34]? = some 0x16 from (LBX7_stepr_2 2).trans (by decide +kernel)) (by decide)
theorem dX7_step_35 : decode cX7_step 35 = .ok (.aload_n 0, 1) := dk_42_ (show cX7_step.data.toList[35]? = some 0x2a from (LBX7_stepr_2 3).trans (by decide +kernel))
theorem dX7_step_36 : decode cX7_step 36 = .ok (.aload_n 0, 1) := dk_42_ (show cX7_step.data.toList[36]? = some 0x2a from (LBX7_stepr_2 4).trans (by decide +kernel))
theorem dX7_step_37 : decode cX7_step 37 = .ok (.iload_n 1, 1) := dk_27_ (show cX7_step.data.toList[37]? = some 0x1b from (LBX7_stepr_2 5).trans (by decide +kernel))
theorem dX7_step_38 : decode cX7_step 38 = .ok (.invokevirtual 142, 3) := dk_182_ (show cX7_step.data.toList[38]? = some 0xb6 from (LBX7_stepr_2 6).trans (by decide +kernel)) (show cX7_step.data.toList[39]? = some 0x00 from (LBX7_stepr_2 7).trans (by decide +kernel)) (show cX7_step.data.toList[40]? = some 0x8e from (LBX7_stepr_2 8).trans (by decide +kernel)) (by decide)
theorem dX7_step_41 : decode cX7_step 41 = .ok (.putfield 19, 3) := dk_181_ (show cX7_step.data.toList[41]? = some 0xb5 from (LBX7_stepr_2 9).trans (by decide +kernel)) (show cX7_step.data.toList[42]? = some 0x00 from (LBX7_stepr_2 10).trans (by decide +kernel)) (show cX7_step.data.toList[43]? = some 0x13 from (LBX7_stepr_2 11).trans (by decide +kernel)) (by decide)
theorem dX7_step_44 : decode cX7_step 44 = .ok (.aload_n 0, 1) := dk_42_ (show cX7_step.data.toList[44]? = some 0x2a from (LBX7_stepr_2 12).trans (by decide +kernel))
theorem dX7_step_45 : decode cX7_step 45 = .ok (.iconst 0, 1) := dk_3_ (show cX7_step.data.toList[45]? = some 0x03 from (LBX7_stepr_2 13).trans (by decide +kernel))
theorem dX7_step_46 : decode cX7_step 46 = .ok (.putfield 28, 3) := dk_181_ (show cX7_step.data.toList[46]? = some 0xb5 from (LBX7_stepr_2 14).trans (by decide +kernel)) (show cX7_step.data.toList[47]? = some 0x00 from (LBX7_stepr_2 15).trans (by decide +kernel)) (show cX7_step.data.toList[48]? = some 0x1c from (LBX7_stepr_3 0).trans (by decide +kernel)) (by decide)
theorem dX7_step_49 : decode cX7_step 49 = .ok (.aload_n 0, 1) := dk_42_ (show cX7_step.data.toList[49]? = some 0x2a from (LBX7_stepr_3 1).trans (by decide +kernel))
theorem dX7_step_50 : decode cX7_step 50 = .ok (.getfield 19, 3) := dk_180_ (show cX7_step.data.toList[50]? = some 0xb4 from (LBX7_stepr_3 2).trans (by decide +kernel)) (show cX7_step.data.toList[51]? = some 0x00 from (LBX7_stepr_3 3).trans (by decide +kernel)) (show cX7_step.data.toList[52]? = some 0x13 from (LBX7_stepr_3 4).trans (by decide +kernel)) (by decide)
theorem dX7_step_53 : decode cX7_step 53 = .ok (.iconst 1, 1) := dk_4_ (show cX7_step.data.toList[53]? = some 0x04 from (LBX7_stepr_3 5).trans (by decide +kernel))
theorem dX7_step_54 : decode cX7_step 54 = .ok (.if_icmp .eq 11, 3) := dk_159_ (show cX7_step.data.toList[54]? = some 0x9f from (LBX7_stepr_3 6).trans (by decide +kernel)) (show cX7_step.data.toList[55]? = some 0x00 from (LBX7_stepr_3 7).trans (by decide +kernel)) (show cX7_step.data.toList[56]? = some 0x0b from (LBX7_stepr_3 8).trans (by decide +kernel)) (by decide)
theorem dX7_step_57 : decode cX7_step 57 = .ok (.aload_n 0, 1) := dk_42_ (show cX7_step.data.toList[57]? = some 0x2a from (LBX7_stepr_3 9).trans (by decide +kernel))
theorem dX7_step_58 : decode cX7_step 58 = .ok (.getfield 19, 3) := dk_180_ (show cX7_step.data.toList[58]? = some 0xb4 from (LBX7_stepr_3 10).trans (by decide +kernel)) (show cX7_step.data.toList[59]? = some 0x00 from (LBX7_stepr_3 11).trans (by decide +kernel)) (show cX7_step.data.toList[60]? = some 0x13 from (LBX7_stepr_3 12).trans (by decide +kernel)) (by decide)
theorem dX7_step_61 : decode cX7_step 61 = .ok (.iconst 2, 1) := dk_5_ (show cX7_step.data.toList[61]? = some 0x05 from (LBX7_stepr_3 13).trans (by decide +kernel))
theorem dX7_step_62 : decode cX7_step 62 = .ok (.if_icmp .ne 7, 3) := dk_160_ (show cX7_step.data.toList[62]? = some 0xa0 from (LBX7_stepr_3 14).trans (by decide +kernel)) (show cX7_step.data.toList[63]? = some 0x00 from (LBX7_stepr_3 15).trans (by decide +kernel)) (show cX7_step.data.toList[64]? = some 0x07 from (LBX7_stepr_4 0).trans (by decide +kernel)) (by decide)
theorem dX7_step_65 : decode cX7_step 65 = .ok (.iconst 1, 1) := dk_4_ (show cX7_step.data.toList[65]? = some 0x04 from (LBX7_stepr_4 1).trans (by decide +kernel))
theorem dX7_step_66 : decode cX7_step 66 = .ok (.goto 4, 3) := dk_167_ (show cX7_step.data.toList[66]? = some 0xa7 from (LBX7_stepr_4 2).trans (by decide +kernel)) (show cX7_step.data.toList[67]? = some 0x00 from (LBX7_stepr_4 3).trans (by decide +kernel)) (show cX7_step.data.toList[68]? = some 0x04 from (LBX7_stepr_4 4).trans (by decide +kernel)) (by decide)
theorem dX7_step_69 : decode cX7_step 69 = .ok (.iconst 0, 1) := dk_3_ (show cX7_step.data.toList[69]? = some 0x03 from (LBX7_stepr_4 5).trans (by decide +kernel))
theorem dX7_step_70 : decode cX7_step 70 = .ok (.istore_n 2, 1) := dk_61_ (show cX7_step.data.toList[70]? = some 0x3d from (LBX7_stepr_4 6).trans (by decide +kernel))
theorem dX7_step_71 : decode cX7_step 71 = .ok (.iload_n 1, 1) := dk_27_ (show cX7_step.data.toList[71]? = some 0x1b from (LBX7_stepr_4 7).trans (by decide +kernel))
theorem dX7_step_72 : decode cX7_step 72 = .ok (.aload_n 0, 1) := dk_42_ (show cX7_step.data.toList[72]? = some 0x2a from (LBX7_stepr_4 8).trans (by decide +kernel))
theorem dX7_step_73 : decode cX7_step 73 = .ok (.getfield 9, 3) := dk_180_ (show cX7_step.data.toList[73]? = some 0xb4 from (LBX7_stepr_4 9).trans (by decide +kernel)) (show cX7_step.data.toList[74]? = some 0x00 from (LBX7_stepr_4 10).trans (by decide +kernel)) (show cX7_step.data.toList[75]? = some 0x09 from (LBX7_stepr_4 11).trans (by decide +kernel)) (by decide)
theorem dX7_step_76 : decode cX7_step 76 = .ok (.if_icmp .ge 68, 3) := dk_162_ (show cX7_step.data.toList[76]? = some 0xa2 from (LBX7_stepr_4 12).trans (by decide +kernel)) (show cX7_step.data.toList[77]? = some 0x00 from (LBX7_stepr_4 13).trans (by decide +kernel)) (show cX7_step.data.toList[78]? = some 0x44 from (LBX7_stepr_4 14).trans (by decide +kernel)) (by decide)
theorem dX7_step_79 : decode cX7_step 79 = .ok (.aload_n 0, 1) := dk_42_ (show cX7_step.data.toList[79]? = some 0x2a from (LBX7_stepr_4 15).trans (by decide +kernel))
theorem dX7_step_80 : decode cX7_step 80 = .ok (.iload_n 1, 1) := dk_27_ (show cX7_step.data.toList[80]? = some 0x1b from (LBX7_stepr_5 0).trans (by decide +kernel))
theorem dX7_step_81 : decode cX7_step 81 = .ok (.invokevirtual 142, 3) := dk_182_ (show cX7_step.data.toList[81]? = some 0xb6 from (LBX7_stepr_5 1).trans (by decide +kernel)) (show cX7_step.data.toList[82]? = some 0x00 from (LBX7_stepr_5 2).trans (by decide +kernel)) (show cX7_step.data.toList[83]? = some 0x8e from (LBX7_stepr_5 3).trans (by decide +kernel)) (by decide)
theorem dX7_step_84 : decode cX7_step 84 = .ok (.aload_n 0, 1) := dk_42_ (show cX7_step.data.toList[84]? = some 0x2a from (LBX7_stepr_5 4).trans (by decide +kernel))
theorem dX7_step_85 : decode cX7_step 85 = .ok (.getfield 19, 3) := dk_180_ (show cX7_step.data.toList[85]? = some 0xb4 from (LBX7_stepr_5 5).trans (by decide +kernel)) (show cX7_step.data.toList[86]? = some 0x00 from (LBX7_stepr_5 6).trans (by decide +kernel)) (show cX7_step.data.toList[87]? = some 0x13 from (LBX7_stepr_5 7).trans (by decide +kernel)) (by decide)
theorem dX7_step_88 : decode cX7_step 88 = .ok (.if_icmp .ne 56, 3) := dk_160_ (show cX7_step.data.toList[88]? = some 0xa0 from (LBX7_stepr_5 8).trans (by decide +kernel)) (show cX7_step.data.toList[89]? = some 0x00 from (LBX7_stepr_5 9).trans (by decide +kernel)) (show cX7_step.data.toList[90]? = some 0x38 from (LBX7_stepr_5 10).trans (by decide +kernel)) (by decide)
theorem dX7_step_91 : decode cX7_step 91 = .ok (.iload_n 1, 1) := dk_27_ (show cX7_step.data.toList[91]? = some 0x1b from (LBX7_stepr_5 11).trans (by decide +kernel))
theorem dX7_step_92 : decode cX7_step 92 = .ok (.aload_n 0, 1) := dk_42_ (show cX7_step.data.toList[92]? = some 0x2a from (LBX7_stepr_5 12).trans (by decide +kernel))
theorem dX7_step_93 : decode cX7_step 93 = .ok (.getfield 22, 3) := dk_180_ (show cX7_step.data.toList[93]? = some 0xb4 from (LBX7_stepr_5 13).trans (by decide +kernel)) (show cX7_step.data.toList[94]? = some 0x00 from (LBX7_stepr_5 14).trans (by decide +kernel)) (show cX7_step.data.toList[95]? = some 0x16 from (LBX7_stepr_5 15).trans (by decide +kernel)) (by decide)
theorem dX7_step_96 : decode cX7_step 96 = .ok (.if_icmp .eq 7, 3) := dk_159_ (show cX7_step.data.toList[96]? = some 0x9f from (LBX7_stepr_6 0).trans (by decide +kernel)) (show cX7_step.data.toList[97]? = some 0x00 from (LBX7_stepr_6 1).trans (by decide +kernel)) (show cX7_step.data.toList[98]? = some 0x07 from (LBX7_stepr_6 2).trans (by decide +kernel)) (by decide)
theorem dX7_step_99 : decode cX7_step 99 = .ok (.iload_n 2, 1) := dk_28_ (show cX7_step.data.toList[99]? = some 0x1c from (LBX7_stepr_6 3).trans (by decide +kernel))
theorem dX7_step_100 : decode cX7_step 100 = .ok (.ifCond .eq 44, 3) := dk_153_ (show cX7_step.data.toList[100]? = some 0x99 from (LBX7_stepr_6 4).trans (by decide +kernel)) (show cX7_step.data.toList[101]? = some 0x00 from (LBX7_stepr_6 5).trans (by decide +kernel)) (show cX7_step.data.toList[102]? = some 0x2c from (LBX7_stepr_6 6).trans (by decide +kernel)) (by decide)
theorem dX7_step_103 : decode cX7_step 103 = .ok (.aload_n 0, 1) := dk_42_ (show cX7_step.data.toList[103]? = some 0x2a from (LBX7_stepr_6 7).trans (by decide +kernel))
theorem dX7_step_104 : decode cX7_step 104 = .ok (.getfield 19, 3) := dk_180_ (show cX7_step.data.toList[104]? = some 0xb4 from (LBX7_stepr_6 8).trans (by decide +kernel)) (show cX7_step.data.toList[105]? = some 0x00 from (LBX7_stepr_6 9).trans (by decide +kernel)) (show cX7_step.data.toList[106]? = some 0x13 from (LBX7_stepr_6 10).trans (by decide +kernel)) (by decide)
theorem dX7_step_107 : decode cX7_step 107 = .ok (.iconst 2, 1) := dk_5_ (show cX7_step.data.toList[107]? = some 0x05 from (LBX7_stepr_6 11).trans (by decide +kernel))
theorem dX7_step_108 : decode cX7_step 108 = .ok (.if_icmp .ne 30, 3) := dk_160_ (show cX7_step.data.toList[108]? = some 0xa0 from (LBX7_stepr_6 12).trans (by decide +kernel)) (show cX7_step.data.toList[109]? = some 0x00 from (LBX7_stepr_6 13).trans (by decide +kernel)) (show cX7_step.data.toList[110]? = some 0x1e from (LBX7_stepr_6 14).trans (by decide +kernel)) (by decide)
theorem dX7_step_111 : decode cX7_step 111 = .ok (.aload_n 0, 1) := dk_42_ (show cX7_step.data.toList[111]? = some 0x2a from (LBX7_stepr_6 15).trans (by decide +kernel))
theorem dX7_step_112 : decode cX7_step 112 = .ok (.bipush 10, 2) := dk_16_ (show cX7_step.data.toList[112]? = some 0x10 from (LBX7_stepr_7 0).trans (by decide +kernel)) (show cX7_step.data.toList[113]? = some 0x0a from (LBX7_stepr_7 1).trans (by decide +kernel)) (by decide)
theorem dX7_step_114 : decode cX7_step 114 = .ok (.aload_n 0, 1) := dk_42_ (show cX7_step.data.toList[114]? = some 0x2a from (LBX7_stepr_7 2).trans (by decide +kernel))
theorem dX7_step_115 : decode cX7_step 115 = .ok (.getfield 28, 3) := dk_180_ (show cX7_step.data.toList[115]? = some 0xb4 from (LBX7_stepr_7 3).trans (by decide +kernel)) (show cX7_step.data.toList[116]? = some 0x00 from (LBX7_stepr_7 4).trans (by decide +kernel)) (show cX7_step.data.toList[117]? = some 0x1c from (LBX7_stepr_7 5).trans (by decide +kernel)) (by decide)
theorem dX7_step_118 : decode cX7_step 118 = .ok (.imul, 1) := dk_104_ (show cX7_step.data.toList[118]? = some 0x68 from (LBX7_stepr_7 6).trans (by decide +kernel))
theorem dX7_step_119 : decode cX7_step 119 = .ok (.aload_n 0, 1) := dk_42_ (show cX7_step.data.toList[119]? = some 0x2a from (LBX7_stepr_7 7).trans (by decide +kernel))
theorem dX7_step_120 : decode cX7_step 120 = .ok (.getfield 15, 3) := dk_180_ (show cX7_step.data.toList[120]? = some 0xb4 from (LBX7_stepr_7 8).trans (by decide +kernel)) (show cX7_step.data.toList[121]? = some 0x00 from (LBX7_stepr_7 9).trans (by decide +kernel)) (show cX7_step.data.toList[122]? = some 0x0f from (LBX7_stepr_7 10).trans (by decide +kernel)) (by decide)
theorem dX7_step_123 : decode cX7_step 123 = .ok (.iload_n 1, 1) := dk_27_ (show cX7_step.data.toList[123]? = some 0x1b from (LBX7_stepr_7 11).trans (by decide +kernel))
theorem dX7_step_124 : decode cX7_step 124 = .ok (.iaload, 1) := dk_46_ (show cX7_step.data.toList[124]? = some 0x2e from (LBX7_stepr_7 12).trans (by decide +kernel))
theorem dX7_step_125 : decode cX7_step 125 = .ok (.iadd, 1) := dk_96_ (show cX7_step.data.toList[125]? = some 0x60 from (LBX7_stepr_7 13).trans (by decide +kernel))
theorem dX7_step_126 : decode cX7_step 126 = .ok (.bipush 48, 2) := dk_16_ (show cX7_step.data.toList[126]? = some 0x10 from (LBX7_stepr_7 14).trans (by decide +kernel)) (show cX7_step.data.toList[127]? = some 0x30 from (LBX7_stepr_7 15).trans (by decide +kernel)) (by decide)
theorem dX7_step_128 : decode cX7_step 128 = .ok (.isub, 1) := dk_100_ (show cX7_step.data.toList[128]? = some 0x64 from (LBX7_stepr_8 0).trans (by decide +kernel))
theorem dX7_step_129 : decode cX7_step 129 = .ok (.sipush 10000, 3) := dk_17_ (show cX7_step.data.toList[129]? = some 0x11 from (LBX7_stepr_8 1).trans (by decide +kernel)) (show cX7_step.data.toList[130]? = some 0x27 from (LBX7_stepr_8 2).trans (by decide +kernel)) (show cX7_step.data.toList[131]? = some 0x10 from (LBX7_stepr_8 3).trans (by decide +kernel)) (by decide)
theorem dX7_step_132 : decode cX7_step 132 = .ok (.invokestatic 145, 3) := dk_184_ (show cX7_step.data.toList[132]? = some 0xb8 from (LBX7_stepr_8 4).trans (by decide +kernel)) (show cX7_step.data.toList[133]? = some 0x00 from (LBX7_stepr_8 5).trans (by decide +kernel)) (show cX7_step.data.toList[134]? = some 0x91 from (LBX7_stepr_8 6).trans (by decide +kernel)) (by decide)
theorem dX7_step_135 : decode cX7_step 135 = .ok (.putfield 28, 3) := dk_181_ (show cX7_step.data.toList[135]? = some 0xb5 from (LBX7_stepr_8 7).trans (by decide +kernel)) (show cX7_step.data.toList[136]? = some 0x00 from (LBX7_stepr_8 8).trans (by decide +kernel)) (show cX7_step.data.toList[137]? = some 0x1c from (LBX7_stepr_8 9).trans (by decide +kernel)) (by decide)
theorem dX7_step_138 : decode cX7_step 138 = .ok (.iinc 1 1, 3) := dk_132_ (show cX7_step.data.toList[138]? = some 0x84 from (LBX7_stepr_8 10).trans (by decide +kernel)) (show cX7_step.data.toList[139]? = some 0x01 from (LBX7_stepr_8 11).trans (by decide +kernel)) (show cX7_step.data.toList[140]? = some 0x01 from (LBX7_stepr_8 12).trans (by decide +kernel)) (by decide) (by decide)
theorem dX7_step_141 : decode cX7_step 141 = .ok (.goto (-70), 3) := dk_167_ (show cX7_step.data.toList[141]? = some 0xa7 from (LBX7_stepr_8 13).trans (by decide +kernel)) (show cX7_step.data.toList[142]? = some 0xff from (LBX7_stepr_8 14).trans (by decide +kernel)) (show cX7_step.data.toList[143]? = some 0xba from (LBX7_stepr_8 15).trans (by decide +kernel)) (by decide)
theorem dX7_step_144 : decode cX7_step 144 = .ok (.aload_n 0, 1) := dk_42_ (show cX7_step.data.toList[144]? = some 0x2a from (LBX7_stepr_9 0).trans (by decide +kernel))
theorem dX7_step_145 : decode cX7_step 145 = .ok (.iload_n 1, 1) := dk_27_ (show cX7_step.data.toList[145]? = some 0x1b from (LBX7_stepr_9 1).trans (by decide +kernel))
theorem dX7_step_146 : decode cX7_step 146 = .ok (.putfield 25, 3) := dk_181_ (show cX7_step.data.toList[146]? = some 0xb5 from (LBX7_stepr_9 2).trans (by decide +kernel)) (show cX7_step.data.toList[147]? = some 0x00 from (LBX7_stepr_9 3).trans (by decide +kernel)) (show cX7_step.data.toList[148]? = some 0x19 from (LBX7_stepr_9 4).trans (by decide +kernel)) (by decide)
theorem dX7_step_149 : decode cX7_step 149 = .ok (.return_, 1) := dk_177_ (show cX7_step.data.toList[149]? = some 0xb1 from (LBX7_stepr_9 5).trans (by decide +kernel))
def LRX7_isWord_5 : List UInt8 := []
def LBX7_isWord_4 : List UInt8 := [0xac]
def LRX7_isWord_4 : List UInt8 := LBX7_isWord_4 ++ LRX7_isWord_5
def LBX7_isWord_3 : List UInt8 := [0x1c, 0xb6, 0x00, 0x8a, 0x9f, 0x00, 0x05, 0x03, 0xac, 0x84, 0x02, 0x01, 0xa7, 0xff, 0xe0, 0x04]
def LRX7_isWord_3 : List UInt8 := LBX7_isWord_3 ++ LRX7_isWord_4
def LBX7_isWord_2 : List UInt8 := [0x84, 0xa2, 0x00, 0x1e, 0x2a, 0xb4, 0x00, 0x0f, 0x2a, 0xb4, 0x00, 0x16, 0x1c, 0x60, 0x2e, 0x2b]
def LRX7_isWord_2 : List UInt8 := LBX7_isWord_2 ++ LRX7_isWord_3
def LBX7_isWord_1 : List UInt8 := [0x64, 0x2b, 0xb6, 0x00, 0x84, 0x9f, 0x00, 0x05, 0x03, 0xac, 0x03, 0x3d, 0x1c, 0x2b, 0xb6, 0x00]
def LRX7_isWord_1 : List UInt8 := LBX7_isWord_1 ++ LRX7_isWord_2
def LBX7_isWord_0 : List UInt8 := [0x2a, 0xb4, 0x00, 0x13, 0x04, 0xa0, 0x00, 0x13, 0x2a, 0xb4, 0x00, 0x19, 0x2a, 0xb4, 0x00, 0x16]
def LRX7_isWord_0 : List UInt8 := LBX7_isWord_0 ++ LRX7_isWord_1
set_option maxRecDepth 100000 in
theorem LBX7_isWord_eq : cX7_isWord.data.toList = LRX7_isWord_0 := by decide +kernel
theorem LBX7_isWordr_0 (k : Nat) : cX7_isWord.data.toList[0 + k]? = LRX7_isWord_0[k]? := by rw [LBX7_isWord_eq, Nat.zero_add]
theorem LBX7_isWordr_1 (k : Nat) : cX7_isWord.data.toList[16 + k]? = LRX7_isWord_1[k]? := by
  have h := LBX7_isWordr_0 (16 + k)
  rw [show 0 + (16 + k) = 16 + k by omega] at h
  rw [h]
  exact (List.getElem?_append_right (l₁ := LBX7_isWord_0) (l₂ := LRX7_isWord_1) (show 16 ≤ 16 + k by omega)).trans (congrArg (fun i => LRX7_isWord_1[i]?) (show 16 + k - 16 = k by omega))
theorem LBX7_isWordr_2 (k : Nat) : cX7_isWord.data.toList[32 + k]? = LRX7_isWord_2[k]? := by
  have h := LBX7_isWordr_1 (16 + k)
  rw [show 16 + (16 + k) = 32 + k by omega] at h
  rw [h]
  exact (List.getElem?_append_right (l₁ := LBX7_isWord_1) (l₂ := LRX7_isWord_2) (show 16 ≤ 16 + k by omega)).trans (congrArg (fun i => LRX7_isWord_2[i]?) (show 16 + k - 16 = k by omega))
theorem LBX7_isWordr_3 (k : Nat) : cX7_isWord.data.toList[48 + k]? = LRX7_isWord_3[k]? := by
  have h := LBX7_isWordr_2 (16 + k)
  rw [show 32 + (16 + k) = 48 + k by omega] at h
  rw [h]
  exact (List.getElem?_append_right (l₁ := LBX7_isWord_2) (l₂ := LRX7_isWord_3) (show 16 ≤ 16 + k by omega)).trans (congrArg (fun i => LRX7_isWord_3[i]?) (show 16 + k - 16 = k by omega))
theorem LBX7_isWordr_4 (k : Nat) : cX7_isWord.data.toList[64 + k]? = LRX7_isWord_4[k]? := by
  have h := LBX7_isWordr_3 (16 + k)
  rw [show 48 + (16 + k) = 64 + k by omega] at h
  rw [h]
  exact (List.getElem?_append_right (l₁ := LBX7_isWord_3) (l₂ := LRX7_isWord_4) (show 16 ≤ 16 + k by omega)).trans (congrArg (fun i => LRX7_isWord_4[i]?) (show 16 + k - 16 = k by omega))
theorem dX7_isWord_0 : decode cX7_isWord 0 = .ok (.aload_n 0, 1) := dk_42_ (show cX7_isWord.data.toList[0]? = some 0x2a from (LBX7_isWordr_0 0).trans (by decide +kernel))
theorem dX7_isWord_1 : decode cX7_isWord 1 = .ok (.getfield 19, 3) := dk_180_ (show cX7_isWord.data.toList[1]? = some 0xb4 from (LBX7_isWordr_0 1).trans (by decide +kernel)) (show cX7_isWord.data.toList[2]? = some 0x00 from (LBX7_isWordr_0 2).trans (by decide +kernel)) (show cX7_isWord.data.toList[3]? = some 0x13 from (LBX7_isWordr_0 3).trans (by decide +kernel)) (by decide)
theorem dX7_isWord_4 : decode cX7_isWord 4 = .ok (.iconst 1, 1) := dk_4_ (show cX7_isWord.data.toList[4]? = some 0x04 from (LBX7_isWordr_0 4).trans (by decide +kernel))
theorem dX7_isWord_5 : decode cX7_isWord 5 = .ok (.if_icmp .ne 19, 3) := dk_160_ (show cX7_isWord.data.toList[5]? = some 0xa0 from (LBX7_isWordr_0 5).trans (by decide +kernel)) (show cX7_isWord.data.toList[6]? = some 0x00 from (LBX7_isWordr_0 6).trans (by decide +kernel)) (show cX7_isWord.data.toList[7]? = some 0x13 from (LBX7_isWordr_0 7).trans (by decide +kernel)) (by decide)
theorem dX7_isWord_8 : decode cX7_isWord 8 = .ok (.aload_n 0, 1) := dk_42_ (show cX7_isWord.data.toList[8]? = some 0x2a from (LBX7_isWordr_0 8).trans (by decide +kernel))
theorem dX7_isWord_9 : decode cX7_isWord 9 = .ok (.getfield 25, 3) := dk_180_ (show cX7_isWord.data.toList[9]? = some 0xb4 from (LBX7_isWordr_0 9).trans (by decide +kernel)) (show cX7_isWord.data.toList[10]? = some 0x00 from (LBX7_isWordr_0 10).trans (by decide +kernel)) (show cX7_isWord.data.toList[11]? = some 0x19 from (LBX7_isWordr_0 11).trans (by decide +kernel)) (by decide)
theorem dX7_isWord_12 : decode cX7_isWord 12 = .ok (.aload_n 0, 1) := dk_42_ (show cX7_isWord.data.toList[12]? = some 0x2a from (LBX7_isWordr_0 12).trans (by decide +kernel))
theorem dX7_isWord_13 : decode cX7_isWord 13 = .ok (.getfield 22, 3) := dk_180_ (show cX7_isWord.data.toList[13]? = some 0xb4 from (LBX7_isWordr_0 13).trans (by decide +kernel)) (show cX7_isWord.data.toList[14]? = some 0x00 from (LBX7_isWordr_0 14).trans (by decide +kernel)) (show cX7_isWord.data.toList[15]? = some 0x16 from (LBX7_isWordr_0 15).trans (by decide +kernel)) (by decide)
theorem dX7_isWord_16 : decode cX7_isWord 16 = .ok (.isub, 1) := dk_100_ (show cX7_isWord.data.toList[16]? = some 0x64 from (LBX7_isWordr_1 0).trans (by decide +kernel))
theorem dX7_isWord_17 : decode cX7_isWord 17 = .ok (.aload_n 1, 1) := dk_43_ (show cX7_isWord.data.toList[17]? = some 0x2b from (LBX7_isWordr_1 1).trans (by decide +kernel))
theorem dX7_isWord_18 : decode cX7_isWord 18 = .ok (.invokevirtual 132, 3) := dk_182_ (show cX7_isWord.data.toList[18]? = some 0xb6 from (LBX7_isWordr_1 2).trans (by decide +kernel)) (show cX7_isWord.data.toList[19]? = some 0x00 from (LBX7_isWordr_1 3).trans (by decide +kernel)) (show cX7_isWord.data.toList[20]? = some 0x84 from (LBX7_isWordr_1 4).trans (by decide +kernel)) (by decide)
theorem dX7_isWord_21 : decode cX7_isWord 21 = .ok (.if_icmp .eq 5, 3) := dk_159_ (show cX7_isWord.data.toList[21]? = some 0x9f from (LBX7_isWordr_1 5).trans (by decide +kernel)) (show cX7_isWord.data.toList[22]? = some 0x00 from (LBX7_isWordr_1 6).trans (by decide +kernel)) (show cX7_isWord.data.toList[23]? = some 0x05 from (LBX7_isWordr_1 7).trans (by decide +kernel)) (by decide)
theorem dX7_isWord_24 : decode cX7_isWord 24 = .ok (.iconst 0, 1) := dk_3_ (show cX7_isWord.data.toList[24]? = some 0x03 from (LBX7_isWordr_1 8).trans (by decide +kernel))
theorem dX7_isWord_25 : decode cX7_isWord 25 = .ok (.ireturn, 1) := dk_172_ (show cX7_isWord.data.toList[25]? = some 0xac from (LBX7_isWordr_1 9).trans (by decide +kernel))
theorem dX7_isWord_26 : decode cX7_isWord 26 = .ok (.iconst 0, 1) := dk_3_ (show cX7_isWord.data.toList[26]? = some 0x03 from (LBX7_isWordr_1 10).trans (by decide +kernel))
theorem dX7_isWord_27 : decode cX7_isWord 27 = .ok (.istore_n 2, 1) := dk_61_ (show cX7_isWord.data.toList[27]? = some 0x3d from (LBX7_isWordr_1 11).trans (by decide +kernel))
theorem dX7_isWord_28 : decode cX7_isWord 28 = .ok (.iload_n 2, 1) := dk_28_ (show cX7_isWord.data.toList[28]? = some 0x1c from (LBX7_isWordr_1 12).trans (by decide +kernel))
theorem dX7_isWord_29 : decode cX7_isWord 29 = .ok (.aload_n 1, 1) := dk_43_ (show cX7_isWord.data.toList[29]? = some 0x2b from (LBX7_isWordr_1 13).trans (by decide +kernel))
theorem dX7_isWord_30 : decode cX7_isWord 30 = .ok (.invokevirtual 132, 3) := dk_182_ (show cX7_isWord.data.toList[30]? = some 0xb6 from (LBX7_isWordr_1 14).trans (by decide +kernel)) (show cX7_isWord.data.toList[31]? = some 0x00 from (LBX7_isWordr_1 15).trans (by decide +kernel)) (show cX7_isWord.data.toList[32]? = some 0x84 from (LBX7_isWordr_2 0).trans (by decide +kernel)) (by decide)
theorem dX7_isWord_33 : decode cX7_isWord 33 = .ok (.if_icmp .ge 30, 3) := dk_162_ (show cX7_isWord.data.toList[33]? = some 0xa2 from (LBX7_isWordr_2 1).trans (by decide +kernel)) (show cX7_isWord.data.toList[34]? = some 0x00 from (LBX7_isWordr_2 2).trans (by decide +kernel)) (show cX7_isWord.data.toList[35]? = some 0x1e from (LBX7_isWordr_2 3).trans (by decide +kernel)) (by decide)
theorem dX7_isWord_36 : decode cX7_isWord 36 = .ok (.aload_n 0, 1) := dk_42_ (show cX7_isWord.data.toList[36]? = some 0x2a from (LBX7_isWordr_2 4).trans (by decide +kernel))
theorem dX7_isWord_37 : decode cX7_isWord 37 = .ok (.getfield 15, 3) := dk_180_ (show cX7_isWord.data.toList[37]? = some 0xb4 from (LBX7_isWordr_2 5).trans (by decide +kernel)) (show cX7_isWord.data.toList[38]? = some 0x00 from (LBX7_isWordr_2 6).trans (by decide +kernel)) (show cX7_isWord.data.toList[39]? = some 0x0f from (LBX7_isWordr_2 7).trans (by decide +kernel)) (by decide)
theorem dX7_isWord_40 : decode cX7_isWord 40 = .ok (.aload_n 0, 1) := dk_42_ (show cX7_isWord.data.toList[40]? = some 0x2a from (LBX7_isWordr_2 8).trans (by decide +kernel))
theorem dX7_isWord_41 : decode cX7_isWord 41 = .ok (.getfield 22, 3) := dk_180_ (show cX7_isWord.data.toList[41]? = some 0xb4 from (LBX7_isWordr_2 9).trans (by decide +kernel)) (show cX7_isWord.data.toList[42]? = some 0x00 from (LBX7_isWordr_2 10).trans (by decide +kernel)) (show cX7_isWord.data.toList[43]? = some 0x16 from (LBX7_isWordr_2 11).trans (by decide +kernel)) (by decide)
theorem dX7_isWord_44 : decode cX7_isWord 44 = .ok (.iload_n 2, 1) := dk_28_ (show cX7_isWord.data.toList[44]? = some 0x1c from (LBX7_isWordr_2 12).trans (by decide +kernel))
theorem dX7_isWord_45 : decode cX7_isWord 45 = .ok (.iadd, 1) := dk_96_ (show cX7_isWord.data.toList[45]? = some 0x60 from (LBX7_isWordr_2 13).trans (by decide +kernel))
theorem dX7_isWord_46 : decode cX7_isWord 46 = .ok (.iaload, 1) := dk_46_ (show cX7_isWord.data.toList[46]? = some 0x2e from (LBX7_isWordr_2 14).trans (by decide +kernel))
theorem dX7_isWord_47 : decode cX7_isWord 47 = .ok (.aload_n 1, 1) := dk_43_ (show cX7_isWord.data.toList[47]? = some 0x2b from (LBX7_isWordr_2 15).trans (by decide +kernel))
theorem dX7_isWord_48 : decode cX7_isWord 48 = .ok (.iload_n 2, 1) := dk_28_ (show cX7_isWord.data.toList[48]? = some 0x1c from (LBX7_isWordr_3 0).trans (by decide +kernel))
theorem dX7_isWord_49 : decode cX7_isWord 49 = .ok (.invokevirtual 138, 3) := dk_182_ (show cX7_isWord.data.toList[49]? = some 0xb6 from (LBX7_isWordr_3 1).trans (by decide +kernel)) (show cX7_isWord.data.toList[50]? = some 0x00 from (LBX7_isWordr_3 2).trans (by decide +kernel)) (show cX7_isWord.data.toList[51]? = some 0x8a from (LBX7_isWordr_3 3).trans (by decide +kernel)) (by decide)
theorem dX7_isWord_52 : decode cX7_isWord 52 = .ok (.if_icmp .eq 5, 3) := dk_159_ (show cX7_isWord.data.toList[52]? = some 0x9f from (LBX7_isWordr_3 4).trans (by decide +kernel)) (show cX7_isWord.data.toList[53]? = some 0x00 from (LBX7_isWordr_3 5).trans (by decide +kernel)) (show cX7_isWord.data.toList[54]? = some 0x05 from (LBX7_isWordr_3 6).trans (by decide +kernel)) (by decide)
theorem dX7_isWord_55 : decode cX7_isWord 55 = .ok (.iconst 0, 1) := dk_3_ (show cX7_isWord.data.toList[55]? = some 0x03 from (LBX7_isWordr_3 7).trans (by decide +kernel))
theorem dX7_isWord_56 : decode cX7_isWord 56 = .ok (.ireturn, 1) := dk_172_ (show cX7_isWord.data.toList[56]? = some 0xac from (LBX7_isWordr_3 8).trans (by decide +kernel))
theorem dX7_isWord_57 : decode cX7_isWord 57 = .ok (.iinc 2 1, 3) := dk_132_ (show cX7_isWord.data.toList[57]? = some 0x84 from (LBX7_isWordr_3 9).trans (by decide +kernel)) (show cX7_isWord.data.toList[58]? = some 0x02 from (LBX7_isWordr_3 10).trans (by decide +kernel)) (show cX7_isWord.data.toList[59]? = some 0x01 from (LBX7_isWordr_3 11).trans (by decide +kernel)) (by decide) (by decide)
theorem dX7_isWord_60 : decode cX7_isWord 60 = .ok (.goto (-32), 3) := dk_167_ (show cX7_isWord.data.toList[60]? = some 0xa7 from (LBX7_isWordr_3 12).trans (by decide +kernel)) (show cX7_isWord.data.toList[61]? = some 0xff from (LBX7_isWordr_3 13).trans (by decide +kernel)) (show cX7_isWord.data.toList[62]? = some 0xe0 from (LBX7_isWordr_3 14).trans (by decide +kernel)) (by decide)
theorem dX7_isWord_63 : decode cX7_isWord 63 = .ok (.iconst 1, 1) := dk_4_ (show cX7_isWord.data.toList[63]? = some 0x04 from (LBX7_isWordr_3 15).trans (by decide +kernel))
theorem dX7_isWord_64 : decode cX7_isWord 64 = .ok (.ireturn, 1) := dk_172_ (show cX7_isWord.data.toList[64]? = some 0xac from (LBX7_isWordr_4 0).trans (by decide +kernel))
theorem dX7_takeWord_0 : decode cX7_takeWord 0 = .ok (.aload_n 0, 1) := dk_42_ (show cX7_takeWord.data.toList[0]? = some 0x2a from by decide +kernel)
theorem dX7_takeWord_1 : decode cX7_takeWord 1 = .ok (.aload_n 1, 1) := dk_43_ (show cX7_takeWord.data.toList[1]? = some 0x2b from by decide +kernel)
theorem dX7_takeWord_2 : decode cX7_takeWord 2 = .ok (.invokevirtual 43, 3) := dk_182_ (show cX7_takeWord.data.toList[2]? = some 0xb6 from by decide +kernel) (show cX7_takeWord.data.toList[3]? = some 0x00 from by decide +kernel) (show cX7_takeWord.data.toList[4]? = some 0x2b from by decide +kernel) (by decide)
theorem dX7_takeWord_5 : decode cX7_takeWord 5 = .ok (.ifCond .ne 5, 3) := dk_154_ (show cX7_takeWord.data.toList[5]? = some 0x9a from by decide +kernel) (show cX7_takeWord.data.toList[6]? = some 0x00 from by decide +kernel) (show cX7_takeWord.data.toList[7]? = some 0x05 from by decide +kernel) (by decide)
theorem dX7_takeWord_8 : decode cX7_takeWord 8 = .ok (.iconst 0, 1) := dk_3_ (show cX7_takeWord.data.toList[8]? = some 0x03 from by decide +kernel)
theorem dX7_takeWord_9 : decode cX7_takeWord 9 = .ok (.ireturn, 1) := dk_172_ (show cX7_takeWord.data.toList[9]? = some 0xac from by decide +kernel)
theorem dX7_takeWord_10 : decode cX7_takeWord 10 = .ok (.aload_n 0, 1) := dk_42_ (show cX7_takeWord.data.toList[10]? = some 0x2a from by decide +kernel)
theorem dX7_takeWord_11 : decode cX7_takeWord 11 = .ok (.invokevirtual 34, 3) := dk_182_ (show cX7_takeWord.data.toList[11]? = some 0xb6 from by decide +kernel) (show cX7_takeWord.data.toList[12]? = some 0x00 from by decide +kernel) (show cX7_takeWord.data.toList[13]? = some 0x22 from by decide +kernel) (by decide)
theorem dX7_takeWord_14 : decode cX7_takeWord 14 = .ok (.iconst 1, 1) := dk_4_ (show cX7_takeWord.data.toList[14]? = some 0x04 from by decide +kernel)
theorem dX7_takeWord_15 : decode cX7_takeWord 15 = .ok (.ireturn, 1) := dk_172_ (show cX7_takeWord.data.toList[15]? = some 0xac from by decide +kernel)
def LRX7_takeNumber_2 : List UInt8 := []
def LBX7_takeNumber_1 : List UInt8 := [0x03, 0xac, 0x2a, 0x2a, 0xb4, 0x00, 0x1c, 0xb5, 0x00, 0x1f, 0x2a, 0xb6, 0x00, 0x22, 0x04, 0xac]
def LRX7_takeNumber_1 : List UInt8 := LBX7_takeNumber_1 ++ LRX7_takeNumber_2
def LBX7_takeNumber_0 : List UInt8 := [0x2a, 0xb4, 0x00, 0x13, 0x05, 0xa0, 0x00, 0x0b, 0x2a, 0xb4, 0x00, 0x1c, 0x1b, 0xa4, 0x00, 0x05]
def LRX7_takeNumber_0 : List UInt8 := LBX7_takeNumber_0 ++ LRX7_takeNumber_1
set_option maxRecDepth 100000 in
theorem LBX7_takeNumber_eq : cX7_takeNumber.data.toList = LRX7_takeNumber_0 := by decide +kernel
theorem LBX7_takeNumberr_0 (k : Nat) : cX7_takeNumber.data.toList[0 + k]? = LRX7_takeNumber_0[k]? := by rw [LBX7_takeNumber_eq, Nat.zero_add]
theorem LBX7_takeNumberr_1 (k : Nat) : cX7_takeNumber.data.toList[16 + k]? = LRX7_takeNumber_1[k]? := by
  have h := LBX7_takeNumberr_0 (16 + k)
  rw [show 0 + (16 + k) = 16 + k by omega] at h
  rw [h]
  exact (List.getElem?_append_right (l₁ := LBX7_takeNumber_0) (l₂ := LRX7_takeNumber_1) (show 16 ≤ 16 + k by omega)).trans (congrArg (fun i => LRX7_takeNumber_1[i]?) (show 16 + k - 16 = k by omega))
theorem dX7_takeNumber_0 : decode cX7_takeNumber 0 = .ok (.aload_n 0, 1) := dk_42_ (show cX7_takeNumber.data.toList[0]? = some 0x2a from (LBX7_takeNumberr_0 0).trans (by decide +kernel))
theorem dX7_takeNumber_1 : decode cX7_takeNumber 1 = .ok (.getfield 19, 3) := dk_180_ (show cX7_takeNumber.data.toList[1]? = some 0xb4 from (LBX7_takeNumberr_0 1).trans (by decide +kernel)) (show cX7_takeNumber.data.toList[2]? = some 0x00 from (LBX7_takeNumberr_0 2).trans (by decide +kernel)) (show cX7_takeNumber.data.toList[3]? = some 0x13 from (LBX7_takeNumberr_0 3).trans (by decide +kernel)) (by decide)
theorem dX7_takeNumber_4 : decode cX7_takeNumber 4 = .ok (.iconst 2, 1) := dk_5_ (show cX7_takeNumber.data.toList[4]? = some 0x05 from (LBX7_takeNumberr_0 4).trans (by decide +kernel))
theorem dX7_takeNumber_5 : decode cX7_takeNumber 5 = .ok (.if_icmp .ne 11, 3) := dk_160_ (show cX7_takeNumber.data.toList[5]? = some 0xa0 from (LBX7_takeNumberr_0 5).trans (by decide +kernel)) (show cX7_takeNumber.data.toList[6]? = some 0x00 from (LBX7_takeNumberr_0 6).trans (by decide +kernel)) (show cX7_takeNumber.data.toList[7]? = some 0x0b from (LBX7_takeNumberr_0 7).trans (by decide +kernel)) (by decide)
theorem dX7_takeNumber_8 : decode cX7_takeNumber 8 = .ok (.aload_n 0, 1) := dk_42_ (show cX7_takeNumber.data.toList[8]? = some 0x2a from (LBX7_takeNumberr_0 8).trans (by decide +kernel))
theorem dX7_takeNumber_9 : decode cX7_takeNumber 9 = .ok (.getfield 28, 3) := dk_180_ (show cX7_takeNumber.data.toList[9]? = some 0xb4 from (LBX7_takeNumberr_0 9).trans (by decide +kernel)) (show cX7_takeNumber.data.toList[10]? = some 0x00 from (LBX7_takeNumberr_0 10).trans (by decide +kernel)) (show cX7_takeNumber.data.toList[11]? = some 0x1c from (LBX7_takeNumberr_0 11).trans (by decide +kernel)) (by decide)
theorem dX7_takeNumber_12 : decode cX7_takeNumber 12 = .ok (.iload_n 1, 1) := dk_27_ (show cX7_takeNumber.data.toList[12]? = some 0x1b from (LBX7_takeNumberr_0 12).trans (by decide +kernel))
theorem dX7_takeNumber_13 : decode cX7_takeNumber 13 = .ok (.if_icmp .le 5, 3) := dk_164_ (show cX7_takeNumber.data.toList[13]? = some 0xa4 from (LBX7_takeNumberr_0 13).trans (by decide +kernel)) (show cX7_takeNumber.data.toList[14]? = some 0x00 from (LBX7_takeNumberr_0 14).trans (by decide +kernel)) (show cX7_takeNumber.data.toList[15]? = some 0x05 from (LBX7_takeNumberr_0 15).trans (by decide +kernel)) (by decide)
theorem dX7_takeNumber_16 : decode cX7_takeNumber 16 = .ok (.iconst 0, 1) := dk_3_ (show cX7_takeNumber.data.toList[16]? = some 0x03 from (LBX7_takeNumberr_1 0).trans (by decide +kernel))
theorem dX7_takeNumber_17 : decode cX7_takeNumber 17 = .ok (.ireturn, 1) := dk_172_ (show cX7_takeNumber.data.toList[17]? = some 0xac from (LBX7_takeNumberr_1 1).trans (by decide +kernel))
theorem dX7_takeNumber_18 : decode cX7_takeNumber 18 = .ok (.aload_n 0, 1) := dk_42_ (show cX7_takeNumber.data.toList[18]? = some 0x2a from (LBX7_takeNumberr_1 2).trans (by decide +kernel))
theorem dX7_takeNumber_19 : decode cX7_takeNumber 19 = .ok (.aload_n 0, 1) := dk_42_ (show cX7_takeNumber.data.toList[19]? = some 0x2a from (LBX7_takeNumberr_1 3).trans (by decide +kernel))
theorem dX7_takeNumber_20 : decode cX7_takeNumber 20 = .ok (.getfield 28, 3) := dk_180_ (show cX7_takeNumber.data.toList[20]? = some 0xb4 from (LBX7_takeNumberr_1 4).trans (by decide +kernel)) (show cX7_takeNumber.data.toList[21]? = some 0x00 from (LBX7_takeNumberr_1 5).trans (by decide +kernel)) (show cX7_takeNumber.data.toList[22]? = some 0x1c from (LBX7_takeNumberr_1 6).trans (by decide +kernel)) (by decide)
theorem dX7_takeNumber_23 : decode cX7_takeNumber 23 = .ok (.putfield 31, 3) := dk_181_ (show cX7_takeNumber.data.toList[23]? = some 0xb5 from (LBX7_takeNumberr_1 7).trans (by decide +kernel)) (show cX7_takeNumber.data.toList[24]? = some 0x00 from (LBX7_takeNumberr_1 8).trans (by decide +kernel)) (show cX7_takeNumber.data.toList[25]? = some 0x1f from (LBX7_takeNumberr_1 9).trans (by decide +kernel)) (by decide)
theorem dX7_takeNumber_26 : decode cX7_takeNumber 26 = .ok (.aload_n 0, 1) := dk_42_ (show cX7_takeNumber.data.toList[26]? = some 0x2a from (LBX7_takeNumberr_1 10).trans (by decide +kernel))
theorem dX7_takeNumber_27 : decode cX7_takeNumber 27 = .ok (.invokevirtual 34, 3) := dk_182_ (show cX7_takeNumber.data.toList[27]? = some 0xb6 from (LBX7_takeNumberr_1 11).trans (by decide +kernel)) (show cX7_takeNumber.data.toList[28]? = some 0x00 from (LBX7_takeNumberr_1 12).trans (by decide +kernel)) (show cX7_takeNumber.data.toList[29]? = some 0x22 from (LBX7_takeNumberr_1 13).trans (by decide +kernel)) (by decide)
theorem dX7_takeNumber_30 : decode cX7_takeNumber 30 = .ok (.iconst 1, 1) := dk_4_ (show cX7_takeNumber.data.toList[30]? = some 0x04 from (LBX7_takeNumberr_1 14).trans (by decide +kernel))
theorem dX7_takeNumber_31 : decode cX7_takeNumber 31 = .ok (.ireturn, 1) := dk_172_ (show cX7_takeNumber.data.toList[31]? = some 0xac from (LBX7_takeNumberr_1 15).trans (by decide +kernel))
def LRX7_takeMile_5 : List UInt8 := []
def LBX7_takeMile_4 : List UInt8 := [0x04, 0xb5, 0x00, 0x1f, 0x2a, 0xb6, 0x00, 0x22, 0x04, 0xac]
def LRX7_takeMile_4 : List UInt8 := LBX7_takeMile_4 ++ LRX7_takeMile_5
def LBX7_takeMile_3 : List UInt8 := [0x15, 0x04, 0x1b, 0xa1, 0x00, 0x09, 0x15, 0x04, 0x1c, 0xa4, 0x00, 0x05, 0x03, 0xac, 0x2a, 0x15]
def LRX7_takeMile_3 : List UInt8 := LBX7_takeMile_3 ++ LRX7_takeMile_4
def LBX7_takeMile_2 : List UInt8 := [0x00, 0x07, 0x2a, 0xb4, 0x00, 0x1c, 0x36, 0x04, 0x2a, 0xb4, 0x00, 0x13, 0x05, 0xa0, 0x00, 0x0f]
def LRX7_takeMile_2 : List UInt8 := LBX7_takeMile_2 ++ LRX7_takeMile_3
def LBX7_takeMile_1 : List UInt8 := [0x00, 0x07, 0x2a, 0xb6, 0x00, 0x22, 0x1d, 0x99, 0x00, 0x0b, 0x2a, 0xb4, 0x00, 0x1c, 0x74, 0xa7]
def LRX7_takeMile_1 : List UInt8 := LBX7_takeMile_1 ++ LRX7_takeMile_2
def LBX7_takeMile_0 : List UInt8 := [0x2a, 0xb4, 0x00, 0x13, 0x07, 0xa0, 0x00, 0x07, 0x04, 0xa7, 0x00, 0x04, 0x03, 0x3e, 0x1d, 0x99]
def LRX7_takeMile_0 : List UInt8 := LBX7_takeMile_0 ++ LRX7_takeMile_1
set_option maxRecDepth 100000 in
theorem LBX7_takeMile_eq : cX7_takeMile.data.toList = LRX7_takeMile_0 := by decide +kernel
theorem LBX7_takeMiler_0 (k : Nat) : cX7_takeMile.data.toList[0 + k]? = LRX7_takeMile_0[k]? := by rw [LBX7_takeMile_eq, Nat.zero_add]
theorem LBX7_takeMiler_1 (k : Nat) : cX7_takeMile.data.toList[16 + k]? = LRX7_takeMile_1[k]? := by
  have h := LBX7_takeMiler_0 (16 + k)
  rw [show 0 + (16 + k) = 16 + k by omega] at h
  rw [h]
  exact (List.getElem?_append_right (l₁ := LBX7_takeMile_0) (l₂ := LRX7_takeMile_1) (show 16 ≤ 16 + k by omega)).trans (congrArg (fun i => LRX7_takeMile_1[i]?) (show 16 + k - 16 = k by omega))
theorem LBX7_takeMiler_2 (k : Nat) : cX7_takeMile.data.toList[32 + k]? = LRX7_takeMile_2[k]? := by
  have h := LBX7_takeMiler_1 (16 + k)
  rw [show 16 + (16 + k) = 32 + k by omega] at h
  rw [h]
  exact (List.getElem?_append_right (l₁ := LBX7_takeMile_1) (l₂ := LRX7_takeMile_2) (show 16 ≤ 16 + k by omega)).trans (congrArg (fun i => LRX7_takeMile_2[i]?) (show 16 + k - 16 = k by omega))
theorem LBX7_takeMiler_3 (k : Nat) : cX7_takeMile.data.toList[48 + k]? = LRX7_takeMile_3[k]? := by
  have h := LBX7_takeMiler_2 (16 + k)
  rw [show 32 + (16 + k) = 48 + k by omega] at h
  rw [h]
  exact (List.getElem?_append_right (l₁ := LBX7_takeMile_2) (l₂ := LRX7_takeMile_3) (show 16 ≤ 16 + k by omega)).trans (congrArg (fun i => LRX7_takeMile_3[i]?) (show 16 + k - 16 = k by omega))
theorem LBX7_takeMiler_4 (k : Nat) : cX7_takeMile.data.toList[64 + k]? = LRX7_takeMile_4[k]? := by
  have h := LBX7_takeMiler_3 (16 + k)
  rw [show 48 + (16 + k) = 64 + k by omega] at h
  rw [h]
  exact (List.getElem?_append_right (l₁ := LBX7_takeMile_3) (l₂ := LRX7_takeMile_4) (show 16 ≤ 16 + k by omega)).trans (congrArg (fun i => LRX7_takeMile_4[i]?) (show 16 + k - 16 = k by omega))
theorem dX7_takeMile_0 : decode cX7_takeMile 0 = .ok (.aload_n 0, 1) := dk_42_ (show cX7_takeMile.data.toList[0]? = some 0x2a from (LBX7_takeMiler_0 0).trans (by decide +kernel))
theorem dX7_takeMile_1 : decode cX7_takeMile 1 = .ok (.getfield 19, 3) := dk_180_ (show cX7_takeMile.data.toList[1]? = some 0xb4 from (LBX7_takeMiler_0 1).trans (by decide +kernel)) (show cX7_takeMile.data.toList[2]? = some 0x00 from (LBX7_takeMiler_0 2).trans (by decide +kernel)) (show cX7_takeMile.data.toList[3]? = some 0x13 from (LBX7_takeMiler_0 3).trans (by decide +kernel)) (by decide)
theorem dX7_takeMile_4 : decode cX7_takeMile 4 = .ok (.iconst 4, 1) := dk_7_ (show cX7_takeMile.data.toList[4]? = some 0x07 from (LBX7_takeMiler_0 4).trans (by decide +kernel))
theorem dX7_takeMile_5 : decode cX7_takeMile 5 = .ok (.if_icmp .ne 7, 3) := dk_160_ (show cX7_takeMile.data.toList[5]? = some 0xa0 from (LBX7_takeMiler_0 5).trans (by decide +kernel)) (show cX7_takeMile.data.toList[6]? = some 0x00 from (LBX7_takeMiler_0 6).trans (by decide +kernel)) (show cX7_takeMile.data.toList[7]? = some 0x07 from (LBX7_takeMiler_0 7).trans (by decide +kernel)) (by decide)
theorem dX7_takeMile_8 : decode cX7_takeMile 8 = .ok (.iconst 1, 1) := dk_4_ (show cX7_takeMile.data.toList[8]? = some 0x04 from (LBX7_takeMiler_0 8).trans (by decide +kernel))
theorem dX7_takeMile_9 : decode cX7_takeMile 9 = .ok (.goto 4, 3) := dk_167_ (show cX7_takeMile.data.toList[9]? = some 0xa7 from (LBX7_takeMiler_0 9).trans (by decide +kernel)) (show cX7_takeMile.data.toList[10]? = some 0x00 from (LBX7_takeMiler_0 10).trans (by decide +kernel)) (show cX7_takeMile.data.toList[11]? = some 0x04 from (LBX7_takeMiler_0 11).trans (by decide +kernel)) (by decide)
theorem dX7_takeMile_12 : decode cX7_takeMile 12 = .ok (.iconst 0, 1) := dk_3_ (show cX7_takeMile.data.toList[12]? = some 0x03 from (LBX7_takeMiler_0 12).trans (by decide +kernel))
theorem dX7_takeMile_13 : decode cX7_takeMile 13 = .ok (.istore_n 3, 1) := dk_62_ (show cX7_takeMile.data.toList[13]? = some 0x3e from (LBX7_takeMiler_0 13).trans (by decide +kernel))
theorem dX7_takeMile_14 : decode cX7_takeMile 14 = .ok (.iload_n 3, 1) := dk_29_ (show cX7_takeMile.data.toList[14]? = some 0x1d from (LBX7_takeMiler_0 14).trans (by decide +kernel))
theorem dX7_takeMile_15 : decode cX7_takeMile 15 = .ok (.ifCond .eq 7, 3) := dk_153_ (show cX7_takeMile.data.toList[15]? = some 0x99 from (LBX7_takeMiler_0 15).trans (by decide +kernel)) (show cX7_takeMile.data.toList[16]? = some 0x00 from (LBX7_takeMiler_1 0).trans (by decide +kernel)) (show cX7_takeMile.data.toList[17]? = some 0x07 from (LBX7_takeMiler_1 1).trans (by decide +kernel)) (by decide)
theorem dX7_takeMile_18 : decode cX7_takeMile 18 = .ok (.aload_n 0, 1) := dk_42_ (show cX7_takeMile.data.toList[18]? = some 0x2a from (LBX7_takeMiler_1 2).trans (by decide +kernel))
theorem dX7_takeMile_19 : decode cX7_takeMile 19 = .ok (.invokevirtual 34, 3) := dk_182_ (show cX7_takeMile.data.toList[19]? = some 0xb6 from (LBX7_takeMiler_1 3).trans (by decide +kernel)) (show cX7_takeMile.data.toList[20]? = some 0x00 from (LBX7_takeMiler_1 4).trans (by decide +kernel)) (show cX7_takeMile.data.toList[21]? = some 0x22 from (LBX7_takeMiler_1 5).trans (by decide +kernel)) (by decide)
theorem dX7_takeMile_22 : decode cX7_takeMile 22 = .ok (.iload_n 3, 1) := dk_29_ (show cX7_takeMile.data.toList[22]? = some 0x1d from (LBX7_takeMiler_1 6).trans (by decide +kernel))
theorem dX7_takeMile_23 : decode cX7_takeMile 23 = .ok (.ifCond .eq 11, 3) := dk_153_ (show cX7_takeMile.data.toList[23]? = some 0x99 from (LBX7_takeMiler_1 7).trans (by decide +kernel)) (show cX7_takeMile.data.toList[24]? = some 0x00 from (LBX7_takeMiler_1 8).trans (by decide +kernel)) (show cX7_takeMile.data.toList[25]? = some 0x0b from (LBX7_takeMiler_1 9).trans (by decide +kernel)) (by decide)
theorem dX7_takeMile_26 : decode cX7_takeMile 26 = .ok (.aload_n 0, 1) := dk_42_ (show cX7_takeMile.data.toList[26]? = some 0x2a from (LBX7_takeMiler_1 10).trans (by decide +kernel))
theorem dX7_takeMile_27 : decode cX7_takeMile 27 = .ok (.getfield 28, 3) := dk_180_ (show cX7_takeMile.data.toList[27]? = some 0xb4 from (LBX7_takeMiler_1 11).trans (by decide +kernel)) (show cX7_takeMile.data.toList[28]? = some 0x00 from (LBX7_takeMiler_1 12).trans (by decide +kernel)) (show cX7_takeMile.data.toList[29]? = some 0x1c from (LBX7_takeMiler_1 13).trans (by decide +kernel)) (by decide)
theorem dX7_takeMile_30 : decode cX7_takeMile 30 = .ok (.ineg, 1) := dk_116_ (show cX7_takeMile.data.toList[30]? = some 0x74 from (LBX7_takeMiler_1 14).trans (by decide +kernel))
theorem dX7_takeMile_31 : decode cX7_takeMile 31 = .ok (.goto 7, 3) := dk_167_ (show cX7_takeMile.data.toList[31]? = some 0xa7 from (LBX7_takeMiler_1 15).trans (by decide +kernel)) (show cX7_takeMile.data.toList[32]? = some 0x00 from (LBX7_takeMiler_2 0).trans (by decide +kernel)) (show cX7_takeMile.data.toList[33]? = some 0x07 from (LBX7_takeMiler_2 1).trans (by decide +kernel)) (by decide)
theorem dX7_takeMile_34 : decode cX7_takeMile 34 = .ok (.aload_n 0, 1) := dk_42_ (show cX7_takeMile.data.toList[34]? = some 0x2a from (LBX7_takeMiler_2 2).trans (by decide +kernel))
theorem dX7_takeMile_35 : decode cX7_takeMile 35 = .ok (.getfield 28, 3) := dk_180_ (show cX7_takeMile.data.toList[35]? = some 0xb4 from (LBX7_takeMiler_2 3).trans (by decide +kernel)) (show cX7_takeMile.data.toList[36]? = some 0x00 from (LBX7_takeMiler_2 4).trans (by decide +kernel)) (show cX7_takeMile.data.toList[37]? = some 0x1c from (LBX7_takeMiler_2 5).trans (by decide +kernel)) (by decide)
theorem dX7_takeMile_38 : decode cX7_takeMile 38 = .ok (.istore 4, 2) := dk_54_ (show cX7_takeMile.data.toList[38]? = some 0x36 from (LBX7_takeMiler_2 6).trans (by decide +kernel)) (show cX7_takeMile.data.toList[39]? = some 0x04 from (LBX7_takeMiler_2 7).trans (by decide +kernel)) (by decide)
theorem dX7_takeMile_40 : decode cX7_takeMile 40 = .ok (.aload_n 0, 1) := dk_42_ (show cX7_takeMile.data.toList[40]? = some 0x2a from (LBX7_takeMiler_2 8).trans (by decide +kernel))
theorem dX7_takeMile_41 : decode cX7_takeMile 41 = .ok (.getfield 19, 3) := dk_180_ (show cX7_takeMile.data.toList[41]? = some 0xb4 from (LBX7_takeMiler_2 9).trans (by decide +kernel)) (show cX7_takeMile.data.toList[42]? = some 0x00 from (LBX7_takeMiler_2 10).trans (by decide +kernel)) (show cX7_takeMile.data.toList[43]? = some 0x13 from (LBX7_takeMiler_2 11).trans (by decide +kernel)) (by decide)
theorem dX7_takeMile_44 : decode cX7_takeMile 44 = .ok (.iconst 2, 1) := dk_5_ (show cX7_takeMile.data.toList[44]? = some 0x05 from (LBX7_takeMiler_2 12).trans (by decide +kernel))
theorem dX7_takeMile_45 : decode cX7_takeMile 45 = .ok (.if_icmp .ne 15, 3) := dk_160_ (show cX7_takeMile.data.toList[45]? = some 0xa0 from (LBX7_takeMiler_2 13).trans (by decide +kernel)) (show cX7_takeMile.data.toList[46]? = some 0x00 from (LBX7_takeMiler_2 14).trans (by decide +kernel)) (show cX7_takeMile.data.toList[47]? = some 0x0f from (LBX7_takeMiler_2 15).trans (by decide +kernel)) (by decide)
theorem dX7_takeMile_48 : decode cX7_takeMile 48 = .ok (.iload 4, 2) := dk_21_ (show cX7_takeMile.data.toList[48]? = some 0x15 from (LBX7_takeMiler_3 0).trans (by decide +kernel)) (show cX7_takeMile.data.toList[49]? = some 0x04 from (LBX7_takeMiler_3 1).trans (by decide +kernel)) (by decide)
theorem dX7_takeMile_50 : decode cX7_takeMile 50 = .ok (.iload_n 1, 1) := dk_27_ (show cX7_takeMile.data.toList[50]? = some 0x1b from (LBX7_takeMiler_3 2).trans (by decide +kernel))
theorem dX7_takeMile_51 : decode cX7_takeMile 51 = .ok (.if_icmp .lt 9, 3) := dk_161_ (show cX7_takeMile.data.toList[51]? = some 0xa1 from (LBX7_takeMiler_3 3).trans (by decide +kernel)) (show cX7_takeMile.data.toList[52]? = some 0x00 from (LBX7_takeMiler_3 4).trans (by decide +kernel)) (show cX7_takeMile.data.toList[53]? = some 0x09 from (LBX7_takeMiler_3 5).trans (by decide +kernel)) (by decide)
theorem dX7_takeMile_54 : decode cX7_takeMile 54 = .ok (.iload 4, 2) := dk_21_ (show cX7_takeMile.data.toList[54]? = some 0x15 from (LBX7_takeMiler_3 6).trans (by decide +kernel)) (show cX7_takeMile.data.toList[55]? = some 0x04 from (LBX7_takeMiler_3 7).trans (by decide +kernel)) (by decide)
theorem dX7_takeMile_56 : decode cX7_takeMile 56 = .ok (.iload_n 2, 1) := dk_28_ (show cX7_takeMile.data.toList[56]? = some 0x1c from (LBX7_takeMiler_3 8).trans (by decide +kernel))
theorem dX7_takeMile_57 : decode cX7_takeMile 57 = .ok (.if_icmp .le 5, 3) := dk_164_ (show cX7_takeMile.data.toList[57]? = some 0xa4 from (LBX7_takeMiler_3 9).trans (by decide +kernel)) (show cX7_takeMile.data.toList[58]? = some 0x00 from (LBX7_takeMiler_3 10).trans (by decide +kernel)) (show cX7_takeMile.data.toList[59]? = some 0x05 from (LBX7_takeMiler_3 11).trans (by decide +kernel)) (by decide)
theorem dX7_takeMile_60 : decode cX7_takeMile 60 = .ok (.iconst 0, 1) := dk_3_ (show cX7_takeMile.data.toList[60]? = some 0x03 from (LBX7_takeMiler_3 12).trans (by decide +kernel))
theorem dX7_takeMile_61 : decode cX7_takeMile 61 = .ok (.ireturn, 1) := dk_172_ (show cX7_takeMile.data.toList[61]? = some 0xac from (LBX7_takeMiler_3 13).trans (by decide +kernel))
theorem dX7_takeMile_62 : decode cX7_takeMile 62 = .ok (.aload_n 0, 1) := dk_42_ (show cX7_takeMile.data.toList[62]? = some 0x2a from (LBX7_takeMiler_3 14).trans (by decide +kernel))
theorem dX7_takeMile_63 : decode cX7_takeMile 63 = .ok (.iload 4, 2) := dk_21_ (show cX7_takeMile.data.toList[63]? = some 0x15 from (LBX7_takeMiler_3 15).trans (by decide +kernel)) (show cX7_takeMile.data.toList[64]? = some 0x04 from (LBX7_takeMiler_4 0).trans (by decide +kernel)) (by decide)
theorem dX7_takeMile_65 : decode cX7_takeMile 65 = .ok (.putfield 31, 3) := dk_181_ (show cX7_takeMile.data.toList[65]? = some 0xb5 from (LBX7_takeMiler_4 1).trans (by decide +kernel)) (show cX7_takeMile.data.toList[66]? = some 0x00 from (LBX7_takeMiler_4 2).trans (by decide +kernel)) (show cX7_takeMile.data.toList[67]? = some 0x1f from (LBX7_takeMiler_4 3).trans (by decide +kernel)) (by decide)
theorem dX7_takeMile_68 : decode cX7_takeMile 68 = .ok (.aload_n 0, 1) := dk_42_ (show cX7_takeMile.data.toList[68]? = some 0x2a from (LBX7_takeMiler_4 4).trans (by decide +kernel))
theorem dX7_takeMile_69 : decode cX7_takeMile 69 = .ok (.invokevirtual 34, 3) := dk_182_ (show cX7_takeMile.data.toList[69]? = some 0xb6 from (LBX7_takeMiler_4 5).trans (by decide +kernel)) (show cX7_takeMile.data.toList[70]? = some 0x00 from (LBX7_takeMiler_4 6).trans (by decide +kernel)) (show cX7_takeMile.data.toList[71]? = some 0x22 from (LBX7_takeMiler_4 7).trans (by decide +kernel)) (by decide)
theorem dX7_takeMile_72 : decode cX7_takeMile 72 = .ok (.iconst 1, 1) := dk_4_ (show cX7_takeMile.data.toList[72]? = some 0x04 from (LBX7_takeMiler_4 8).trans (by decide +kernel))
theorem dX7_takeMile_73 : decode cX7_takeMile 73 = .ok (.ireturn, 1) := dk_172_ (show cX7_takeMile.data.toList[73]? = some 0xac from (LBX7_takeMiler_4 9).trans (by decide +kernel))
theorem uw285 : Cond.fieldLink RX7 9 "LongerBack$Text" "size" "I" ∈ wsU := ut1 (List.mem_of_getElem? (i := 165) rfl) rfl
theorem uw286 : Cond.lays RX7 "LongerBack$Text" "size" "I" ∈ wsU := ut1 (List.mem_of_getElem? (i := 173) rfl) rfl
theorem uw287 : Cond.laysFinal RX7 "LongerBack$Text" "bytes" "[I" ∈ wsU := ut1 (List.mem_of_getElem? (i := 175) rfl) rfl
theorem uw288 : Cond.lays RX7 "LongerBack$Text" "token" "I" ∈ wsU := ut1 (List.mem_of_getElem? (i := 177) rfl) rfl
theorem uw289 : Cond.lays RX7 "LongerBack$Text" "start" "I" ∈ wsU := ut1 (List.mem_of_getElem? (i := 179) rfl) rfl
theorem uw290 : Cond.lays RX7 "LongerBack$Text" "next" "I" ∈ wsU := ut1 (List.mem_of_getElem? (i := 181) rfl) rfl
theorem uw291 : Cond.lays RX7 "LongerBack$Text" "value" "I" ∈ wsU := ut1 (List.mem_of_getElem? (i := 183) rfl) rfl
theorem uw292 : Cond.lays RX7 "LongerBack$Text" "taken" "I" ∈ wsU := ut1 (List.mem_of_getElem? (i := 185) rfl) rfl
theorem uw293 : Cond.fieldLink RX7 15 "LongerBack$Text" "bytes" "[I" ∈ wsU := ut1 (List.mem_of_getElem? (i := 167) rfl) rfl
theorem uw294 : Cond.fieldLink RX7 25 "LongerBack$Text" "next" "I" ∈ wsU := ut1 (List.mem_of_getElem? (i := 170) rfl) rfl
theorem uw295 : Cond.fieldLink RX7 22 "LongerBack$Text" "start" "I" ∈ wsU := ut1 (List.mem_of_getElem? (i := 169) rfl) rfl
theorem uw296 : Cond.methodLink RX7 142 yX7_kindAt ∈ wsU := ut4 (List.mem_of_getElem? (i := 18) rfl) rfl
theorem uw297 : Cond.instanceMethod yX7_kindAt ∈ wsU := ut4 (List.mem_of_getElem? (i := 20) rfl) rfl
theorem uw298 : Cond.selects RX7 yX7_kindAt yX7_kindAt ∈ wsU := us_sel (q := (yX7_kindAt, 7)) (List.mem_of_getElem? (i := 16) (by decide +kernel)) rfl
theorem uw299 : Cond.initialized RX7 ∈ wsU := ut1 (List.mem_of_getElem? (i := 8) rfl) rfl
theorem uw300 : Cond.code yX7_kindAt cX7_kindAt 3 (some .int) ∈ wsU := ut4 (List.mem_of_getElem? (i := 21) rfl) rfl
theorem uw301 : Cond.fieldLink RX7 19 "LongerBack$Text" "token" "I" ∈ wsU := ut1 (List.mem_of_getElem? (i := 168) rfl) rfl
theorem uw302 : Cond.fieldLink RX7 28 "LongerBack$Text" "value" "I" ∈ wsU := ut1 (List.mem_of_getElem? (i := 171) rfl) rfl
theorem uw303 : Cond.methodLink RX7 145 Lib.Math.min.name ∈ wsU := ut4 (List.mem_of_getElem? (i := 22) rfl) rfl
theorem uw304 : Cond.methodLink RX7 132 yJ0_length_8abf5 ∈ wsU := ut4 (List.mem_of_getElem? (i := 32) rfl) rfl
theorem uw305 : Cond.instanceMethod yJ0_length_8abf5 ∈ wsU := ut4 (List.mem_of_getElem? (i := 33) rfl) rfl
theorem uw306 : Cond.selects RJ0 yJ0_length_8abf5 yJ0_length_8abf5 ∈ wsU := ut4 (List.mem_of_getElem? (i := 34) rfl) rfl
theorem uw307 : Cond.code yJ0_length_8abf5 cJ0_length_8abf5 1 (some .int) ∈ wsU := ut4 (List.mem_of_getElem? (i := 35) rfl) rfl
theorem uw308 : Cond.methodLink RX7 138 yJ0_charAt_5068e ∈ wsU := ut4 (List.mem_of_getElem? (i := 42) rfl) rfl
theorem uw309 : Cond.instanceMethod yJ0_charAt_5068e ∈ wsU := ut4 (List.mem_of_getElem? (i := 43) rfl) rfl
theorem uw310 : Cond.selects RJ0 yJ0_charAt_5068e yJ0_charAt_5068e ∈ wsU := ut4 (List.mem_of_getElem? (i := 44) rfl) rfl
theorem uw311 : Cond.code yJ0_charAt_5068e cJ0_charAt_5068e 2 (some .char) ∈ wsU := ut4 (List.mem_of_getElem? (i := 45) rfl) rfl
theorem uw312 : Cond.methodLink RX7 43 yX7_isWord ∈ wsU := ut4 (List.mem_of_getElem? (i := 28) rfl) rfl
theorem uw313 : Cond.instanceMethod yX7_isWord ∈ wsU := ut4 (List.mem_of_getElem? (i := 30) rfl) rfl
theorem uw314 : Cond.selects RX7 yX7_isWord yX7_isWord ∈ wsU := us_sel (q := (yX7_isWord, 7)) (List.mem_of_getElem? (i := 18) (by decide +kernel)) rfl
theorem uw315 : Cond.code yX7_isWord cX7_isWord 3 (some .boolean) ∈ wsU := ut4 (List.mem_of_getElem? (i := 31) rfl) rfl
theorem uw316 : Cond.methodLink RX7 34 yX7_step ∈ wsU := ut4 (List.mem_of_getElem? (i := 14) rfl) rfl
theorem uw317 : Cond.instanceMethod yX7_step ∈ wsU := ut4 (List.mem_of_getElem? (i := 16) rfl) rfl
theorem uw318 : Cond.selects RX7 yX7_step yX7_step ∈ wsU := us_sel (q := (yX7_step, 7)) (List.mem_of_getElem? (i := 15) (by decide +kernel)) rfl
theorem uw319 : Cond.code yX7_step cX7_step 3 none ∈ wsU := ut4 (List.mem_of_getElem? (i := 17) rfl) rfl
theorem uw320 : Cond.fieldLink RX7 31 "LongerBack$Text" "taken" "I" ∈ wsU := ut1 (List.mem_of_getElem? (i := 172) rfl) rfl
theorem inUX7 : ∀ w ∈ u_ws RX7 TX7 7, w ∈ wsU := List.forall_mem_cons.mpr ⟨uw286, List.forall_mem_cons.mpr ⟨uw287, List.forall_mem_cons.mpr ⟨uw288, List.forall_mem_cons.mpr ⟨uw289, List.forall_mem_cons.mpr ⟨uw290, List.forall_mem_cons.mpr ⟨uw291, List.forall_mem_cons.mpr ⟨uw292, fun _ h => absurd h List.not_mem_nil⟩⟩⟩⟩⟩⟩⟩
theorem kf_X7_9 : xWF RX7 9 7 0 RX7 TX7 7 := ⟨inUX7, rfl, by decide, uw285⟩
theorem kf_X7_15 : xWF RX7 15 7 1 RX7 TX7 7 := ⟨inUX7, rfl, by decide, uw293⟩
theorem kf_X7_25 : xWF RX7 25 7 4 RX7 TX7 7 := ⟨inUX7, rfl, by decide, uw294⟩
theorem kf_X7_22 : xWF RX7 22 7 3 RX7 TX7 7 := ⟨inUX7, rfl, by decide, uw295⟩
theorem kv_X7_142 : xWV RX7 142 RX7 yX7_kindAt cX7_kindAt 3 (some .int) 1 := ⟨⟨uw296, uw297, uw298, uw299, uw300⟩, by decide +kernel⟩
theorem kf_X7_19 : xWF RX7 19 7 2 RX7 TX7 7 := ⟨inUX7, rfl, by decide, uw301⟩
theorem kf_X7_28 : xWF RX7 28 7 5 RX7 TX7 7 := ⟨inUX7, rfl, by decide, uw302⟩
theorem kv_X7_132 : xWV RX7 132 RJ0 yJ0_length_8abf5 cJ0_length_8abf5 1 (some .int) 0 := ⟨⟨uw304, uw305, uw306, uw266, uw307⟩, by decide +kernel⟩
theorem kv_X7_138 : xWV RX7 138 RJ0 yJ0_charAt_5068e cJ0_charAt_5068e 2 (some .char) 1 := ⟨⟨uw308, uw309, uw310, uw266, uw311⟩, by decide +kernel⟩
theorem kv_X7_43 : xWV RX7 43 RX7 yX7_isWord cX7_isWord 3 (some .boolean) 1 := ⟨⟨uw312, uw313, uw314, uw299, uw315⟩, by decide +kernel⟩
theorem kv_X7_34 : xWV RX7 34 RX7 yX7_step cX7_step 3 none 0 := ⟨⟨uw316, uw317, uw318, uw299, uw319⟩, by decide +kernel⟩
theorem kf_X7_31 : xWF RX7 31 7 6 RX7 TX7 7 := ⟨inUX7, rfl, by decide, uw320⟩
set_option maxHeartbeats 4000000 in
set_option maxRecDepth 100000 in
theorem c_X7_addByte (l : Launch) (D : va_G) (cI cJ cZ cS : ClassId) (ta : Nat) (sa sv : Nat → Nat) (sz : Nat) (h0 : Nat) (ab : Nat) (z : Nat) (s9 : Nat) (x9 : Nat) (v9 : Nat) (tk : Int32) (t9 : Int32) (by9 : Nat → Int32) (p0 : Int32) (hz : z < 120) : Met l yX7_addByte (Cond.code yX7_addByte cX7_addByte 2 none :: wsU) ({ frames := 0, cells := 0, slots := 0, locals := 0 }) (va_Pc [.ref h0, .int p0] (XW D (xT cI cJ cZ cS) ta sa sv [(h0, .inr (7, [.int (nI (z)), .ref ab, .int tk, .int (nI (s9)), .int (nI (x9)), .int (nI (v9)), .int t9])), (ab, .inl (cI, 120, .inl by9))] sz)) (XQv (fun (y2 : (Nat → Int32)) => (y2 = upd by9 z p0)) D (fun (y2 : Nat → Int32) => [(h0, .inr (7, [.int (nI (z + 1)), .ref ab, .int tk, .int (nI (s9)), .int (nI (x9)), .int (nI (v9)), .int t9])), (ab, .inl (cI, 120, .inl y2))]) (va_A [(h0, .inr (7, [.int (nI (z)), .ref ab, .int tk, .int (nI (s9)), .int (nI (x9)), .int (nI (v9)), .int t9])), (ab, .inl (cI, 120, .inl by9))] sz)) 0 0 (va_A [(h0, .inr (7, [.int (nI (z)), .ref ab, .int tk, .int (nI (s9)), .int (nI (x9)), .int (nI (v9)), .int t9])), (ab, .inl (cI, 120, .inl by9))] sz) := by
  refine xh (QA := fun A => XQv (fun (y2 : (Nat → Int32)) => (y2 = upd by9 z p0)) D (fun (y2 : Nat → Int32) => [(h0, .inr (7, [.int (nI (z + 1)), .ref ab, .int tk, .int (nI (s9)), .int (nI (x9)), .int (nI (v9)), .int t9])), (ab, .inl (cI, 120, .inl y2))]) A) (fr := fun A => A) (by decide) (Nat.le_of_ble_eq_true rfl) ?_
  intro p e s m below meth c ls A hF hr hlk hin hsz hP hK hD hN hZ hA hS hl
  have hF : CallFix p m c cX7_addByte 2 s _ _ RX7 := hF
  have hx := hF.1
  have hb := hF.2.1
  have hml := hF.2.2.1
  have hown := hF.2.2.2.1
  have hu : ∀ w ∈ wsU, w.before _ s = true := fun w h => hF.2.2.2.2 w (List.mem_cons_of_mem _ h)
  have hl : lv_has ls 2 [(0, .ref h0), (1, .int p0)] := hl
  refine lv_aload_n hx hb dX7_addByte_0 rfl (lv_at hl 0 rfl) ?_
  refine xg hF kf_X7_9 hK hP 0 rfl rfl dX7_addByte_1 ?_
  refine lv_bipush (v := 120) hx hb dX7_addByte_4 (by decide) ?_
  refine lv_icmp_ge (tgt := 29) hx hb dX7_addByte_6 (by decide) (fun c_1 => by have nc_1 : 120 ≤ z := xn_le (a := 120) (b := z) (by omega) (by omega) c_1; omega) (fun c_1 => ?_)
  have nc_1 : z < 120 := xn_nle (a := 120) (b := z) (by omega) (by omega) c_1
  refine lv_aload_n hx hb dX7_addByte_9 rfl (lv_at hl 0 rfl) ?_
  refine xg hF kf_X7_15 hK hP 0 rfl rfl dX7_addByte_10 ?_
  refine lv_aload_n hx hb dX7_addByte_13 rfl (lv_at hl 0 rfl) ?_
  refine xg hF kf_X7_9 hK hP 0 rfl rfl dX7_addByte_14 ?_
  refine lv_iload_n hx hb dX7_addByte_17 rfl (lv_at hl 1 rfl) ?_
  refine va_iast hx hb hK hP hD hS 1 0 rfl rfl (vp_in_nI (show z < 120 by omega) (by decide)) dX7_addByte_18 (fun H locs hP hD hS => ?_)
  rw [nI_clamp (show z < 2 ^ 31 by omega)] at hP hD
  obtain ⟨f_2, ef_2⟩ : ∃ g, g = upd by9 z p0 := ⟨_, rfl⟩
  rw [← ef_2] at hP hD
  have hP : va_P D vwCl [(h0, .inr (7, [.int (nI (z)), .ref ab, .int tk, .int (nI (s9)), .int (nI (x9)), .int (nI (v9)), .int t9])), (ab, .inl (cI, 120, .inl f_2))] H := hP
  have hD : va_D A [(h0, .inr (7, [.int (nI (z)), .ref ab, .int tk, .int (nI (s9)), .int (nI (x9)), .int (nI (v9)), .int t9])), (ab, .inl (cI, 120, .inl f_2))] := hD
  refine lv_aload_n hx hb dX7_addByte_19 rfl (lv_at hl 0 rfl) ?_
  refine lv_dup hx hb dX7_addByte_20 rfl ?_
  refine xg hF kf_X7_9 hK hP 0 rfl rfl dX7_addByte_21 ?_
  refine lv_iconst (v := 1) hx hb dX7_addByte_24 (by decide) ?_
  refine lv_iadd hx hb dX7_addByte_25 ?_
  refine xl_i (y := nI (z + 1)) (nI_add z 1) ?_
  refine xp hF kf_X7_9 tyX7_ok nmX7 hK hP hD hS 0 rfl rfl rfl rfl (Nat.le_of_ble_eq_true rfl) dX7_addByte_26 (fun H locs hP hD hS => ?_)
  have hP : va_P D vwCl [(h0, .inr (7, [.int (nI (z + 1)), .ref ab, .int tk, .int (nI (s9)), .int (nI (x9)), .int (nI (v9)), .int t9])), (ab, .inl (cI, 120, .inl f_2))] H := hP
  have hD : va_D A [(h0, .inr (7, [.int (nI (z + 1)), .ref ab, .int tk, .int (nI (s9)), .int (nI (x9)), .int (nI (v9)), .int t9])), (ab, .inl (cI, 120, .inl f_2))] := hD
  exact W.vret hx hb hr (fun t ht hW => ⟨⟨f_2, rfl, ef_2, by rw [ht]; exact hP.sub [0, 1] rfl, hD.sub [0, 1] (by decide) rfl⟩, hS.F ht⟩) hS.2.2 dX7_addByte_29 hlk
set_option maxHeartbeats 4000000 in
set_option maxRecDepth 100000 in
theorem c_X7_kindAt (l : Launch) (D : va_G) (cI cJ cZ cS : ClassId) (ta : Nat) (sa sv : Nat → Nat) (sz : Nat) (h0 : Nat) (ab : Nat) (z : Nat) (s9 : Nat) (x9 : Nat) (v9 : Nat) (tk : Int32) (t9 : Int32) (by9 : Nat → Int32) (j : Nat) (hz : z ≤ 120) (hj : j ≤ 120) : Met l yX7_kindAt (Cond.code yX7_kindAt cX7_kindAt 3 (some .int) :: wsU) ({ frames := 0, cells := 0, slots := 0, locals := 0 }) (va_Pc [.ref h0, .int (nI (j))] (XW D (xT cI cJ cZ cS) ta sa sv [(h0, .inr (7, [.int (nI (z)), .ref ab, .int tk, .int (nI (s9)), .int (nI (x9)), .int (nI (v9)), .int t9])), (ab, .inl (cI, 120, .inl by9))] sz)) (vp_Si (fun r : Int32 => (r = kd (bA by9 z) z j))) 0 0 (fun _ => False) := by
  refine xh (QA := fun _ => vp_Si (fun r : Int32 => (r = kd (bA by9 z) z j))) (fr := fun _ _ => False) (by decide) (Nat.le_of_ble_eq_true rfl) ?_
  intro p e s m below meth c ls A hF hr hlk hin hsz hP hK hD hN hZ hA hS hl
  have hF : CallFix p m c cX7_kindAt 3 s _ _ RX7 := hF
  have hx := hF.1
  have hb := hF.2.1
  have hml := hF.2.2.1
  have hown := hF.2.2.2.1
  have hu : ∀ w ∈ wsU, w.before _ s = true := fun w h => hF.2.2.2.2 w (List.mem_cons_of_mem _ h)
  have hl : lv_has ls 3 [(0, .ref h0), (1, .int (nI (j)))] := hl
  refine lv_iload_n hx hb dX7_kindAt_0 rfl (lv_at hl 1 rfl) ?_
  refine lv_aload_n hx hb dX7_kindAt_1 rfl (lv_at hl 0 rfl) ?_
  refine xg hF kf_X7_9 hK hP 0 rfl rfl dX7_kindAt_2 ?_
  refine lv_icmp_lt (tgt := 10) hx hb dX7_kindAt_5 (by decide) (fun c_1 => ?_) (fun c_1 => ?_)
  · skip
    have nc_1 : j < z := xn_lt (a := j) (b := z) (by omega) (by omega) c_1
    refine lv_aload_n hx hb dX7_kindAt_10 rfl (lv_at hl 0 rfl) ?_
    refine xg hF kf_X7_15 hK hP 0 rfl rfl dX7_kindAt_11 ?_
    refine lv_iload_n hx hb dX7_kindAt_14 rfl (lv_at hl 1 rfl) ?_
    refine va_iald hx hb hK hP 1 0 rfl rfl (vp_in_nI (show j < 120 by omega) (by decide)) dX7_kindAt_15 ?_
    refine xl_i (y := by9 j) (congrArg by9 (nI_clamp (show j < 2 ^ 31 by omega))) ?_
    refine lv_istore_n (lv' := [(2, .int (by9 j)), (0, .ref h0), (1, .int (nI (j)))]) hx hb dX7_kindAt_16 rfl hl (by decide) rfl (fun ls hl => ?_)
    refine lv_iload_n hx hb dX7_kindAt_17 rfl (lv_at hl 0 rfl) ?_
    refine lv_bipush (v := 97) hx hb dX7_kindAt_18 (by decide) ?_
    refine lv_icmp_lt (tgt := 31) hx hb dX7_kindAt_20 (by decide) (fun c_2 => ?_) (fun c_2 => ?_)
    · skip
      refine lv_iload_n hx hb dX7_kindAt_31 rfl (lv_at hl 0 rfl) ?_
      refine lv_bipush (v := 48) hx hb dX7_kindAt_32 (by decide) ?_
      refine lv_icmp_lt (tgt := 45) hx hb dX7_kindAt_34 (by decide) (fun c_3 => ?_) (fun c_3 => ?_)
      · skip
        refine lv_iload_n hx hb dX7_kindAt_45 rfl (lv_at hl 0 rfl) ?_
        refine lv_bipush (v := 59) hx hb dX7_kindAt_46 (by decide) ?_
        refine lv_icmp_ne (tgt := 53) hx hb dX7_kindAt_48 (by decide) (fun c_4 => ?_) (fun c_4 => ?_)
        · skip
          refine lv_iload_n hx hb dX7_kindAt_53 rfl (lv_at hl 0 rfl) ?_
          refine lv_bipush (v := 45) hx hb dX7_kindAt_54 (by decide) ?_
          refine lv_icmp_ne (tgt := 63) hx hb dX7_kindAt_56 (by decide) (fun c_5 => ?_) (fun c_5 => ?_)
          · skip
            refine lv_iconst (v := 5) hx hb dX7_kindAt_63 (by decide) ?_
            exact W.iret (v := 5) hx hb hr (fun t ht hW => ⟨5, rfl, (by first | exact kd_5 (by omega) (Or.inl (by assumption)) (Or.inl (by assumption)) (by assumption) (by assumption) | exact kd_5 (by omega) (Or.inl (by assumption)) (Or.inr (by assumption)) (by assumption) (by assumption) | exact kd_5 (by omega) (Or.inr (by assumption)) (Or.inl (by assumption)) (by assumption) (by assumption) | exact kd_5 (by omega) (Or.inr (by assumption)) (Or.inr (by assumption)) (by assumption) (by assumption)), ht⟩) (fun q h => by cases h) dX7_kindAt_64 hlk
          · skip
            refine lv_iconst (v := 4) hx hb dX7_kindAt_59 (by decide) ?_
            refine lv_goto (tgt := 64) hx hb dX7_kindAt_60 (by decide) ?_
            exact W.iret (v := 4) hx hb hr (fun t ht hW => ⟨4, rfl, (by first | exact kd_4 (by omega) (Or.inl (by assumption)) (Or.inl (by assumption)) (by assumption) (by assumption) | exact kd_4 (by omega) (Or.inl (by assumption)) (Or.inr (by assumption)) (by assumption) (by assumption) | exact kd_4 (by omega) (Or.inr (by assumption)) (Or.inl (by assumption)) (by assumption) (by assumption) | exact kd_4 (by omega) (Or.inr (by assumption)) (Or.inr (by assumption)) (by assumption) (by assumption)), ht⟩) (fun q h => by cases h) dX7_kindAt_64 hlk
        · skip
          refine lv_iconst (v := 3) hx hb dX7_kindAt_51 (by decide) ?_
          exact W.iret (v := 3) hx hb hr (fun t ht hW => ⟨3, rfl, (by first | exact kd_3 (by omega) (Or.inl (by assumption)) (Or.inl (by assumption)) (by assumption) | exact kd_3 (by omega) (Or.inl (by assumption)) (Or.inr (by assumption)) (by assumption) | exact kd_3 (by omega) (Or.inr (by assumption)) (Or.inl (by assumption)) (by assumption) | exact kd_3 (by omega) (Or.inr (by assumption)) (Or.inr (by assumption)) (by assumption)), ht⟩) (fun q h => by cases h) dX7_kindAt_52 hlk
      · skip
        refine lv_iload_n hx hb dX7_kindAt_37 rfl (lv_at hl 0 rfl) ?_
        refine lv_bipush (v := 57) hx hb dX7_kindAt_38 (by decide) ?_
        refine lv_icmp_gt (tgt := 45) hx hb dX7_kindAt_40 (by decide) (fun c_6 => ?_) (fun c_6 => ?_)
        · skip
          refine lv_iload_n hx hb dX7_kindAt_45 rfl (lv_at hl 0 rfl) ?_
          refine lv_bipush (v := 59) hx hb dX7_kindAt_46 (by decide) ?_
          refine lv_icmp_ne (tgt := 53) hx hb dX7_kindAt_48 (by decide) (fun c_7 => ?_) (fun c_7 => ?_)
          · skip
            refine lv_iload_n hx hb dX7_kindAt_53 rfl (lv_at hl 0 rfl) ?_
            refine lv_bipush (v := 45) hx hb dX7_kindAt_54 (by decide) ?_
            refine lv_icmp_ne (tgt := 63) hx hb dX7_kindAt_56 (by decide) (fun c_8 => ?_) (fun c_8 => ?_)
            · skip
              refine lv_iconst (v := 5) hx hb dX7_kindAt_63 (by decide) ?_
              exact W.iret (v := 5) hx hb hr (fun t ht hW => ⟨5, rfl, (by first | exact kd_5 (by omega) (Or.inl (by assumption)) (Or.inl (by assumption)) (by assumption) (by assumption) | exact kd_5 (by omega) (Or.inl (by assumption)) (Or.inr (by assumption)) (by assumption) (by assumption) | exact kd_5 (by omega) (Or.inr (by assumption)) (Or.inl (by assumption)) (by assumption) (by assumption) | exact kd_5 (by omega) (Or.inr (by assumption)) (Or.inr (by assumption)) (by assumption) (by assumption)), ht⟩) (fun q h => by cases h) dX7_kindAt_64 hlk
            · skip
              refine lv_iconst (v := 4) hx hb dX7_kindAt_59 (by decide) ?_
              refine lv_goto (tgt := 64) hx hb dX7_kindAt_60 (by decide) ?_
              exact W.iret (v := 4) hx hb hr (fun t ht hW => ⟨4, rfl, (by first | exact kd_4 (by omega) (Or.inl (by assumption)) (Or.inl (by assumption)) (by assumption) (by assumption) | exact kd_4 (by omega) (Or.inl (by assumption)) (Or.inr (by assumption)) (by assumption) (by assumption) | exact kd_4 (by omega) (Or.inr (by assumption)) (Or.inl (by assumption)) (by assumption) (by assumption) | exact kd_4 (by omega) (Or.inr (by assumption)) (Or.inr (by assumption)) (by assumption) (by assumption)), ht⟩) (fun q h => by cases h) dX7_kindAt_64 hlk
          · skip
            refine lv_iconst (v := 3) hx hb dX7_kindAt_51 (by decide) ?_
            exact W.iret (v := 3) hx hb hr (fun t ht hW => ⟨3, rfl, (by first | exact kd_3 (by omega) (Or.inl (by assumption)) (Or.inl (by assumption)) (by assumption) | exact kd_3 (by omega) (Or.inl (by assumption)) (Or.inr (by assumption)) (by assumption) | exact kd_3 (by omega) (Or.inr (by assumption)) (Or.inl (by assumption)) (by assumption) | exact kd_3 (by omega) (Or.inr (by assumption)) (Or.inr (by assumption)) (by assumption)), ht⟩) (fun q h => by cases h) dX7_kindAt_52 hlk
        · skip
          refine lv_iconst (v := 2) hx hb dX7_kindAt_43 (by decide) ?_
          exact W.iret (v := 2) hx hb hr (fun t ht hW => ⟨2, rfl, (by first | exact kd_2 (by omega) (Or.inl (by assumption)) (by assumption) (by assumption) | exact kd_2 (by omega) (Or.inr (by assumption)) (by assumption) (by assumption)), ht⟩) (fun q h => by cases h) dX7_kindAt_44 hlk
    · skip
      refine lv_iload_n hx hb dX7_kindAt_23 rfl (lv_at hl 0 rfl) ?_
      refine lv_bipush (v := 122) hx hb dX7_kindAt_24 (by decide) ?_
      refine lv_icmp_gt (tgt := 31) hx hb dX7_kindAt_26 (by decide) (fun c_9 => ?_) (fun c_9 => ?_)
      · skip
        refine lv_iload_n hx hb dX7_kindAt_31 rfl (lv_at hl 0 rfl) ?_
        refine lv_bipush (v := 48) hx hb dX7_kindAt_32 (by decide) ?_
        refine lv_icmp_lt (tgt := 45) hx hb dX7_kindAt_34 (by decide) (fun c_10 => ?_) (fun c_10 => ?_)
        · skip
          refine lv_iload_n hx hb dX7_kindAt_45 rfl (lv_at hl 0 rfl) ?_
          refine lv_bipush (v := 59) hx hb dX7_kindAt_46 (by decide) ?_
          refine lv_icmp_ne (tgt := 53) hx hb dX7_kindAt_48 (by decide) (fun c_11 => ?_) (fun c_11 => ?_)
          · skip
            refine lv_iload_n hx hb dX7_kindAt_53 rfl (lv_at hl 0 rfl) ?_
            refine lv_bipush (v := 45) hx hb dX7_kindAt_54 (by decide) ?_
            refine lv_icmp_ne (tgt := 63) hx hb dX7_kindAt_56 (by decide) (fun c_12 => ?_) (fun c_12 => ?_)
            · skip
              refine lv_iconst (v := 5) hx hb dX7_kindAt_63 (by decide) ?_
              exact W.iret (v := 5) hx hb hr (fun t ht hW => ⟨5, rfl, (by first | exact kd_5 (by omega) (Or.inl (by assumption)) (Or.inl (by assumption)) (by assumption) (by assumption) | exact kd_5 (by omega) (Or.inl (by assumption)) (Or.inr (by assumption)) (by assumption) (by assumption) | exact kd_5 (by omega) (Or.inr (by assumption)) (Or.inl (by assumption)) (by assumption) (by assumption) | exact kd_5 (by omega) (Or.inr (by assumption)) (Or.inr (by assumption)) (by assumption) (by assumption)), ht⟩) (fun q h => by cases h) dX7_kindAt_64 hlk
            · skip
              refine lv_iconst (v := 4) hx hb dX7_kindAt_59 (by decide) ?_
              refine lv_goto (tgt := 64) hx hb dX7_kindAt_60 (by decide) ?_
              exact W.iret (v := 4) hx hb hr (fun t ht hW => ⟨4, rfl, (by first | exact kd_4 (by omega) (Or.inl (by assumption)) (Or.inl (by assumption)) (by assumption) (by assumption) | exact kd_4 (by omega) (Or.inl (by assumption)) (Or.inr (by assumption)) (by assumption) (by assumption) | exact kd_4 (by omega) (Or.inr (by assumption)) (Or.inl (by assumption)) (by assumption) (by assumption) | exact kd_4 (by omega) (Or.inr (by assumption)) (Or.inr (by assumption)) (by assumption) (by assumption)), ht⟩) (fun q h => by cases h) dX7_kindAt_64 hlk
          · skip
            refine lv_iconst (v := 3) hx hb dX7_kindAt_51 (by decide) ?_
            exact W.iret (v := 3) hx hb hr (fun t ht hW => ⟨3, rfl, (by first | exact kd_3 (by omega) (Or.inl (by assumption)) (Or.inl (by assumption)) (by assumption) | exact kd_3 (by omega) (Or.inl (by assumption)) (Or.inr (by assumption)) (by assumption) | exact kd_3 (by omega) (Or.inr (by assumption)) (Or.inl (by assumption)) (by assumption) | exact kd_3 (by omega) (Or.inr (by assumption)) (Or.inr (by assumption)) (by assumption)), ht⟩) (fun q h => by cases h) dX7_kindAt_52 hlk
        · skip
          refine lv_iload_n hx hb dX7_kindAt_37 rfl (lv_at hl 0 rfl) ?_
          refine lv_bipush (v := 57) hx hb dX7_kindAt_38 (by decide) ?_
          refine lv_icmp_gt (tgt := 45) hx hb dX7_kindAt_40 (by decide) (fun c_13 => ?_) (fun c_13 => ?_)
          · skip
            refine lv_iload_n hx hb dX7_kindAt_45 rfl (lv_at hl 0 rfl) ?_
            refine lv_bipush (v := 59) hx hb dX7_kindAt_46 (by decide) ?_
            refine lv_icmp_ne (tgt := 53) hx hb dX7_kindAt_48 (by decide) (fun c_14 => ?_) (fun c_14 => ?_)
            · skip
              refine lv_iload_n hx hb dX7_kindAt_53 rfl (lv_at hl 0 rfl) ?_
              refine lv_bipush (v := 45) hx hb dX7_kindAt_54 (by decide) ?_
              refine lv_icmp_ne (tgt := 63) hx hb dX7_kindAt_56 (by decide) (fun c_15 => ?_) (fun c_15 => ?_)
              · skip
                refine lv_iconst (v := 5) hx hb dX7_kindAt_63 (by decide) ?_
                exact W.iret (v := 5) hx hb hr (fun t ht hW => ⟨5, rfl, (by first | exact kd_5 (by omega) (Or.inl (by assumption)) (Or.inl (by assumption)) (by assumption) (by assumption) | exact kd_5 (by omega) (Or.inl (by assumption)) (Or.inr (by assumption)) (by assumption) (by assumption) | exact kd_5 (by omega) (Or.inr (by assumption)) (Or.inl (by assumption)) (by assumption) (by assumption) | exact kd_5 (by omega) (Or.inr (by assumption)) (Or.inr (by assumption)) (by assumption) (by assumption)), ht⟩) (fun q h => by cases h) dX7_kindAt_64 hlk
              · skip
                refine lv_iconst (v := 4) hx hb dX7_kindAt_59 (by decide) ?_
                refine lv_goto (tgt := 64) hx hb dX7_kindAt_60 (by decide) ?_
                exact W.iret (v := 4) hx hb hr (fun t ht hW => ⟨4, rfl, (by first | exact kd_4 (by omega) (Or.inl (by assumption)) (Or.inl (by assumption)) (by assumption) (by assumption) | exact kd_4 (by omega) (Or.inl (by assumption)) (Or.inr (by assumption)) (by assumption) (by assumption) | exact kd_4 (by omega) (Or.inr (by assumption)) (Or.inl (by assumption)) (by assumption) (by assumption) | exact kd_4 (by omega) (Or.inr (by assumption)) (Or.inr (by assumption)) (by assumption) (by assumption)), ht⟩) (fun q h => by cases h) dX7_kindAt_64 hlk
            · skip
              refine lv_iconst (v := 3) hx hb dX7_kindAt_51 (by decide) ?_
              exact W.iret (v := 3) hx hb hr (fun t ht hW => ⟨3, rfl, (by first | exact kd_3 (by omega) (Or.inl (by assumption)) (Or.inl (by assumption)) (by assumption) | exact kd_3 (by omega) (Or.inl (by assumption)) (Or.inr (by assumption)) (by assumption) | exact kd_3 (by omega) (Or.inr (by assumption)) (Or.inl (by assumption)) (by assumption) | exact kd_3 (by omega) (Or.inr (by assumption)) (Or.inr (by assumption)) (by assumption)), ht⟩) (fun q h => by cases h) dX7_kindAt_52 hlk
          · skip
            refine lv_iconst (v := 2) hx hb dX7_kindAt_43 (by decide) ?_
            exact W.iret (v := 2) hx hb hr (fun t ht hW => ⟨2, rfl, (by first | exact kd_2 (by omega) (Or.inl (by assumption)) (by assumption) (by assumption) | exact kd_2 (by omega) (Or.inr (by assumption)) (by assumption) (by assumption)), ht⟩) (fun q h => by cases h) dX7_kindAt_44 hlk
      · skip
        refine lv_iconst (v := 1) hx hb dX7_kindAt_29 (by decide) ?_
        exact W.iret (v := 1) hx hb hr (fun t ht hW => ⟨1, rfl, (kd_1 (by omega) (by assumption) (by assumption)), ht⟩) (fun q h => by cases h) dX7_kindAt_30 hlk
  · skip
    have nc_1 : z ≤ j := xn_nlt (a := j) (b := z) (by omega) (by omega) c_1
    refine lv_iconst (v := 0) hx hb dX7_kindAt_8 (by decide) ?_
    exact W.iret (v := 0) hx hb hr (fun t ht hW => ⟨0, rfl, (kd_0 (by omega)), ht⟩) (fun q h => by cases h) dX7_kindAt_9 hlk
set_option maxHeartbeats 4000000 in
set_option maxRecDepth 100000 in
theorem c_X7_step (l : Launch) (D : va_G) (cI cJ cZ cS : ClassId) (ta : Nat) (sa sv : Nat → Nat) (sz : Nat) (h0 : Nat) (ab : Nat) (z : Nat) (s9 : Nat) (x9 : Nat) (v9 : Nat) (tk : Int32) (t9 : Int32) (by9 : Nat → Int32) (hz : z ≤ 120) (ht2 : x9 ≤ z) : Met l yX7_step (Cond.code yX7_step cX7_step 3 none :: wsU) ({ frames := 1, cells := 0, slots := 0, locals := 40 }) (va_Pc [.ref h0] (XW D (xT cI cJ cZ cS) ta sa sv [(h0, .inr (7, [.int (nI (z)), .ref ab, .int tk, .int (nI (s9)), .int (nI (x9)), .int (nI (v9)), .int t9])), (ab, .inl (cI, 120, .inl by9))] sz)) (XQv (fun (u : Nat × Nat × Nat × Int32) => match u with | (s2, x2, v2, tk2) => (s2 = nf (bA by9 z) z x9) ∧ (x2 = nx (bA by9 z) z x9) ∧ (tk2 = kd (bA by9 z) z s2) ∧ (v2 = cv (bA by9 z) z s2 x2) ∧ (s2 ≤ x2) ∧ (x2 ≤ z) ∧ (v2 ≤ 10000) ∧ (x9 ≤ s2)) D (fun (u : Nat × Nat × Nat × Int32) => match u with | (s2, x2, v2, tk2) => [(h0, .inr (7, [.int (nI (z)), .ref ab, .int tk2, .int (nI (s2)), .int (nI (x2)), .int (nI (v2)), .int t9])), (ab, .inl (cI, 120, .inl by9))]) (va_A [(h0, .inr (7, [.int (nI (z)), .ref ab, .int tk, .int (nI (s9)), .int (nI (x9)), .int (nI (v9)), .int t9])), (ab, .inl (cI, 120, .inl by9))] sz)) 0 0 (va_A [(h0, .inr (7, [.int (nI (z)), .ref ab, .int tk, .int (nI (s9)), .int (nI (x9)), .int (nI (v9)), .int t9])), (ab, .inl (cI, 120, .inl by9))] sz) := by
  refine xh (QA := fun A => XQv (fun (u : Nat × Nat × Nat × Int32) => match u with | (s2, x2, v2, tk2) => (s2 = nf (bA by9 z) z x9) ∧ (x2 = nx (bA by9 z) z x9) ∧ (tk2 = kd (bA by9 z) z s2) ∧ (v2 = cv (bA by9 z) z s2 x2) ∧ (s2 ≤ x2) ∧ (x2 ≤ z) ∧ (v2 ≤ 10000) ∧ (x9 ≤ s2)) D (fun (u : Nat × Nat × Nat × Int32) => match u with | (s2, x2, v2, tk2) => [(h0, .inr (7, [.int (nI (z)), .ref ab, .int tk2, .int (nI (s2)), .int (nI (x2)), .int (nI (v2)), .int t9])), (ab, .inl (cI, 120, .inl by9))]) A) (fr := fun A => A) (by decide) (Nat.le_of_ble_eq_true rfl) ?_
  intro p e s m below meth c ls A hF hr hlk hin hsz hP hK hD hN hZ hA hS hl
  have hF : CallFix p m c cX7_step 3 s _ _ RX7 := hF
  have hx := hF.1
  have hb := hF.2.1
  have hml := hF.2.2.1
  have hown := hF.2.2.2.1
  have hu : ∀ w ∈ wsU, w.before _ s = true := fun w h => hF.2.2.2.2 w (List.mem_cons_of_mem _ h)
  have hl : lv_has ls 3 [(0, .ref h0)] := hl
  refine lv_aload_n hx hb dX7_step_0 rfl (lv_at hl 0 rfl) ?_
  refine xg hF kf_X7_25 hK hP 0 rfl rfl dX7_step_1 ?_
  refine lv_istore_n (lv' := [(1, .int (nI (x9))), (0, .ref h0)]) hx hb dX7_step_4 rfl hl (by decide) rfl (fun ls hl => ?_)
  suffices loop_5 : ∀ (n_5 : Nat) (a9 : Nat) (H : Heap) (locs : List Loc) (ls : Array Slot), z - a9 < n_5 → (a9 ≤ z) → (x9 ≤ a9) → (skp (bA by9 z) (z - a9) a9 = nf (bA by9 z) z x9) → va_P D vwCl [(h0, .inr (7, [.int (nI (z)), .ref ab, .int tk, .int (nI (s9)), .int (nI (x9)), .int (nI (v9)), .int t9])), (ab, .inl (cI, 120, .inl by9))] H → va_D A [(h0, .inr (7, [.int (nI (z)), .ref ab, .int tk, .int (nI (s9)), .int (nI (x9)), .int (nI (v9)), .int t9])), (ab, .inl (cI, 120, .inl by9))] → va_S A s.heap H locs → lv_has ls 3 [(1, .int (nI (a9))), (0, .ref h0)] → W p l e ({ frames := 1, cells := 0, slots := 0, locals := 40 }) s m ([.ref h0] : List Value).toArray below meth c H locs 0 0 (MQ below (XQv (fun (u : Nat × Nat × Nat × Int32) => match u with | (s2, x2, v2, tk2) => (s2 = nf (bA by9 z) z x9) ∧ (x2 = nx (bA by9 z) z x9) ∧ (tk2 = kd (bA by9 z) z s2) ∧ (v2 = cv (bA by9 z) z s2 x2) ∧ (s2 ≤ x2) ∧ (x2 ≤ z) ∧ (v2 ≤ 10000) ∧ (x9 ≤ s2)) D (fun (u : Nat × Nat × Nat × Int32) => match u with | (s2, x2, v2, tk2) => [(h0, .inr (7, [.int (nI (z)), .ref ab, .int tk2, .int (nI (s2)), .int (nI (x2)), .int (nI (v2)), .int t9])), (ab, .inl (cI, 120, .inl by9))]) A) ([.ref h0] : List Value).toArray s 0 0 A) (F0 m 5 ls []) by
    exact loop_5 _ x9 _ _ _ (Nat.lt_succ_self _) (by omega) (by omega) rfl hP hD hS (lv_sub hl [0, 1] rfl)
  intro n_5
  induction n_5 with
  | zero =>
    intro a9 H locs ls hm_5
    exact absurd hm_5 (Nat.not_lt_zero _)
  | succ n_5 ih_5 =>
    intro a9 H locs ls hm_5 ha hxa hs hP hD hS hl
    refine lv_iload_n hx hb dX7_step_5 rfl (lv_at hl 0 rfl) ?_
    refine lv_aload_n hx hb dX7_step_6 rfl (lv_at hl 1 rfl) ?_
    refine xg hF kf_X7_9 hK hP 0 rfl rfl dX7_step_7 ?_
    refine lv_icmp_ge (tgt := 30) hx hb dX7_step_10 (by decide) (fun c_1 => ?_) (fun c_1 => ?_)
    · skip
      have nc_1 : z ≤ a9 := xn_le (a := z) (b := a9) (by omega) (by omega) c_1
      have hn9 : nf (bA by9 z) z x9 = a9 := hs.symm.trans (skp_end (by omega))
      refine lv_aload_n hx hb dX7_step_30 rfl (lv_at hl 1 rfl) ?_
      refine lv_iload_n hx hb dX7_step_31 rfl (lv_at hl 0 rfl) ?_
      refine xp hF kf_X7_22 tyX7_ok nmX7 hK hP hD hS 0 rfl rfl rfl rfl (Nat.le_of_ble_eq_true rfl) dX7_step_32 (fun H locs hP hD hS => ?_)
      have hP : va_P D vwCl [(h0, .inr (7, [.int (nI (z)), .ref ab, .int tk, .int (nI (a9)), .int (nI (x9)), .int (nI (v9)), .int t9])), (ab, .inl (cI, 120, .inl by9))] H := hP
      have hD : va_D A [(h0, .inr (7, [.int (nI (z)), .ref ab, .int tk, .int (nI (a9)), .int (nI (x9)), .int (nI (v9)), .int t9])), (ab, .inl (cI, 120, .inl by9))] := hD
      refine lv_aload_n hx hb dX7_step_35 rfl (lv_at hl 1 rfl) ?_
      refine lv_aload_n hx hb dX7_step_36 rfl (lv_at hl 1 rfl) ?_
      refine lv_iload_n hx hb dX7_step_37 rfl (lv_at hl 0 rfl) ?_
      refine xc_Vr hF (c_X7_kindAt l D cI cJ cZ cS ta sa sv H.size h0 ab z a9 x9 v9 tk t9 by9 a9 (by omega) (by omega)) kv_X7_142 ⟨rfl, rfl, Nat.le_of_ble_eq_true rfl, Nat.le_of_ble_eq_true rfl⟩ ⟨Nat.le_of_ble_eq_true rfl, Nat.le_of_ble_eq_true rfl⟩ hK hN hZ hP hD hS hA [0, 1] rfl rfl 0 rfl rfl rfl rfl hl.1 rfl (Nat.le_of_ble_eq_true rfl) dX7_step_38 (fun r_2 hw_r_2 => ?_)
      subst hw_r_2
      refine xp hF kf_X7_19 tyX7_ok nmX7 hK hP hD hS 0 rfl rfl rfl rfl (Nat.le_of_ble_eq_true rfl) dX7_step_41 (fun H locs hP hD hS => ?_)
      have hP : va_P D vwCl [(h0, .inr (7, [.int (nI (z)), .ref ab, .int (kd (bA by9 z) z a9), .int (nI (a9)), .int (nI (x9)), .int (nI (v9)), .int t9])), (ab, .inl (cI, 120, .inl by9))] H := hP
      have hD : va_D A [(h0, .inr (7, [.int (nI (z)), .ref ab, .int (kd (bA by9 z) z a9), .int (nI (a9)), .int (nI (x9)), .int (nI (v9)), .int t9])), (ab, .inl (cI, 120, .inl by9))] := hD
      refine lv_aload_n hx hb dX7_step_44 rfl (lv_at hl 1 rfl) ?_
      refine lv_iconst (v := 0) hx hb dX7_step_45 (by decide) ?_
      refine xp hF kf_X7_28 tyX7_ok nmX7 hK hP hD hS 0 rfl rfl rfl rfl (Nat.le_of_ble_eq_true rfl) dX7_step_46 (fun H locs hP hD hS => ?_)
      have hP : va_P D vwCl [(h0, .inr (7, [.int (nI (z)), .ref ab, .int (kd (bA by9 z) z a9), .int (nI (a9)), .int (nI (x9)), .int 0, .int t9])), (ab, .inl (cI, 120, .inl by9))] H := hP
      have hD : va_D A [(h0, .inr (7, [.int (nI (z)), .ref ab, .int (kd (bA by9 z) z a9), .int (nI (a9)), .int (nI (x9)), .int 0, .int t9])), (ab, .inl (cI, 120, .inl by9))] := hD
      refine lv_aload_n hx hb dX7_step_49 rfl (lv_at hl 1 rfl) ?_
      refine xg hF kf_X7_19 hK hP 0 rfl rfl dX7_step_50 ?_
      refine lv_iconst (v := 1) hx hb dX7_step_53 (by decide) ?_
      refine lv_icmp_eq (tgt := 65) hx hb dX7_step_54 (by decide) (fun c_3 => ?_) (fun c_3 => ?_)
      · skip
        refine lv_iconst (v := 1) hx hb dX7_step_65 (by decide) ?_
        refine lv_goto (tgt := 70) hx hb dX7_step_66 (by decide) ?_
        refine lv_istore_n (lv' := [(2, .int 1), (1, .int (nI (a9))), (0, .ref h0)]) hx hb dX7_step_70 rfl hl (by decide) rfl (fun ls hl => ?_)
        suffices loop_71 : ∀ (n_71 : Nat) (a8 : Nat) (H : Heap) (locs : List Loc) (ls : Array Slot), z - a8 < n_71 → (a8 ≤ z) → (a9 ≤ a8) → (a8 = a9 ∨ (a9 < a8 ∧ rnL (bA by9 z) (z - a8) a8 = ne (bA by9 z) z a9)) → va_P D vwCl [(h0, .inr (7, [.int (nI (z)), .ref ab, .int (kd (bA by9 z) z a9), .int (nI (a9)), .int (nI (x9)), .int 0, .int t9])), (ab, .inl (cI, 120, .inl by9))] H → va_D A [(h0, .inr (7, [.int (nI (z)), .ref ab, .int (kd (bA by9 z) z a9), .int (nI (a9)), .int (nI (x9)), .int 0, .int t9])), (ab, .inl (cI, 120, .inl by9))] → va_S A s.heap H locs → lv_has ls 3 [(2, .int 1), (1, .int (nI (a8))), (0, .ref h0)] → W p l e ({ frames := 1, cells := 0, slots := 0, locals := 40 }) s m ([.ref h0] : List Value).toArray below meth c H locs 0 0 (MQ below (XQv (fun (u : Nat × Nat × Nat × Int32) => match u with | (s2, x2, v2, tk2) => (s2 = nf (bA by9 z) z x9) ∧ (x2 = nx (bA by9 z) z x9) ∧ (tk2 = kd (bA by9 z) z s2) ∧ (v2 = cv (bA by9 z) z s2 x2) ∧ (s2 ≤ x2) ∧ (x2 ≤ z) ∧ (v2 ≤ 10000) ∧ (x9 ≤ s2)) D (fun (u : Nat × Nat × Nat × Int32) => match u with | (s2, x2, v2, tk2) => [(h0, .inr (7, [.int (nI (z)), .ref ab, .int tk2, .int (nI (s2)), .int (nI (x2)), .int (nI (v2)), .int t9])), (ab, .inl (cI, 120, .inl by9))]) A) ([.ref h0] : List Value).toArray s 0 0 A) (F0 m 71 ls []) by
          exact loop_71 _ a9 _ _ _ (Nat.lt_succ_self _) (by omega) (by omega) (Or.inl rfl) hP hD hS (lv_sub hl [0, 1, 2] rfl)
        intro n_71
        induction n_71 with
        | zero =>
          intro a8 H locs ls hm_71
          exact absurd hm_71 (Nat.not_lt_zero _)
        | succ n_71 ih_71 =>
          intro a8 H locs ls hm_71 ha8 ha7 hI8 hP hD hS hl
          refine lv_iload_n hx hb dX7_step_71 rfl (lv_at hl 1 rfl) ?_
          refine lv_aload_n hx hb dX7_step_72 rfl (lv_at hl 2 rfl) ?_
          refine xg hF kf_X7_9 hK hP 0 rfl rfl dX7_step_73 ?_
          refine lv_icmp_ge (tgt := 144) hx hb dX7_step_76 (by decide) (fun c_4 => ?_) (fun c_4 => ?_)
          · skip
            have nc_4 : z ≤ a8 := xn_le (a := z) (b := a8) (by omega) (by omega) c_4
            refine lv_aload_n hx hb dX7_step_144 rfl (lv_at hl 2 rfl) ?_
            refine lv_iload_n hx hb dX7_step_145 rfl (lv_at hl 1 rfl) ?_
            refine xp hF kf_X7_25 tyX7_ok nmX7 hK hP hD hS 0 rfl rfl rfl rfl (Nat.le_of_ble_eq_true rfl) dX7_step_146 (fun H locs hP hD hS => ?_)
            have hP : va_P D vwCl [(h0, .inr (7, [.int (nI (z)), .ref ab, .int (kd (bA by9 z) z a9), .int (nI (a9)), .int (nI (a8)), .int 0, .int t9])), (ab, .inl (cI, 120, .inl by9))] H := hP
            have hD : va_D A [(h0, .inr (7, [.int (nI (z)), .ref ab, .int (kd (bA by9 z) z a9), .int (nI (a9)), .int (nI (a8)), .int 0, .int t9])), (ab, .inl (cI, 120, .inl by9))] := hD
            exact W.vret hx hb hr (fun t ht hW => ⟨⟨(a9, a8, 0, kd (bA by9 z) z a9), rfl, ⟨hn9.symm, (by unfold nx; rw [hn9]; exact st_We c_3 hI8 (by first | exact Or.inl (by omega) | exact Or.inr (by assumption))), rfl, (st_V0 (fun h => absurd (c_3.symm.trans h) (by decide))), (by first | assumption | omega), (by first | assumption | omega), (by first | assumption | omega), (by first | assumption | omega)⟩, by rw [ht]; exact hP.sub [0, 1] rfl, hD.sub [0, 1] (by decide) rfl⟩, hS.F ht⟩) hS.2.2 dX7_step_149 hlk
          · skip
            have nc_4 : a8 < z := xn_nle (a := z) (b := a8) (by omega) (by omega) c_4
            refine lv_aload_n hx hb dX7_step_79 rfl (lv_at hl 2 rfl) ?_
            refine lv_iload_n hx hb dX7_step_80 rfl (lv_at hl 1 rfl) ?_
            refine xc_Vr hF (c_X7_kindAt l D cI cJ cZ cS ta sa sv H.size h0 ab z a9 x9 0 (kd (bA by9 z) z a9) t9 by9 a8 (by omega) (by omega)) kv_X7_142 ⟨rfl, rfl, Nat.le_of_ble_eq_true rfl, Nat.le_of_ble_eq_true rfl⟩ ⟨Nat.le_of_ble_eq_true rfl, Nat.le_of_ble_eq_true rfl⟩ hK hN hZ hP hD hS hA [0, 1] rfl rfl 0 rfl rfl rfl rfl hl.1 rfl (Nat.le_of_ble_eq_true rfl) dX7_step_81 (fun r_5 hw_r_5 => ?_)
            subst hw_r_5
            refine lv_aload_n hx hb dX7_step_84 rfl (lv_at hl 2 rfl) ?_
            refine xg hF kf_X7_19 hK hP 0 rfl rfl dX7_step_85 ?_
            refine lv_icmp_ne (tgt := 144) hx hb dX7_step_88 (by decide) (fun c_6 => ?_) (fun c_6 => ?_)
            · skip
              refine lv_aload_n hx hb dX7_step_144 rfl (lv_at hl 2 rfl) ?_
              refine lv_iload_n hx hb dX7_step_145 rfl (lv_at hl 1 rfl) ?_
              refine xp hF kf_X7_25 tyX7_ok nmX7 hK hP hD hS 0 rfl rfl rfl rfl (Nat.le_of_ble_eq_true rfl) dX7_step_146 (fun H locs hP hD hS => ?_)
              have hP : va_P D vwCl [(h0, .inr (7, [.int (nI (z)), .ref ab, .int (kd (bA by9 z) z a9), .int (nI (a9)), .int (nI (a8)), .int 0, .int t9])), (ab, .inl (cI, 120, .inl by9))] H := hP
              have hD : va_D A [(h0, .inr (7, [.int (nI (z)), .ref ab, .int (kd (bA by9 z) z a9), .int (nI (a9)), .int (nI (a8)), .int 0, .int t9])), (ab, .inl (cI, 120, .inl by9))] := hD
              exact W.vret hx hb hr (fun t ht hW => ⟨⟨(a9, a8, 0, kd (bA by9 z) z a9), rfl, ⟨hn9.symm, (by unfold nx; rw [hn9]; exact st_We c_3 hI8 (by first | exact Or.inl (by omega) | exact Or.inr (by assumption))), rfl, (st_V0 (fun h => absurd (c_3.symm.trans h) (by decide))), (by first | assumption | omega), (by first | assumption | omega), (by first | assumption | omega), (by first | assumption | omega)⟩, by rw [ht]; exact hP.sub [0, 1] rfl, hD.sub [0, 1] (by decide) rfl⟩, hS.F ht⟩) hS.2.2 dX7_step_149 hlk
            · skip
              refine lv_iload_n hx hb dX7_step_91 rfl (lv_at hl 1 rfl) ?_
              refine lv_aload_n hx hb dX7_step_92 rfl (lv_at hl 2 rfl) ?_
              refine xg hF kf_X7_22 hK hP 0 rfl rfl dX7_step_93 ?_
              refine lv_icmp_eq (tgt := 103) hx hb dX7_step_96 (by decide) (fun c_7 => ?_) (fun c_7 => ?_)
              · skip
                have nc_7 : a8 = a9 := xn_eq (a := a8) (b := a9) (by omega) (by omega) c_7
                refine lv_aload_n hx hb dX7_step_103 rfl (lv_at hl 2 rfl) ?_
                refine xg hF kf_X7_19 hK hP 0 rfl rfl dX7_step_104 ?_
                refine lv_iconst (v := 2) hx hb dX7_step_107 (by decide) ?_
                refine lv_icmp_ne (tgt := 138) hx hb dX7_step_108 (by decide) (fun c_8 => ?_) (fun c_8 => absurd (c_3.symm.trans c_8) (by decide))
                refine lv_iinc (v := nI (a8 + 1)) (lv' := [(1, .int (nI (a8 + 1))), (2, .int 1), (0, .ref h0)]) hx hb dX7_step_138 hl (k := 1) rfl (nI_1 (a8)) (by decide) rfl (fun ls hl => ?_)
                refine lv_goto (tgt := 71) hx hb dX7_step_141 (by decide) ?_
                exact ih_71 (a8 + 1) _ _ _ (by omega) (by omega) (by omega) (st_Ws c_3 hI8 (by omega) c_6) (hP.sub [0, 1] rfl) (hD.sub [0, 1] (by decide) rfl) hS (lv_sub hl [1, 0, 2] rfl)
              · skip
                have nc_7 : a8 ≠ a9 := xn_ne (a := a8) (b := a9) (by omega) (by omega) c_7
                refine lv_iload_n hx hb dX7_step_99 rfl (lv_at hl 0 rfl) ?_
                refine lv_if_eq (tgt := 144) hx hb dX7_step_100 (by decide) (fun c_9 => absurd c_9 (by decide)) (fun c_9 => ?_)
                refine lv_aload_n hx hb dX7_step_103 rfl (lv_at hl 2 rfl) ?_
                refine xg hF kf_X7_19 hK hP 0 rfl rfl dX7_step_104 ?_
                refine lv_iconst (v := 2) hx hb dX7_step_107 (by decide) ?_
                refine lv_icmp_ne (tgt := 138) hx hb dX7_step_108 (by decide) (fun c_10 => ?_) (fun c_10 => absurd (c_3.symm.trans c_10) (by decide))
                refine lv_iinc (v := nI (a8 + 1)) (lv' := [(1, .int (nI (a8 + 1))), (2, .int 1), (0, .ref h0)]) hx hb dX7_step_138 hl (k := 1) rfl (nI_1 (a8)) (by decide) rfl (fun ls hl => ?_)
                refine lv_goto (tgt := 71) hx hb dX7_step_141 (by decide) ?_
                exact ih_71 (a8 + 1) _ _ _ (by omega) (by omega) (by omega) (st_Ws c_3 hI8 (by omega) c_6) (hP.sub [0, 1] rfl) (hD.sub [0, 1] (by decide) rfl) hS (lv_sub hl [1, 0, 2] rfl)
      · skip
        refine lv_aload_n hx hb dX7_step_57 rfl (lv_at hl 1 rfl) ?_
        refine xg hF kf_X7_19 hK hP 0 rfl rfl dX7_step_58 ?_
        refine lv_iconst (v := 2) hx hb dX7_step_61 (by decide) ?_
        refine lv_icmp_ne (tgt := 69) hx hb dX7_step_62 (by decide) (fun c_11 => ?_) (fun c_11 => ?_)
        · skip
          refine lv_iconst (v := 0) hx hb dX7_step_69 (by decide) ?_
          refine lv_istore_n (lv' := [(2, .int 0), (1, .int (nI (a9))), (0, .ref h0)]) hx hb dX7_step_70 rfl hl (by decide) rfl (fun ls hl => ?_)
          suffices loop_71 : ∀ (n_71 : Nat) (a8 : Nat) (H : Heap) (locs : List Loc) (ls : Array Slot), z - a8 < n_71 → (a8 ≤ z) → (a9 ≤ a8) → (a8 = a9 ∨ (a9 < z ∧ a8 = a9 + 1)) → va_P D vwCl [(h0, .inr (7, [.int (nI (z)), .ref ab, .int (kd (bA by9 z) z a9), .int (nI (a9)), .int (nI (x9)), .int 0, .int t9])), (ab, .inl (cI, 120, .inl by9))] H → va_D A [(h0, .inr (7, [.int (nI (z)), .ref ab, .int (kd (bA by9 z) z a9), .int (nI (a9)), .int (nI (x9)), .int 0, .int t9])), (ab, .inl (cI, 120, .inl by9))] → va_S A s.heap H locs → lv_has ls 3 [(2, .int 0), (1, .int (nI (a8))), (0, .ref h0)] → W p l e ({ frames := 1, cells := 0, slots := 0, locals := 40 }) s m ([.ref h0] : List Value).toArray below meth c H locs 0 0 (MQ below (XQv (fun (u : Nat × Nat × Nat × Int32) => match u with | (s2, x2, v2, tk2) => (s2 = nf (bA by9 z) z x9) ∧ (x2 = nx (bA by9 z) z x9) ∧ (tk2 = kd (bA by9 z) z s2) ∧ (v2 = cv (bA by9 z) z s2 x2) ∧ (s2 ≤ x2) ∧ (x2 ≤ z) ∧ (v2 ≤ 10000) ∧ (x9 ≤ s2)) D (fun (u : Nat × Nat × Nat × Int32) => match u with | (s2, x2, v2, tk2) => [(h0, .inr (7, [.int (nI (z)), .ref ab, .int tk2, .int (nI (s2)), .int (nI (x2)), .int (nI (v2)), .int t9])), (ab, .inl (cI, 120, .inl by9))]) A) ([.ref h0] : List Value).toArray s 0 0 A) (F0 m 71 ls []) by
            exact loop_71 _ a9 _ _ _ (Nat.lt_succ_self _) (by omega) (by omega) (Or.inl rfl) hP hD hS (lv_sub hl [0, 1, 2] rfl)
          intro n_71
          induction n_71 with
          | zero =>
            intro a8 H locs ls hm_71
            exact absurd hm_71 (Nat.not_lt_zero _)
          | succ n_71 ih_71 =>
            intro a8 H locs ls hm_71 ha8 ha7 hI8 hP hD hS hl
            refine lv_iload_n hx hb dX7_step_71 rfl (lv_at hl 1 rfl) ?_
            refine lv_aload_n hx hb dX7_step_72 rfl (lv_at hl 2 rfl) ?_
            refine xg hF kf_X7_9 hK hP 0 rfl rfl dX7_step_73 ?_
            refine lv_icmp_ge (tgt := 144) hx hb dX7_step_76 (by decide) (fun c_12 => ?_) (fun c_12 => ?_)
            · skip
              have nc_12 : z ≤ a8 := xn_le (a := z) (b := a8) (by omega) (by omega) c_12
              refine lv_aload_n hx hb dX7_step_144 rfl (lv_at hl 2 rfl) ?_
              refine lv_iload_n hx hb dX7_step_145 rfl (lv_at hl 1 rfl) ?_
              refine xp hF kf_X7_25 tyX7_ok nmX7 hK hP hD hS 0 rfl rfl rfl rfl (Nat.le_of_ble_eq_true rfl) dX7_step_146 (fun H locs hP hD hS => ?_)
              have hP : va_P D vwCl [(h0, .inr (7, [.int (nI (z)), .ref ab, .int (kd (bA by9 z) z a9), .int (nI (a9)), .int (nI (a8)), .int 0, .int t9])), (ab, .inl (cI, 120, .inl by9))] H := hP
              have hD : va_D A [(h0, .inr (7, [.int (nI (z)), .ref ab, .int (kd (bA by9 z) z a9), .int (nI (a9)), .int (nI (a8)), .int 0, .int t9])), (ab, .inl (cI, 120, .inl by9))] := hD
              exact W.vret hx hb hr (fun t ht hW => ⟨⟨(a9, a8, 0, kd (bA by9 z) z a9), rfl, ⟨hn9.symm, (by unfold nx; rw [hn9]; exact st_Oe c_3 c_11 hI8 (fun h => by first | exact Or.inl (by omega) | exact Or.inr (by assumption) | exact absurd h (by omega))), rfl, (st_V0 c_11), (by first | assumption | omega), (by first | assumption | omega), (by first | assumption | omega), (by first | assumption | omega)⟩, by rw [ht]; exact hP.sub [0, 1] rfl, hD.sub [0, 1] (by decide) rfl⟩, hS.F ht⟩) hS.2.2 dX7_step_149 hlk
            · skip
              have nc_12 : a8 < z := xn_nle (a := z) (b := a8) (by omega) (by omega) c_12
              refine lv_aload_n hx hb dX7_step_79 rfl (lv_at hl 2 rfl) ?_
              refine lv_iload_n hx hb dX7_step_80 rfl (lv_at hl 1 rfl) ?_
              refine xc_Vr hF (c_X7_kindAt l D cI cJ cZ cS ta sa sv H.size h0 ab z a9 x9 0 (kd (bA by9 z) z a9) t9 by9 a8 (by omega) (by omega)) kv_X7_142 ⟨rfl, rfl, Nat.le_of_ble_eq_true rfl, Nat.le_of_ble_eq_true rfl⟩ ⟨Nat.le_of_ble_eq_true rfl, Nat.le_of_ble_eq_true rfl⟩ hK hN hZ hP hD hS hA [0, 1] rfl rfl 0 rfl rfl rfl rfl hl.1 rfl (Nat.le_of_ble_eq_true rfl) dX7_step_81 (fun r_13 hw_r_13 => ?_)
              subst hw_r_13
              refine lv_aload_n hx hb dX7_step_84 rfl (lv_at hl 2 rfl) ?_
              refine xg hF kf_X7_19 hK hP 0 rfl rfl dX7_step_85 ?_
              refine lv_icmp_ne (tgt := 144) hx hb dX7_step_88 (by decide) (fun c_14 => ?_) (fun c_14 => ?_)
              · skip
                refine lv_aload_n hx hb dX7_step_144 rfl (lv_at hl 2 rfl) ?_
                refine lv_iload_n hx hb dX7_step_145 rfl (lv_at hl 1 rfl) ?_
                refine xp hF kf_X7_25 tyX7_ok nmX7 hK hP hD hS 0 rfl rfl rfl rfl (Nat.le_of_ble_eq_true rfl) dX7_step_146 (fun H locs hP hD hS => ?_)
                have hP : va_P D vwCl [(h0, .inr (7, [.int (nI (z)), .ref ab, .int (kd (bA by9 z) z a9), .int (nI (a9)), .int (nI (a8)), .int 0, .int t9])), (ab, .inl (cI, 120, .inl by9))] H := hP
                have hD : va_D A [(h0, .inr (7, [.int (nI (z)), .ref ab, .int (kd (bA by9 z) z a9), .int (nI (a9)), .int (nI (a8)), .int 0, .int t9])), (ab, .inl (cI, 120, .inl by9))] := hD
                exact W.vret hx hb hr (fun t ht hW => ⟨⟨(a9, a8, 0, kd (bA by9 z) z a9), rfl, ⟨hn9.symm, (by unfold nx; rw [hn9]; exact st_Oe c_3 c_11 hI8 (fun h => by first | exact Or.inl (by omega) | exact Or.inr (by assumption) | exact absurd h (by omega))), rfl, (st_V0 c_11), (by first | assumption | omega), (by first | assumption | omega), (by first | assumption | omega), (by first | assumption | omega)⟩, by rw [ht]; exact hP.sub [0, 1] rfl, hD.sub [0, 1] (by decide) rfl⟩, hS.F ht⟩) hS.2.2 dX7_step_149 hlk
              · skip
                refine lv_iload_n hx hb dX7_step_91 rfl (lv_at hl 1 rfl) ?_
                refine lv_aload_n hx hb dX7_step_92 rfl (lv_at hl 2 rfl) ?_
                refine xg hF kf_X7_22 hK hP 0 rfl rfl dX7_step_93 ?_
                refine lv_icmp_eq (tgt := 103) hx hb dX7_step_96 (by decide) (fun c_15 => ?_) (fun c_15 => ?_)
                · skip
                  have nc_15 : a8 = a9 := xn_eq (a := a8) (b := a9) (by omega) (by omega) c_15
                  refine lv_aload_n hx hb dX7_step_103 rfl (lv_at hl 2 rfl) ?_
                  refine xg hF kf_X7_19 hK hP 0 rfl rfl dX7_step_104 ?_
                  refine lv_iconst (v := 2) hx hb dX7_step_107 (by decide) ?_
                  refine lv_icmp_ne (tgt := 138) hx hb dX7_step_108 (by decide) (fun c_16 => ?_) (fun c_16 => absurd c_16 c_11)
                  refine lv_iinc (v := nI (a8 + 1)) (lv' := [(1, .int (nI (a8 + 1))), (2, .int 0), (0, .ref h0)]) hx hb dX7_step_138 hl (k := 1) rfl (nI_1 (a8)) (by decide) rfl (fun ls hl => ?_)
                  refine lv_goto (tgt := 71) hx hb dX7_step_141 (by decide) ?_
                  exact ih_71 (a8 + 1) _ _ _ (by omega) (by omega) (by omega) (Or.inr ⟨by omega, by omega⟩) (hP.sub [0, 1] rfl) (hD.sub [0, 1] (by decide) rfl) hS (lv_sub hl [1, 0, 2] rfl)
                · skip
                  have nc_15 : a8 ≠ a9 := xn_ne (a := a8) (b := a9) (by omega) (by omega) c_15
                  refine lv_iload_n hx hb dX7_step_99 rfl (lv_at hl 0 rfl) ?_
                  refine lv_if_eq (tgt := 144) hx hb dX7_step_100 (by decide) (fun c_17 => ?_) (fun c_17 => absurd (by decide) c_17)
                  refine lv_aload_n hx hb dX7_step_144 rfl (lv_at hl 2 rfl) ?_
                  refine lv_iload_n hx hb dX7_step_145 rfl (lv_at hl 1 rfl) ?_
                  refine xp hF kf_X7_25 tyX7_ok nmX7 hK hP hD hS 0 rfl rfl rfl rfl (Nat.le_of_ble_eq_true rfl) dX7_step_146 (fun H locs hP hD hS => ?_)
                  have hP : va_P D vwCl [(h0, .inr (7, [.int (nI (z)), .ref ab, .int (kd (bA by9 z) z a9), .int (nI (a9)), .int (nI (a8)), .int 0, .int t9])), (ab, .inl (cI, 120, .inl by9))] H := hP
                  have hD : va_D A [(h0, .inr (7, [.int (nI (z)), .ref ab, .int (kd (bA by9 z) z a9), .int (nI (a9)), .int (nI (a8)), .int 0, .int t9])), (ab, .inl (cI, 120, .inl by9))] := hD
                  exact W.vret hx hb hr (fun t ht hW => ⟨⟨(a9, a8, 0, kd (bA by9 z) z a9), rfl, ⟨hn9.symm, (by unfold nx; rw [hn9]; exact st_Oe c_3 c_11 hI8 (fun h => by first | exact Or.inl (by omega) | exact Or.inr (by assumption) | exact absurd h (by omega))), rfl, (st_V0 c_11), (by first | assumption | omega), (by first | assumption | omega), (by first | assumption | omega), (by first | assumption | omega)⟩, by rw [ht]; exact hP.sub [0, 1] rfl, hD.sub [0, 1] (by decide) rfl⟩, hS.F ht⟩) hS.2.2 dX7_step_149 hlk
        · skip
          refine lv_iconst (v := 1) hx hb dX7_step_65 (by decide) ?_
          refine lv_goto (tgt := 70) hx hb dX7_step_66 (by decide) ?_
          refine lv_istore_n (lv' := [(2, .int 1), (1, .int (nI (a9))), (0, .ref h0)]) hx hb dX7_step_70 rfl hl (by decide) rfl (fun ls hl => ?_)
          suffices loop_71 : ∀ (n_71 : Nat) (a8 : Nat) (v8 : Nat) (H : Heap) (locs : List Loc) (ls : Array Slot), z - a8 < n_71 → (a8 ≤ z) → (a9 ≤ a8) → (a8 = a9 ∨ (a9 < a8 ∧ rnD (bA by9 z) (z - a8) a8 = ne (bA by9 z) z a9)) → (v8 ≤ 10000) → (v8 = nvC (bA by9 z) (a8 - a9) a9 0) → va_P D vwCl [(h0, .inr (7, [.int (nI (z)), .ref ab, .int (kd (bA by9 z) z a9), .int (nI (a9)), .int (nI (x9)), .int (nI (v8)), .int t9])), (ab, .inl (cI, 120, .inl by9))] H → va_D A [(h0, .inr (7, [.int (nI (z)), .ref ab, .int (kd (bA by9 z) z a9), .int (nI (a9)), .int (nI (x9)), .int (nI (v8)), .int t9])), (ab, .inl (cI, 120, .inl by9))] → va_S A s.heap H locs → lv_has ls 3 [(2, .int 1), (1, .int (nI (a8))), (0, .ref h0)] → W p l e ({ frames := 1, cells := 0, slots := 0, locals := 40 }) s m ([.ref h0] : List Value).toArray below meth c H locs 0 0 (MQ below (XQv (fun (u : Nat × Nat × Nat × Int32) => match u with | (s2, x2, v2, tk2) => (s2 = nf (bA by9 z) z x9) ∧ (x2 = nx (bA by9 z) z x9) ∧ (tk2 = kd (bA by9 z) z s2) ∧ (v2 = cv (bA by9 z) z s2 x2) ∧ (s2 ≤ x2) ∧ (x2 ≤ z) ∧ (v2 ≤ 10000) ∧ (x9 ≤ s2)) D (fun (u : Nat × Nat × Nat × Int32) => match u with | (s2, x2, v2, tk2) => [(h0, .inr (7, [.int (nI (z)), .ref ab, .int tk2, .int (nI (s2)), .int (nI (x2)), .int (nI (v2)), .int t9])), (ab, .inl (cI, 120, .inl by9))]) A) ([.ref h0] : List Value).toArray s 0 0 A) (F0 m 71 ls []) by
            exact loop_71 _ a9 0 _ _ _ (Nat.lt_succ_self _) (by omega) (by omega) (Or.inl rfl) (by omega) (by rw [Nat.sub_self]; rfl) hP hD hS (lv_sub hl [0, 1, 2] rfl)
          intro n_71
          induction n_71 with
          | zero =>
            intro a8 v8 H locs ls hm_71
            exact absurd hm_71 (Nat.not_lt_zero _)
          | succ n_71 ih_71 =>
            intro a8 v8 H locs ls hm_71 ha8 ha7 hI8 hv8 hV8 hP hD hS hl
            refine lv_iload_n hx hb dX7_step_71 rfl (lv_at hl 1 rfl) ?_
            refine lv_aload_n hx hb dX7_step_72 rfl (lv_at hl 2 rfl) ?_
            refine xg hF kf_X7_9 hK hP 0 rfl rfl dX7_step_73 ?_
            refine lv_icmp_ge (tgt := 144) hx hb dX7_step_76 (by decide) (fun c_18 => ?_) (fun c_18 => ?_)
            · skip
              have nc_18 : z ≤ a8 := xn_le (a := z) (b := a8) (by omega) (by omega) c_18
              refine lv_aload_n hx hb dX7_step_144 rfl (lv_at hl 2 rfl) ?_
              refine lv_iload_n hx hb dX7_step_145 rfl (lv_at hl 1 rfl) ?_
              refine xp hF kf_X7_25 tyX7_ok nmX7 hK hP hD hS 0 rfl rfl rfl rfl (Nat.le_of_ble_eq_true rfl) dX7_step_146 (fun H locs hP hD hS => ?_)
              have hP : va_P D vwCl [(h0, .inr (7, [.int (nI (z)), .ref ab, .int (kd (bA by9 z) z a9), .int (nI (a9)), .int (nI (a8)), .int (nI (v8)), .int t9])), (ab, .inl (cI, 120, .inl by9))] H := hP
              have hD : va_D A [(h0, .inr (7, [.int (nI (z)), .ref ab, .int (kd (bA by9 z) z a9), .int (nI (a9)), .int (nI (a8)), .int (nI (v8)), .int t9])), (ab, .inl (cI, 120, .inl by9))] := hD
              exact W.vret hx hb hr (fun t ht hW => ⟨⟨(a9, a8, v8, kd (bA by9 z) z a9), rfl, ⟨hn9.symm, (by unfold nx; rw [hn9]; exact st_Ne c_11 hI8 (by first | exact Or.inl (by omega) | exact Or.inr (by assumption))), rfl, (st_Vc c_11 hV8), (by first | assumption | omega), (by first | assumption | omega), (by first | assumption | omega), (by first | assumption | omega)⟩, by rw [ht]; exact hP.sub [0, 1] rfl, hD.sub [0, 1] (by decide) rfl⟩, hS.F ht⟩) hS.2.2 dX7_step_149 hlk
            · skip
              have nc_18 : a8 < z := xn_nle (a := z) (b := a8) (by omega) (by omega) c_18
              refine lv_aload_n hx hb dX7_step_79 rfl (lv_at hl 2 rfl) ?_
              refine lv_iload_n hx hb dX7_step_80 rfl (lv_at hl 1 rfl) ?_
              refine xc_Vr hF (c_X7_kindAt l D cI cJ cZ cS ta sa sv H.size h0 ab z a9 x9 v8 (kd (bA by9 z) z a9) t9 by9 a8 (by omega) (by omega)) kv_X7_142 ⟨rfl, rfl, Nat.le_of_ble_eq_true rfl, Nat.le_of_ble_eq_true rfl⟩ ⟨Nat.le_of_ble_eq_true rfl, Nat.le_of_ble_eq_true rfl⟩ hK hN hZ hP hD hS hA [0, 1] rfl rfl 0 rfl rfl rfl rfl hl.1 rfl (Nat.le_of_ble_eq_true rfl) dX7_step_81 (fun r_19 hw_r_19 => ?_)
              subst hw_r_19
              refine lv_aload_n hx hb dX7_step_84 rfl (lv_at hl 2 rfl) ?_
              refine xg hF kf_X7_19 hK hP 0 rfl rfl dX7_step_85 ?_
              refine lv_icmp_ne (tgt := 144) hx hb dX7_step_88 (by decide) (fun c_20 => ?_) (fun c_20 => ?_)
              · skip
                refine lv_aload_n hx hb dX7_step_144 rfl (lv_at hl 2 rfl) ?_
                refine lv_iload_n hx hb dX7_step_145 rfl (lv_at hl 1 rfl) ?_
                refine xp hF kf_X7_25 tyX7_ok nmX7 hK hP hD hS 0 rfl rfl rfl rfl (Nat.le_of_ble_eq_true rfl) dX7_step_146 (fun H locs hP hD hS => ?_)
                have hP : va_P D vwCl [(h0, .inr (7, [.int (nI (z)), .ref ab, .int (kd (bA by9 z) z a9), .int (nI (a9)), .int (nI (a8)), .int (nI (v8)), .int t9])), (ab, .inl (cI, 120, .inl by9))] H := hP
                have hD : va_D A [(h0, .inr (7, [.int (nI (z)), .ref ab, .int (kd (bA by9 z) z a9), .int (nI (a9)), .int (nI (a8)), .int (nI (v8)), .int t9])), (ab, .inl (cI, 120, .inl by9))] := hD
                exact W.vret hx hb hr (fun t ht hW => ⟨⟨(a9, a8, v8, kd (bA by9 z) z a9), rfl, ⟨hn9.symm, (by unfold nx; rw [hn9]; exact st_Ne c_11 hI8 (by first | exact Or.inl (by omega) | exact Or.inr (by assumption))), rfl, (st_Vc c_11 hV8), (by first | assumption | omega), (by first | assumption | omega), (by first | assumption | omega), (by first | assumption | omega)⟩, by rw [ht]; exact hP.sub [0, 1] rfl, hD.sub [0, 1] (by decide) rfl⟩, hS.F ht⟩) hS.2.2 dX7_step_149 hlk
              · skip
                refine lv_iload_n hx hb dX7_step_91 rfl (lv_at hl 1 rfl) ?_
                refine lv_aload_n hx hb dX7_step_92 rfl (lv_at hl 2 rfl) ?_
                refine xg hF kf_X7_22 hK hP 0 rfl rfl dX7_step_93 ?_
                refine lv_icmp_eq (tgt := 103) hx hb dX7_step_96 (by decide) (fun c_21 => ?_) (fun c_21 => ?_)
                · skip
                  have nc_21 : a8 = a9 := xn_eq (a := a8) (b := a9) (by omega) (by omega) c_21
                  refine lv_aload_n hx hb dX7_step_103 rfl (lv_at hl 2 rfl) ?_
                  refine xg hF kf_X7_19 hK hP 0 rfl rfl dX7_step_104 ?_
                  refine lv_iconst (v := 2) hx hb dX7_step_107 (by decide) ?_
                  refine lv_icmp_ne (tgt := 138) hx hb dX7_step_108 (by decide) (fun c_22 => absurd c_11 c_22) (fun c_22 => ?_)
                  refine lv_aload_n hx hb dX7_step_111 rfl (lv_at hl 2 rfl) ?_
                  refine lv_bipush (v := 10) hx hb dX7_step_112 (by decide) ?_
                  refine lv_aload_n hx hb dX7_step_114 rfl (lv_at hl 2 rfl) ?_
                  refine xg hF kf_X7_28 hK hP 0 rfl rfl dX7_step_115 ?_
                  refine lv_imul hx hb dX7_step_118 ?_
                  refine xl_i (y := nI (10 * v8)) (pk_mul 10 v8) ?_
                  refine lv_aload_n hx hb dX7_step_119 rfl (lv_at hl 2 rfl) ?_
                  refine xg hF kf_X7_15 hK hP 0 rfl rfl dX7_step_120 ?_
                  refine lv_iload_n hx hb dX7_step_123 rfl (lv_at hl 1 rfl) ?_
                  refine va_iald hx hb hK hP 1 0 rfl rfl (vp_in_nI (show a8 < 120 by omega) (by decide)) dX7_step_124 ?_
                  refine xl_i (y := by9 a8) (congrArg by9 (nI_clamp (show a8 < 2 ^ 31 by omega))) ?_
                  obtain ⟨z_23, ez_23, hz_230, hz_231⟩ := st_dig (c_20.trans c_22)
                  refine xl_i (y := nI (z_23)) ez_23 ?_
                  refine lv_iadd hx hb dX7_step_125 ?_
                  refine xl_i (y := nI (10 * v8 + z_23)) (nI_add (10 * v8) z_23) ?_
                  refine lv_bipush (v := 48) hx hb dX7_step_126 (by decide) ?_
                  refine lv_isub hx hb dX7_step_128 ?_
                  refine xl_i (y := nI (10 * v8 + z_23 - 48)) (pk_sub (show 48 ≤ 10 * v8 + z_23 by omega)) ?_
                  refine lv_sipush (v := 10000) hx hb dX7_step_129 (by decide) ?_
                  refine va_mmin hx hb (hml.trans hl.1.symm) hown (hu _ uw303) (hu _ uw137) (hu _ uw92) (hu _ uw138) (Nat.le_of_ble_eq_true rfl) (Nat.le_of_ble_eq_true rfl) (Nat.le_of_ble_eq_true rfl) (Nat.le_of_ble_eq_true rfl) dX7_step_132 ?_
                  obtain ⟨z_24, ez_24, hz_240, hz_241⟩ := xminE (a := 10 * v8 + z_23 - 48) (by omega)
                  refine xl_i (y := nI (z_24)) ez_24 ?_
                  refine xp hF kf_X7_28 tyX7_ok nmX7 hK hP hD hS 0 rfl rfl rfl rfl (Nat.le_of_ble_eq_true rfl) dX7_step_135 (fun H locs hP hD hS => ?_)
                  have hP : va_P D vwCl [(h0, .inr (7, [.int (nI (z)), .ref ab, .int (kd (bA by9 z) z a9), .int (nI (a9)), .int (nI (x9)), .int (nI (z_24)), .int t9])), (ab, .inl (cI, 120, .inl by9))] H := hP
                  have hD : va_D A [(h0, .inr (7, [.int (nI (z)), .ref ab, .int (kd (bA by9 z) z a9), .int (nI (a9)), .int (nI (x9)), .int (nI (z_24)), .int t9])), (ab, .inl (cI, 120, .inl by9))] := hD
                  refine lv_iinc (v := nI (a8 + 1)) (lv' := [(1, .int (nI (a8 + 1))), (2, .int 1), (0, .ref h0)]) hx hb dX7_step_138 hl (k := 1) rfl (nI_1 (a8)) (by decide) rfl (fun ls hl => ?_)
                  refine lv_goto (tgt := 71) hx hb dX7_step_141 (by decide) ?_
                  exact ih_71 (a8 + 1) z_24 _ _ _ (by omega) (by omega) (by omega) (st_Ns c_22 hI8 (by omega) c_20) (by omega) (st_V hV8 (by omega) (by omega) ez_23 (by omega) (by omega) hz_241) (hP.sub [0, 1] rfl) (hD.sub [0, 1] (by decide) rfl) hS (lv_sub hl [1, 0, 2] rfl)
                · skip
                  have nc_21 : a8 ≠ a9 := xn_ne (a := a8) (b := a9) (by omega) (by omega) c_21
                  refine lv_iload_n hx hb dX7_step_99 rfl (lv_at hl 0 rfl) ?_
                  refine lv_if_eq (tgt := 144) hx hb dX7_step_100 (by decide) (fun c_25 => absurd c_25 (by decide)) (fun c_25 => ?_)
                  refine lv_aload_n hx hb dX7_step_103 rfl (lv_at hl 2 rfl) ?_
                  refine xg hF kf_X7_19 hK hP 0 rfl rfl dX7_step_104 ?_
                  refine lv_iconst (v := 2) hx hb dX7_step_107 (by decide) ?_
                  refine lv_icmp_ne (tgt := 138) hx hb dX7_step_108 (by decide) (fun c_26 => absurd c_11 c_26) (fun c_26 => ?_)
                  refine lv_aload_n hx hb dX7_step_111 rfl (lv_at hl 2 rfl) ?_
                  refine lv_bipush (v := 10) hx hb dX7_step_112 (by decide) ?_
                  refine lv_aload_n hx hb dX7_step_114 rfl (lv_at hl 2 rfl) ?_
                  refine xg hF kf_X7_28 hK hP 0 rfl rfl dX7_step_115 ?_
                  refine lv_imul hx hb dX7_step_118 ?_
                  refine xl_i (y := nI (10 * v8)) (pk_mul 10 v8) ?_
                  refine lv_aload_n hx hb dX7_step_119 rfl (lv_at hl 2 rfl) ?_
                  refine xg hF kf_X7_15 hK hP 0 rfl rfl dX7_step_120 ?_
                  refine lv_iload_n hx hb dX7_step_123 rfl (lv_at hl 1 rfl) ?_
                  refine va_iald hx hb hK hP 1 0 rfl rfl (vp_in_nI (show a8 < 120 by omega) (by decide)) dX7_step_124 ?_
                  refine xl_i (y := by9 a8) (congrArg by9 (nI_clamp (show a8 < 2 ^ 31 by omega))) ?_
                  obtain ⟨z_27, ez_27, hz_270, hz_271⟩ := st_dig (c_20.trans c_26)
                  refine xl_i (y := nI (z_27)) ez_27 ?_
                  refine lv_iadd hx hb dX7_step_125 ?_
                  refine xl_i (y := nI (10 * v8 + z_27)) (nI_add (10 * v8) z_27) ?_
                  refine lv_bipush (v := 48) hx hb dX7_step_126 (by decide) ?_
                  refine lv_isub hx hb dX7_step_128 ?_
                  refine xl_i (y := nI (10 * v8 + z_27 - 48)) (pk_sub (show 48 ≤ 10 * v8 + z_27 by omega)) ?_
                  refine lv_sipush (v := 10000) hx hb dX7_step_129 (by decide) ?_
                  refine va_mmin hx hb (hml.trans hl.1.symm) hown (hu _ uw303) (hu _ uw137) (hu _ uw92) (hu _ uw138) (Nat.le_of_ble_eq_true rfl) (Nat.le_of_ble_eq_true rfl) (Nat.le_of_ble_eq_true rfl) (Nat.le_of_ble_eq_true rfl) dX7_step_132 ?_
                  obtain ⟨z_28, ez_28, hz_280, hz_281⟩ := xminE (a := 10 * v8 + z_27 - 48) (by omega)
                  refine xl_i (y := nI (z_28)) ez_28 ?_
                  refine xp hF kf_X7_28 tyX7_ok nmX7 hK hP hD hS 0 rfl rfl rfl rfl (Nat.le_of_ble_eq_true rfl) dX7_step_135 (fun H locs hP hD hS => ?_)
                  have hP : va_P D vwCl [(h0, .inr (7, [.int (nI (z)), .ref ab, .int (kd (bA by9 z) z a9), .int (nI (a9)), .int (nI (x9)), .int (nI (z_28)), .int t9])), (ab, .inl (cI, 120, .inl by9))] H := hP
                  have hD : va_D A [(h0, .inr (7, [.int (nI (z)), .ref ab, .int (kd (bA by9 z) z a9), .int (nI (a9)), .int (nI (x9)), .int (nI (z_28)), .int t9])), (ab, .inl (cI, 120, .inl by9))] := hD
                  refine lv_iinc (v := nI (a8 + 1)) (lv' := [(1, .int (nI (a8 + 1))), (2, .int 1), (0, .ref h0)]) hx hb dX7_step_138 hl (k := 1) rfl (nI_1 (a8)) (by decide) rfl (fun ls hl => ?_)
                  refine lv_goto (tgt := 71) hx hb dX7_step_141 (by decide) ?_
                  exact ih_71 (a8 + 1) z_28 _ _ _ (by omega) (by omega) (by omega) (st_Ns c_26 hI8 (by omega) c_20) (by omega) (st_V hV8 (by omega) (by omega) ez_27 (by omega) (by omega) hz_281) (hP.sub [0, 1] rfl) (hD.sub [0, 1] (by decide) rfl) hS (lv_sub hl [1, 0, 2] rfl)
    · skip
      have nc_1 : a9 < z := xn_nle (a := z) (b := a9) (by omega) (by omega) c_1
      refine lv_aload_n hx hb dX7_step_13 rfl (lv_at hl 1 rfl) ?_
      refine xg hF kf_X7_15 hK hP 0 rfl rfl dX7_step_14 ?_
      refine lv_iload_n hx hb dX7_step_17 rfl (lv_at hl 0 rfl) ?_
      refine va_iald hx hb hK hP 1 0 rfl rfl (vp_in_nI (show a9 < 120 by omega) (by decide)) dX7_step_18 ?_
      refine xl_i (y := by9 a9) (congrArg by9 (nI_clamp (show a9 < 2 ^ 31 by omega))) ?_
      refine lv_bipush (v := 32) hx hb dX7_step_19 (by decide) ?_
      refine lv_icmp_ne (tgt := 30) hx hb dX7_step_21 (by decide) (fun c_29 => ?_) (fun c_29 => ?_)
      · skip
        have hn9 : nf (bA by9 z) z x9 = a9 := hs.symm.trans (skp_stop (fun h => c_29 ((bA_in (show a9 < z by omega)).trans h)))
        refine lv_aload_n hx hb dX7_step_30 rfl (lv_at hl 1 rfl) ?_
        refine lv_iload_n hx hb dX7_step_31 rfl (lv_at hl 0 rfl) ?_
        refine xp hF kf_X7_22 tyX7_ok nmX7 hK hP hD hS 0 rfl rfl rfl rfl (Nat.le_of_ble_eq_true rfl) dX7_step_32 (fun H locs hP hD hS => ?_)
        have hP : va_P D vwCl [(h0, .inr (7, [.int (nI (z)), .ref ab, .int tk, .int (nI (a9)), .int (nI (x9)), .int (nI (v9)), .int t9])), (ab, .inl (cI, 120, .inl by9))] H := hP
        have hD : va_D A [(h0, .inr (7, [.int (nI (z)), .ref ab, .int tk, .int (nI (a9)), .int (nI (x9)), .int (nI (v9)), .int t9])), (ab, .inl (cI, 120, .inl by9))] := hD
        refine lv_aload_n hx hb dX7_step_35 rfl (lv_at hl 1 rfl) ?_
        refine lv_aload_n hx hb dX7_step_36 rfl (lv_at hl 1 rfl) ?_
        refine lv_iload_n hx hb dX7_step_37 rfl (lv_at hl 0 rfl) ?_
        refine xc_Vr hF (c_X7_kindAt l D cI cJ cZ cS ta sa sv H.size h0 ab z a9 x9 v9 tk t9 by9 a9 (by omega) (by omega)) kv_X7_142 ⟨rfl, rfl, Nat.le_of_ble_eq_true rfl, Nat.le_of_ble_eq_true rfl⟩ ⟨Nat.le_of_ble_eq_true rfl, Nat.le_of_ble_eq_true rfl⟩ hK hN hZ hP hD hS hA [0, 1] rfl rfl 0 rfl rfl rfl rfl hl.1 rfl (Nat.le_of_ble_eq_true rfl) dX7_step_38 (fun r_30 hw_r_30 => ?_)
        subst hw_r_30
        refine xp hF kf_X7_19 tyX7_ok nmX7 hK hP hD hS 0 rfl rfl rfl rfl (Nat.le_of_ble_eq_true rfl) dX7_step_41 (fun H locs hP hD hS => ?_)
        have hP : va_P D vwCl [(h0, .inr (7, [.int (nI (z)), .ref ab, .int (kd (bA by9 z) z a9), .int (nI (a9)), .int (nI (x9)), .int (nI (v9)), .int t9])), (ab, .inl (cI, 120, .inl by9))] H := hP
        have hD : va_D A [(h0, .inr (7, [.int (nI (z)), .ref ab, .int (kd (bA by9 z) z a9), .int (nI (a9)), .int (nI (x9)), .int (nI (v9)), .int t9])), (ab, .inl (cI, 120, .inl by9))] := hD
        refine lv_aload_n hx hb dX7_step_44 rfl (lv_at hl 1 rfl) ?_
        refine lv_iconst (v := 0) hx hb dX7_step_45 (by decide) ?_
        refine xp hF kf_X7_28 tyX7_ok nmX7 hK hP hD hS 0 rfl rfl rfl rfl (Nat.le_of_ble_eq_true rfl) dX7_step_46 (fun H locs hP hD hS => ?_)
        have hP : va_P D vwCl [(h0, .inr (7, [.int (nI (z)), .ref ab, .int (kd (bA by9 z) z a9), .int (nI (a9)), .int (nI (x9)), .int 0, .int t9])), (ab, .inl (cI, 120, .inl by9))] H := hP
        have hD : va_D A [(h0, .inr (7, [.int (nI (z)), .ref ab, .int (kd (bA by9 z) z a9), .int (nI (a9)), .int (nI (x9)), .int 0, .int t9])), (ab, .inl (cI, 120, .inl by9))] := hD
        refine lv_aload_n hx hb dX7_step_49 rfl (lv_at hl 1 rfl) ?_
        refine xg hF kf_X7_19 hK hP 0 rfl rfl dX7_step_50 ?_
        refine lv_iconst (v := 1) hx hb dX7_step_53 (by decide) ?_
        refine lv_icmp_eq (tgt := 65) hx hb dX7_step_54 (by decide) (fun c_31 => ?_) (fun c_31 => ?_)
        · skip
          refine lv_iconst (v := 1) hx hb dX7_step_65 (by decide) ?_
          refine lv_goto (tgt := 70) hx hb dX7_step_66 (by decide) ?_
          refine lv_istore_n (lv' := [(2, .int 1), (1, .int (nI (a9))), (0, .ref h0)]) hx hb dX7_step_70 rfl hl (by decide) rfl (fun ls hl => ?_)
          suffices loop_71 : ∀ (n_71 : Nat) (a8 : Nat) (H : Heap) (locs : List Loc) (ls : Array Slot), z - a8 < n_71 → (a8 ≤ z) → (a9 ≤ a8) → (a8 = a9 ∨ (a9 < a8 ∧ rnL (bA by9 z) (z - a8) a8 = ne (bA by9 z) z a9)) → va_P D vwCl [(h0, .inr (7, [.int (nI (z)), .ref ab, .int (kd (bA by9 z) z a9), .int (nI (a9)), .int (nI (x9)), .int 0, .int t9])), (ab, .inl (cI, 120, .inl by9))] H → va_D A [(h0, .inr (7, [.int (nI (z)), .ref ab, .int (kd (bA by9 z) z a9), .int (nI (a9)), .int (nI (x9)), .int 0, .int t9])), (ab, .inl (cI, 120, .inl by9))] → va_S A s.heap H locs → lv_has ls 3 [(2, .int 1), (1, .int (nI (a8))), (0, .ref h0)] → W p l e ({ frames := 1, cells := 0, slots := 0, locals := 40 }) s m ([.ref h0] : List Value).toArray below meth c H locs 0 0 (MQ below (XQv (fun (u : Nat × Nat × Nat × Int32) => match u with | (s2, x2, v2, tk2) => (s2 = nf (bA by9 z) z x9) ∧ (x2 = nx (bA by9 z) z x9) ∧ (tk2 = kd (bA by9 z) z s2) ∧ (v2 = cv (bA by9 z) z s2 x2) ∧ (s2 ≤ x2) ∧ (x2 ≤ z) ∧ (v2 ≤ 10000) ∧ (x9 ≤ s2)) D (fun (u : Nat × Nat × Nat × Int32) => match u with | (s2, x2, v2, tk2) => [(h0, .inr (7, [.int (nI (z)), .ref ab, .int tk2, .int (nI (s2)), .int (nI (x2)), .int (nI (v2)), .int t9])), (ab, .inl (cI, 120, .inl by9))]) A) ([.ref h0] : List Value).toArray s 0 0 A) (F0 m 71 ls []) by
            exact loop_71 _ a9 _ _ _ (Nat.lt_succ_self _) (by omega) (by omega) (Or.inl rfl) hP hD hS (lv_sub hl [0, 1, 2] rfl)
          intro n_71
          induction n_71 with
          | zero =>
            intro a8 H locs ls hm_71
            exact absurd hm_71 (Nat.not_lt_zero _)
          | succ n_71 ih_71 =>
            intro a8 H locs ls hm_71 ha8 ha7 hI8 hP hD hS hl
            refine lv_iload_n hx hb dX7_step_71 rfl (lv_at hl 1 rfl) ?_
            refine lv_aload_n hx hb dX7_step_72 rfl (lv_at hl 2 rfl) ?_
            refine xg hF kf_X7_9 hK hP 0 rfl rfl dX7_step_73 ?_
            refine lv_icmp_ge (tgt := 144) hx hb dX7_step_76 (by decide) (fun c_32 => ?_) (fun c_32 => ?_)
            · skip
              have nc_32 : z ≤ a8 := xn_le (a := z) (b := a8) (by omega) (by omega) c_32
              refine lv_aload_n hx hb dX7_step_144 rfl (lv_at hl 2 rfl) ?_
              refine lv_iload_n hx hb dX7_step_145 rfl (lv_at hl 1 rfl) ?_
              refine xp hF kf_X7_25 tyX7_ok nmX7 hK hP hD hS 0 rfl rfl rfl rfl (Nat.le_of_ble_eq_true rfl) dX7_step_146 (fun H locs hP hD hS => ?_)
              have hP : va_P D vwCl [(h0, .inr (7, [.int (nI (z)), .ref ab, .int (kd (bA by9 z) z a9), .int (nI (a9)), .int (nI (a8)), .int 0, .int t9])), (ab, .inl (cI, 120, .inl by9))] H := hP
              have hD : va_D A [(h0, .inr (7, [.int (nI (z)), .ref ab, .int (kd (bA by9 z) z a9), .int (nI (a9)), .int (nI (a8)), .int 0, .int t9])), (ab, .inl (cI, 120, .inl by9))] := hD
              exact W.vret hx hb hr (fun t ht hW => ⟨⟨(a9, a8, 0, kd (bA by9 z) z a9), rfl, ⟨hn9.symm, (by unfold nx; rw [hn9]; exact st_We c_31 hI8 (by first | exact Or.inl (by omega) | exact Or.inr (by assumption))), rfl, (st_V0 (fun h => absurd (c_31.symm.trans h) (by decide))), (by first | assumption | omega), (by first | assumption | omega), (by first | assumption | omega), (by first | assumption | omega)⟩, by rw [ht]; exact hP.sub [0, 1] rfl, hD.sub [0, 1] (by decide) rfl⟩, hS.F ht⟩) hS.2.2 dX7_step_149 hlk
            · skip
              have nc_32 : a8 < z := xn_nle (a := z) (b := a8) (by omega) (by omega) c_32
              refine lv_aload_n hx hb dX7_step_79 rfl (lv_at hl 2 rfl) ?_
              refine lv_iload_n hx hb dX7_step_80 rfl (lv_at hl 1 rfl) ?_
              refine xc_Vr hF (c_X7_kindAt l D cI cJ cZ cS ta sa sv H.size h0 ab z a9 x9 0 (kd (bA by9 z) z a9) t9 by9 a8 (by omega) (by omega)) kv_X7_142 ⟨rfl, rfl, Nat.le_of_ble_eq_true rfl, Nat.le_of_ble_eq_true rfl⟩ ⟨Nat.le_of_ble_eq_true rfl, Nat.le_of_ble_eq_true rfl⟩ hK hN hZ hP hD hS hA [0, 1] rfl rfl 0 rfl rfl rfl rfl hl.1 rfl (Nat.le_of_ble_eq_true rfl) dX7_step_81 (fun r_33 hw_r_33 => ?_)
              subst hw_r_33
              refine lv_aload_n hx hb dX7_step_84 rfl (lv_at hl 2 rfl) ?_
              refine xg hF kf_X7_19 hK hP 0 rfl rfl dX7_step_85 ?_
              refine lv_icmp_ne (tgt := 144) hx hb dX7_step_88 (by decide) (fun c_34 => ?_) (fun c_34 => ?_)
              · skip
                refine lv_aload_n hx hb dX7_step_144 rfl (lv_at hl 2 rfl) ?_
                refine lv_iload_n hx hb dX7_step_145 rfl (lv_at hl 1 rfl) ?_
                refine xp hF kf_X7_25 tyX7_ok nmX7 hK hP hD hS 0 rfl rfl rfl rfl (Nat.le_of_ble_eq_true rfl) dX7_step_146 (fun H locs hP hD hS => ?_)
                have hP : va_P D vwCl [(h0, .inr (7, [.int (nI (z)), .ref ab, .int (kd (bA by9 z) z a9), .int (nI (a9)), .int (nI (a8)), .int 0, .int t9])), (ab, .inl (cI, 120, .inl by9))] H := hP
                have hD : va_D A [(h0, .inr (7, [.int (nI (z)), .ref ab, .int (kd (bA by9 z) z a9), .int (nI (a9)), .int (nI (a8)), .int 0, .int t9])), (ab, .inl (cI, 120, .inl by9))] := hD
                exact W.vret hx hb hr (fun t ht hW => ⟨⟨(a9, a8, 0, kd (bA by9 z) z a9), rfl, ⟨hn9.symm, (by unfold nx; rw [hn9]; exact st_We c_31 hI8 (by first | exact Or.inl (by omega) | exact Or.inr (by assumption))), rfl, (st_V0 (fun h => absurd (c_31.symm.trans h) (by decide))), (by first | assumption | omega), (by first | assumption | omega), (by first | assumption | omega), (by first | assumption | omega)⟩, by rw [ht]; exact hP.sub [0, 1] rfl, hD.sub [0, 1] (by decide) rfl⟩, hS.F ht⟩) hS.2.2 dX7_step_149 hlk
              · skip
                refine lv_iload_n hx hb dX7_step_91 rfl (lv_at hl 1 rfl) ?_
                refine lv_aload_n hx hb dX7_step_92 rfl (lv_at hl 2 rfl) ?_
                refine xg hF kf_X7_22 hK hP 0 rfl rfl dX7_step_93 ?_
                refine lv_icmp_eq (tgt := 103) hx hb dX7_step_96 (by decide) (fun c_35 => ?_) (fun c_35 => ?_)
                · skip
                  have nc_35 : a8 = a9 := xn_eq (a := a8) (b := a9) (by omega) (by omega) c_35
                  refine lv_aload_n hx hb dX7_step_103 rfl (lv_at hl 2 rfl) ?_
                  refine xg hF kf_X7_19 hK hP 0 rfl rfl dX7_step_104 ?_
                  refine lv_iconst (v := 2) hx hb dX7_step_107 (by decide) ?_
                  refine lv_icmp_ne (tgt := 138) hx hb dX7_step_108 (by decide) (fun c_36 => ?_) (fun c_36 => absurd (c_31.symm.trans c_36) (by decide))
                  refine lv_iinc (v := nI (a8 + 1)) (lv' := [(1, .int (nI (a8 + 1))), (2, .int 1), (0, .ref h0)]) hx hb dX7_step_138 hl (k := 1) rfl (nI_1 (a8)) (by decide) rfl (fun ls hl => ?_)
                  refine lv_goto (tgt := 71) hx hb dX7_step_141 (by decide) ?_
                  exact ih_71 (a8 + 1) _ _ _ (by omega) (by omega) (by omega) (st_Ws c_31 hI8 (by omega) c_34) (hP.sub [0, 1] rfl) (hD.sub [0, 1] (by decide) rfl) hS (lv_sub hl [1, 0, 2] rfl)
                · skip
                  have nc_35 : a8 ≠ a9 := xn_ne (a := a8) (b := a9) (by omega) (by omega) c_35
                  refine lv_iload_n hx hb dX7_step_99 rfl (lv_at hl 0 rfl) ?_
                  refine lv_if_eq (tgt := 144) hx hb dX7_step_100 (by decide) (fun c_37 => absurd c_37 (by decide)) (fun c_37 => ?_)
                  refine lv_aload_n hx hb dX7_step_103 rfl (lv_at hl 2 rfl) ?_
                  refine xg hF kf_X7_19 hK hP 0 rfl rfl dX7_step_104 ?_
                  refine lv_iconst (v := 2) hx hb dX7_step_107 (by decide) ?_
                  refine lv_icmp_ne (tgt := 138) hx hb dX7_step_108 (by decide) (fun c_38 => ?_) (fun c_38 => absurd (c_31.symm.trans c_38) (by decide))
                  refine lv_iinc (v := nI (a8 + 1)) (lv' := [(1, .int (nI (a8 + 1))), (2, .int 1), (0, .ref h0)]) hx hb dX7_step_138 hl (k := 1) rfl (nI_1 (a8)) (by decide) rfl (fun ls hl => ?_)
                  refine lv_goto (tgt := 71) hx hb dX7_step_141 (by decide) ?_
                  exact ih_71 (a8 + 1) _ _ _ (by omega) (by omega) (by omega) (st_Ws c_31 hI8 (by omega) c_34) (hP.sub [0, 1] rfl) (hD.sub [0, 1] (by decide) rfl) hS (lv_sub hl [1, 0, 2] rfl)
        · skip
          refine lv_aload_n hx hb dX7_step_57 rfl (lv_at hl 1 rfl) ?_
          refine xg hF kf_X7_19 hK hP 0 rfl rfl dX7_step_58 ?_
          refine lv_iconst (v := 2) hx hb dX7_step_61 (by decide) ?_
          refine lv_icmp_ne (tgt := 69) hx hb dX7_step_62 (by decide) (fun c_39 => ?_) (fun c_39 => ?_)
          · skip
            refine lv_iconst (v := 0) hx hb dX7_step_69 (by decide) ?_
            refine lv_istore_n (lv' := [(2, .int 0), (1, .int (nI (a9))), (0, .ref h0)]) hx hb dX7_step_70 rfl hl (by decide) rfl (fun ls hl => ?_)
            suffices loop_71 : ∀ (n_71 : Nat) (a8 : Nat) (H : Heap) (locs : List Loc) (ls : Array Slot), z - a8 < n_71 → (a8 ≤ z) → (a9 ≤ a8) → (a8 = a9 ∨ (a9 < z ∧ a8 = a9 + 1)) → va_P D vwCl [(h0, .inr (7, [.int (nI (z)), .ref ab, .int (kd (bA by9 z) z a9), .int (nI (a9)), .int (nI (x9)), .int 0, .int t9])), (ab, .inl (cI, 120, .inl by9))] H → va_D A [(h0, .inr (7, [.int (nI (z)), .ref ab, .int (kd (bA by9 z) z a9), .int (nI (a9)), .int (nI (x9)), .int 0, .int t9])), (ab, .inl (cI, 120, .inl by9))] → va_S A s.heap H locs → lv_has ls 3 [(2, .int 0), (1, .int (nI (a8))), (0, .ref h0)] → W p l e ({ frames := 1, cells := 0, slots := 0, locals := 40 }) s m ([.ref h0] : List Value).toArray below meth c H locs 0 0 (MQ below (XQv (fun (u : Nat × Nat × Nat × Int32) => match u with | (s2, x2, v2, tk2) => (s2 = nf (bA by9 z) z x9) ∧ (x2 = nx (bA by9 z) z x9) ∧ (tk2 = kd (bA by9 z) z s2) ∧ (v2 = cv (bA by9 z) z s2 x2) ∧ (s2 ≤ x2) ∧ (x2 ≤ z) ∧ (v2 ≤ 10000) ∧ (x9 ≤ s2)) D (fun (u : Nat × Nat × Nat × Int32) => match u with | (s2, x2, v2, tk2) => [(h0, .inr (7, [.int (nI (z)), .ref ab, .int tk2, .int (nI (s2)), .int (nI (x2)), .int (nI (v2)), .int t9])), (ab, .inl (cI, 120, .inl by9))]) A) ([.ref h0] : List Value).toArray s 0 0 A) (F0 m 71 ls []) by
              exact loop_71 _ a9 _ _ _ (Nat.lt_succ_self _) (by omega) (by omega) (Or.inl rfl) hP hD hS (lv_sub hl [0, 1, 2] rfl)
            intro n_71
            induction n_71 with
            | zero =>
              intro a8 H locs ls hm_71
              exact absurd hm_71 (Nat.not_lt_zero _)
            | succ n_71 ih_71 =>
              intro a8 H locs ls hm_71 ha8 ha7 hI8 hP hD hS hl
              refine lv_iload_n hx hb dX7_step_71 rfl (lv_at hl 1 rfl) ?_
              refine lv_aload_n hx hb dX7_step_72 rfl (lv_at hl 2 rfl) ?_
              refine xg hF kf_X7_9 hK hP 0 rfl rfl dX7_step_73 ?_
              refine lv_icmp_ge (tgt := 144) hx hb dX7_step_76 (by decide) (fun c_40 => ?_) (fun c_40 => ?_)
              · skip
                have nc_40 : z ≤ a8 := xn_le (a := z) (b := a8) (by omega) (by omega) c_40
                refine lv_aload_n hx hb dX7_step_144 rfl (lv_at hl 2 rfl) ?_
                refine lv_iload_n hx hb dX7_step_145 rfl (lv_at hl 1 rfl) ?_
                refine xp hF kf_X7_25 tyX7_ok nmX7 hK hP hD hS 0 rfl rfl rfl rfl (Nat.le_of_ble_eq_true rfl) dX7_step_146 (fun H locs hP hD hS => ?_)
                have hP : va_P D vwCl [(h0, .inr (7, [.int (nI (z)), .ref ab, .int (kd (bA by9 z) z a9), .int (nI (a9)), .int (nI (a8)), .int 0, .int t9])), (ab, .inl (cI, 120, .inl by9))] H := hP
                have hD : va_D A [(h0, .inr (7, [.int (nI (z)), .ref ab, .int (kd (bA by9 z) z a9), .int (nI (a9)), .int (nI (a8)), .int 0, .int t9])), (ab, .inl (cI, 120, .inl by9))] := hD
                exact W.vret hx hb hr (fun t ht hW => ⟨⟨(a9, a8, 0, kd (bA by9 z) z a9), rfl, ⟨hn9.symm, (by unfold nx; rw [hn9]; exact st_Oe c_31 c_39 hI8 (fun h => by first | exact Or.inl (by omega) | exact Or.inr (by assumption) | exact absurd h (by omega))), rfl, (st_V0 c_39), (by first | assumption | omega), (by first | assumption | omega), (by first | assumption | omega), (by first | assumption | omega)⟩, by rw [ht]; exact hP.sub [0, 1] rfl, hD.sub [0, 1] (by decide) rfl⟩, hS.F ht⟩) hS.2.2 dX7_step_149 hlk
              · skip
                have nc_40 : a8 < z := xn_nle (a := z) (b := a8) (by omega) (by omega) c_40
                refine lv_aload_n hx hb dX7_step_79 rfl (lv_at hl 2 rfl) ?_
                refine lv_iload_n hx hb dX7_step_80 rfl (lv_at hl 1 rfl) ?_
                refine xc_Vr hF (c_X7_kindAt l D cI cJ cZ cS ta sa sv H.size h0 ab z a9 x9 0 (kd (bA by9 z) z a9) t9 by9 a8 (by omega) (by omega)) kv_X7_142 ⟨rfl, rfl, Nat.le_of_ble_eq_true rfl, Nat.le_of_ble_eq_true rfl⟩ ⟨Nat.le_of_ble_eq_true rfl, Nat.le_of_ble_eq_true rfl⟩ hK hN hZ hP hD hS hA [0, 1] rfl rfl 0 rfl rfl rfl rfl hl.1 rfl (Nat.le_of_ble_eq_true rfl) dX7_step_81 (fun r_41 hw_r_41 => ?_)
                subst hw_r_41
                refine lv_aload_n hx hb dX7_step_84 rfl (lv_at hl 2 rfl) ?_
                refine xg hF kf_X7_19 hK hP 0 rfl rfl dX7_step_85 ?_
                refine lv_icmp_ne (tgt := 144) hx hb dX7_step_88 (by decide) (fun c_42 => ?_) (fun c_42 => ?_)
                · skip
                  refine lv_aload_n hx hb dX7_step_144 rfl (lv_at hl 2 rfl) ?_
                  refine lv_iload_n hx hb dX7_step_145 rfl (lv_at hl 1 rfl) ?_
                  refine xp hF kf_X7_25 tyX7_ok nmX7 hK hP hD hS 0 rfl rfl rfl rfl (Nat.le_of_ble_eq_true rfl) dX7_step_146 (fun H locs hP hD hS => ?_)
                  have hP : va_P D vwCl [(h0, .inr (7, [.int (nI (z)), .ref ab, .int (kd (bA by9 z) z a9), .int (nI (a9)), .int (nI (a8)), .int 0, .int t9])), (ab, .inl (cI, 120, .inl by9))] H := hP
                  have hD : va_D A [(h0, .inr (7, [.int (nI (z)), .ref ab, .int (kd (bA by9 z) z a9), .int (nI (a9)), .int (nI (a8)), .int 0, .int t9])), (ab, .inl (cI, 120, .inl by9))] := hD
                  exact W.vret hx hb hr (fun t ht hW => ⟨⟨(a9, a8, 0, kd (bA by9 z) z a9), rfl, ⟨hn9.symm, (by unfold nx; rw [hn9]; exact st_Oe c_31 c_39 hI8 (fun h => by first | exact Or.inl (by omega) | exact Or.inr (by assumption) | exact absurd h (by omega))), rfl, (st_V0 c_39), (by first | assumption | omega), (by first | assumption | omega), (by first | assumption | omega), (by first | assumption | omega)⟩, by rw [ht]; exact hP.sub [0, 1] rfl, hD.sub [0, 1] (by decide) rfl⟩, hS.F ht⟩) hS.2.2 dX7_step_149 hlk
                · skip
                  refine lv_iload_n hx hb dX7_step_91 rfl (lv_at hl 1 rfl) ?_
                  refine lv_aload_n hx hb dX7_step_92 rfl (lv_at hl 2 rfl) ?_
                  refine xg hF kf_X7_22 hK hP 0 rfl rfl dX7_step_93 ?_
                  refine lv_icmp_eq (tgt := 103) hx hb dX7_step_96 (by decide) (fun c_43 => ?_) (fun c_43 => ?_)
                  · skip
                    have nc_43 : a8 = a9 := xn_eq (a := a8) (b := a9) (by omega) (by omega) c_43
                    refine lv_aload_n hx hb dX7_step_103 rfl (lv_at hl 2 rfl) ?_
                    refine xg hF kf_X7_19 hK hP 0 rfl rfl dX7_step_104 ?_
                    refine lv_iconst (v := 2) hx hb dX7_step_107 (by decide) ?_
                    refine lv_icmp_ne (tgt := 138) hx hb dX7_step_108 (by decide) (fun c_44 => ?_) (fun c_44 => absurd c_44 c_39)
                    refine lv_iinc (v := nI (a8 + 1)) (lv' := [(1, .int (nI (a8 + 1))), (2, .int 0), (0, .ref h0)]) hx hb dX7_step_138 hl (k := 1) rfl (nI_1 (a8)) (by decide) rfl (fun ls hl => ?_)
                    refine lv_goto (tgt := 71) hx hb dX7_step_141 (by decide) ?_
                    exact ih_71 (a8 + 1) _ _ _ (by omega) (by omega) (by omega) (Or.inr ⟨by omega, by omega⟩) (hP.sub [0, 1] rfl) (hD.sub [0, 1] (by decide) rfl) hS (lv_sub hl [1, 0, 2] rfl)
                  · skip
                    have nc_43 : a8 ≠ a9 := xn_ne (a := a8) (b := a9) (by omega) (by omega) c_43
                    refine lv_iload_n hx hb dX7_step_99 rfl (lv_at hl 0 rfl) ?_
                    refine lv_if_eq (tgt := 144) hx hb dX7_step_100 (by decide) (fun c_45 => ?_) (fun c_45 => absurd (by decide) c_45)
                    refine lv_aload_n hx hb dX7_step_144 rfl (lv_at hl 2 rfl) ?_
                    refine lv_iload_n hx hb dX7_step_145 rfl (lv_at hl 1 rfl) ?_
                    refine xp hF kf_X7_25 tyX7_ok nmX7 hK hP hD hS 0 rfl rfl rfl rfl (Nat.le_of_ble_eq_true rfl) dX7_step_146 (fun H locs hP hD hS => ?_)
                    have hP : va_P D vwCl [(h0, .inr (7, [.int (nI (z)), .ref ab, .int (kd (bA by9 z) z a9), .int (nI (a9)), .int (nI (a8)), .int 0, .int t9])), (ab, .inl (cI, 120, .inl by9))] H := hP
                    have hD : va_D A [(h0, .inr (7, [.int (nI (z)), .ref ab, .int (kd (bA by9 z) z a9), .int (nI (a9)), .int (nI (a8)), .int 0, .int t9])), (ab, .inl (cI, 120, .inl by9))] := hD
                    exact W.vret hx hb hr (fun t ht hW => ⟨⟨(a9, a8, 0, kd (bA by9 z) z a9), rfl, ⟨hn9.symm, (by unfold nx; rw [hn9]; exact st_Oe c_31 c_39 hI8 (fun h => by first | exact Or.inl (by omega) | exact Or.inr (by assumption) | exact absurd h (by omega))), rfl, (st_V0 c_39), (by first | assumption | omega), (by first | assumption | omega), (by first | assumption | omega), (by first | assumption | omega)⟩, by rw [ht]; exact hP.sub [0, 1] rfl, hD.sub [0, 1] (by decide) rfl⟩, hS.F ht⟩) hS.2.2 dX7_step_149 hlk
          · skip
            refine lv_iconst (v := 1) hx hb dX7_step_65 (by decide) ?_
            refine lv_goto (tgt := 70) hx hb dX7_step_66 (by decide) ?_
            refine lv_istore_n (lv' := [(2, .int 1), (1, .int (nI (a9))), (0, .ref h0)]) hx hb dX7_step_70 rfl hl (by decide) rfl (fun ls hl => ?_)
            suffices loop_71 : ∀ (n_71 : Nat) (a8 : Nat) (v8 : Nat) (H : Heap) (locs : List Loc) (ls : Array Slot), z - a8 < n_71 → (a8 ≤ z) → (a9 ≤ a8) → (a8 = a9 ∨ (a9 < a8 ∧ rnD (bA by9 z) (z - a8) a8 = ne (bA by9 z) z a9)) → (v8 ≤ 10000) → (v8 = nvC (bA by9 z) (a8 - a9) a9 0) → va_P D vwCl [(h0, .inr (7, [.int (nI (z)), .ref ab, .int (kd (bA by9 z) z a9), .int (nI (a9)), .int (nI (x9)), .int (nI (v8)), .int t9])), (ab, .inl (cI, 120, .inl by9))] H → va_D A [(h0, .inr (7, [.int (nI (z)), .ref ab, .int (kd (bA by9 z) z a9), .int (nI (a9)), .int (nI (x9)), .int (nI (v8)), .int t9])), (ab, .inl (cI, 120, .inl by9))] → va_S A s.heap H locs → lv_has ls 3 [(2, .int 1), (1, .int (nI (a8))), (0, .ref h0)] → W p l e ({ frames := 1, cells := 0, slots := 0, locals := 40 }) s m ([.ref h0] : List Value).toArray below meth c H locs 0 0 (MQ below (XQv (fun (u : Nat × Nat × Nat × Int32) => match u with | (s2, x2, v2, tk2) => (s2 = nf (bA by9 z) z x9) ∧ (x2 = nx (bA by9 z) z x9) ∧ (tk2 = kd (bA by9 z) z s2) ∧ (v2 = cv (bA by9 z) z s2 x2) ∧ (s2 ≤ x2) ∧ (x2 ≤ z) ∧ (v2 ≤ 10000) ∧ (x9 ≤ s2)) D (fun (u : Nat × Nat × Nat × Int32) => match u with | (s2, x2, v2, tk2) => [(h0, .inr (7, [.int (nI (z)), .ref ab, .int tk2, .int (nI (s2)), .int (nI (x2)), .int (nI (v2)), .int t9])), (ab, .inl (cI, 120, .inl by9))]) A) ([.ref h0] : List Value).toArray s 0 0 A) (F0 m 71 ls []) by
              exact loop_71 _ a9 0 _ _ _ (Nat.lt_succ_self _) (by omega) (by omega) (Or.inl rfl) (by omega) (by rw [Nat.sub_self]; rfl) hP hD hS (lv_sub hl [0, 1, 2] rfl)
            intro n_71
            induction n_71 with
            | zero =>
              intro a8 v8 H locs ls hm_71
              exact absurd hm_71 (Nat.not_lt_zero _)
            | succ n_71 ih_71 =>
              intro a8 v8 H locs ls hm_71 ha8 ha7 hI8 hv8 hV8 hP hD hS hl
              refine lv_iload_n hx hb dX7_step_71 rfl (lv_at hl 1 rfl) ?_
              refine lv_aload_n hx hb dX7_step_72 rfl (lv_at hl 2 rfl) ?_
              refine xg hF kf_X7_9 hK hP 0 rfl rfl dX7_step_73 ?_
              refine lv_icmp_ge (tgt := 144) hx hb dX7_step_76 (by decide) (fun c_46 => ?_) (fun c_46 => ?_)
              · skip
                have nc_46 : z ≤ a8 := xn_le (a := z) (b := a8) (by omega) (by omega) c_46
                refine lv_aload_n hx hb dX7_step_144 rfl (lv_at hl 2 rfl) ?_
                refine lv_iload_n hx hb dX7_step_145 rfl (lv_at hl 1 rfl) ?_
                refine xp hF kf_X7_25 tyX7_ok nmX7 hK hP hD hS 0 rfl rfl rfl rfl (Nat.le_of_ble_eq_true rfl) dX7_step_146 (fun H locs hP hD hS => ?_)
                have hP : va_P D vwCl [(h0, .inr (7, [.int (nI (z)), .ref ab, .int (kd (bA by9 z) z a9), .int (nI (a9)), .int (nI (a8)), .int (nI (v8)), .int t9])), (ab, .inl (cI, 120, .inl by9))] H := hP
                have hD : va_D A [(h0, .inr (7, [.int (nI (z)), .ref ab, .int (kd (bA by9 z) z a9), .int (nI (a9)), .int (nI (a8)), .int (nI (v8)), .int t9])), (ab, .inl (cI, 120, .inl by9))] := hD
                exact W.vret hx hb hr (fun t ht hW => ⟨⟨(a9, a8, v8, kd (bA by9 z) z a9), rfl, ⟨hn9.symm, (by unfold nx; rw [hn9]; exact st_Ne c_39 hI8 (by first | exact Or.inl (by omega) | exact Or.inr (by assumption))), rfl, (st_Vc c_39 hV8), (by first | assumption | omega), (by first | assumption | omega), (by first | assumption | omega), (by first | assumption | omega)⟩, by rw [ht]; exact hP.sub [0, 1] rfl, hD.sub [0, 1] (by decide) rfl⟩, hS.F ht⟩) hS.2.2 dX7_step_149 hlk
              · skip
                have nc_46 : a8 < z := xn_nle (a := z) (b := a8) (by omega) (by omega) c_46
                refine lv_aload_n hx hb dX7_step_79 rfl (lv_at hl 2 rfl) ?_
                refine lv_iload_n hx hb dX7_step_80 rfl (lv_at hl 1 rfl) ?_
                refine xc_Vr hF (c_X7_kindAt l D cI cJ cZ cS ta sa sv H.size h0 ab z a9 x9 v8 (kd (bA by9 z) z a9) t9 by9 a8 (by omega) (by omega)) kv_X7_142 ⟨rfl, rfl, Nat.le_of_ble_eq_true rfl, Nat.le_of_ble_eq_true rfl⟩ ⟨Nat.le_of_ble_eq_true rfl, Nat.le_of_ble_eq_true rfl⟩ hK hN hZ hP hD hS hA [0, 1] rfl rfl 0 rfl rfl rfl rfl hl.1 rfl (Nat.le_of_ble_eq_true rfl) dX7_step_81 (fun r_47 hw_r_47 => ?_)
                subst hw_r_47
                refine lv_aload_n hx hb dX7_step_84 rfl (lv_at hl 2 rfl) ?_
                refine xg hF kf_X7_19 hK hP 0 rfl rfl dX7_step_85 ?_
                refine lv_icmp_ne (tgt := 144) hx hb dX7_step_88 (by decide) (fun c_48 => ?_) (fun c_48 => ?_)
                · skip
                  refine lv_aload_n hx hb dX7_step_144 rfl (lv_at hl 2 rfl) ?_
                  refine lv_iload_n hx hb dX7_step_145 rfl (lv_at hl 1 rfl) ?_
                  refine xp hF kf_X7_25 tyX7_ok nmX7 hK hP hD hS 0 rfl rfl rfl rfl (Nat.le_of_ble_eq_true rfl) dX7_step_146 (fun H locs hP hD hS => ?_)
                  have hP : va_P D vwCl [(h0, .inr (7, [.int (nI (z)), .ref ab, .int (kd (bA by9 z) z a9), .int (nI (a9)), .int (nI (a8)), .int (nI (v8)), .int t9])), (ab, .inl (cI, 120, .inl by9))] H := hP
                  have hD : va_D A [(h0, .inr (7, [.int (nI (z)), .ref ab, .int (kd (bA by9 z) z a9), .int (nI (a9)), .int (nI (a8)), .int (nI (v8)), .int t9])), (ab, .inl (cI, 120, .inl by9))] := hD
                  exact W.vret hx hb hr (fun t ht hW => ⟨⟨(a9, a8, v8, kd (bA by9 z) z a9), rfl, ⟨hn9.symm, (by unfold nx; rw [hn9]; exact st_Ne c_39 hI8 (by first | exact Or.inl (by omega) | exact Or.inr (by assumption))), rfl, (st_Vc c_39 hV8), (by first | assumption | omega), (by first | assumption | omega), (by first | assumption | omega), (by first | assumption | omega)⟩, by rw [ht]; exact hP.sub [0, 1] rfl, hD.sub [0, 1] (by decide) rfl⟩, hS.F ht⟩) hS.2.2 dX7_step_149 hlk
                · skip
                  refine lv_iload_n hx hb dX7_step_91 rfl (lv_at hl 1 rfl) ?_
                  refine lv_aload_n hx hb dX7_step_92 rfl (lv_at hl 2 rfl) ?_
                  refine xg hF kf_X7_22 hK hP 0 rfl rfl dX7_step_93 ?_
                  refine lv_icmp_eq (tgt := 103) hx hb dX7_step_96 (by decide) (fun c_49 => ?_) (fun c_49 => ?_)
                  · skip
                    have nc_49 : a8 = a9 := xn_eq (a := a8) (b := a9) (by omega) (by omega) c_49
                    refine lv_aload_n hx hb dX7_step_103 rfl (lv_at hl 2 rfl) ?_
                    refine xg hF kf_X7_19 hK hP 0 rfl rfl dX7_step_104 ?_
                    refine lv_iconst (v := 2) hx hb dX7_step_107 (by decide) ?_
                    refine lv_icmp_ne (tgt := 138) hx hb dX7_step_108 (by decide) (fun c_50 => absurd c_39 c_50) (fun c_50 => ?_)
                    refine lv_aload_n hx hb dX7_step_111 rfl (lv_at hl 2 rfl) ?_
                    refine lv_bipush (v := 10) hx hb dX7_step_112 (by decide) ?_
                    refine lv_aload_n hx hb dX7_step_114 rfl (lv_at hl 2 rfl) ?_
                    refine xg hF kf_X7_28 hK hP 0 rfl rfl dX7_step_115 ?_
                    refine lv_imul hx hb dX7_step_118 ?_
                    refine xl_i (y := nI (10 * v8)) (pk_mul 10 v8) ?_
                    refine lv_aload_n hx hb dX7_step_119 rfl (lv_at hl 2 rfl) ?_
                    refine xg hF kf_X7_15 hK hP 0 rfl rfl dX7_step_120 ?_
                    refine lv_iload_n hx hb dX7_step_123 rfl (lv_at hl 1 rfl) ?_
                    refine va_iald hx hb hK hP 1 0 rfl rfl (vp_in_nI (show a8 < 120 by omega) (by decide)) dX7_step_124 ?_
                    refine xl_i (y := by9 a8) (congrArg by9 (nI_clamp (show a8 < 2 ^ 31 by omega))) ?_
                    obtain ⟨z_51, ez_51, hz_510, hz_511⟩ := st_dig (c_48.trans c_50)
                    refine xl_i (y := nI (z_51)) ez_51 ?_
                    refine lv_iadd hx hb dX7_step_125 ?_
                    refine xl_i (y := nI (10 * v8 + z_51)) (nI_add (10 * v8) z_51) ?_
                    refine lv_bipush (v := 48) hx hb dX7_step_126 (by decide) ?_
                    refine lv_isub hx hb dX7_step_128 ?_
                    refine xl_i (y := nI (10 * v8 + z_51 - 48)) (pk_sub (show 48 ≤ 10 * v8 + z_51 by omega)) ?_
                    refine lv_sipush (v := 10000) hx hb dX7_step_129 (by decide) ?_
                    refine va_mmin hx hb (hml.trans hl.1.symm) hown (hu _ uw303) (hu _ uw137) (hu _ uw92) (hu _ uw138) (Nat.le_of_ble_eq_true rfl) (Nat.le_of_ble_eq_true rfl) (Nat.le_of_ble_eq_true rfl) (Nat.le_of_ble_eq_true rfl) dX7_step_132 ?_
                    obtain ⟨z_52, ez_52, hz_520, hz_521⟩ := xminE (a := 10 * v8 + z_51 - 48) (by omega)
                    refine xl_i (y := nI (z_52)) ez_52 ?_
                    refine xp hF kf_X7_28 tyX7_ok nmX7 hK hP hD hS 0 rfl rfl rfl rfl (Nat.le_of_ble_eq_true rfl) dX7_step_135 (fun H locs hP hD hS => ?_)
                    have hP : va_P D vwCl [(h0, .inr (7, [.int (nI (z)), .ref ab, .int (kd (bA by9 z) z a9), .int (nI (a9)), .int (nI (x9)), .int (nI (z_52)), .int t9])), (ab, .inl (cI, 120, .inl by9))] H := hP
                    have hD : va_D A [(h0, .inr (7, [.int (nI (z)), .ref ab, .int (kd (bA by9 z) z a9), .int (nI (a9)), .int (nI (x9)), .int (nI (z_52)), .int t9])), (ab, .inl (cI, 120, .inl by9))] := hD
                    refine lv_iinc (v := nI (a8 + 1)) (lv' := [(1, .int (nI (a8 + 1))), (2, .int 1), (0, .ref h0)]) hx hb dX7_step_138 hl (k := 1) rfl (nI_1 (a8)) (by decide) rfl (fun ls hl => ?_)
                    refine lv_goto (tgt := 71) hx hb dX7_step_141 (by decide) ?_
                    exact ih_71 (a8 + 1) z_52 _ _ _ (by omega) (by omega) (by omega) (st_Ns c_50 hI8 (by omega) c_48) (by omega) (st_V hV8 (by omega) (by omega) ez_51 (by omega) (by omega) hz_521) (hP.sub [0, 1] rfl) (hD.sub [0, 1] (by decide) rfl) hS (lv_sub hl [1, 0, 2] rfl)
                  · skip
                    have nc_49 : a8 ≠ a9 := xn_ne (a := a8) (b := a9) (by omega) (by omega) c_49
                    refine lv_iload_n hx hb dX7_step_99 rfl (lv_at hl 0 rfl) ?_
                    refine lv_if_eq (tgt := 144) hx hb dX7_step_100 (by decide) (fun c_53 => absurd c_53 (by decide)) (fun c_53 => ?_)
                    refine lv_aload_n hx hb dX7_step_103 rfl (lv_at hl 2 rfl) ?_
                    refine xg hF kf_X7_19 hK hP 0 rfl rfl dX7_step_104 ?_
                    refine lv_iconst (v := 2) hx hb dX7_step_107 (by decide) ?_
                    refine lv_icmp_ne (tgt := 138) hx hb dX7_step_108 (by decide) (fun c_54 => absurd c_39 c_54) (fun c_54 => ?_)
                    refine lv_aload_n hx hb dX7_step_111 rfl (lv_at hl 2 rfl) ?_
                    refine lv_bipush (v := 10) hx hb dX7_step_112 (by decide) ?_
                    refine lv_aload_n hx hb dX7_step_114 rfl (lv_at hl 2 rfl) ?_
                    refine xg hF kf_X7_28 hK hP 0 rfl rfl dX7_step_115 ?_
                    refine lv_imul hx hb dX7_step_118 ?_
                    refine xl_i (y := nI (10 * v8)) (pk_mul 10 v8) ?_
                    refine lv_aload_n hx hb dX7_step_119 rfl (lv_at hl 2 rfl) ?_
                    refine xg hF kf_X7_15 hK hP 0 rfl rfl dX7_step_120 ?_
                    refine lv_iload_n hx hb dX7_step_123 rfl (lv_at hl 1 rfl) ?_
                    refine va_iald hx hb hK hP 1 0 rfl rfl (vp_in_nI (show a8 < 120 by omega) (by decide)) dX7_step_124 ?_
                    refine xl_i (y := by9 a8) (congrArg by9 (nI_clamp (show a8 < 2 ^ 31 by omega))) ?_
                    obtain ⟨z_55, ez_55, hz_550, hz_551⟩ := st_dig (c_48.trans c_54)
                    refine xl_i (y := nI (z_55)) ez_55 ?_
                    refine lv_iadd hx hb dX7_step_125 ?_
                    refine xl_i (y := nI (10 * v8 + z_55)) (nI_add (10 * v8) z_55) ?_
                    refine lv_bipush (v := 48) hx hb dX7_step_126 (by decide) ?_
                    refine lv_isub hx hb dX7_step_128 ?_
                    refine xl_i (y := nI (10 * v8 + z_55 - 48)) (pk_sub (show 48 ≤ 10 * v8 + z_55 by omega)) ?_
                    refine lv_sipush (v := 10000) hx hb dX7_step_129 (by decide) ?_
                    refine va_mmin hx hb (hml.trans hl.1.symm) hown (hu _ uw303) (hu _ uw137) (hu _ uw92) (hu _ uw138) (Nat.le_of_ble_eq_true rfl) (Nat.le_of_ble_eq_true rfl) (Nat.le_of_ble_eq_true rfl) (Nat.le_of_ble_eq_true rfl) dX7_step_132 ?_
                    obtain ⟨z_56, ez_56, hz_560, hz_561⟩ := xminE (a := 10 * v8 + z_55 - 48) (by omega)
                    refine xl_i (y := nI (z_56)) ez_56 ?_
                    refine xp hF kf_X7_28 tyX7_ok nmX7 hK hP hD hS 0 rfl rfl rfl rfl (Nat.le_of_ble_eq_true rfl) dX7_step_135 (fun H locs hP hD hS => ?_)
                    have hP : va_P D vwCl [(h0, .inr (7, [.int (nI (z)), .ref ab, .int (kd (bA by9 z) z a9), .int (nI (a9)), .int (nI (x9)), .int (nI (z_56)), .int t9])), (ab, .inl (cI, 120, .inl by9))] H := hP
                    have hD : va_D A [(h0, .inr (7, [.int (nI (z)), .ref ab, .int (kd (bA by9 z) z a9), .int (nI (a9)), .int (nI (x9)), .int (nI (z_56)), .int t9])), (ab, .inl (cI, 120, .inl by9))] := hD
                    refine lv_iinc (v := nI (a8 + 1)) (lv' := [(1, .int (nI (a8 + 1))), (2, .int 1), (0, .ref h0)]) hx hb dX7_step_138 hl (k := 1) rfl (nI_1 (a8)) (by decide) rfl (fun ls hl => ?_)
                    refine lv_goto (tgt := 71) hx hb dX7_step_141 (by decide) ?_
                    exact ih_71 (a8 + 1) z_56 _ _ _ (by omega) (by omega) (by omega) (st_Ns c_54 hI8 (by omega) c_48) (by omega) (st_V hV8 (by omega) (by omega) ez_55 (by omega) (by omega) hz_561) (hP.sub [0, 1] rfl) (hD.sub [0, 1] (by decide) rfl) hS (lv_sub hl [1, 0, 2] rfl)
      · skip
        refine lv_iinc (v := nI (a9 + 1)) (lv' := [(1, .int (nI (a9 + 1))), (0, .ref h0)]) hx hb dX7_step_24 hl (k := 0) rfl (nI_1 (a9)) (by decide) rfl (fun ls hl => ?_)
        refine lv_goto (tgt := 5) hx hb dX7_step_27 (by decide) ?_
        exact ih_5 (a9 + 1) _ _ _ (by omega) (by omega) (by omega) ((skp_go (by omega) ((bA_in (by omega)).symm.trans c_29)).symm.trans hs) (hP.sub [0, 1] rfl) (hD.sub [0, 1] (by decide) rfl) hS (lv_sub hl [0, 1] rfl)
set_option maxHeartbeats 4000000 in
set_option maxRecDepth 100000 in
theorem c_X7_isWord (l : Launch) (D : va_G) (cI cJ cZ cS : ClassId) (ta : Nat) (sa sv : Nat → Nat) (sz : Nat) (h0 : Nat) (ab : Nat) (z : Nat) (s9 : Nat) (x9 : Nat) (t9 : Int32) (by9 : Nat → Int32) (i : Nat) (hi8 : i < 8) (hz : z ≤ 120) (ht1 : s9 ≤ x9) (ht2 : x9 ≤ z) : Met l yX7_isWord (Cond.code yX7_isWord cX7_isWord 3 (some .boolean) :: wsU) ({ frames := 4, cells := 0, slots := 0, locals := 85 }) (va_Pc [.ref h0, .ref (sa i)] (XW D (xT cI cJ cZ cS) ta sa sv [(h0, .inr (7, [.int (nI (z)), .ref ab, .int (kd (bA by9 z) z s9), .int (nI (s9)), .int (nI (x9)), .int (nI (cv (bA by9 z) z s9 x9)), .int t9])), (ab, .inl (cI, 120, .inl by9))] sz)) (vp_Si (fun r : Int32 => (r = 1 ∧ (isW (bA by9 z) s9 x9 i)) ∨ (r = 0 ∧ (¬ isW (bA by9 z) s9 x9 i)))) 0 0 (fun _ => False) := by
  refine xh (QA := fun _ => vp_Si (fun r : Int32 => (r = 1 ∧ (isW (bA by9 z) s9 x9 i)) ∨ (r = 0 ∧ (¬ isW (bA by9 z) s9 x9 i)))) (fr := fun _ _ => False) (by decide) (Nat.le_of_ble_eq_true rfl) ?_
  intro p e s m below meth c ls A hF hr hlk hin hsz hP hK hD hN hZ hA hS hl
  have hF : CallFix p m c cX7_isWord 3 s _ _ RX7 := hF
  have hx := hF.1
  have hb := hF.2.1
  have hml := hF.2.2.1
  have hown := hF.2.2.2.1
  have hu : ∀ w ∈ wsU, w.before _ s = true := fun w h => hF.2.2.2.2 w (List.mem_cons_of_mem _ h)
  have hl : lv_has ls 3 [(0, .ref h0), (1, .ref (sa i))] := hl
  have hx8 := xLen_lt i hi8
  refine lv_aload_n hx hb dX7_isWord_0 rfl (lv_at hl 0 rfl) ?_
  refine xg hF kf_X7_19 hK hP 0 rfl rfl dX7_isWord_1 ?_
  refine lv_iconst (v := 1) hx hb dX7_isWord_4 (by decide) ?_
  refine lv_icmp_ne (tgt := 24) hx hb dX7_isWord_5 (by decide) (fun c_1 => ?_) (fun c_1 => ?_)
  · skip
    refine lv_iconst (v := 0) hx hb dX7_isWord_24 (by decide) ?_
    exact W.zret (v := 0) hx hb hr rfl (fun t ht hW => ⟨0, rfl, Or.inr ⟨rfl, fun h => c_1 (isW_kd hi8 h)⟩, ht⟩) (fun q h => by cases h) dX7_isWord_25 hlk
  · skip
    refine lv_aload_n hx hb dX7_isWord_8 rfl (lv_at hl 0 rfl) ?_
    refine xg hF kf_X7_25 hK hP 0 rfl rfl dX7_isWord_9 ?_
    refine lv_aload_n hx hb dX7_isWord_12 rfl (lv_at hl 0 rfl) ?_
    refine xg hF kf_X7_22 hK hP 0 rfl rfl dX7_isWord_13 ?_
    refine lv_isub hx hb dX7_isWord_16 ?_
    refine xl_i (y := nI (x9 - s9)) (pk_sub (show s9 ≤ x9 by omega)) ?_
    refine lv_aload_n hx hb dX7_isWord_17 rfl (lv_at hl 1 rfl) ?_
    refine xc_Kr hF (c_J0_length_8abf5 l D cI cJ cZ cS ta sa sv s.heap.size i (by omega)) kv_X7_132 ⟨rfl, rfl, Nat.le_of_ble_eq_true rfl, Nat.le_of_ble_eq_true rfl⟩ ⟨Nat.le_of_ble_eq_true rfl, Nat.le_of_ble_eq_true rfl⟩ hK hN hZ hP hD hS hA [] rfl rfl hi8 rfl rfl hl.1 rfl (Nat.le_of_ble_eq_true rfl) dX7_isWord_18 (fun r_2 hw_r_2 => ?_)
    subst hw_r_2
    refine lv_icmp_eq (tgt := 26) hx hb dX7_isWord_21 (by decide) (fun c_3 => ?_) (fun c_3 => ?_)
    · skip
      have nc_3 : x9 - s9 = xLen.getD i 0 := xn_eq (a := (x9 - s9)) (b := (xLen.getD i 0)) (by omega) (by omega) c_3
      refine lv_iconst (v := 0) hx hb dX7_isWord_26 (by decide) ?_
      refine lv_istore_n (lv' := [(2, .int 0), (0, .ref h0), (1, .ref (sa i))]) hx hb dX7_isWord_27 rfl hl (by decide) rfl (fun ls hl => ?_)
      suffices loop_28 : ∀ (n_28 : Nat) (k : Nat) (ls : Array Slot), xLen.getD i 0 - k < n_28 → (k ≤ xLen.getD i 0) → (∀ k2, k2 < k → (bA by9 z) (s9 + k2) = xch i k2) → lv_has ls 3 [(2, .int (nI (k))), (0, .ref h0), (1, .ref (sa i))] → W p l e ({ frames := 4, cells := 0, slots := 0, locals := 85 }) s m ([.ref h0, .ref (sa i)] : List Value).toArray below meth c s.heap [] 0 0 (MQ below (vp_Si (fun r : Int32 => (r = 1 ∧ (isW (bA by9 z) s9 x9 i)) ∨ (r = 0 ∧ (¬ isW (bA by9 z) s9 x9 i)))) ([.ref h0, .ref (sa i)] : List Value).toArray s 0 0 (fun _ => False)) (F0 m 28 ls []) by
        exact loop_28 _ 0 _ (Nat.lt_succ_self _) (by omega) (fun k2 h => absurd h (Nat.not_lt_zero _)) (lv_sub hl [0, 1, 2] rfl)
      intro n_28
      induction n_28 with
      | zero =>
        intro k ls hm_28
        exact absurd hm_28 (Nat.not_lt_zero _)
      | succ n_28 ih_28 =>
        intro k ls hm_28 hk hw hl
        refine lv_iload_n hx hb dX7_isWord_28 rfl (lv_at hl 0 rfl) ?_
        refine lv_aload_n hx hb dX7_isWord_29 rfl (lv_at hl 2 rfl) ?_
        refine xc_Kr hF (c_J0_length_8abf5 l D cI cJ cZ cS ta sa sv s.heap.size i (by omega)) kv_X7_132 ⟨rfl, rfl, Nat.le_of_ble_eq_true rfl, Nat.le_of_ble_eq_true rfl⟩ ⟨Nat.le_of_ble_eq_true rfl, Nat.le_of_ble_eq_true rfl⟩ hK hN hZ hP hD hS hA [] rfl rfl hi8 rfl rfl hl.1 rfl (Nat.le_of_ble_eq_true rfl) dX7_isWord_30 (fun r_4 hw_r_4 => ?_)
        subst hw_r_4
        refine lv_icmp_ge (tgt := 63) hx hb dX7_isWord_33 (by decide) (fun c_5 => ?_) (fun c_5 => ?_)
        · skip
          have nc_5 : xLen.getD i 0 ≤ k := xn_le (a := (xLen.getD i 0)) (b := k) (by omega) (by omega) c_5
          refine lv_iconst (v := 1) hx hb dX7_isWord_63 (by decide) ?_
          exact W.zret (v := 1) hx hb hr rfl (fun t ht hW => ⟨1, rfl, Or.inl ⟨rfl, by omega, fun k2 hk2 => hw k2 (by omega)⟩, ht⟩) (fun q h => by cases h) dX7_isWord_64 hlk
        · skip
          have nc_5 : k < xLen.getD i 0 := xn_nle (a := (xLen.getD i 0)) (b := k) (by omega) (by omega) c_5
          refine lv_aload_n hx hb dX7_isWord_36 rfl (lv_at hl 1 rfl) ?_
          refine xg hF kf_X7_15 hK hP 0 rfl rfl dX7_isWord_37 ?_
          refine lv_aload_n hx hb dX7_isWord_40 rfl (lv_at hl 1 rfl) ?_
          refine xg hF kf_X7_22 hK hP 0 rfl rfl dX7_isWord_41 ?_
          refine lv_iload_n hx hb dX7_isWord_44 rfl (lv_at hl 0 rfl) ?_
          refine lv_iadd hx hb dX7_isWord_45 ?_
          refine xl_i (y := nI (s9 + k)) (nI_add s9 k) ?_
          refine va_iald hx hb hK hP 1 0 rfl rfl (vp_in_nI (show s9 + k < 120 by omega) (by decide)) dX7_isWord_46 ?_
          refine xl_i (y := by9 (s9 + k)) (congrArg by9 (nI_clamp (show s9 + k < 2 ^ 31 by omega))) ?_
          refine lv_aload_n hx hb dX7_isWord_47 rfl (lv_at hl 2 rfl) ?_
          refine lv_iload_n hx hb dX7_isWord_48 rfl (lv_at hl 0 rfl) ?_
          refine xc_Kr hF (c_J0_charAt_5068e l D cI cJ cZ cS ta sa sv s.heap.size i k (by omega) (by omega)) kv_X7_138 ⟨rfl, rfl, Nat.le_of_ble_eq_true rfl, Nat.le_of_ble_eq_true rfl⟩ ⟨Nat.le_of_ble_eq_true rfl, Nat.le_of_ble_eq_true rfl⟩ hK hN hZ hP hD hS hA [] rfl rfl hi8 rfl rfl hl.1 rfl (Nat.le_of_ble_eq_true rfl) dX7_isWord_49 (fun r_6 hw_r_6 => ?_)
          subst hw_r_6
          refine lv_icmp_eq (tgt := 57) hx hb dX7_isWord_52 (by decide) (fun c_7 => ?_) (fun c_7 => ?_)
          · skip
            refine lv_iinc (v := nI (k + 1)) (lv' := [(2, .int (nI (k + 1))), (0, .ref h0), (1, .ref (sa i))]) hx hb dX7_isWord_57 hl (k := 0) rfl (nI_1 (k)) (by decide) rfl (fun ls hl => ?_)
            refine lv_goto (tgt := 28) hx hb dX7_isWord_60 (by decide) ?_
            exact ih_28 (k + 1) _ (by omega) (by omega) (fun k2 h2 => by rcases Nat.lt_or_ge k2 k with q | q; exact hw k2 q; have e9 : k2 = k := Nat.le_antisymm (Nat.lt_succ_iff.mp h2) q; subst e9; exact (bA_in (show s9 + k2 < z by omega)).symm.trans c_7) (lv_sub hl [0, 1, 2] rfl)
          · skip
            refine lv_iconst (v := 0) hx hb dX7_isWord_55 (by decide) ?_
            exact W.zret (v := 0) hx hb hr rfl (fun t ht hW => ⟨0, rfl, Or.inr ⟨rfl, fun h => c_7 ((bA_in (show s9 + k < z by omega)).trans (h.2 k (by omega)))⟩, ht⟩) (fun q h => by cases h) dX7_isWord_56 hlk
    · skip
      have nc_3 : x9 - s9 ≠ xLen.getD i 0 := xn_ne (a := (x9 - s9)) (b := (xLen.getD i 0)) (by omega) (by omega) c_3
      refine lv_iconst (v := 0) hx hb dX7_isWord_24 (by decide) ?_
      exact W.zret (v := 0) hx hb hr rfl (fun t ht hW => ⟨0, rfl, Or.inr ⟨rfl, fun h => absurd h.1 (by omega)⟩, ht⟩) (fun q h => by cases h) dX7_isWord_25 hlk
set_option maxHeartbeats 4000000 in
set_option maxRecDepth 100000 in
theorem c_X7_takeWord (l : Launch) (D : va_G) (cI cJ cZ cS : ClassId) (ta : Nat) (sa sv : Nat → Nat) (sz : Nat) (h0 : Nat) (ab : Nat) (z : Nat) (u9 : Nat) (t9 : Int32) (by9 : Nat → Int32) (i : Nat) (hi8 : i < 8) (hz : z ≤ 120) (hu9 : u9 ≤ z) : Met l yX7_takeWord (Cond.code yX7_takeWord cX7_takeWord 2 (some .boolean) :: wsU) ({ frames := 5, cells := 0, slots := 0, locals := 107 }) (va_Pc [.ref h0, .ref (sa i)] (XW D (xT cI cJ cZ cS) ta sa sv [(h0, .inr (7, [.int (nI (z)), .ref ab, .int (kd (bA by9 z) z (nf (bA by9 z) z u9)), .int (nI (nf (bA by9 z) z u9)), .int (nI (nx (bA by9 z) z u9)), .int (nI (cv (bA by9 z) z (nf (bA by9 z) z u9) (nx (bA by9 z) z u9))), .int t9])), (ab, .inl (cI, 120, .inl by9))] sz)) (XQi (fun (r : Int32) (u : Nat × Int32) => match u with | (u2, t2) => ((r = 1 ∧ (isW (bA by9 z) (nf (bA by9 z) z u9) (nx (bA by9 z) z u9) i) ∧ (u2 = nx (bA by9 z) z u9) ∧ (t2 = t9)) ∨ (r = 0 ∧ (¬ isW (bA by9 z) (nf (bA by9 z) z u9) (nx (bA by9 z) z u9) i) ∧ (u2 = u9) ∧ (t2 = t9))) ∧ (u2 ≤ z) ∧ (u9 ≤ u2) ∧ (cv (bA by9 z) z (nf (bA by9 z) z u2) (nx (bA by9 z) z u2) ≤ 10000) ∧ (nx (bA by9 z) z u2 ≤ z)) D (fun (u : Nat × Int32) => match u with | (u2, t2) => [(h0, .inr (7, [.int (nI (z)), .ref ab, .int (kd (bA by9 z) z (nf (bA by9 z) z u2)), .int (nI (nf (bA by9 z) z u2)), .int (nI (nx (bA by9 z) z u2)), .int (nI (cv (bA by9 z) z (nf (bA by9 z) z u2) (nx (bA by9 z) z u2))), .int t2])), (ab, .inl (cI, 120, .inl by9))]) (va_A [(h0, .inr (7, [.int (nI (z)), .ref ab, .int (kd (bA by9 z) z (nf (bA by9 z) z u9)), .int (nI (nf (bA by9 z) z u9)), .int (nI (nx (bA by9 z) z u9)), .int (nI (cv (bA by9 z) z (nf (bA by9 z) z u9) (nx (bA by9 z) z u9))), .int t9])), (ab, .inl (cI, 120, .inl by9))] sz)) 0 0 (va_A [(h0, .inr (7, [.int (nI (z)), .ref ab, .int (kd (bA by9 z) z (nf (bA by9 z) z u9)), .int (nI (nf (bA by9 z) z u9)), .int (nI (nx (bA by9 z) z u9)), .int (nI (cv (bA by9 z) z (nf (bA by9 z) z u9) (nx (bA by9 z) z u9))), .int t9])), (ab, .inl (cI, 120, .inl by9))] sz) := by
  refine xh (QA := fun A => XQi (fun (r : Int32) (u : Nat × Int32) => match u with | (u2, t2) => ((r = 1 ∧ (isW (bA by9 z) (nf (bA by9 z) z u9) (nx (bA by9 z) z u9) i) ∧ (u2 = nx (bA by9 z) z u9) ∧ (t2 = t9)) ∨ (r = 0 ∧ (¬ isW (bA by9 z) (nf (bA by9 z) z u9) (nx (bA by9 z) z u9) i) ∧ (u2 = u9) ∧ (t2 = t9))) ∧ (u2 ≤ z) ∧ (u9 ≤ u2) ∧ (cv (bA by9 z) z (nf (bA by9 z) z u2) (nx (bA by9 z) z u2) ≤ 10000) ∧ (nx (bA by9 z) z u2 ≤ z)) D (fun (u : Nat × Int32) => match u with | (u2, t2) => [(h0, .inr (7, [.int (nI (z)), .ref ab, .int (kd (bA by9 z) z (nf (bA by9 z) z u2)), .int (nI (nf (bA by9 z) z u2)), .int (nI (nx (bA by9 z) z u2)), .int (nI (cv (bA by9 z) z (nf (bA by9 z) z u2) (nx (bA by9 z) z u2))), .int t2])), (ab, .inl (cI, 120, .inl by9))]) A) (fr := fun A => A) (by decide) (Nat.le_of_ble_eq_true rfl) ?_
  intro p e s m below meth c ls A hF hr hlk hin hsz hP hK hD hN hZ hA hS hl
  have hF : CallFix p m c cX7_takeWord 2 s _ _ RX7 := hF
  have hx := hF.1
  have hb := hF.2.1
  have hml := hF.2.2.1
  have hown := hF.2.2.2.1
  have hu : ∀ w ∈ wsU, w.before _ s = true := fun w h => hF.2.2.2.2 w (List.mem_cons_of_mem _ h)
  have hl : lv_has ls 2 [(0, .ref h0), (1, .ref (sa i))] := hl
  have htk := tk_le (b := (bA by9 z)) hu9
  refine lv_aload_n hx hb dX7_takeWord_0 rfl (lv_at hl 0 rfl) ?_
  refine lv_aload_n hx hb dX7_takeWord_1 rfl (lv_at hl 1 rfl) ?_
  refine xc_Vr hF (c_X7_isWord l D cI cJ cZ cS ta sa sv s.heap.size h0 ab z (nf (bA by9 z) z u9) (nx (bA by9 z) z u9) t9 by9 i (by omega) (by omega) (by omega) (by omega)) kv_X7_43 ⟨rfl, rfl, Nat.le_of_ble_eq_true rfl, Nat.le_of_ble_eq_true rfl⟩ ⟨Nat.le_of_ble_eq_true rfl, Nat.le_of_ble_eq_true rfl⟩ hK hN hZ hP hD hS hA [0, 1] rfl rfl 0 rfl rfl rfl rfl hl.1 rfl (Nat.le_of_ble_eq_true rfl) dX7_takeWord_2 (fun r_1 hw_r_1 => ?_)
  rcases hw_r_1 with ⟨rfl, h_2⟩ | ⟨rfl, h_3⟩
  · skip
    refine lv_if_ne (tgt := 10) hx hb dX7_takeWord_5 (by decide) (fun c_4 => ?_) (fun c_4 => absurd c_4 (by decide))
    refine lv_aload_n hx hb dX7_takeWord_10 rfl (lv_at hl 0 rfl) ?_
    refine xc_Vv (wr := []) hF (c_X7_step l D cI cJ cZ cS ta sa sv s.heap.size h0 ab z (nf (bA by9 z) z u9) (nx (bA by9 z) z u9) (cv (bA by9 z) z (nf (bA by9 z) z u9) (nx (bA by9 z) z u9)) (kd (bA by9 z) z (nf (bA by9 z) z u9)) t9 by9 (by omega) (by omega)) kv_X7_34 ⟨rfl, rfl, Nat.le_of_ble_eq_true rfl, Nat.le_of_ble_eq_true rfl⟩ ⟨Nat.le_of_ble_eq_true rfl, Nat.le_of_ble_eq_true rfl⟩ hK hN hZ hP hD hS hA [0, 1] [] rfl rfl rfl rfl (by decide) 0 rfl rfl rfl rfl hl.1 rfl (Nat.le_of_ble_eq_true rfl) dX7_takeWord_11 (fun u_r_5 H locs hw_r_5 hP hD hS => ?_)
    obtain ⟨s2_6, x2_7, v2_8, tk2_9⟩ := u_r_5
    try dsimp only at hw_r_5
    obtain ⟨i_10, i_11, i_12, i_13, i_14, i_15, i_16, i_17⟩ := hw_r_5
    subst i_10
    subst i_11
    subst i_12
    subst i_13
    have hP : va_P D vwCl [(h0, .inr (7, [.int (nI (z)), .ref ab, .int (kd (bA by9 z) z (nf (bA by9 z) z (nx (bA by9 z) z u9))), .int (nI ((nf (bA by9 z) z (nx (bA by9 z) z u9)))), .int (nI ((nx (bA by9 z) z (nx (bA by9 z) z u9)))), .int (nI ((cv (bA by9 z) z (nf (bA by9 z) z (nx (bA by9 z) z u9)) (nx (bA by9 z) z (nx (bA by9 z) z u9))))), .int t9])), (ab, .inl (cI, 120, .inl by9))] H := hP
    have hD : va_D A [(h0, .inr (7, [.int (nI (z)), .ref ab, .int (kd (bA by9 z) z (nf (bA by9 z) z (nx (bA by9 z) z u9))), .int (nI ((nf (bA by9 z) z (nx (bA by9 z) z u9)))), .int (nI ((nx (bA by9 z) z (nx (bA by9 z) z u9)))), .int (nI ((cv (bA by9 z) z (nf (bA by9 z) z (nx (bA by9 z) z u9)) (nx (bA by9 z) z (nx (bA by9 z) z u9))))), .int t9])), (ab, .inl (cI, 120, .inl by9))] := hD
    refine lv_iconst (v := 1) hx hb dX7_takeWord_14 (by decide) ?_
    exact W.zret (v := 1) hx hb hr rfl (fun t ht hW => ⟨⟨1, (nx (bA by9 z) z u9, t9), rfl, ⟨Or.inl ⟨rfl, h_2, rfl, rfl⟩, (by first | assumption | omega), (by first | assumption | omega), cv_le, (nx_le (by omega))⟩, by rw [ht]; exact hP.sub [0, 1] rfl, hD.sub [0, 1] (by decide) rfl⟩, hS.F ht⟩) hS.2.2 dX7_takeWord_15 hlk
  · skip
    refine lv_if_ne (tgt := 10) hx hb dX7_takeWord_5 (by decide) (fun c_18 => absurd (by decide) c_18) (fun c_18 => ?_)
    refine lv_iconst (v := 0) hx hb dX7_takeWord_8 (by decide) ?_
    exact W.zret (v := 0) hx hb hr rfl (fun t ht hW => ⟨⟨0, (u9, t9), rfl, ⟨Or.inr ⟨rfl, h_3, rfl, rfl⟩, (by first | assumption | omega), (by first | assumption | omega), cv_le, (nx_le (by omega))⟩, by rw [ht]; exact hP.sub [0, 1] rfl, hD.sub [0, 1] (by decide) rfl⟩, hS.F ht⟩) hS.2.2 dX7_takeWord_9 hlk
set_option maxHeartbeats 4000000 in
set_option maxRecDepth 100000 in
theorem c_X7_takeNumber (l : Launch) (D : va_G) (cI cJ cZ cS : ClassId) (ta : Nat) (sa sv : Nat → Nat) (sz : Nat) (h0 : Nat) (ab : Nat) (z : Nat) (u9 : Nat) (t9 : Int32) (by9 : Nat → Int32) (p0 : Int32) (hz : z ≤ 120) (hu9 : u9 ≤ z) : Met l yX7_takeNumber (Cond.code yX7_takeNumber cX7_takeNumber 2 (some .boolean) :: wsU) ({ frames := 2, cells := 0, slots := 0, locals := 62 }) (va_Pc [.ref h0, .int p0] (XW D (xT cI cJ cZ cS) ta sa sv [(h0, .inr (7, [.int (nI (z)), .ref ab, .int (kd (bA by9 z) z (nf (bA by9 z) z u9)), .int (nI (nf (bA by9 z) z u9)), .int (nI (nx (bA by9 z) z u9)), .int (nI (cv (bA by9 z) z (nf (bA by9 z) z u9) (nx (bA by9 z) z u9))), .int t9])), (ab, .inl (cI, 120, .inl by9))] sz)) (XQi (fun (r : Int32) (u : Nat × Int32) => match u with | (u2, t2) => ((r = 1 ∧ (okNu (bA by9 z) z u9 p0) ∧ (u2 = nx (bA by9 z) z u9) ∧ (t2 = nI (cv (bA by9 z) z (nf (bA by9 z) z u9) (nx (bA by9 z) z u9)))) ∨ (r = 0 ∧ (¬ okNu (bA by9 z) z u9 p0) ∧ (u2 = u9) ∧ (t2 = t9))) ∧ (u2 ≤ z) ∧ (u9 ≤ u2) ∧ (cv (bA by9 z) z (nf (bA by9 z) z u2) (nx (bA by9 z) z u2) ≤ 10000) ∧ (nx (bA by9 z) z u2 ≤ z)) D (fun (u : Nat × Int32) => match u with | (u2, t2) => [(h0, .inr (7, [.int (nI (z)), .ref ab, .int (kd (bA by9 z) z (nf (bA by9 z) z u2)), .int (nI (nf (bA by9 z) z u2)), .int (nI (nx (bA by9 z) z u2)), .int (nI (cv (bA by9 z) z (nf (bA by9 z) z u2) (nx (bA by9 z) z u2))), .int t2])), (ab, .inl (cI, 120, .inl by9))]) (va_A [(h0, .inr (7, [.int (nI (z)), .ref ab, .int (kd (bA by9 z) z (nf (bA by9 z) z u9)), .int (nI (nf (bA by9 z) z u9)), .int (nI (nx (bA by9 z) z u9)), .int (nI (cv (bA by9 z) z (nf (bA by9 z) z u9) (nx (bA by9 z) z u9))), .int t9])), (ab, .inl (cI, 120, .inl by9))] sz)) 0 0 (va_A [(h0, .inr (7, [.int (nI (z)), .ref ab, .int (kd (bA by9 z) z (nf (bA by9 z) z u9)), .int (nI (nf (bA by9 z) z u9)), .int (nI (nx (bA by9 z) z u9)), .int (nI (cv (bA by9 z) z (nf (bA by9 z) z u9) (nx (bA by9 z) z u9))), .int t9])), (ab, .inl (cI, 120, .inl by9))] sz) := by
  refine xh (QA := fun A => XQi (fun (r : Int32) (u : Nat × Int32) => match u with | (u2, t2) => ((r = 1 ∧ (okNu (bA by9 z) z u9 p0) ∧ (u2 = nx (bA by9 z) z u9) ∧ (t2 = nI (cv (bA by9 z) z (nf (bA by9 z) z u9) (nx (bA by9 z) z u9)))) ∨ (r = 0 ∧ (¬ okNu (bA by9 z) z u9 p0) ∧ (u2 = u9) ∧ (t2 = t9))) ∧ (u2 ≤ z) ∧ (u9 ≤ u2) ∧ (cv (bA by9 z) z (nf (bA by9 z) z u2) (nx (bA by9 z) z u2) ≤ 10000) ∧ (nx (bA by9 z) z u2 ≤ z)) D (fun (u : Nat × Int32) => match u with | (u2, t2) => [(h0, .inr (7, [.int (nI (z)), .ref ab, .int (kd (bA by9 z) z (nf (bA by9 z) z u2)), .int (nI (nf (bA by9 z) z u2)), .int (nI (nx (bA by9 z) z u2)), .int (nI (cv (bA by9 z) z (nf (bA by9 z) z u2) (nx (bA by9 z) z u2))), .int t2])), (ab, .inl (cI, 120, .inl by9))]) A) (fr := fun A => A) (by decide) (Nat.le_of_ble_eq_true rfl) ?_
  intro p e s m below meth c ls A hF hr hlk hin hsz hP hK hD hN hZ hA hS hl
  have hF : CallFix p m c cX7_takeNumber 2 s _ _ RX7 := hF
  have hx := hF.1
  have hb := hF.2.1
  have hml := hF.2.2.1
  have hown := hF.2.2.2.1
  have hu : ∀ w ∈ wsU, w.before _ s = true := fun w h => hF.2.2.2.2 w (List.mem_cons_of_mem _ h)
  have hl : lv_has ls 2 [(0, .ref h0), (1, .int p0)] := hl
  have htk := tk_le (b := (bA by9 z)) hu9
  refine lv_aload_n hx hb dX7_takeNumber_0 rfl (lv_at hl 0 rfl) ?_
  refine xg hF kf_X7_19 hK hP 0 rfl rfl dX7_takeNumber_1 ?_
  refine lv_iconst (v := 2) hx hb dX7_takeNumber_4 (by decide) ?_
  refine lv_icmp_ne (tgt := 16) hx hb dX7_takeNumber_5 (by decide) (fun c_1 => ?_) (fun c_1 => ?_)
  · skip
    refine lv_iconst (v := 0) hx hb dX7_takeNumber_16 (by decide) ?_
    exact W.zret (v := 0) hx hb hr rfl (fun t ht hW => ⟨⟨0, (u9, t9), rfl, ⟨Or.inr ⟨rfl, fun h => c_1 h.1, rfl, rfl⟩, (by first | assumption | omega), (by first | assumption | omega), cv_le, (nx_le (by omega))⟩, by rw [ht]; exact hP.sub [0, 1] rfl, hD.sub [0, 1] (by decide) rfl⟩, hS.F ht⟩) hS.2.2 dX7_takeNumber_17 hlk
  · skip
    refine lv_aload_n hx hb dX7_takeNumber_8 rfl (lv_at hl 0 rfl) ?_
    refine xg hF kf_X7_28 hK hP 0 rfl rfl dX7_takeNumber_9 ?_
    refine lv_iload_n hx hb dX7_takeNumber_12 rfl (lv_at hl 1 rfl) ?_
    refine lv_icmp_le (tgt := 18) hx hb dX7_takeNumber_13 (by decide) (fun c_2 => ?_) (fun c_2 => ?_)
    · skip
      refine lv_aload_n hx hb dX7_takeNumber_18 rfl (lv_at hl 0 rfl) ?_
      refine lv_aload_n hx hb dX7_takeNumber_19 rfl (lv_at hl 0 rfl) ?_
      refine xg hF kf_X7_28 hK hP 0 rfl rfl dX7_takeNumber_20 ?_
      refine xp hF kf_X7_31 tyX7_ok nmX7 hK hP hD hS 0 rfl rfl rfl rfl (Nat.le_of_ble_eq_true rfl) dX7_takeNumber_23 (fun H locs hP hD hS => ?_)
      have hP : va_P D vwCl [(h0, .inr (7, [.int (nI (z)), .ref ab, .int (kd (bA by9 z) z (nf (bA by9 z) z u9)), .int (nI (nf (bA by9 z) z u9)), .int (nI (nx (bA by9 z) z u9)), .int (nI (cv (bA by9 z) z (nf (bA by9 z) z u9) (nx (bA by9 z) z u9))), .int (nI (cv (bA by9 z) z (nf (bA by9 z) z u9) (nx (bA by9 z) z u9)))])), (ab, .inl (cI, 120, .inl by9))] H := hP
      have hD : va_D A [(h0, .inr (7, [.int (nI (z)), .ref ab, .int (kd (bA by9 z) z (nf (bA by9 z) z u9)), .int (nI (nf (bA by9 z) z u9)), .int (nI (nx (bA by9 z) z u9)), .int (nI (cv (bA by9 z) z (nf (bA by9 z) z u9) (nx (bA by9 z) z u9))), .int (nI (cv (bA by9 z) z (nf (bA by9 z) z u9) (nx (bA by9 z) z u9)))])), (ab, .inl (cI, 120, .inl by9))] := hD
      refine lv_aload_n hx hb dX7_takeNumber_26 rfl (lv_at hl 0 rfl) ?_
      refine xc_Vv (wr := []) hF (c_X7_step l D cI cJ cZ cS ta sa sv H.size h0 ab z (nf (bA by9 z) z u9) (nx (bA by9 z) z u9) (cv (bA by9 z) z (nf (bA by9 z) z u9) (nx (bA by9 z) z u9)) (kd (bA by9 z) z (nf (bA by9 z) z u9)) (nI (cv (bA by9 z) z (nf (bA by9 z) z u9) (nx (bA by9 z) z u9))) by9 (by omega) (by omega)) kv_X7_34 ⟨rfl, rfl, Nat.le_of_ble_eq_true rfl, Nat.le_of_ble_eq_true rfl⟩ ⟨Nat.le_of_ble_eq_true rfl, Nat.le_of_ble_eq_true rfl⟩ hK hN hZ hP hD hS hA [0, 1] [] rfl rfl rfl rfl (by decide) 0 rfl rfl rfl rfl hl.1 rfl (Nat.le_of_ble_eq_true rfl) dX7_takeNumber_27 (fun u_r_3 H locs hw_r_3 hP hD hS => ?_)
      obtain ⟨s2_4, x2_5, v2_6, tk2_7⟩ := u_r_3
      try dsimp only at hw_r_3
      obtain ⟨i_8, i_9, i_10, i_11, i_12, i_13, i_14, i_15⟩ := hw_r_3
      subst i_8
      subst i_9
      subst i_10
      subst i_11
      have hP : va_P D vwCl [(h0, .inr (7, [.int (nI (z)), .ref ab, .int (kd (bA by9 z) z (nf (bA by9 z) z (nx (bA by9 z) z u9))), .int (nI ((nf (bA by9 z) z (nx (bA by9 z) z u9)))), .int (nI ((nx (bA by9 z) z (nx (bA by9 z) z u9)))), .int (nI ((cv (bA by9 z) z (nf (bA by9 z) z (nx (bA by9 z) z u9)) (nx (bA by9 z) z (nx (bA by9 z) z u9))))), .int (nI (cv (bA by9 z) z (nf (bA by9 z) z u9) (nx (bA by9 z) z u9)))])), (ab, .inl (cI, 120, .inl by9))] H := hP
      have hD : va_D A [(h0, .inr (7, [.int (nI (z)), .ref ab, .int (kd (bA by9 z) z (nf (bA by9 z) z (nx (bA by9 z) z u9))), .int (nI ((nf (bA by9 z) z (nx (bA by9 z) z u9)))), .int (nI ((nx (bA by9 z) z (nx (bA by9 z) z u9)))), .int (nI ((cv (bA by9 z) z (nf (bA by9 z) z (nx (bA by9 z) z u9)) (nx (bA by9 z) z (nx (bA by9 z) z u9))))), .int (nI (cv (bA by9 z) z (nf (bA by9 z) z u9) (nx (bA by9 z) z u9)))])), (ab, .inl (cI, 120, .inl by9))] := hD
      refine lv_iconst (v := 1) hx hb dX7_takeNumber_30 (by decide) ?_
      exact W.zret (v := 1) hx hb hr rfl (fun t ht hW => ⟨⟨1, (nx (bA by9 z) z u9, (nI (cv (bA by9 z) z (nf (bA by9 z) z u9) (nx (bA by9 z) z u9)))), rfl, ⟨Or.inl ⟨rfl, ⟨c_1, fun h => absurd c_2 (Int32.not_le.mpr h)⟩, rfl, rfl⟩, (by first | assumption | omega), (by first | assumption | omega), cv_le, (nx_le (by omega))⟩, by rw [ht]; exact hP.sub [0, 1] rfl, hD.sub [0, 1] (by decide) rfl⟩, hS.F ht⟩) hS.2.2 dX7_takeNumber_31 hlk
    · skip
      refine lv_iconst (v := 0) hx hb dX7_takeNumber_16 (by decide) ?_
      exact W.zret (v := 0) hx hb hr rfl (fun t ht hW => ⟨⟨0, (u9, t9), rfl, ⟨Or.inr ⟨rfl, fun h => h.2 (xlt c_2), rfl, rfl⟩, (by first | assumption | omega), (by first | assumption | omega), cv_le, (nx_le (by omega))⟩, by rw [ht]; exact hP.sub [0, 1] rfl, hD.sub [0, 1] (by decide) rfl⟩, hS.F ht⟩) hS.2.2 dX7_takeNumber_17 hlk
set_option maxHeartbeats 4000000 in
set_option maxRecDepth 100000 in
theorem c_X7_takeMile (l : Launch) (D : va_G) (cI cJ cZ cS : ClassId) (ta : Nat) (sa sv : Nat → Nat) (sz : Nat) (h0 : Nat) (ab : Nat) (z : Nat) (u9 : Nat) (t9 : Int32) (by9 : Nat → Int32) (p0 : Int32) (p1 : Int32) (hz : z ≤ 120) (hu9 : u9 ≤ z) : Met l yX7_takeMile (Cond.code yX7_takeMile cX7_takeMile 5 (some .boolean) :: wsU) ({ frames := 2, cells := 0, slots := 0, locals := 62 }) (va_Pc [.ref h0, .int p0, .int p1] (XW D (xT cI cJ cZ cS) ta sa sv [(h0, .inr (7, [.int (nI (z)), .ref ab, .int (kd (bA by9 z) z (nf (bA by9 z) z u9)), .int (nI (nf (bA by9 z) z u9)), .int (nI (nx (bA by9 z) z u9)), .int (nI (cv (bA by9 z) z (nf (bA by9 z) z u9) (nx (bA by9 z) z u9))), .int t9])), (ab, .inl (cI, 120, .inl by9))] sz)) (XQi (fun (r : Int32) (u : Nat × Int32) => match u with | (u2, t2) => ((r = 1 ∧ (okMi (bA by9 z) z u9 p0 p1) ∧ (u2 = nx (bA by9 z) z (mSt (bA by9 z) z u9)) ∧ (t2 = mV (bA by9 z) z u9)) ∨ (r = 0 ∧ (¬ okMi (bA by9 z) z u9 p0 p1) ∧ (u2 = mSt (bA by9 z) z u9) ∧ (t2 = t9))) ∧ (u2 ≤ z) ∧ (u9 ≤ u2) ∧ (cv (bA by9 z) z (nf (bA by9 z) z u2) (nx (bA by9 z) z u2) ≤ 10000) ∧ (nx (bA by9 z) z u2 ≤ z)) D (fun (u : Nat × Int32) => match u with | (u2, t2) => [(h0, .inr (7, [.int (nI (z)), .ref ab, .int (kd (bA by9 z) z (nf (bA by9 z) z u2)), .int (nI (nf (bA by9 z) z u2)), .int (nI (nx (bA by9 z) z u2)), .int (nI (cv (bA by9 z) z (nf (bA by9 z) z u2) (nx (bA by9 z) z u2))), .int t2])), (ab, .inl (cI, 120, .inl by9))]) (va_A [(h0, .inr (7, [.int (nI (z)), .ref ab, .int (kd (bA by9 z) z (nf (bA by9 z) z u9)), .int (nI (nf (bA by9 z) z u9)), .int (nI (nx (bA by9 z) z u9)), .int (nI (cv (bA by9 z) z (nf (bA by9 z) z u9) (nx (bA by9 z) z u9))), .int t9])), (ab, .inl (cI, 120, .inl by9))] sz)) 0 0 (va_A [(h0, .inr (7, [.int (nI (z)), .ref ab, .int (kd (bA by9 z) z (nf (bA by9 z) z u9)), .int (nI (nf (bA by9 z) z u9)), .int (nI (nx (bA by9 z) z u9)), .int (nI (cv (bA by9 z) z (nf (bA by9 z) z u9) (nx (bA by9 z) z u9))), .int t9])), (ab, .inl (cI, 120, .inl by9))] sz) := by
  refine xh (QA := fun A => XQi (fun (r : Int32) (u : Nat × Int32) => match u with | (u2, t2) => ((r = 1 ∧ (okMi (bA by9 z) z u9 p0 p1) ∧ (u2 = nx (bA by9 z) z (mSt (bA by9 z) z u9)) ∧ (t2 = mV (bA by9 z) z u9)) ∨ (r = 0 ∧ (¬ okMi (bA by9 z) z u9 p0 p1) ∧ (u2 = mSt (bA by9 z) z u9) ∧ (t2 = t9))) ∧ (u2 ≤ z) ∧ (u9 ≤ u2) ∧ (cv (bA by9 z) z (nf (bA by9 z) z u2) (nx (bA by9 z) z u2) ≤ 10000) ∧ (nx (bA by9 z) z u2 ≤ z)) D (fun (u : Nat × Int32) => match u with | (u2, t2) => [(h0, .inr (7, [.int (nI (z)), .ref ab, .int (kd (bA by9 z) z (nf (bA by9 z) z u2)), .int (nI (nf (bA by9 z) z u2)), .int (nI (nx (bA by9 z) z u2)), .int (nI (cv (bA by9 z) z (nf (bA by9 z) z u2) (nx (bA by9 z) z u2))), .int t2])), (ab, .inl (cI, 120, .inl by9))]) A) (fr := fun A => A) (by decide) (Nat.le_of_ble_eq_true rfl) ?_
  intro p e s m below meth c ls A hF hr hlk hin hsz hP hK hD hN hZ hA hS hl
  have hF : CallFix p m c cX7_takeMile 5 s _ _ RX7 := hF
  have hx := hF.1
  have hb := hF.2.1
  have hml := hF.2.2.1
  have hown := hF.2.2.2.1
  have hu : ∀ w ∈ wsU, w.before _ s = true := fun w h => hF.2.2.2.2 w (List.mem_cons_of_mem _ h)
  have hl : lv_has ls 5 [(0, .ref h0), (1, .int p0), (2, .int p1)] := hl
  have htk := tk_le (b := (bA by9 z)) hu9
  have htk2 := tk_le (b := (bA by9 z)) htk.2.2.1
  refine lv_aload_n hx hb dX7_takeMile_0 rfl (lv_at hl 0 rfl) ?_
  refine xg hF kf_X7_19 hK hP 0 rfl rfl dX7_takeMile_1 ?_
  refine lv_iconst (v := 4) hx hb dX7_takeMile_4 (by decide) ?_
  refine lv_icmp_ne (tgt := 12) hx hb dX7_takeMile_5 (by decide) (fun c_1 => ?_) (fun c_1 => ?_)
  · skip
    refine lv_iconst (v := 0) hx hb dX7_takeMile_12 (by decide) ?_
    refine lv_istore_n (lv' := [(3, .int 0), (0, .ref h0), (1, .int p0), (2, .int p1)]) hx hb dX7_takeMile_13 rfl hl (by decide) rfl (fun ls hl => ?_)
    refine lv_iload_n hx hb dX7_takeMile_14 rfl (lv_at hl 0 rfl) ?_
    refine lv_if_eq (tgt := 22) hx hb dX7_takeMile_15 (by decide) (fun c_2 => ?_) (fun c_2 => absurd (by decide) c_2)
    refine lv_iload_n hx hb dX7_takeMile_22 rfl (lv_at hl 0 rfl) ?_
    refine lv_if_eq (tgt := 34) hx hb dX7_takeMile_23 (by decide) (fun c_3 => ?_) (fun c_3 => absurd (by decide) c_3)
    refine lv_aload_n hx hb dX7_takeMile_34 rfl (lv_at hl 1 rfl) ?_
    refine xg hF kf_X7_28 hK hP 0 rfl rfl dX7_takeMile_35 ?_
    refine lv_istore (lv' := [(4, .int (nI (cv (bA by9 z) z (nf (bA by9 z) z u9) (nx (bA by9 z) z u9)))), (3, .int 0), (0, .ref h0), (1, .int p0), (2, .int p1)]) hx hb dX7_takeMile_38 hl (by decide) rfl (fun ls hl => ?_)
    refine lv_aload_n hx hb dX7_takeMile_40 rfl (lv_at hl 2 rfl) ?_
    refine xg hF kf_X7_19 hK hP 0 rfl rfl dX7_takeMile_41 ?_
    refine lv_iconst (v := 2) hx hb dX7_takeMile_44 (by decide) ?_
    refine lv_icmp_ne (tgt := 60) hx hb dX7_takeMile_45 (by decide) (fun c_4 => ?_) (fun c_4 => ?_)
    · skip
      refine lv_iconst (v := 0) hx hb dX7_takeMile_60 (by decide) ?_
      exact W.zret (v := 0) hx hb hr rfl (fun t ht hW => ⟨⟨0, (u9, t9), rfl, ⟨Or.inr ⟨rfl, fun h => c_4 (by have q := h.1; unfold mSt at q; rw [if_neg c_1] at q; exact q), (by unfold mSt; rw [if_neg c_1]), rfl⟩, (by first | assumption | omega), (by first | assumption | omega), cv_le, (nx_le (by omega))⟩, by rw [ht]; exact hP.sub [0, 1] rfl, hD.sub [0, 1] (by decide) rfl⟩, hS.F ht⟩) hS.2.2 dX7_takeMile_61 hlk
    · skip
      refine lv_iload hx hb dX7_takeMile_48 (lv_at hl 0 rfl) ?_
      refine lv_iload_n hx hb dX7_takeMile_50 rfl (lv_at hl 3 rfl) ?_
      refine lv_icmp_lt (tgt := 60) hx hb dX7_takeMile_51 (by decide) (fun c_5 => ?_) (fun c_5 => ?_)
      · skip
        refine lv_iconst (v := 0) hx hb dX7_takeMile_60 (by decide) ?_
        exact W.zret (v := 0) hx hb hr rfl (fun t ht hW => ⟨⟨0, (u9, t9), rfl, ⟨Or.inr ⟨rfl, fun h => h.2.1 (by unfold mV; rw [if_neg c_1]; exact c_5), (by unfold mSt; rw [if_neg c_1]), rfl⟩, (by first | assumption | omega), (by first | assumption | omega), cv_le, (nx_le (by omega))⟩, by rw [ht]; exact hP.sub [0, 1] rfl, hD.sub [0, 1] (by decide) rfl⟩, hS.F ht⟩) hS.2.2 dX7_takeMile_61 hlk
      · skip
        refine lv_iload hx hb dX7_takeMile_54 (lv_at hl 0 rfl) ?_
        refine lv_iload_n hx hb dX7_takeMile_56 rfl (lv_at hl 4 rfl) ?_
        refine lv_icmp_le (tgt := 62) hx hb dX7_takeMile_57 (by decide) (fun c_6 => ?_) (fun c_6 => ?_)
        · skip
          refine lv_aload_n hx hb dX7_takeMile_62 rfl (lv_at hl 2 rfl) ?_
          refine lv_iload hx hb dX7_takeMile_63 (lv_at hl 0 rfl) ?_
          refine xp hF kf_X7_31 tyX7_ok nmX7 hK hP hD hS 0 rfl rfl rfl rfl (Nat.le_of_ble_eq_true rfl) dX7_takeMile_65 (fun H locs hP hD hS => ?_)
          have hP : va_P D vwCl [(h0, .inr (7, [.int (nI (z)), .ref ab, .int (kd (bA by9 z) z (nf (bA by9 z) z u9)), .int (nI (nf (bA by9 z) z u9)), .int (nI (nx (bA by9 z) z u9)), .int (nI (cv (bA by9 z) z (nf (bA by9 z) z u9) (nx (bA by9 z) z u9))), .int (nI (cv (bA by9 z) z (nf (bA by9 z) z u9) (nx (bA by9 z) z u9)))])), (ab, .inl (cI, 120, .inl by9))] H := hP
          have hD : va_D A [(h0, .inr (7, [.int (nI (z)), .ref ab, .int (kd (bA by9 z) z (nf (bA by9 z) z u9)), .int (nI (nf (bA by9 z) z u9)), .int (nI (nx (bA by9 z) z u9)), .int (nI (cv (bA by9 z) z (nf (bA by9 z) z u9) (nx (bA by9 z) z u9))), .int (nI (cv (bA by9 z) z (nf (bA by9 z) z u9) (nx (bA by9 z) z u9)))])), (ab, .inl (cI, 120, .inl by9))] := hD
          refine lv_aload_n hx hb dX7_takeMile_68 rfl (lv_at hl 2 rfl) ?_
          refine xc_Vv (wr := []) hF (c_X7_step l D cI cJ cZ cS ta sa sv H.size h0 ab z (nf (bA by9 z) z u9) (nx (bA by9 z) z u9) (cv (bA by9 z) z (nf (bA by9 z) z u9) (nx (bA by9 z) z u9)) (kd (bA by9 z) z (nf (bA by9 z) z u9)) (nI (cv (bA by9 z) z (nf (bA by9 z) z u9) (nx (bA by9 z) z u9))) by9 (by omega) (by omega)) kv_X7_34 ⟨rfl, rfl, Nat.le_of_ble_eq_true rfl, Nat.le_of_ble_eq_true rfl⟩ ⟨Nat.le_of_ble_eq_true rfl, Nat.le_of_ble_eq_true rfl⟩ hK hN hZ hP hD hS hA [0, 1] [] rfl rfl rfl rfl (by decide) 0 rfl rfl rfl rfl hl.1 rfl (Nat.le_of_ble_eq_true rfl) dX7_takeMile_69 (fun u_r_7 H locs hw_r_7 hP hD hS => ?_)
          obtain ⟨s2_8, x2_9, v2_10, tk2_11⟩ := u_r_7
          try dsimp only at hw_r_7
          obtain ⟨i_12, i_13, i_14, i_15, i_16, i_17, i_18, i_19⟩ := hw_r_7
          subst i_12
          subst i_13
          subst i_14
          subst i_15
          have hP : va_P D vwCl [(h0, .inr (7, [.int (nI (z)), .ref ab, .int (kd (bA by9 z) z (nf (bA by9 z) z (nx (bA by9 z) z u9))), .int (nI ((nf (bA by9 z) z (nx (bA by9 z) z u9)))), .int (nI ((nx (bA by9 z) z (nx (bA by9 z) z u9)))), .int (nI ((cv (bA by9 z) z (nf (bA by9 z) z (nx (bA by9 z) z u9)) (nx (bA by9 z) z (nx (bA by9 z) z u9))))), .int (nI (cv (bA by9 z) z (nf (bA by9 z) z u9) (nx (bA by9 z) z u9)))])), (ab, .inl (cI, 120, .inl by9))] H := hP
          have hD : va_D A [(h0, .inr (7, [.int (nI (z)), .ref ab, .int (kd (bA by9 z) z (nf (bA by9 z) z (nx (bA by9 z) z u9))), .int (nI ((nf (bA by9 z) z (nx (bA by9 z) z u9)))), .int (nI ((nx (bA by9 z) z (nx (bA by9 z) z u9)))), .int (nI ((cv (bA by9 z) z (nf (bA by9 z) z (nx (bA by9 z) z u9)) (nx (bA by9 z) z (nx (bA by9 z) z u9))))), .int (nI (cv (bA by9 z) z (nf (bA by9 z) z u9) (nx (bA by9 z) z u9)))])), (ab, .inl (cI, 120, .inl by9))] := hD
          refine lv_iconst (v := 1) hx hb dX7_takeMile_72 (by decide) ?_
          exact W.zret (v := 1) hx hb hr rfl (fun t ht hW => ⟨⟨1, (nx (bA by9 z) z u9, (nI (cv (bA by9 z) z (nf (bA by9 z) z u9) (nx (bA by9 z) z u9)))), rfl, ⟨Or.inl ⟨rfl, ⟨by unfold mSt; rw [if_neg c_1]; exact c_4, by unfold mV; rw [if_neg c_1]; exact c_5, by unfold mV; rw [if_neg c_1]; exact (fun h => absurd c_6 (Int32.not_le.mpr h))⟩, (by unfold mSt; rw [if_neg c_1]), (by unfold mV; rw [if_neg c_1])⟩, (by first | assumption | omega), (by first | assumption | omega), cv_le, (nx_le (by omega))⟩, by rw [ht]; exact hP.sub [0, 1] rfl, hD.sub [0, 1] (by decide) rfl⟩, hS.F ht⟩) hS.2.2 dX7_takeMile_73 hlk
        · skip
          refine lv_iconst (v := 0) hx hb dX7_takeMile_60 (by decide) ?_
          exact W.zret (v := 0) hx hb hr rfl (fun t ht hW => ⟨⟨0, (u9, t9), rfl, ⟨Or.inr ⟨rfl, fun h => h.2.2 (by unfold mV; rw [if_neg c_1]; exact (xlt c_6)), (by unfold mSt; rw [if_neg c_1]), rfl⟩, (by first | assumption | omega), (by first | assumption | omega), cv_le, (nx_le (by omega))⟩, by rw [ht]; exact hP.sub [0, 1] rfl, hD.sub [0, 1] (by decide) rfl⟩, hS.F ht⟩) hS.2.2 dX7_takeMile_61 hlk
  · skip
    refine lv_iconst (v := 1) hx hb dX7_takeMile_8 (by decide) ?_
    refine lv_goto (tgt := 13) hx hb dX7_takeMile_9 (by decide) ?_
    refine lv_istore_n (lv' := [(3, .int 1), (0, .ref h0), (1, .int p0), (2, .int p1)]) hx hb dX7_takeMile_13 rfl hl (by decide) rfl (fun ls hl => ?_)
    refine lv_iload_n hx hb dX7_takeMile_14 rfl (lv_at hl 0 rfl) ?_
    refine lv_if_eq (tgt := 22) hx hb dX7_takeMile_15 (by decide) (fun c_20 => absurd c_20 (by decide)) (fun c_20 => ?_)
    refine lv_aload_n hx hb dX7_takeMile_18 rfl (lv_at hl 1 rfl) ?_
    refine xc_Vv (wr := []) hF (c_X7_step l D cI cJ cZ cS ta sa sv s.heap.size h0 ab z (nf (bA by9 z) z u9) (nx (bA by9 z) z u9) (cv (bA by9 z) z (nf (bA by9 z) z u9) (nx (bA by9 z) z u9)) (kd (bA by9 z) z (nf (bA by9 z) z u9)) t9 by9 (by omega) (by omega)) kv_X7_34 ⟨rfl, rfl, Nat.le_of_ble_eq_true rfl, Nat.le_of_ble_eq_true rfl⟩ ⟨Nat.le_of_ble_eq_true rfl, Nat.le_of_ble_eq_true rfl⟩ hK hN hZ hP hD hS hA [0, 1] [] rfl rfl rfl rfl (by decide) 0 rfl rfl rfl rfl hl.1 rfl (Nat.le_of_ble_eq_true rfl) dX7_takeMile_19 (fun u_r_21 H locs hw_r_21 hP hD hS => ?_)
    obtain ⟨s2_22, x2_23, v2_24, tk2_25⟩ := u_r_21
    try dsimp only at hw_r_21
    obtain ⟨i_26, i_27, i_28, i_29, i_30, i_31, i_32, i_33⟩ := hw_r_21
    subst i_26
    subst i_27
    subst i_28
    subst i_29
    have hP : va_P D vwCl [(h0, .inr (7, [.int (nI (z)), .ref ab, .int (kd (bA by9 z) z (nf (bA by9 z) z (nx (bA by9 z) z u9))), .int (nI ((nf (bA by9 z) z (nx (bA by9 z) z u9)))), .int (nI ((nx (bA by9 z) z (nx (bA by9 z) z u9)))), .int (nI ((cv (bA by9 z) z (nf (bA by9 z) z (nx (bA by9 z) z u9)) (nx (bA by9 z) z (nx (bA by9 z) z u9))))), .int t9])), (ab, .inl (cI, 120, .inl by9))] H := hP
    have hD : va_D A [(h0, .inr (7, [.int (nI (z)), .ref ab, .int (kd (bA by9 z) z (nf (bA by9 z) z (nx (bA by9 z) z u9))), .int (nI ((nf (bA by9 z) z (nx (bA by9 z) z u9)))), .int (nI ((nx (bA by9 z) z (nx (bA by9 z) z u9)))), .int (nI ((cv (bA by9 z) z (nf (bA by9 z) z (nx (bA by9 z) z u9)) (nx (bA by9 z) z (nx (bA by9 z) z u9))))), .int t9])), (ab, .inl (cI, 120, .inl by9))] := hD
    refine lv_iload_n hx hb dX7_takeMile_22 rfl (lv_at hl 0 rfl) ?_
    refine lv_if_eq (tgt := 34) hx hb dX7_takeMile_23 (by decide) (fun c_34 => absurd c_34 (by decide)) (fun c_34 => ?_)
    refine lv_aload_n hx hb dX7_takeMile_26 rfl (lv_at hl 1 rfl) ?_
    refine xg hF kf_X7_28 hK hP 0 rfl rfl dX7_takeMile_27 ?_
    refine lv_ineg hx hb dX7_takeMile_30 ?_
    refine lv_topi (fun x_35 ex_35 => ?_)
    refine lv_goto (tgt := 38) hx hb dX7_takeMile_31 (by decide) ?_
    refine lv_istore (lv' := [(4, .int x_35), (3, .int 1), (0, .ref h0), (1, .int p0), (2, .int p1)]) hx hb dX7_takeMile_38 hl (by decide) rfl (fun ls hl => ?_)
    refine lv_aload_n hx hb dX7_takeMile_40 rfl (lv_at hl 2 rfl) ?_
    refine xg hF kf_X7_19 hK hP 0 rfl rfl dX7_takeMile_41 ?_
    refine lv_iconst (v := 2) hx hb dX7_takeMile_44 (by decide) ?_
    refine lv_icmp_ne (tgt := 60) hx hb dX7_takeMile_45 (by decide) (fun c_36 => ?_) (fun c_36 => ?_)
    · skip
      refine lv_iconst (v := 0) hx hb dX7_takeMile_60 (by decide) ?_
      exact W.zret (v := 0) hx hb hr rfl (fun t ht hW => ⟨⟨0, (nx (bA by9 z) z u9, t9), rfl, ⟨Or.inr ⟨rfl, fun h => c_36 (by have q := h.1; unfold mSt at q; rw [if_pos c_1] at q; exact q), (by unfold mSt; rw [if_pos c_1]), rfl⟩, (by first | assumption | omega), (by first | assumption | omega), cv_le, (nx_le (by omega))⟩, by rw [ht]; exact hP.sub [0, 1] rfl, hD.sub [0, 1] (by decide) rfl⟩, hS.F ht⟩) hS.2.2 dX7_takeMile_61 hlk
    · skip
      refine lv_iload hx hb dX7_takeMile_48 (lv_at hl 0 rfl) ?_
      refine lv_iload_n hx hb dX7_takeMile_50 rfl (lv_at hl 3 rfl) ?_
      refine lv_icmp_lt (tgt := 60) hx hb dX7_takeMile_51 (by decide) (fun c_37 => ?_) (fun c_37 => ?_)
      · skip
        refine lv_iconst (v := 0) hx hb dX7_takeMile_60 (by decide) ?_
        exact W.zret (v := 0) hx hb hr rfl (fun t ht hW => ⟨⟨0, (nx (bA by9 z) z u9, t9), rfl, ⟨Or.inr ⟨rfl, fun h => h.2.1 (by unfold mV; rw [if_pos c_1]; exact (ex_35 ▸ c_37)), (by unfold mSt; rw [if_pos c_1]), rfl⟩, (by first | assumption | omega), (by first | assumption | omega), cv_le, (nx_le (by omega))⟩, by rw [ht]; exact hP.sub [0, 1] rfl, hD.sub [0, 1] (by decide) rfl⟩, hS.F ht⟩) hS.2.2 dX7_takeMile_61 hlk
      · skip
        refine lv_iload hx hb dX7_takeMile_54 (lv_at hl 0 rfl) ?_
        refine lv_iload_n hx hb dX7_takeMile_56 rfl (lv_at hl 4 rfl) ?_
        refine lv_icmp_le (tgt := 62) hx hb dX7_takeMile_57 (by decide) (fun c_38 => ?_) (fun c_38 => ?_)
        · skip
          refine lv_aload_n hx hb dX7_takeMile_62 rfl (lv_at hl 2 rfl) ?_
          refine lv_iload hx hb dX7_takeMile_63 (lv_at hl 0 rfl) ?_
          refine xp hF kf_X7_31 tyX7_ok nmX7 hK hP hD hS 0 rfl rfl rfl rfl (Nat.le_of_ble_eq_true rfl) dX7_takeMile_65 (fun H locs hP hD hS => ?_)
          have hP : va_P D vwCl [(h0, .inr (7, [.int (nI (z)), .ref ab, .int (kd (bA by9 z) z (nf (bA by9 z) z (nx (bA by9 z) z u9))), .int (nI ((nf (bA by9 z) z (nx (bA by9 z) z u9)))), .int (nI ((nx (bA by9 z) z (nx (bA by9 z) z u9)))), .int (nI ((cv (bA by9 z) z (nf (bA by9 z) z (nx (bA by9 z) z u9)) (nx (bA by9 z) z (nx (bA by9 z) z u9))))), .int x_35])), (ab, .inl (cI, 120, .inl by9))] H := hP
          have hD : va_D A [(h0, .inr (7, [.int (nI (z)), .ref ab, .int (kd (bA by9 z) z (nf (bA by9 z) z (nx (bA by9 z) z u9))), .int (nI ((nf (bA by9 z) z (nx (bA by9 z) z u9)))), .int (nI ((nx (bA by9 z) z (nx (bA by9 z) z u9)))), .int (nI ((cv (bA by9 z) z (nf (bA by9 z) z (nx (bA by9 z) z u9)) (nx (bA by9 z) z (nx (bA by9 z) z u9))))), .int x_35])), (ab, .inl (cI, 120, .inl by9))] := hD
          refine lv_aload_n hx hb dX7_takeMile_68 rfl (lv_at hl 2 rfl) ?_
          refine xc_Vv (wr := []) hF (c_X7_step l D cI cJ cZ cS ta sa sv H.size h0 ab z (nf (bA by9 z) z (nx (bA by9 z) z u9)) (nx (bA by9 z) z (nx (bA by9 z) z u9)) (cv (bA by9 z) z (nf (bA by9 z) z (nx (bA by9 z) z u9)) (nx (bA by9 z) z (nx (bA by9 z) z u9))) (kd (bA by9 z) z (nf (bA by9 z) z (nx (bA by9 z) z u9))) x_35 by9 (by omega) (by omega)) kv_X7_34 ⟨rfl, rfl, Nat.le_of_ble_eq_true rfl, Nat.le_of_ble_eq_true rfl⟩ ⟨Nat.le_of_ble_eq_true rfl, Nat.le_of_ble_eq_true rfl⟩ hK hN hZ hP hD hS hA [0, 1] [] rfl rfl rfl rfl (by decide) 0 rfl rfl rfl rfl hl.1 rfl (Nat.le_of_ble_eq_true rfl) dX7_takeMile_69 (fun u_r_39 H locs hw_r_39 hP hD hS => ?_)
          obtain ⟨s2_40, x2_41, v2_42, tk2_43⟩ := u_r_39
          try dsimp only at hw_r_39
          obtain ⟨i_44, i_45, i_46, i_47, i_48, i_49, i_50, i_51⟩ := hw_r_39
          subst i_44
          subst i_45
          subst i_46
          subst i_47
          have hP : va_P D vwCl [(h0, .inr (7, [.int (nI (z)), .ref ab, .int (kd (bA by9 z) z (nf (bA by9 z) z (nx (bA by9 z) z (nx (bA by9 z) z u9)))), .int (nI ((nf (bA by9 z) z (nx (bA by9 z) z (nx (bA by9 z) z u9))))), .int (nI ((nx (bA by9 z) z (nx (bA by9 z) z (nx (bA by9 z) z u9))))), .int (nI ((cv (bA by9 z) z (nf (bA by9 z) z (nx (bA by9 z) z (nx (bA by9 z) z u9))) (nx (bA by9 z) z (nx (bA by9 z) z (nx (bA by9 z) z u9)))))), .int x_35])), (ab, .inl (cI, 120, .inl by9))] H := hP
          have hD : va_D A [(h0, .inr (7, [.int (nI (z)), .ref ab, .int (kd (bA by9 z) z (nf (bA by9 z) z (nx (bA by9 z) z (nx (bA by9 z) z u9)))), .int (nI ((nf (bA by9 z) z (nx (bA by9 z) z (nx (bA by9 z) z u9))))), .int (nI ((nx (bA by9 z) z (nx (bA by9 z) z (nx (bA by9 z) z u9))))), .int (nI ((cv (bA by9 z) z (nf (bA by9 z) z (nx (bA by9 z) z (nx (bA by9 z) z u9))) (nx (bA by9 z) z (nx (bA by9 z) z (nx (bA by9 z) z u9)))))), .int x_35])), (ab, .inl (cI, 120, .inl by9))] := hD
          refine lv_iconst (v := 1) hx hb dX7_takeMile_72 (by decide) ?_
          exact W.zret (v := 1) hx hb hr rfl (fun t ht hW => ⟨⟨1, (nx (bA by9 z) z (nx (bA by9 z) z u9), x_35), rfl, ⟨Or.inl ⟨rfl, ⟨by unfold mSt; rw [if_pos c_1]; exact c_36, by unfold mV; rw [if_pos c_1]; exact (ex_35 ▸ c_37), by unfold mV; rw [if_pos c_1]; exact (ex_35 ▸ (fun h => absurd c_38 (Int32.not_le.mpr h)))⟩, (by unfold mSt; rw [if_pos c_1]), (by unfold mV; rw [if_pos c_1]; exact ex_35)⟩, (by first | assumption | omega), (by first | assumption | omega), cv_le, (nx_le (by omega))⟩, by rw [ht]; exact hP.sub [0, 1] rfl, hD.sub [0, 1] (by decide) rfl⟩, hS.F ht⟩) hS.2.2 dX7_takeMile_73 hlk
        · skip
          refine lv_iconst (v := 0) hx hb dX7_takeMile_60 (by decide) ?_
          exact W.zret (v := 0) hx hb hr rfl (fun t ht hW => ⟨⟨0, (nx (bA by9 z) z u9, t9), rfl, ⟨Or.inr ⟨rfl, fun h => h.2.2 (by unfold mV; rw [if_pos c_1]; exact (ex_35 ▸ (xlt c_38))), (by unfold mSt; rw [if_pos c_1]), rfl⟩, (by first | assumption | omega), (by first | assumption | omega), cv_le, (nx_le (by omega))⟩, by rw [ht]; exact hP.sub [0, 1] rfl, hD.sub [0, 1] (by decide) rfl⟩, hS.F ht⟩) hS.2.2 dX7_takeMile_61 hlk
