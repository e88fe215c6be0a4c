def LRX9_lays_8 : List UInt8 := []
def LBX9_lays_7 : List UInt8 := [0xa7, 0xff, 0xb5, 0x15, 0x04, 0xac]
def LRX9_lays_7 : List UInt8 := LBX9_lays_7 ++ LRX9_lays_8
def LBX9_lays_6 : List UInt8 := [0x06, 0x88, 0x16, 0x06, 0x88, 0xb6, 0x00, 0x57, 0x36, 0x08, 0x84, 0x04, 0x01, 0x84, 0x05, 0x01]
def LRX9_lays_6 : List UInt8 := LBX9_lays_6 ++ LRX9_lays_7
def LBX9_lays_5 : List UInt8 := [0x00, 0x41, 0x14, 0x00, 0x43, 0xb8, 0x00, 0x39, 0x99, 0x00, 0x15, 0x2a, 0x1c, 0x15, 0x05, 0x16]
def LRX9_lays_5 : List UInt8 := LBX9_lays_5 ++ LRX9_lays_6
def LBX9_lays_4 : List UInt8 := [0x05, 0xb6, 0x00, 0x3d, 0x99, 0x00, 0x29, 0x15, 0x05, 0x1c, 0x9f, 0x00, 0x23, 0x16, 0x06, 0x14]
def LRX9_lays_4 : List UInt8 := LBX9_lays_4 ++ LRX9_lays_5
def LBX9_lays_3 : List UInt8 := [0x2a, 0xb4, 0x00, 0x31, 0x10, 0x28, 0x1b, 0x68, 0x15, 0x05, 0x60, 0x2f, 0x37, 0x06, 0x2a, 0x15]
def LRX9_lays_3 : List UInt8 := LBX9_lays_3 ++ LRX9_lays_4
def LBX9_lays_2 : List UInt8 := [0x36, 0x04, 0x03, 0x36, 0x05, 0x15, 0x05, 0x2a, 0xb4, 0x00, 0x2e, 0x1b, 0x2e, 0xa2, 0x00, 0x46]
def LRX9_lays_2 : List UInt8 := LBX9_lays_2 ++ LRX9_lays_3
def LBX9_lays_1 : List UInt8 := [0x2a, 0x1c, 0xb6, 0x00, 0x3d, 0x9a, 0x00, 0x0a, 0x2a, 0x12, 0x38, 0xb6, 0x00, 0x46, 0xac, 0x03]
def LRX9_lays_1 : List UInt8 := LBX9_lays_1 ++ LRX9_lays_2
def LBX9_lays_0 : List UInt8 := [0x2a, 0x1b, 0xb6, 0x01, 0x36, 0x3e, 0x1d, 0x99, 0x00, 0x09, 0x2a, 0x1d, 0xb6, 0x00, 0x46, 0xac]
def LRX9_lays_0 : List UInt8 := LBX9_lays_0 ++ LRX9_lays_1
set_option maxRecDepth 100000 in
theorem LBX9_lays_eq : cX9_lays.data.toList = LRX9_lays_0 := by decide +kernel
theorem LBX9_laysr_0 (k : Nat) : cX9_lays.data.toList[0 + k]? = LRX9_lays_0[k]? := by rw [LBX9_lays_eq, Nat.zero_add]
theorem LBX9_laysr_1 (k : Nat) : cX9_lays.data.toList[16 + k]? = LRX9_lays_1[k]? := by
  have h := LBX9_laysr_0 (16 + k)
  rw [show 0 + (16 + k) = 16 + k by omega] at h
  rw [h]
  exact (List.getElem?_append_right (l₁ := LBX9_lays_0) (l₂ := LRX9_lays_1) (show 16 ≤ 16 + k by omega)).trans (congrArg (fun i => LRX9_lays_1[i]?) (show 16 + k - 16 = k by omega))
theorem LBX9_laysr_2 (k : Nat) : cX9_lays.data.toList[32 + k]? = LRX9_lays_2[k]? := by
  have h := LBX9_laysr_1 (16 + k)
  rw [show 16 + (16 + k) = 32 + k by omega] at h
  rw [h]
  exact (List.getElem?_append_right (l₁ := LBX9_lays_1) (l₂ := LRX9_lays_2) (show 16 ≤ 16 + k by omega)).trans (congrArg (fun i => LRX9_lays_2[i]?) (show 16 + k - 16 = k by omega))
theorem LBX9_laysr_3 (k : Nat) : cX9_lays.data.toList[48 + k]? = LRX9_lays_3[k]? := by
  have h := LBX9_laysr_2 (16 + k)
  rw [show 32 + (16 + k) = 48 + k by omega] at h
  rw [h]
  exact (List.getElem?_append_right (l₁ := LBX9_lays_2) (l₂ := LRX9_lays_3) (show 16 ≤ 16 + k by omega)).trans (congrArg (fun i => LRX9_lays_3[i]?) (show 16 + k - 16 = k by omega))
theorem LBX9_laysr_4 (k : Nat) : cX9_lays.data.toList[64 + k]? = LRX9_lays_4[k]? := by
  have h := LBX9_laysr_3 (16 + k)
  rw [show 48 + (16 + k) = 64 + k by omega] at h
  rw [h]
  exact (List.getElem?_append_right (l₁ := LBX9_lays_3) (l₂ := LRX9_lays_4) (show 16 ≤ 16 + k by omega)).trans (congrArg (fun i => LRX9_lays_4[i]?) (show 16 + k - 16 = k by omega))
theorem LBX9_laysr_5 (k : Nat) : cX9_lays.data.toList[80 + k]? = LRX9_lays_5[k]? := by
  have h := LBX9_laysr_4 (16 + k)
  rw [show 64 + (16 + k) = 80 + k by omega] at h
  rw [h]
  exact (List.getElem?_append_right (l₁ := LBX9_lays_4) (l₂ := LRX9_lays_5) (show 16 ≤ 16 + k by omega)).trans (congrArg (fun i => LRX9_lays_5[i]?) (show 16 + k - 16 = k by omega))
theorem LBX9_laysr_6 (k : Nat) : cX9_lays.data.toList[96 + k]? = LRX9_lays_6[k]? := by
  have h := LBX9_laysr_5 (16 + k)
  rw [show 80 + (16 + k) = 96 + k by omega] at h
  rw [h]
  exact (List.getElem?_append_right (l₁ := LBX9_lays_5) (l₂ := LRX9_lays_6) (show 16 ≤ 16 + k by omega)).trans (congrArg (fun i => LRX9_lays_6[i]?) (show 16 + k - 16 = k by omega))
theorem LBX9_laysr_7 (k : Nat) : cX9_lays.data.toList[112 + k]? = LRX9_lays_7[k]? := by
  have h := LBX9_laysr_6 (16 + k)
  rw [show 96 + (16 + k) = 112 + k by omega] at h
  rw [h]
  exact (List.getElem?_append_right (l₁ := LBX9_lays_6) (l₂ := LRX9_lays_7) (show 16 ≤ 16 + k by omega)).trans (congrArg (fun i => LRX9_lays_7[i]?) (show 16 + k - 16 = k by omega))
theorem dX9_lays_0 : decode cX9_lays 0 = .ok (.aload_n 0, 1) := dk_42_ (show cX9_lays.data.toList[0]? = some 0x2a from (LBX9_laysr_0 0).trans (by decide +kernel))
theorem dX9_lays_1 : decode cX9_lays 1 = .ok (.iload_n 1, 1) := dk_27_ (show cX9_lays.data.toList[1]? = some 0x1b from (LBX9_laysr_0 1).trans (by decide +kernel))
theorem dX9_lays_2 : decode cX9_lays 2 = .ok (.invokevirtual 310, 3) := dk_182_ (show cX9_lays.data.toList[2]? = some 0xb6 from (LBX9_laysr_0 2).trans (by decide +kernel)) (show cX9_lays.data.toList[3]? = some 0x01 from (LBX9_laysr_0 3).trans (by decide +kernel)) (show cX9_lays.data.toList[4]? = some 0x36 from (LBX9_laysr_0 4).trans (by decide +kernel)) (by decide)
theorem dX9_lays_5 : decode cX9_lays 5 = .ok (.istore_n 3, 1) := dk_62_ (show cX9_lays.data.toList[5]? = some 0x3e from (LBX9_laysr_0 5).trans (by decide +kernel))
theorem dX9_lays_6 : decode cX9_lays 6 = .ok (.iload_n 3, 1) := dk_29_ (show cX9_lays.data.toList[6]? = some 0x1d from (LBX9_laysr_0 6).trans (by decide +kernel))
theorem dX9_lays_7 : decode cX9_lays 7 = .ok (.ifCond .eq 9, 3) := dk_153_ (show cX9_lays.data.toList[7]? = some 0x99 from (LBX9_laysr_0 7).trans (by decide +kernel)) (show cX9_lays.data.toList[8]? = some 0x00 from (LBX9_laysr_0 8).trans (by decide +kernel)) (show cX9_lays.data.toList[9]? = some 0x09 from (LBX9_laysr_0 9).trans (by decide +kernel)) (by decide)
theorem dX9_lays_10 : decode cX9_lays 10 = .ok (.aload_n 0, 1) := dk_42_ (show cX9_lays.data.toList[10]? = some 0x2a from (LBX9_laysr_0 10).trans (by decide +kernel))
theorem dX9_lays_11 : decode cX9_lays 11 = .ok (.iload_n 3, 1) := dk_29_ (show cX9_lays.data.toList[11]? = some 0x1d from (LBX9_laysr_0 11).trans (by decide +kernel))
theorem dX9_lays_12 : decode cX9_lays 12 = .ok (.invokevirtual 70, 3) := dk_182_ (show cX9_lays.data.toList[12]? = some 0xb6 from (LBX9_laysr_0 12).trans (by decide +kernel)) (show cX9_lays.data.toList[13]? = some 0x00 from (LBX9_laysr_0 13).trans (by decide +kernel)) (show cX9_lays.data.toList[14]? = some 0x46 from (LBX9_laysr_0 14).trans (by decide +kernel)) (by decide)
theorem dX9_lays_15 : decode cX9_lays 15 = .ok (.ireturn, 1) := dk_172_ (show cX9_lays.data.toList[15]? = some 0xac from (LBX9_laysr_0 15).trans (by decide +kernel))
theorem dX9_lays_16 : decode cX9_lays 16 = .ok (.aload_n 0, 1) := dk_42_ (show cX9_lays.data.toList[16]? = some 0x2a from (LBX9_laysr_1 0).trans (by decide +kernel))
theorem dX9_lays_17 : decode cX9_lays 17 = .ok (.iload_n 2, 1) := dk_28_ (show cX9_lays.data.toList[17]? = some 0x1c from (LBX9_laysr_1 1).trans (by decide +kernel))
theorem dX9_lays_18 : decode cX9_lays 18 = .ok (.invokevirtual 61, 3) := dk_182_ (show cX9_lays.data.toList[18]? = some 0xb6 from (LBX9_laysr_1 2).trans (by decide +kernel)) (show cX9_lays.data.toList[19]? = some 0x00 from (LBX9_laysr_1 3).trans (by decide +kernel)) (show cX9_lays.data.toList[20]? = some 0x3d from (LBX9_laysr_1 4).trans (by decide +kernel)) (by decide)
theorem dX9_lays_21 : decode cX9_lays 21 = .ok (.ifCond .ne 10, 3) := dk_154_ (show cX9_lays.data.toList[21]? = some 0x9a from (LBX9_laysr_1 5).trans (by decide +kernel)) (show cX9_lays.data.toList[22]? = some 0x00 from (LBX9_laysr_1 6).trans (by decide +kernel)) (show cX9_lays.data.toList[23]? = some 0x0a from (LBX9_laysr_1 7).trans (by decide +kernel)) (by decide)
theorem dX9_lays_24 : decode cX9_lays 24 = .ok (.aload_n 0, 1) := dk_42_ (show cX9_lays.data.toList[24]? = some 0x2a from (LBX9_laysr_1 8).trans (by decide +kernel))
theorem dX9_lays_25 : decode cX9_lays 25 = .ok (.ldc 56, 2) := dk_18_ (show cX9_lays.data.toList[25]? = some 0x12 from (LBX9_laysr_1 9).trans (by decide +kernel)) (show cX9_lays.data.toList[26]? = some 0x38 from (LBX9_laysr_1 10).trans (by decide +kernel)) (by decide)
theorem dX9_lays_27 : decode cX9_lays 27 = .ok (.invokevirtual 70, 3) := dk_182_ (show cX9_lays.data.toList[27]? = some 0xb6 from (LBX9_laysr_1 11).trans (by decide +kernel)) (show cX9_lays.data.toList[28]? = some 0x00 from (LBX9_laysr_1 12).trans (by decide +kernel)) (show cX9_lays.data.toList[29]? = some 0x46 from (LBX9_laysr_1 13).trans (by decide +kernel)) (by decide)
theorem dX9_lays_30 : decode cX9_lays 30 = .ok (.ireturn, 1) := dk_172_ (show cX9_lays.data.toList[30]? = some 0xac from (LBX9_laysr_1 14).trans (by decide +kernel))
theorem dX9_lays_31 : decode cX9_lays 31 = .ok (.iconst 0, 1) := dk_3_ (show cX9_lays.data.toList[31]? = some 0x03 from (LBX9_laysr_1 15).trans (by decide +kernel))
theorem dX9_lays_32 : decode cX9_lays 32 = .ok (.istore 4, 2) := dk_54_ (show cX9_lays.data.toList[32]? = some 0x36 from (LBX9_laysr_2 0).trans (by decide +kernel)) (show cX9_lays.data.toList[33]? = some 0x04 from (LBX9_laysr_2 1).trans (by decide +kernel)) (by decide)
theorem dX9_lays_34 : decode cX9_lays 34 = .ok (.iconst 0, 1) := dk_3_ (show cX9_lays.data.toList[34]? = some 0x03 from (LBX9_laysr_2 2).trans (by decide +kernel))
theorem dX9_lays_35 : decode cX9_lays 35 = .ok (.istore 5, 2) := dk_54_ (show cX9_lays.data.toList[35]? = some 0x36 from (LBX9_laysr_2 3).trans (by decide +kernel)) (show cX9_lays.data.toList[36]? = some 0x05 from (LBX9_laysr_2 4).trans (by decide +kernel)) (by decide)
theorem dX9_lays_37 : decode cX9_lays 37 = .ok (.iload 5, 2) := dk_21_ (show cX9_lays.data.toList[37]? = some 0x15 from (LBX9_laysr_2 5).trans (by decide +kernel)) (show cX9_lays.data.toList[38]? = some 0x05 from (LBX9_laysr_2 6).trans (by decide +kernel)) (by decide)
theorem dX9_lays_39 : decode cX9_lays 39 = .ok (.aload_n 0, 1) := dk_42_ (show cX9_lays.data.toList[39]? = some 0x2a from (LBX9_laysr_2 7).trans (by decide +kernel))
theorem dX9_lays_40 : decode cX9_lays 40 = .ok (.getfield 46, 3) := dk_180_ (show cX9_lays.data.toList[40]? = some 0xb4 from (LBX9_laysr_2 8).trans (by decide +kernel)) (show cX9_lays.data.toList[41]? = some 0x00 from (LBX9_laysr_2 9).trans (by decide +kernel)) (show cX9_lays.data.toList[42]? = some 0x2e from (LBX9_laysr_2 10).trans (by decide +kernel)) (by decide)
theorem dX9_lays_43 : decode cX9_lays 43 = .ok (.iload_n 1, 1) := dk_27_ (show cX9_lays.data.toList[43]? = some 0x1b from (LBX9_laysr_2 11).trans (by decide +kernel))
theorem dX9_lays_44 : decode cX9_lays 44 = .ok (.iaload, 1) := dk_46_ (show cX9_lays.data.toList[44]? = some 0x2e from (LBX9_laysr_2 12).trans (by decide +kernel))
theorem dX9_lays_45 : decode cX9_lays 45 = .ok (.if_icmp .ge 70, 3) := dk_162_ (show cX9_lays.data.toList[45]? = some 0xa2 from (LBX9_laysr_2 13).trans (by decide +kernel)) (show cX9_lays.data.toList[46]? = some 0x00 from (LBX9_laysr_2 14).trans (by decide +kernel)) (show cX9_lays.data.toList[47]? = some 0x46 from (LBX9_laysr_2 15).trans (by decide +kernel)) (by decide)
theorem dX9_lays_48 : decode cX9_lays 48 = .ok (.aload_n 0, 1) := dk_42_ (show cX9_lays.data.toList[48]? = some 0x2a from (LBX9_laysr_3 0).trans (by decide +kernel))
theorem dX9_lays_49 : decode cX9_lays 49 = .ok (.getfield 49, 3) := dk_180_ (show cX9_lays.data.toList[49]? = some 0xb4 from (LBX9_laysr_3 1).trans (by decide +kernel)) (show cX9_lays.data.toList[50]? = some 0x00 from (LBX9_laysr_3 2).trans (by decide +kernel)) (show cX9_lays.data.toList[51]? = some 0x31 from (LBX9_laysr_3 3).trans (by decide +kernel)) (by decide)
theorem dX9_lays_52 : decode cX9_lays 52 = .ok (.bipush 40, 2) := dk_16_ (show cX9_lays.data.toList[52]? = some 0x10 from (LBX9_laysr_3 4).trans (by decide +kernel)) (show cX9_lays.data.toList[53]? = some 0x28 from (LBX9_laysr_3 5).trans (by decide +kernel)) (by decide)
theorem dX9_lays_54 : decode cX9_lays 54 = .ok (.iload_n 1, 1) := dk_27_ (show cX9_lays.data.toList[54]? = some 0x1b from (LBX9_laysr_3 6).trans (by decide +kernel))
theorem dX9_lays_55 : decode cX9_lays 55 = .ok (.imul, 1) := dk_104_ (show cX9_lays.data.toList[55]? = some 0x68 from (LBX9_laysr_3 7).trans (by decide +kernel))
theorem dX9_lays_56 : decode cX9_lays 56 = .ok (.iload 5, 2) := dk_21_ (show cX9_lays.data.toList[56]? = some 0x15 from (LBX9_laysr_3 8).trans (by decide +kernel)) (show cX9_lays.data.toList[57]? = some 0x05 from (LBX9_laysr_3 9).trans (by decide +kernel)) (by decide)
theorem dX9_lays_58 : decode cX9_lays 58 = .ok (.iadd, 1) := dk_96_ (show cX9_lays.data.toList[58]? = some 0x60 from (LBX9_laysr_3 10).trans (by decide +kernel))
theorem dX9_lays_59 : decode cX9_lays 59 = .ok (.laload, 1) := dk_47_ (show cX9_lays.data.toList[59]? = some 0x2f from (LBX9_laysr_3 11).trans (by decide +kernel))
theorem dX9_lays_60 : decode cX9_lays 60 = .ok (.lstore 6, 2) := dk_55_ (show cX9_lays.data.toList[60]? = some 0x37 from (LBX9_laysr_3 12).trans (by decide +kernel)) (show cX9_lays.data.toList[61]? = some 0x06 from (LBX9_laysr_3 13).trans (by decide +kernel)) (by decide)
theorem dX9_lays_62 : decode cX9_lays 62 = .ok (.aload_n 0, 1) := dk_42_ (show cX9_lays.data.toList[62]? = some 0x2a from (LBX9_laysr_3 14).trans (by decide +kernel))
theorem dX9_lays_63 : decode cX9_lays 63 = .ok (.iload 5, 2) := dk_21_ (show cX9_lays.data.toList[63]? = some 0x15 from (LBX9_laysr_3 15).trans (by decide +kernel)) (show cX9_lays.data.toList[64]? = some 0x05 from (LBX9_laysr_4 0).trans (by decide +kernel)) (by decide)
theorem dX9_lays_65 : decode cX9_lays 65 = .ok (.invokevirtual 61, 3) := dk_182_ (show cX9_lays.data.toList[65]? = some 0xb6 from (LBX9_laysr_4 1).trans (by decide +kernel)) (show cX9_lays.data.toList[66]? = some 0x00 from (LBX9_laysr_4 2).trans (by decide +kernel)) (show cX9_lays.data.toList[67]? = some 0x3d from (LBX9_laysr_4 3).trans (by decide +kernel)) (by decide)
theorem dX9_lays_68 : decode cX9_lays 68 = .ok (.ifCond .eq 41, 3) := dk_153_ (show cX9_lays.data.toList[68]? = some 0x99 from (LBX9_laysr_4 4).trans (by decide +kernel)) (show cX9_lays.data.toList[69]? = some 0x00 from (LBX9_laysr_4 5).trans (by decide +kernel)) (show cX9_lays.data.toList[70]? = some 0x29 from (LBX9_laysr_4 6).trans (by decide +kernel)) (by decide)
theorem dX9_lays_71 : decode cX9_lays 71 = .ok (.iload 5, 2) := dk_21_ (show cX9_lays.data.toList[71]? = some 0x15 from (LBX9_laysr_4 7).trans (by decide +kernel)) (show cX9_lays.data.toList[72]? = some 0x05 from (LBX9_laysr_4 8).trans (by decide +kernel)) (by decide)
theorem dX9_lays_73 : decode cX9_lays 73 = .ok (.iload_n 2, 1) := dk_28_ (show cX9_lays.data.toList[73]? = some 0x1c from (LBX9_laysr_4 9).trans (by decide +kernel))
theorem dX9_lays_74 : decode cX9_lays 74 = .ok (.if_icmp .eq 35, 3) := dk_159_ (show cX9_lays.data.toList[74]? = some 0x9f from (LBX9_laysr_4 10).trans (by decide +kernel)) (show cX9_lays.data.toList[75]? = some 0x00 from (LBX9_laysr_4 11).trans (by decide +kernel)) (show cX9_lays.data.toList[76]? = some 0x23 from (LBX9_laysr_4 12).trans (by decide +kernel)) (by decide)
theorem dX9_lays_77 : decode cX9_lays 77 = .ok (.lload 6, 2) := dk_22_ (show cX9_lays.data.toList[77]? = some 0x16 from (LBX9_laysr_4 13).trans (by decide +kernel)) (show cX9_lays.data.toList[78]? = some 0x06 from (LBX9_laysr_4 14).trans (by decide +kernel)) (by decide)
theorem dX9_lays_79 : decode cX9_lays 79 = .ok (.ldc2_w 65, 3) := dk_20_ (show cX9_lays.data.toList[79]? = some 0x14 from (LBX9_laysr_4 15).trans (by decide +kernel)) (show cX9_lays.data.toList[80]? = some 0x00 from (LBX9_laysr_5 0).trans (by decide +kernel)) (show cX9_lays.data.toList[81]? = some 0x41 from (LBX9_laysr_5 1).trans (by decide +kernel)) (by decide)
theorem dX9_lays_82 : decode cX9_lays 82 = .ok (.ldc2_w 67, 3) := dk_20_ (show cX9_lays.data.toList[82]? = some 0x14 from (LBX9_laysr_5 2).trans (by decide +kernel)) (show cX9_lays.data.toList[83]? = some 0x00 from (LBX9_laysr_5 3).trans (by decide +kernel)) (show cX9_lays.data.toList[84]? = some 0x43 from (LBX9_laysr_5 4).trans (by decide +kernel)) (by decide)
theorem dX9_lays_85 : decode cX9_lays 85 = .ok (.invokestatic 57, 3) := dk_184_ (show cX9_lays.data.toList[85]? = some 0xb8 from (LBX9_laysr_5 5).trans (by decide +kernel)) (show cX9_lays.data.toList[86]? = some 0x00 from (LBX9_laysr_5 6).trans (by decide +kernel)) (show cX9_lays.data.toList[87]? = some 0x39 from (LBX9_laysr_5 7).trans (by decide +kernel)) (by decide)
theorem dX9_lays_88 : decode cX9_lays 88 = .ok (.ifCond .eq 21, 3) := dk_153_ (show cX9_lays.data.toList[88]? = some 0x99 from (LBX9_laysr_5 8).trans (by decide +kernel)) (show cX9_lays.data.toList[89]? = some 0x00 from (LBX9_laysr_5 9).trans (by decide +kernel)) (show cX9_lays.data.toList[90]? = some 0x15 from (LBX9_laysr_5 10).trans (by decide +kernel)) (by decide)
theorem dX9_lays_91 : decode cX9_lays 91 = .ok (.aload_n 0, 1) := dk_42_ (show cX9_lays.data.toList[91]? = some 0x2a from (LBX9_laysr_5 11).trans (by decide +kernel))
theorem dX9_lays_92 : decode cX9_lays 92 = .ok (.iload_n 2, 1) := dk_28_ (show cX9_lays.data.toList[92]? = some 0x1c from (LBX9_laysr_5 12).trans (by decide +kernel))
theorem dX9_lays_93 : decode cX9_lays 93 = .ok (.iload 5, 2) := dk_21_ (show cX9_lays.data.toList[93]? = some 0x15 from (LBX9_laysr_5 13).trans (by decide +kernel)) (show cX9_lays.data.toList[94]? = some 0x05 from (LBX9_laysr_5 14).trans (by decide +kernel)) (by decide)
theorem dX9_lays_95 : decode cX9_lays 95 = .ok (.lload 6, 2) := dk_22_ (show cX9_lays.data.toList[95]? = some 0x16 from (LBX9_laysr_5 15).trans (by decide +kernel)) (show cX9_lays.data.toList[96]? = some 0x06 from (LBX9_laysr_6 0).trans (by decide +kernel)) (by decide)
theorem dX9_lays_97 : decode cX9_lays 97 = .ok (.l2i, 1) := dk_136_ (show cX9_lays.data.toList[97]? = some 0x88 from (LBX9_laysr_6 1).trans (by decide +kernel))
theorem dX9_lays_98 : decode cX9_lays 98 = .ok (.lload 6, 2) := dk_22_ (show cX9_lays.data.toList[98]? = some 0x16 from (LBX9_laysr_6 2).trans (by decide +kernel)) (show cX9_lays.data.toList[99]? = some 0x06 from (LBX9_laysr_6 3).trans (by decide +kernel)) (by decide)
theorem dX9_lays_100 : decode cX9_lays 100 = .ok (.l2i, 1) := dk_136_ (show cX9_lays.data.toList[100]? = some 0x88 from (LBX9_laysr_6 4).trans (by decide +kernel))
theorem dX9_lays_101 : decode cX9_lays 101 = .ok (.invokevirtual 87, 3) := dk_182_ (show cX9_lays.data.toList[101]? = some 0xb6 from (LBX9_laysr_6 5).trans (by decide +kernel)) (show cX9_lays.data.toList[102]? = some 0x00 from (LBX9_laysr_6 6).trans (by decide +kernel)) (show cX9_lays.data.toList[103]? = some 0x57 from (LBX9_laysr_6 7).trans (by decide +kernel)) (by decide)
theorem dX9_lays_104 : decode cX9_lays 104 = .ok (.istore 8, 2) := dk_54_ (show cX9_lays.data.toList[104]? = some 0x36 from (LBX9_laysr_6 8).trans (by decide +kernel)) (show cX9_lays.data.toList[105]? = some 0x08 from (LBX9_laysr_6 9).trans (by decide +kernel)) (by decide)
theorem dX9_lays_106 : decode cX9_lays 106 = .ok (.iinc 4 1, 3) := dk_132_ (show cX9_lays.data.toList[106]? = some 0x84 from (LBX9_laysr_6 10).trans (by decide +kernel)) (show cX9_lays.data.toList[107]? = some 0x04 from (LBX9_laysr_6 11).trans (by decide +kernel)) (show cX9_lays.data.toList[108]? = some 0x01 from (LBX9_laysr_6 12).trans (by decide +kernel)) (by decide) (by decide)
theorem dX9_lays_109 : decode cX9_lays 109 = .ok (.iinc 5 1, 3) := dk_132_ (show cX9_lays.data.toList[109]? = some 0x84 from (LBX9_laysr_6 13).trans (by decide +kernel)) (show cX9_lays.data.toList[110]? = some 0x05 from (LBX9_laysr_6 14).trans (by decide +kernel)) (show cX9_lays.data.toList[111]? = some 0x01 from (LBX9_laysr_6 15).trans (by decide +kernel)) (by decide) (by decide)
theorem dX9_lays_112 : decode cX9_lays 112 = .ok (.goto (-75), 3) := dk_167_ (show cX9_lays.data.toList[112]? = some 0xa7 from (LBX9_laysr_7 0).trans (by decide +kernel)) (show cX9_lays.data.toList[113]? = some 0xff from (LBX9_laysr_7 1).trans (by decide +kernel)) (show cX9_lays.data.toList[114]? = some 0xb5 from (LBX9_laysr_7 2).trans (by decide +kernel)) (by decide)
theorem dX9_lays_115 : decode cX9_lays 115 = .ok (.iload 4, 2) := dk_21_ (show cX9_lays.data.toList[115]? = some 0x15 from (LBX9_laysr_7 3).trans (by decide +kernel)) (show cX9_lays.data.toList[116]? = some 0x04 from (LBX9_laysr_7 4).trans (by decide +kernel)) (by decide)
theorem dX9_lays_117 : decode cX9_lays 117 = .ok (.ireturn, 1) := dk_172_ (show cX9_lays.data.toList[117]? = some 0xac from (LBX9_laysr_7 5).trans (by decide +kernel))
set_option maxHeartbeats 4000000 in
set_option maxRecDepth 100000 in
theorem c_X9_lays_o (l : Launch) (D : va_G) (cI cJ cZ cS : ClassId) (ta : Nat) (sa sv : Nat → Nat) (sz : Nat) (h0 : Nat) (ys : Nat) (yk : Nat) (yo : Nat) (yt : Nat) (mk0 : Int32) (yfa : Nat) (yfe : Nat) (mL : Int32) (mS : Int32) (mM : Int32) (yro : Nat) (yhe : Nat) (ygr : Nat) (mF : Int32) (mC : Int32) (mY : Int32) (yta : Nat) (mz : Nat) (mf : Nat) (mt : Nat) (mv : Int32) (mw : Int32) (ywa : Nat) (ybi : Nat) (ysi : Nat) (ynu : Nat) (ymo : Nat) (mq : Nat → Int32) (p0 : Int32) (p1 : Int32) (ho : p0 < 0 ∨ 3 < p0) : Met l yX9_lays (Cond.code yX9_lays cX9_lays 9 (some .int) :: wsU) ({ frames := 3, cells := 0, slots := 0, locals := 66 }) (va_Pc [.ref h0, .int p0, .int p1] (XW D (xT cI cJ cZ cS) ta sa sv [(h0, .inr (9, [.ref ys, .ref yk, .ref yo, .ref yt, .int mk0, .ref yfa, .ref yfe, .int mL, .int mS, .int mM, .ref yro, .ref yhe, .ref ygr, .int mF, .int mC, .int mY, .ref yta, .int (nI (mz)), .int (nI (mf)), .int (nI (mt)), .int mv, .int mw, .ref ywa, .ref ybi, .ref ysi, .ref ynu, .ref ymo])), (yt, .inl (cI, 7, .inl mq))] sz)) (XQi (fun (r : Int32) (mq2 : (Nat → Int32)) => ((r = (-1000000001)))) D (fun (mq2 : Nat → Int32) => [(h0, .inr (9, [.ref ys, .ref yk, .ref yo, .ref yt, .int mk0, .ref yfa, .ref yfe, .int mL, .int mS, .int mM, .ref yro, .ref yhe, .ref ygr, .int mF, .int mC, .int mY, .ref yta, .int (nI (mz)), .int (nI (mf)), .int (nI (mt)), .int mv, .int mw, .ref ywa, .ref ybi, .ref ysi, .ref ynu, .ref ymo])), (yt, .inl (cI, 7, .inl mq2))]) (va_A [(h0, .inr (9, [.ref ys, .ref yk, .ref yo, .ref yt, .int mk0, .ref yfa, .ref yfe, .int mL, .int mS, .int mM, .ref yro, .ref yhe, .ref ygr, .int mF, .int mC, .int mY, .ref yta, .int (nI (mz)), .int (nI (mf)), .int (nI (mt)), .int mv, .int mw, .ref ywa, .ref ybi, .ref ysi, .ref ynu, .ref ymo])), (yt, .inl (cI, 7, .inl mq))] sz)) 0 0 (va_A [(h0, .inr (9, [.ref ys, .ref yk, .ref yo, .ref yt, .int mk0, .ref yfa, .ref yfe, .int mL, .int mS, .int mM, .ref yro, .ref yhe, .ref ygr, .int mF, .int mC, .int mY, .ref yta, .int (nI (mz)), .int (nI (mf)), .int (nI (mt)), .int mv, .int mw, .ref ywa, .ref ybi, .ref ysi, .ref ynu, .ref ymo])), (yt, .inl (cI, 7, .inl mq))] sz) := by
  refine xh (QA := fun A => XQi (fun (r : Int32) (mq2 : (Nat → Int32)) => ((r = (-1000000001)))) D (fun (mq2 : Nat → Int32) => [(h0, .inr (9, [.ref ys, .ref yk, .ref yo, .ref yt, .int mk0, .ref yfa, .ref yfe, .int mL, .int mS, .int mM, .ref yro, .ref yhe, .ref ygr, .int mF, .int mC, .int mY, .ref yta, .int (nI (mz)), .int (nI (mf)), .int (nI (mt)), .int mv, .int mw, .ref ywa, .ref ybi, .ref ysi, .ref ynu, .ref ymo])), (yt, .inl (cI, 7, .inl mq2))]) A) (fr := fun A => A) (by decide) (Nat.le_of_ble_eq_true rfl) ?_
  intro p e s m below meth c ls A hF hr hlk hin hsz hP hK hD hN hZ hA hS hl
  have hF : CallFix p m c cX9_lays 9 s _ _ RX9 := hF
  have hx := hF.1
  have hb := hF.2.1
  have hml := hF.2.2.1
  have hown := hF.2.2.2.1
  have hu : ∀ w ∈ wsU, w.before _ s = true := fun w h => hF.2.2.2.2 w (List.mem_cons_of_mem _ h)
  have hl : lv_has ls 9 [(0, .ref h0), (1, .int p0), (2, .int p1)] := hl
  refine lv_aload_n hx hb dX9_lays_0 rfl (lv_at hl 0 rfl) ?_
  refine lv_iload_n hx hb dX9_lays_1 rfl (lv_at hl 1 rfl) ?_
  refine xc_Vr hF (c_X9_wrong_o l D cI cJ cZ cS ta sa sv s.heap.size h0 ys yk yo yt mk0 yfa yfe mL mS mM yro yhe ygr mF mC mY yta mz mf mt mv mw ywa ybi ysi ynu ymo p0 ho) kv_X9_310 ⟨rfl, rfl, Nat.le_of_ble_eq_true rfl, Nat.le_of_ble_eq_true rfl⟩ ⟨Nat.le_of_ble_eq_true rfl, Nat.le_of_ble_eq_true rfl⟩ hK hN hZ hP hD hS hA [0] rfl rfl 0 rfl rfl rfl rfl hl.1 rfl (Nat.le_of_ble_eq_true rfl) dX9_lays_2 (fun r_1 hw_r_1 => ?_)
  subst hw_r_1
  refine lv_istore_n (lv' := [(3, .int (-1000000001)), (0, .ref h0), (1, .int p0), (2, .int p1)]) hx hb dX9_lays_5 rfl hl (by decide) rfl (fun ls hl => ?_)
  refine lv_iload_n hx hb dX9_lays_6 rfl (lv_at hl 0 rfl) ?_
  refine lv_if_eq (tgt := 16) hx hb dX9_lays_7 (by decide) (fun c_2 => absurd c_2 (by decide)) (fun c_2 => ?_)
  refine lv_aload_n hx hb dX9_lays_10 rfl (lv_at hl 1 rfl) ?_
  refine lv_iload_n hx hb dX9_lays_11 rfl (lv_at hl 0 rfl) ?_
  refine xc_Vi (wr := []) hF (c_X9_finds_B l D cI cJ cZ cS ta sa sv s.heap.size h0 ys yk yo yt mk0 yfa yfe mL mS mM yro yhe ygr mF mC mY yta mz mf mt mv mw ywa ybi ysi ynu ymo mq ) kv_X9_70 ⟨rfl, rfl, Nat.le_of_ble_eq_true rfl, Nat.le_of_ble_eq_true rfl⟩ ⟨Nat.le_of_ble_eq_true rfl, Nat.le_of_ble_eq_true rfl⟩ hK hN hZ hP hD hS hA [0, 1] [] rfl rfl rfl rfl (by decide) 0 rfl rfl rfl rfl hl.1 rfl (Nat.le_of_ble_eq_true rfl) dX9_lays_12 (fun r_3 u_r_3 H locs hw_r_3 hP hD hS => ?_)
  obtain ⟨mq2_4, rfl⟩ : ∃ z, z = u_r_3 := ⟨_, rfl⟩
  try dsimp only at hw_r_3
  have hP : va_P D vwCl [(h0, .inr (9, [.ref ys, .ref yk, .ref yo, .ref yt, .int mk0, .ref yfa, .ref yfe, .int mL, .int mS, .int mM, .ref yro, .ref yhe, .ref ygr, .int mF, .int mC, .int mY, .ref yta, .int (nI (mz)), .int (nI (mf)), .int (nI (mt)), .int mv, .int mw, .ref ywa, .ref ybi, .ref ysi, .ref ynu, .ref ymo])), (yt, .inl (cI, 7, .inl mq2_4))] H := hP
  have hD : va_D A [(h0, .inr (9, [.ref ys, .ref yk, .ref yo, .ref yt, .int mk0, .ref yfa, .ref yfe, .int mL, .int mS, .int mM, .ref yro, .ref yhe, .ref ygr, .int mF, .int mC, .int mY, .ref yta, .int (nI (mz)), .int (nI (mf)), .int (nI (mt)), .int mv, .int mw, .ref ywa, .ref ybi, .ref ysi, .ref ynu, .ref ymo])), (yt, .inl (cI, 7, .inl mq2_4))] := hD
  subst hw_r_3
  exact W.iret (v := (-1000000001)) hx hb hr (fun t ht hW => ⟨⟨(-1000000001), mq2_4, rfl, (by first | exact rfl), by rw [ht]; exact hP.sub [0, 1] rfl, hD.sub [0, 1] (by decide) rfl⟩, hS.F ht⟩) hS.2.2 dX9_lays_15 hlk
set_option maxHeartbeats 4000000 in
set_option maxRecDepth 100000 in
theorem c_X9_lays_0 (l : Launch) (D : va_G) (cI cJ cZ cS : ClassId) (ta : Nat) (sa sv : Nat → Nat) (sz : Nat) (h0 : Nat) (ys : Nat) (yk : Nat) (yo : Nat) (yt : Nat) (mk0 : Int32) (yfa : Nat) (yfe : Nat) (mL : Int32) (mS : Int32) (mM : Int32) (yro : Nat) (yhe : Nat) (ygr : Nat) (mF : Int32) (mC : Int32) (mY : Int32) (yta : Nat) (mz : Nat) (mf : Nat) (mt : Nat) (mv : Int32) (mw : Int32) (ywa : Nat) (ybi : Nat) (ysi : Nat) (ynu : Nat) (ymo : Nat) (ms : Nat → Int32) (bi : Nat → Int32) (sq : Nat → Int32) (nb : Nat → Int64) (mq : Nat → Int32) (P : Nat) (Rn : Nat) (Wn : Nat) (fae : Nat → Int32) (fal : Nat → Int32) (fau : Nat → Int32) (fao : Nat → Int32) (farn : Nat → Int32) (farp : Nat → Int32) (fak : Nat → Int32) (fawn : Nat → Int32) (fawp : Nat → Int32) (fat : Nat → Int32) (fas : Nat → Int32) (p1 : Int32) (bt : Int32) (zq : Nat) (nu : Nat → Int64) (hbt9 : bi 0 = bt) (ez : sq 0 = nI zq) (hzq : zq ≤ 40) (hn : ∀ j, j < 40 → nb (0 + j) = nu j) (hsq : BA 4 41 sq) (hs0 : ms 0 = nI P) (hs1 : ms 1 = nI Rn) (hs2 : ms 2 = nI Wn) (hsS : SI ms) (hsM : MI ms) (hsp : P ≤ 10) (hsr : Rn ≤ 8) (hsw : Wn ≤ 8) (hsR : RI Rn ms) (hsG : FR P ms fae fal fau fao farn farp fak fawn fawp fat fas) : Met l yX9_lays (Cond.code yX9_lays cX9_lays 9 (some .int) :: wsU) ({ frames := 3, cells := 0, slots := 0, locals := 66 }) (va_Pc [.ref h0, .int 0, .int p1] (XW D (xT cI cJ cZ cS) ta sa sv [(h0, .inr (9, [.ref ys, .ref yk, .ref yo, .ref yt, .int mk0, .ref yfa, .ref yfe, .int mL, .int mS, .int mM, .ref yro, .ref yhe, .ref ygr, .int mF, .int mC, .int mY, .ref yta, .int (nI (mz)), .int (nI (mf)), .int (nI (mt)), .int mv, .int mw, .ref ywa, .ref ybi, .ref ysi, .ref ynu, .ref ymo])), (ys, .inl (cI, 449, .inl ms)), (ybi, .inl (cI, 4, .inl bi)), (ysi, .inl (cI, 4, .inl sq)), (ynu, .inl (cJ, 160, .inr (.inl nb))), (yt, .inl (cI, 7, .inl mq))] sz)) (XQi (fun (r : Int32) (u : (Nat → Int32) × (Nat → Int32) × (Nat → Int32) × (Nat → Int32) × (Nat → Int32)) => match u with | (ms2, mq2, gl, gu, go) => ((r = laR P zq bt p1 nu)) ∧ (gl = laF P zq bt p1 nu fal) ∧ (gu = laF P zq bt p1 nu fau) ∧ (go = laO P zq bt p1 nu fao) ∧ (ms2 0 = nI P) ∧ (ms2 1 = nI Rn) ∧ (ms2 2 = nI Wn) ∧ (SI ms2) ∧ (MI ms2) ∧ (P ≤ 10) ∧ (Rn ≤ 8) ∧ (Wn ≤ 8) ∧ (RI Rn ms2) ∧ (FR P ms2 fae gl gu go farn farp fak fawn fawp fat fas)) D (fun (u : (Nat → Int32) × (Nat → Int32) × (Nat → Int32) × (Nat → Int32) × (Nat → Int32)) => match u with | (ms2, mq2, gl, gu, go) => [(h0, .inr (9, [.ref ys, .ref yk, .ref yo, .ref yt, .int mk0, .ref yfa, .ref yfe, .int mL, .int mS, .int mM, .ref yro, .ref yhe, .ref ygr, .int mF, .int mC, .int mY, .ref yta, .int (nI (mz)), .int (nI (mf)), .int (nI (mt)), .int mv, .int mw, .ref ywa, .ref ybi, .ref ysi, .ref ynu, .ref ymo])), (ys, .inl (cI, 449, .inl ms2)), (ybi, .inl (cI, 4, .inl bi)), (ysi, .inl (cI, 4, .inl sq)), (ynu, .inl (cJ, 160, .inr (.inl nb))), (yt, .inl (cI, 7, .inl mq2))]) (va_A [(h0, .inr (9, [.ref ys, .ref yk, .ref yo, .ref yt, .int mk0, .ref yfa, .ref yfe, .int mL, .int mS, .int mM, .ref yro, .ref yhe, .ref ygr, .int mF, .int mC, .int mY, .ref yta, .int (nI (mz)), .int (nI (mf)), .int (nI (mt)), .int mv, .int mw, .ref ywa, .ref ybi, .ref ysi, .ref ynu, .ref ymo])), (ys, .inl (cI, 449, .inl ms)), (ybi, .inl (cI, 4, .inl bi)), (ysi, .inl (cI, 4, .inl sq)), (ynu, .inl (cJ, 160, .inr (.inl nb))), (yt, .inl (cI, 7, .inl mq))] sz)) 0 0 (va_A [(h0, .inr (9, [.ref ys, .ref yk, .ref yo, .ref yt, .int mk0, .ref yfa, .ref yfe, .int mL, .int mS, .int mM, .ref yro, .ref yhe, .ref ygr, .int mF, .int mC, .int mY, .ref yta, .int (nI (mz)), .int (nI (mf)), .int (nI (mt)), .int mv, .int mw, .ref ywa, .ref ybi, .ref ysi, .ref ynu, .ref ymo])), (ys, .inl (cI, 449, .inl ms)), (ybi, .inl (cI, 4, .inl bi)), (ysi, .inl (cI, 4, .inl sq)), (ynu, .inl (cJ, 160, .inr (.inl nb))), (yt, .inl (cI, 7, .inl mq))] sz) := by
  refine xh (QA := fun A => XQi (fun (r : Int32) (u : (Nat → Int32) × (Nat → Int32) × (Nat → Int32) × (Nat → Int32) × (Nat → Int32)) => match u with | (ms2, mq2, gl, gu, go) => ((r = laR P zq bt p1 nu)) ∧ (gl = laF P zq bt p1 nu fal) ∧ (gu = laF P zq bt p1 nu fau) ∧ (go = laO P zq bt p1 nu fao) ∧ (ms2 0 = nI P) ∧ (ms2 1 = nI Rn) ∧ (ms2 2 = nI Wn) ∧ (SI ms2) ∧ (MI ms2) ∧ (P ≤ 10) ∧ (Rn ≤ 8) ∧ (Wn ≤ 8) ∧ (RI Rn ms2) ∧ (FR P ms2 fae gl gu go farn farp fak fawn fawp fat fas)) D (fun (u : (Nat → Int32) × (Nat → Int32) × (Nat → Int32) × (Nat → Int32) × (Nat → Int32)) => match u with | (ms2, mq2, gl, gu, go) => [(h0, .inr (9, [.ref ys, .ref yk, .ref yo, .ref yt, .int mk0, .ref yfa, .ref yfe, .int mL, .int mS, .int mM, .ref yro, .ref yhe, .ref ygr, .int mF, .int mC, .int mY, .ref yta, .int (nI (mz)), .int (nI (mf)), .int (nI (mt)), .int mv, .int mw, .ref ywa, .ref ybi, .ref ysi, .ref ynu, .ref ymo])), (ys, .inl (cI, 449, .inl ms2)), (ybi, .inl (cI, 4, .inl bi)), (ysi, .inl (cI, 4, .inl sq)), (ynu, .inl (cJ, 160, .inr (.inl nb))), (yt, .inl (cI, 7, .inl mq2))]) A) (fr := fun A => A) (by decide) (Nat.le_of_ble_eq_true rfl) ?_
  intro p e s m below meth c ls A hF hr hlk hin hsz hP hK hD hN hZ hA hS hl
  have hF : CallFix p m c cX9_lays 9 s _ _ RX9 := hF
  have hx := hF.1
  have hb := hF.2.1
  have hml := hF.2.2.1
  have hown := hF.2.2.2.1
  have hu : ∀ w ∈ wsU, w.before _ s = true := fun w h => hF.2.2.2.2 w (List.mem_cons_of_mem _ h)
  have hl : lv_has ls 9 [(0, .ref h0), (1, .int 0), (2, .int p1)] := hl
  refine lv_aload_n hx hb dX9_lays_0 rfl (lv_at hl 0 rfl) ?_
  refine lv_iload_n hx hb dX9_lays_1 rfl (lv_at hl 1 rfl) ?_
  refine xc_Vr hF (c_X9_wrong_0 l D cI cJ cZ cS ta sa sv s.heap.size h0 ys yk yo yt mk0 yfa yfe mL mS mM yro yhe ygr mF mC mY yta mz mf mt mv mw ywa ybi ysi ynu ymo bi ) kv_X9_310 ⟨rfl, rfl, Nat.le_of_ble_eq_true rfl, Nat.le_of_ble_eq_true rfl⟩ ⟨Nat.le_of_ble_eq_true rfl, Nat.le_of_ble_eq_true rfl⟩ hK hN hZ hP hD hS hA [0, 2] rfl rfl 0 rfl rfl rfl rfl hl.1 rfl (Nat.le_of_ble_eq_true rfl) dX9_lays_2 (fun r_1 hw_r_1 => ?_)
  rcases hw_r_1 with ⟨rfl, h_2⟩ | ⟨rfl, h_3⟩
  · skip
    refine lv_istore_n (lv' := [(3, .int (-1000000006)), (0, .ref h0), (1, .int 0), (2, .int p1)]) hx hb dX9_lays_5 rfl hl (by decide) rfl (fun ls hl => ?_)
    refine lv_iload_n hx hb dX9_lays_6 rfl (lv_at hl 0 rfl) ?_
    refine lv_if_eq (tgt := 16) hx hb dX9_lays_7 (by decide) (fun c_4 => absurd c_4 (by decide)) (fun c_4 => ?_)
    refine lv_aload_n hx hb dX9_lays_10 rfl (lv_at hl 1 rfl) ?_
    refine lv_iload_n hx hb dX9_lays_11 rfl (lv_at hl 0 rfl) ?_
    refine xc_Vi (wr := [(ys, .inl (cI, 449, .inl ms)), (ybi, .inl (cI, 4, .inl bi)), (ysi, .inl (cI, 4, .inl sq)), (ynu, .inl (cJ, 160, .inr (.inl nb)))]) hF (c_X9_finds_M l D cI cJ cZ cS ta sa sv s.heap.size h0 ys yk yo yt mk0 yfa yfe mL mS mM yro yhe ygr mF mC mY yta mz mf mt mv mw ywa ybi ysi ynu ymo mq ) kv_X9_70 ⟨rfl, rfl, Nat.le_of_ble_eq_true rfl, Nat.le_of_ble_eq_true rfl⟩ ⟨Nat.le_of_ble_eq_true rfl, Nat.le_of_ble_eq_true rfl⟩ hK hN hZ hP hD hS hA [0, 5] [1, 2, 3, 4] rfl rfl rfl rfl (by decide) 0 rfl rfl rfl rfl hl.1 rfl (Nat.le_of_ble_eq_true rfl) dX9_lays_12 (fun r_5 u_r_5 H locs hw_r_5 hP hD hS => ?_)
    obtain ⟨mq2_6, rfl⟩ : ∃ z, z = u_r_5 := ⟨_, rfl⟩
    try dsimp only at hw_r_5
    have hP : va_P D vwCl [(ys, .inl (cI, 449, .inl ms)), (ybi, .inl (cI, 4, .inl bi)), (ysi, .inl (cI, 4, .inl sq)), (ynu, .inl (cJ, 160, .inr (.inl nb))), (h0, .inr (9, [.ref ys, .ref yk, .ref yo, .ref yt, .int mk0, .ref yfa, .ref yfe, .int mL, .int mS, .int mM, .ref yro, .ref yhe, .ref ygr, .int mF, .int mC, .int mY, .ref yta, .int (nI (mz)), .int (nI (mf)), .int (nI (mt)), .int mv, .int mw, .ref ywa, .ref ybi, .ref ysi, .ref ynu, .ref ymo])), (yt, .inl (cI, 7, .inl mq2_6))] H := hP
    have hD : va_D A [(ys, .inl (cI, 449, .inl ms)), (ybi, .inl (cI, 4, .inl bi)), (ysi, .inl (cI, 4, .inl sq)), (ynu, .inl (cJ, 160, .inr (.inl nb))), (h0, .inr (9, [.ref ys, .ref yk, .ref yo, .ref yt, .int mk0, .ref yfa, .ref yfe, .int mL, .int mS, .int mM, .ref yro, .ref yhe, .ref ygr, .int mF, .int mC, .int mY, .ref yta, .int (nI (mz)), .int (nI (mf)), .int (nI (mt)), .int mv, .int mw, .ref ywa, .ref ybi, .ref ysi, .ref ynu, .ref ymo])), (yt, .inl (cI, 7, .inl mq2_6))] := hD
    subst hw_r_5
    exact W.iret (v := (-1000000006)) hx hb hr (fun t ht hW => ⟨⟨(-1000000006), (ms, mq2_6, fal, fau, fao), rfl, ⟨(la_m (P := P) (z := zq) (nu := nu) (hbt9.symm.trans h_2)).1, ((la_m (P := P) (z := zq) (nu := nu) (hbt9.symm.trans h_2)).2.1 _), ((la_m (P := P) (z := zq) (nu := nu) (hbt9.symm.trans h_2)).2.1 _), ((la_m (P := P) (z := zq) (nu := nu) (hbt9.symm.trans h_2)).2.2 _), hs0, hs1, hs2, hsS, hsM, hsp, hsr, hsw, hsR, hsG⟩, by rw [ht]; exact hP.sub [4, 0, 1, 2, 3, 5] rfl, hD.sub [4, 0, 1, 2, 3, 5] (by decide +kernel) rfl⟩, hS.F ht⟩) hS.2.2 dX9_lays_15 hlk
  · skip
    refine lv_istore_n (lv' := [(3, .int 0), (0, .ref h0), (1, .int 0), (2, .int p1)]) hx hb dX9_lays_5 rfl hl (by decide) rfl (fun ls hl => ?_)
    refine lv_iload_n hx hb dX9_lays_6 rfl (lv_at hl 0 rfl) ?_
    refine lv_if_eq (tgt := 16) hx hb dX9_lays_7 (by decide) (fun c_7 => ?_) (fun c_7 => absurd (by decide) c_7)
    refine lv_aload_n hx hb dX9_lays_16 rfl (lv_at hl 1 rfl) ?_
    refine lv_iload_n hx hb dX9_lays_17 rfl (lv_at hl 3 rfl) ?_
    refine xc_Vr hF (c_X9_isPlace l D cI cJ cZ cS ta sa sv s.heap.size h0 ys yk yo yt mk0 yfa yfe mL mS mM yro yhe ygr mF mC mY yta mz mf mt mv mw ywa ybi ysi ynu ymo ms P Rn Wn fae fal fau fao farn farp fak fawn fawp fat fas p1 hs0 hs1 hs2 hsS hsM hsp hsr hsw hsR hsG) kv_X9_61 ⟨rfl, rfl, Nat.le_of_ble_eq_true rfl, Nat.le_of_ble_eq_true rfl⟩ ⟨Nat.le_of_ble_eq_true rfl, Nat.le_of_ble_eq_true rfl⟩ hK hN hZ hP hD hS hA [0, 1] rfl rfl 0 rfl rfl rfl rfl hl.1 rfl (Nat.le_of_ble_eq_true rfl) dX9_lays_18 (fun r_8 hw_r_8 => ?_)
    rcases hw_r_8 with ⟨k_9, rfl, rfl, h_11⟩ | ⟨rfl, h_12⟩
    · skip
      refine lv_if_ne (tgt := 31) hx hb dX9_lays_21 (by decide) (fun c_13 => ?_) (fun c_13 => absurd c_13 (by decide))
      refine lv_iconst (v := 0) hx hb dX9_lays_31 (by decide) ?_
      refine lv_istore (lv' := [(4, .int 0), (3, .int 0), (0, .ref h0), (1, .int 0), (2, .int (nI (k_9)))]) hx hb dX9_lays_32 hl (by decide) rfl (fun ls hl => ?_)
      refine lv_iconst (v := 0) hx hb dX9_lays_34 (by decide) ?_
      refine lv_istore (lv' := [(5, .int 0), (4, .int 0), (3, .int 0), (0, .ref h0), (1, .int 0), (2, .int (nI (k_9)))]) hx hb dX9_lays_35 hl (by decide) rfl (fun ls hl => ?_)
      suffices loop_37 : ∀ (n_37 : Nat) (i : Nat) (c8 : Nat) (s8 : Nat → Int32) (l8 : Nat → Int32) (u8 : Nat → Int32) (o8 : Nat → Int32) (H : Heap) (locs : List Loc) (ls : Array Slot), 40 - i < n_37 → (i ≤ zq) → (c8 = lyC nu P k_9 i) → (l8 = lyF nu P k_9 fal i) → (u8 = lyF nu P k_9 fau i) → (o8 = lyO nu P k_9 fao i) → (s8 0 = nI P) → (s8 1 = nI Rn) → (s8 2 = nI Wn) → (SI s8) → (MI s8) → (P ≤ 10) → (Rn ≤ 8) → (Wn ≤ 8) → (RI Rn s8) → (FR P s8 fae l8 u8 o8 farn farp fak fawn fawp fat fas) → va_P D vwCl [(h0, .inr (9, [.ref ys, .ref yk, .ref yo, .ref yt, .int mk0, .ref yfa, .ref yfe, .int mL, .int mS, .int mM, .ref yro, .ref yhe, .ref ygr, .int mF, .int mC, .int mY, .ref yta, .int (nI (mz)), .int (nI (mf)), .int (nI (mt)), .int mv, .int mw, .ref ywa, .ref ybi, .ref ysi, .ref ynu, .ref ymo])), (ys, .inl (cI, 449, .inl s8)), (ybi, .inl (cI, 4, .inl bi)), (ysi, .inl (cI, 4, .inl sq)), (ynu, .inl (cJ, 160, .inr (.inl nb))), (yt, .inl (cI, 7, .inl mq))] H → va_D A [(h0, .inr (9, [.ref ys, .ref yk, .ref yo, .ref yt, .int mk0, .ref yfa, .ref yfe, .int mL, .int mS, .int mM, .ref yro, .ref yhe, .ref ygr, .int mF, .int mC, .int mY, .ref yta, .int (nI (mz)), .int (nI (mf)), .int (nI (mt)), .int mv, .int mw, .ref ywa, .ref ybi, .ref ysi, .ref ynu, .ref ymo])), (ys, .inl (cI, 449, .inl s8)), (ybi, .inl (cI, 4, .inl bi)), (ysi, .inl (cI, 4, .inl sq)), (ynu, .inl (cJ, 160, .inr (.inl nb))), (yt, .inl (cI, 7, .inl mq))] → va_S A s.heap H locs → lv_has ls 9 [(5, .int (nI (i))), (4, .int (nI (c8))), (3, .int 0), (0, .ref h0), (1, .int 0), (2, .int (nI (k_9)))] → W p l e ({ frames := 3, cells := 0, slots := 0, locals := 66 }) s m ([.ref h0, .int 0, .int (nI (k_9))] : List Value).toArray below meth c H locs 0 0 (MQ below (XQi (fun (r : Int32) (u : (Nat → Int32) × (Nat → Int32) × (Nat → Int32) × (Nat → Int32) × (Nat → Int32)) => match u with | (ms2, mq2, gl, gu, go) => ((r = laR P zq bt (nI (k_9)) nu)) ∧ (gl = laF P zq bt (nI (k_9)) nu fal) ∧ (gu = laF P zq bt (nI (k_9)) nu fau) ∧ (go = laO P zq bt (nI (k_9)) nu fao) ∧ (ms2 0 = nI P) ∧ (ms2 1 = nI Rn) ∧ (ms2 2 = nI Wn) ∧ (SI ms2) ∧ (MI ms2) ∧ (P ≤ 10) ∧ (Rn ≤ 8) ∧ (Wn ≤ 8) ∧ (RI Rn ms2) ∧ (FR P ms2 fae gl gu go farn farp fak fawn fawp fat fas)) D (fun (u : (Nat → Int32) × (Nat → Int32) × (Nat → Int32) × (Nat → Int32) × (Nat → Int32)) => match u with | (ms2, mq2, gl, gu, go) => [(h0, .inr (9, [.ref ys, .ref yk, .ref yo, .ref yt, .int mk0, .ref yfa, .ref yfe, .int mL, .int mS, .int mM, .ref yro, .ref yhe, .ref ygr, .int mF, .int mC, .int mY, .ref yta, .int (nI (mz)), .int (nI (mf)), .int (nI (mt)), .int mv, .int mw, .ref ywa, .ref ybi, .ref ysi, .ref ynu, .ref ymo])), (ys, .inl (cI, 449, .inl ms2)), (ybi, .inl (cI, 4, .inl bi)), (ysi, .inl (cI, 4, .inl sq)), (ynu, .inl (cJ, 160, .inr (.inl nb))), (yt, .inl (cI, 7, .inl mq2))]) A) ([.ref h0, .int 0, .int (nI (k_9))] : List Value).toArray s 0 0 A) (F0 m 37 ls []) by
        exact loop_37 _ 0 0 ms fal fau fao _ _ _ (Nat.lt_succ_self _) (by omega) rfl rfl rfl rfl hs0 hs1 hs2 hsS hsM hsp hsr hsw hsR hsG hP hD hS (lv_sub hl [0, 1, 2, 3, 4, 5] rfl)
      intro n_37
      induction n_37 with
      | zero =>
        intro i c8 s8 l8 u8 o8 H locs ls hm_37
        exact absurd hm_37 (Nat.not_lt_zero _)
      | succ n_37 ih_37 =>
        intro i c8 s8 l8 u8 o8 H locs ls hm_37 hi hc8 hl8 hu8 hd8 ht0 ht1 ht2 htS htM htp htr htw htR htG hP hD hS hl
        refine lv_iload hx hb dX9_lays_37 (lv_at hl 0 rfl) ?_
        refine lv_aload_n hx hb dX9_lays_39 rfl (lv_at hl 3 rfl) ?_
        refine xg hF kf_X9_46 hK hP 0 rfl rfl dX9_lays_40 ?_
        refine lv_iload_n hx hb dX9_lays_43 rfl (lv_at hl 4 rfl) ?_
        refine va_iald hx hb hK hP 3 0 rfl rfl (xin 0 4 (by decide) (by decide)) dX9_lays_44 ?_
        refine xl_i (y := sq 0) (congrArg sq rfl) ?_
        refine xl_i (y := nI (zq)) ez ?_
        refine lv_icmp_ge (tgt := 115) hx hb dX9_lays_45 (by decide) (fun c_14 => ?_) (fun c_14 => ?_)
        · skip
          have nc_14 : zq ≤ i := xn_le (a := zq) (b := i) (by omega) (by omega) c_14
          refine lv_iload hx hb dX9_lays_115 (lv_at hl 1 rfl) ?_
          exact W.iret (v := nI (c8)) hx hb hr (fun t ht hW => ⟨⟨nI (c8), (s8, mq, l8, u8, o8), rfl, ⟨((congrArg nI (hc8.trans (congrArg (lyC nu P k_9) (show i = zq by omega)))).trans (la_y (P := P) (z := zq) (nu := nu) (k := k_9) (by omega) (fun h => h_3 (hbt9.trans h)) (by omega)).1), ((hl8.trans (congrArg (lyF nu P k_9 fal) (show i = zq by omega))).trans ((la_y (P := P) (z := zq) (nu := nu) (k := k_9) (by omega) (fun h => h_3 (hbt9.trans h)) (by omega)).2.1 _)), ((hu8.trans (congrArg (lyF nu P k_9 fau) (show i = zq by omega))).trans ((la_y (P := P) (z := zq) (nu := nu) (k := k_9) (by omega) (fun h => h_3 (hbt9.trans h)) (by omega)).2.1 _)), ((hd8.trans (congrArg (lyO nu P k_9 fao) (show i = zq by omega))).trans ((la_y (P := P) (z := zq) (nu := nu) (k := k_9) (by omega) (fun h => h_3 (hbt9.trans h)) (by omega)).2.2 _)), ht0, ht1, ht2, htS, htM, htp, htr, htw, htR, htG⟩, by rw [ht]; exact hP.sub [0, 1, 2, 3, 4, 5] rfl, hD.sub [0, 1, 2, 3, 4, 5] (by decide +kernel) rfl⟩, hS.F ht⟩) hS.2.2 dX9_lays_117 hlk
        · skip
          have nc_14 : i < zq := xn_nle (a := zq) (b := i) (by omega) (by omega) c_14
          refine lv_aload_n hx hb dX9_lays_48 rfl (lv_at hl 3 rfl) ?_
          refine xg hF kf_X9_49 hK hP 0 rfl rfl dX9_lays_49 ?_
          refine lv_bipush (v := 40) hx hb dX9_lays_52 (by decide) ?_
          refine lv_iload_n hx hb dX9_lays_54 rfl (lv_at hl 4 rfl) ?_
          refine lv_imul hx hb dX9_lays_55 ?_
          refine xl_i (y := 0) (by decide) ?_
          refine lv_iload hx hb dX9_lays_56 (lv_at hl 0 rfl) ?_
          refine lv_iadd hx hb dX9_lays_58 ?_
          refine xl_i (y := nI (0 + i)) (nI_add 0 i) ?_
          refine va_lald hx hb hK hP 4 1 rfl rfl (vp_in_nI (show 0 + i < 160 by omega) (by decide)) dX9_lays_59 ?_
          refine xl_l (y := nb (0 + i)) (congrArg nb (nI_clamp (show 0 + i < 2 ^ 31 by omega))) ?_
          refine xl_l (y := nu i) (hn i (by omega)) ?_
          refine lv_lstore (lv' := [(6, .long (nu i)), (5, .int (nI (i))), (4, .int (nI (c8))), (3, .int 0), (0, .ref h0), (1, .int 0), (2, .int (nI (k_9)))]) hx hb dX9_lays_60 hl (by decide) rfl (fun ls hl => ?_)
          refine lv_aload_n hx hb dX9_lays_62 rfl (lv_at hl 4 rfl) ?_
          refine lv_iload hx hb dX9_lays_63 (lv_at hl 1 rfl) ?_
          refine xc_Vr hF (c_X9_isPlace l D cI cJ cZ cS ta sa sv H.size h0 ys yk yo yt mk0 yfa yfe mL mS mM yro yhe ygr mF mC mY yta mz mf mt mv mw ywa ybi ysi ynu ymo s8 P Rn Wn fae l8 u8 o8 farn farp fak fawn fawp fat fas (nI (i)) ht0 ht1 ht2 htS htM htp htr htw htR htG) kv_X9_61 ⟨rfl, rfl, Nat.le_of_ble_eq_true rfl, Nat.le_of_ble_eq_true rfl⟩ ⟨Nat.le_of_ble_eq_true rfl, Nat.le_of_ble_eq_true rfl⟩ hK hN hZ hP hD hS hA [0, 1] rfl rfl 0 rfl rfl rfl rfl hl.1 rfl (Nat.le_of_ble_eq_true rfl) dX9_lays_65 (fun r_15 hw_r_15 => ?_)
          rcases hw_r_15 with ⟨k_16, rfl, h_17, h_18⟩ | ⟨rfl, h_19⟩
          · skip
            refine lv_if_eq (tgt := 109) hx hb dX9_lays_68 (by decide) (fun c_20 => absurd c_20 (by decide)) (fun c_20 => ?_)
            have hi9 := xn_eq (by omega) (by omega) h_17
            refine lv_iload hx hb dX9_lays_71 (lv_at hl 1 rfl) ?_
            refine lv_iload_n hx hb dX9_lays_73 rfl (lv_at hl 6 rfl) ?_
            refine lv_icmp_eq (tgt := 109) hx hb dX9_lays_74 (by decide) (fun c_21 => ?_) (fun c_21 => ?_)
            · skip
              have nc_21 : i = k_9 := xn_eq (a := i) (b := k_9) (by omega) (by omega) c_21
              refine lv_iinc (v := nI (i + 1)) (lv' := [(5, .int (nI (i + 1))), (6, .long (nu i)), (4, .int (nI (c8))), (3, .int 0), (0, .ref h0), (1, .int 0), (2, .int (nI (k_9)))]) hx hb dX9_lays_109 hl (k := 1) rfl (nI_1 (i)) (by decide) rfl (fun ls hl => ?_)
              refine lv_goto (tgt := 37) hx hb dX9_lays_112 (by decide) ?_
              exact ih_37 (i + 1) c8 s8 l8 u8 o8 _ _ _ (by omega) (by omega) (hc8.trans (ly_n (show ¬ lyOk nu P k_9 i from (fun q => q.2.1 (by omega)))).2.2.symm) (hl8.trans ((ly_n (show ¬ lyOk nu P k_9 i from (fun q => q.2.1 (by omega)))).1 _).symm) (hu8.trans ((ly_n (show ¬ lyOk nu P k_9 i from (fun q => q.2.1 (by omega)))).1 _).symm) (hd8.trans ((ly_n (show ¬ lyOk nu P k_9 i from (fun q => q.2.1 (by omega)))).2.1 _).symm) ht0 ht1 ht2 htS htM htp htr htw htR htG (hP.sub [0, 1, 2, 3, 4, 5] rfl) (hD.sub [0, 1, 2, 3, 4, 5] (by decide +kernel) rfl) hS (lv_sub hl [0, 2, 3, 4, 5, 6] rfl)
            · skip
              have nc_21 : i ≠ k_9 := xn_ne (a := i) (b := k_9) (by omega) (by omega) c_21
              refine lv_lload hx hb dX9_lays_77 (lv_at hl 0 rfl) ?_
              refine lv_ldc2 (v := (-99)) hx hb hown (hu _ uw659) dX9_lays_79 ?_
              refine xl_l (y := (-99 : Int32).toInt64) (by decide) ?_
              refine lv_ldc2 (v := 999) hx hb hown (hu _ uw660) dX9_lays_82 ?_
              refine xl_l (y := (999 : Int32).toInt64) (by decide) ?_
              refine xc_Sr hF (c_X9_inL l D cI cJ cZ cS ta sa sv H.size (nu i) (-99) 999 ) ks_X9_57 ⟨rfl, rfl, Nat.le_of_ble_eq_true rfl, Nat.le_of_ble_eq_true rfl⟩ ⟨Nat.le_of_ble_eq_true rfl, Nat.le_of_ble_eq_true rfl⟩ hK hN hZ hP hD hS hA [] rfl rfl rfl hl.1 rfl (Nat.le_of_ble_eq_true rfl) dX9_lays_85 (fun r_22 hw_r_22 => ?_)
              rcases hw_r_22 with ⟨rfl, h_23, h_24⟩ | ⟨rfl, h_25⟩
              · skip
                refine lv_if_eq (tgt := 109) hx hb dX9_lays_88 (by decide) (fun c_26 => absurd c_26 (by decide)) (fun c_26 => ?_)
                refine lv_aload_n hx hb dX9_lays_91 rfl (lv_at hl 4 rfl) ?_
                refine lv_iload_n hx hb dX9_lays_92 rfl (lv_at hl 6 rfl) ?_
                refine lv_iload hx hb dX9_lays_93 (lv_at hl 1 rfl) ?_
                refine lv_lload hx hb dX9_lays_95 (lv_at hl 0 rfl) ?_
                refine lv_l2i (v := (nu i).toInt32) hx hb dX9_lays_97 rfl ?_
                refine lv_lload hx hb dX9_lays_98 (lv_at hl 0 rfl) ?_
                refine lv_l2i (v := (nu i).toInt32) hx hb dX9_lays_100 rfl ?_
                refine xc_Vi (wr := [(ybi, .inl (cI, 4, .inl bi)), (ysi, .inl (cI, 4, .inl sq)), (ynu, .inl (cJ, 160, .inr (.inl nb))), (yt, .inl (cI, 7, .inl mq))]) hF (c_X9_makes l D cI cJ cZ cS ta sa sv H.size h0 ys yk yo yt mk0 yfa yfe mL mS mM yro yhe ygr mF mC mY yta mz mf mt mv mw ywa ybi ysi ynu ymo s8 P Rn Wn fae l8 u8 o8 farn farp fak fawn fawp fat fas k_9 i ((nu i).toInt32) ((nu i).toInt32) (by omega) (by omega) (x_endsL h_23 h_24) ht0 ht1 ht2 htS htM htp htr htw htR htG) kv_X9_87 ⟨rfl, rfl, Nat.le_of_ble_eq_true rfl, Nat.le_of_ble_eq_true rfl⟩ ⟨Nat.le_of_ble_eq_true rfl, Nat.le_of_ble_eq_true rfl⟩ hK hN hZ hP hD hS hA [0, 1] [2, 3, 4, 5] rfl rfl rfl rfl (by decide) 0 rfl rfl rfl rfl hl.1 rfl (Nat.le_of_ble_eq_true rfl) dX9_lays_101 (fun r_27 u_r_27 H locs hw_r_27 hP hD hS => ?_)
                obtain ⟨ms2_28, rfl⟩ : ∃ z, z = u_r_27 := ⟨_, rfl⟩
                try dsimp only at hw_r_27
                obtain ⟨hw_r_27, i_29, i_30, i_31, i_32, i_33, i_34, i_35, i_36, i_37, i_38⟩ := hw_r_27
                have hP : va_P D vwCl [(ybi, .inl (cI, 4, .inl bi)), (ysi, .inl (cI, 4, .inl sq)), (ynu, .inl (cJ, 160, .inr (.inl nb))), (yt, .inl (cI, 7, .inl mq)), (h0, .inr (9, [.ref ys, .ref yk, .ref yo, .ref yt, .int mk0, .ref yfa, .ref yfe, .int mL, .int mS, .int mM, .ref yro, .ref yhe, .ref ygr, .int mF, .int mC, .int mY, .ref yta, .int (nI (mz)), .int (nI (mf)), .int (nI (mt)), .int mv, .int mw, .ref ywa, .ref ybi, .ref ysi, .ref ynu, .ref ymo])), (ys, .inl (cI, 449, .inl ms2_28))] H := hP
                have hD : va_D A [(ybi, .inl (cI, 4, .inl bi)), (ysi, .inl (cI, 4, .inl sq)), (ynu, .inl (cJ, 160, .inr (.inl nb))), (yt, .inl (cI, 7, .inl mq)), (h0, .inr (9, [.ref ys, .ref yk, .ref yo, .ref yt, .int mk0, .ref yfa, .ref yfe, .int mL, .int mS, .int mM, .ref yro, .ref yhe, .ref ygr, .int mF, .int mC, .int mY, .ref yta, .int (nI (mz)), .int (nI (mf)), .int (nI (mt)), .int mv, .int mw, .ref ywa, .ref ybi, .ref ysi, .ref ynu, .ref ymo])), (ys, .inl (cI, 449, .inl ms2_28))] := hD
                rcases hw_r_27 with ⟨rfl, h_39⟩ | ⟨rfl, h_40⟩
                · skip
                  refine lv_istore (lv' := [(8, .int 1), (6, .long (nu i)), (5, .int (nI (i))), (4, .int (nI (c8))), (3, .int 0), (0, .ref h0), (1, .int 0), (2, .int (nI (k_9)))]) hx hb dX9_lays_104 hl (by decide) rfl (fun ls hl => ?_)
                  refine lv_iinc (v := nI (c8 + 1)) (lv' := [(4, .int (nI (c8 + 1))), (8, .int 1), (6, .long (nu i)), (5, .int (nI (i))), (3, .int 0), (0, .ref h0), (1, .int 0), (2, .int (nI (k_9)))]) hx hb dX9_lays_106 hl (k := 3) rfl (nI_1 (c8)) (by decide) rfl (fun ls hl => ?_)
                  refine lv_iinc (v := nI (i + 1)) (lv' := [(5, .int (nI (i + 1))), (4, .int (nI (c8 + 1))), (8, .int 1), (6, .long (nu i)), (3, .int 0), (0, .ref h0), (1, .int 0), (2, .int (nI (k_9)))]) hx hb dX9_lays_109 hl (k := 3) rfl (nI_1 (i)) (by decide) rfl (fun ls hl => ?_)
                  refine lv_goto (tgt := 37) hx hb dX9_lays_112 (by decide) ?_
                  exact ih_37 (i + 1) (c8 + 1) ms2_28 (upd l8 (10 * k_9 + i) ((nu i).toInt32)) (upd u8 (10 * k_9 + i) ((nu i).toInt32)) (upd o8 (10 * k_9 + i) 1) _ _ _ (by omega) (by omega) ((congrArg (· + 1) hc8).trans (ly_y (show lyOk nu P k_9 i from ⟨by omega, by omega, (ly_in h_23 h_24).1, (ly_in h_23 h_24).2⟩)).2.2.symm) (by rw [hl8]; exact ((ly_y (show lyOk nu P k_9 i from ⟨by omega, by omega, (ly_in h_23 h_24).1, (ly_in h_23 h_24).2⟩)).1 _).symm) (by rw [hu8]; exact ((ly_y (show lyOk nu P k_9 i from ⟨by omega, by omega, (ly_in h_23 h_24).1, (ly_in h_23 h_24).2⟩)).1 _).symm) (by rw [hd8]; exact ((ly_y (show lyOk nu P k_9 i from ⟨by omega, by omega, (ly_in h_23 h_24).1, (ly_in h_23 h_24).2⟩)).2.1 _).symm) i_29 i_30 i_31 i_32 i_33 i_34 i_35 i_36 i_37 i_38 (hP.sub [4, 5, 0, 1, 2, 3] rfl) (hD.sub [4, 5, 0, 1, 2, 3] (by decide +kernel) rfl) hS (lv_sub hl [0, 1, 4, 5, 6, 7] rfl)
                · skip
                  refine lv_istore (lv' := [(8, .int 0), (6, .long (nu i)), (5, .int (nI (i))), (4, .int (nI (c8))), (3, .int 0), (0, .ref h0), (1, .int 0), (2, .int (nI (k_9)))]) hx hb dX9_lays_104 hl (by decide) rfl (fun ls hl => ?_)
                  refine lv_iinc (v := nI (c8 + 1)) (lv' := [(4, .int (nI (c8 + 1))), (8, .int 0), (6, .long (nu i)), (5, .int (nI (i))), (3, .int 0), (0, .ref h0), (1, .int 0), (2, .int (nI (k_9)))]) hx hb dX9_lays_106 hl (k := 3) rfl (nI_1 (c8)) (by decide) rfl (fun ls hl => ?_)
                  refine lv_iinc (v := nI (i + 1)) (lv' := [(5, .int (nI (i + 1))), (4, .int (nI (c8 + 1))), (8, .int 0), (6, .long (nu i)), (3, .int 0), (0, .ref h0), (1, .int 0), (2, .int (nI (k_9)))]) hx hb dX9_lays_109 hl (k := 3) rfl (nI_1 (i)) (by decide) rfl (fun ls hl => ?_)
                  refine lv_goto (tgt := 37) hx hb dX9_lays_112 (by decide) ?_
                  exact ih_37 (i + 1) (c8 + 1) ms2_28 (upd l8 (10 * k_9 + i) ((nu i).toInt32)) (upd u8 (10 * k_9 + i) ((nu i).toInt32)) (upd o8 (10 * k_9 + i) 1) _ _ _ (by omega) (by omega) ((congrArg (· + 1) hc8).trans (ly_y (show lyOk nu P k_9 i from ⟨by omega, by omega, (ly_in h_23 h_24).1, (ly_in h_23 h_24).2⟩)).2.2.symm) (by rw [hl8]; exact ((ly_y (show lyOk nu P k_9 i from ⟨by omega, by omega, (ly_in h_23 h_24).1, (ly_in h_23 h_24).2⟩)).1 _).symm) (by rw [hu8]; exact ((ly_y (show lyOk nu P k_9 i from ⟨by omega, by omega, (ly_in h_23 h_24).1, (ly_in h_23 h_24).2⟩)).1 _).symm) (by rw [hd8]; exact ((ly_y (show lyOk nu P k_9 i from ⟨by omega, by omega, (ly_in h_23 h_24).1, (ly_in h_23 h_24).2⟩)).2.1 _).symm) i_29 i_30 i_31 i_32 i_33 i_34 i_35 i_36 i_37 i_38 (hP.sub [4, 5, 0, 1, 2, 3] rfl) (hD.sub [4, 5, 0, 1, 2, 3] (by decide +kernel) rfl) hS (lv_sub hl [0, 1, 4, 5, 6, 7] rfl)
              · skip
                refine lv_if_eq (tgt := 109) hx hb dX9_lays_88 (by decide) (fun c_41 => ?_) (fun c_41 => absurd (by decide) c_41)
                refine lv_iinc (v := nI (i + 1)) (lv' := [(5, .int (nI (i + 1))), (6, .long (nu i)), (4, .int (nI (c8))), (3, .int 0), (0, .ref h0), (1, .int 0), (2, .int (nI (k_9)))]) hx hb dX9_lays_109 hl (k := 1) rfl (nI_1 (i)) (by decide) rfl (fun ls hl => ?_)
                refine lv_goto (tgt := 37) hx hb dX9_lays_112 (by decide) ?_
                exact ih_37 (i + 1) c8 s8 l8 u8 o8 _ _ _ (by omega) (by omega) (hc8.trans (ly_n (show ¬ lyOk nu P k_9 i from (fun q => ly_nin h_25 ⟨q.2.2.1, q.2.2.2⟩))).2.2.symm) (hl8.trans ((ly_n (show ¬ lyOk nu P k_9 i from (fun q => ly_nin h_25 ⟨q.2.2.1, q.2.2.2⟩))).1 _).symm) (hu8.trans ((ly_n (show ¬ lyOk nu P k_9 i from (fun q => ly_nin h_25 ⟨q.2.2.1, q.2.2.2⟩))).1 _).symm) (hd8.trans ((ly_n (show ¬ lyOk nu P k_9 i from (fun q => ly_nin h_25 ⟨q.2.2.1, q.2.2.2⟩))).2.1 _).symm) ht0 ht1 ht2 htS htM htp htr htw htR htG (hP.sub [0, 1, 2, 3, 4, 5] rfl) (hD.sub [0, 1, 2, 3, 4, 5] (by decide +kernel) rfl) hS (lv_sub hl [0, 2, 3, 4, 5, 6] rfl)
          · skip
            refine lv_if_eq (tgt := 109) hx hb dX9_lays_68 (by decide) (fun c_42 => ?_) (fun c_42 => absurd (by decide) c_42)
            refine lv_iinc (v := nI (i + 1)) (lv' := [(5, .int (nI (i + 1))), (6, .long (nu i)), (4, .int (nI (c8))), (3, .int 0), (0, .ref h0), (1, .int 0), (2, .int (nI (k_9)))]) hx hb dX9_lays_109 hl (k := 1) rfl (nI_1 (i)) (by decide) rfl (fun ls hl => ?_)
            refine lv_goto (tgt := 37) hx hb dX9_lays_112 (by decide) ?_
            exact ih_37 (i + 1) c8 s8 l8 u8 o8 _ _ _ (by omega) (by omega) (hc8.trans (ly_n (show ¬ lyOk nu P k_9 i from (fun q => h_19 (isP_nI (by omega) q.1)))).2.2.symm) (hl8.trans ((ly_n (show ¬ lyOk nu P k_9 i from (fun q => h_19 (isP_nI (by omega) q.1)))).1 _).symm) (hu8.trans ((ly_n (show ¬ lyOk nu P k_9 i from (fun q => h_19 (isP_nI (by omega) q.1)))).1 _).symm) (hd8.trans ((ly_n (show ¬ lyOk nu P k_9 i from (fun q => h_19 (isP_nI (by omega) q.1)))).2.1 _).symm) ht0 ht1 ht2 htS htM htp htr htw htR htG (hP.sub [0, 1, 2, 3, 4, 5] rfl) (hD.sub [0, 1, 2, 3, 4, 5] (by decide +kernel) rfl) hS (lv_sub hl [0, 2, 3, 4, 5, 6] rfl)
    · skip
      refine lv_if_ne (tgt := 31) hx hb dX9_lays_21 (by decide) (fun c_43 => absurd (by decide) c_43) (fun c_43 => ?_)
      refine lv_aload_n hx hb dX9_lays_24 rfl (lv_at hl 1 rfl) ?_
      refine lv_ldc (v := (-1000000001)) hx hb hown (hu _ uw648) dX9_lays_25 ?_
      refine xc_Vi (wr := [(ys, .inl (cI, 449, .inl ms)), (ybi, .inl (cI, 4, .inl bi)), (ysi, .inl (cI, 4, .inl sq)), (ynu, .inl (cJ, 160, .inr (.inl nb)))]) hF (c_X9_finds_B l D cI cJ cZ cS ta sa sv s.heap.size h0 ys yk yo yt mk0 yfa yfe mL mS mM yro yhe ygr mF mC mY yta mz mf mt mv mw ywa ybi ysi ynu ymo mq ) kv_X9_70 ⟨rfl, rfl, Nat.le_of_ble_eq_true rfl, Nat.le_of_ble_eq_true rfl⟩ ⟨Nat.le_of_ble_eq_true rfl, Nat.le_of_ble_eq_true rfl⟩ hK hN hZ hP hD hS hA [0, 5] [1, 2, 3, 4] rfl rfl rfl rfl (by decide) 0 rfl rfl rfl rfl hl.1 rfl (Nat.le_of_ble_eq_true rfl) dX9_lays_27 (fun r_44 u_r_44 H locs hw_r_44 hP hD hS => ?_)
      obtain ⟨mq2_45, rfl⟩ : ∃ z, z = u_r_44 := ⟨_, rfl⟩
      try dsimp only at hw_r_44
      have hP : va_P D vwCl [(ys, .inl (cI, 449, .inl ms)), (ybi, .inl (cI, 4, .inl bi)), (ysi, .inl (cI, 4, .inl sq)), (ynu, .inl (cJ, 160, .inr (.inl nb))), (h0, .inr (9, [.ref ys, .ref yk, .ref yo, .ref yt, .int mk0, .ref yfa, .ref yfe, .int mL, .int mS, .int mM, .ref yro, .ref yhe, .ref ygr, .int mF, .int mC, .int mY, .ref yta, .int (nI (mz)), .int (nI (mf)), .int (nI (mt)), .int mv, .int mw, .ref ywa, .ref ybi, .ref ysi, .ref ynu, .ref ymo])), (yt, .inl (cI, 7, .inl mq2_45))] H := hP
      have hD : va_D A [(ys, .inl (cI, 449, .inl ms)), (ybi, .inl (cI, 4, .inl bi)), (ysi, .inl (cI, 4, .inl sq)), (ynu, .inl (cJ, 160, .inr (.inl nb))), (h0, .inr (9, [.ref ys, .ref yk, .ref yo, .ref yt, .int mk0, .ref yfa, .ref yfe, .int mL, .int mS, .int mM, .ref yro, .ref yhe, .ref ygr, .int mF, .int mC, .int mY, .ref yta, .int (nI (mz)), .int (nI (mf)), .int (nI (mt)), .int mv, .int mw, .ref ywa, .ref ybi, .ref ysi, .ref ynu, .ref ymo])), (yt, .inl (cI, 7, .inl mq2_45))] := hD
      subst hw_r_44
      exact W.iret (v := (-1000000001)) hx hb hr (fun t ht hW => ⟨⟨(-1000000001), (ms, mq2_45, fal, fau, fao), rfl, ⟨(la_b (P := P) (z := zq) (nu := nu) (fun h => h_3 (hbt9.trans h)) h_12).1, ((la_b (P := P) (z := zq) (nu := nu) (fun h => h_3 (hbt9.trans h)) h_12).2.1 _), ((la_b (P := P) (z := zq) (nu := nu) (fun h => h_3 (hbt9.trans h)) h_12).2.1 _), ((la_b (P := P) (z := zq) (nu := nu) (fun h => h_3 (hbt9.trans h)) h_12).2.2 _), hs0, hs1, hs2, hsS, hsM, hsp, hsr, hsw, hsR, hsG⟩, by rw [ht]; exact hP.sub [4, 0, 1, 2, 3, 5] rfl, hD.sub [4, 0, 1, 2, 3, 5] (by decide +kernel) rfl⟩, hS.F ht⟩) hS.2.2 dX9_lays_30 hlk
set_option maxHeartbeats 4000000 in
set_option maxRecDepth 100000 in
theorem c_X9_lays_1 (l : Launch) (D : va_G) (cI cJ cZ cS : ClassId) (ta : Nat) (sa sv : Nat → Nat) (sz : Nat) (h0 : Nat) (ys : Nat) (yk : Nat) (yo : Nat) (yt : Nat) (mk0 : Int32) (yfa : Nat) (yfe : Nat) (mL : Int32) (mS : Int32) (mM : Int32) (yro : Nat) (yhe : Nat) (ygr : Nat) (mF : Int32) (mC : Int32) (mY : Int32) (yta : Nat) (mz : Nat) (mf : Nat) (mt : Nat) (mv : Int32) (mw : Int32) (ywa : Nat) (ybi : Nat) (ysi : Nat) (ynu : Nat) (ymo : Nat) (ms : Nat → Int32) (bi : Nat → Int32) (sq : Nat → Int32) (nb : Nat → Int64) (mq : Nat → Int32) (P : Nat) (Rn : Nat) (Wn : Nat) (fae : Nat → Int32) (fal : Nat → Int32) (fau : Nat → Int32) (fao : Nat → Int32) (farn : Nat → Int32) (farp : Nat → Int32) (fak : Nat → Int32) (fawn : Nat → Int32) (fawp : Nat → Int32) (fat : Nat → Int32) (fas : Nat → Int32) (p1 : Int32) (bt : Int32) (zq : Nat) (nu : Nat → Int64) (hbt9 : bi 1 = bt) (ez : sq 1 = nI zq) (hzq : zq ≤ 40) (hn : ∀ j, j < 40 → nb (40 + j) = nu j) (hsq : BA 4 41 sq) (hs0 : ms 0 = nI P) (hs1 : ms 1 = nI Rn) (hs2 : ms 2 = nI Wn) (hsS : SI ms) (hsM : MI ms) (hsp : P ≤ 10) (hsr : Rn ≤ 8) (hsw : Wn ≤ 8) (hsR : RI Rn ms) (hsG : FR P ms fae fal fau fao farn farp fak fawn fawp fat fas) : Met l yX9_lays (Cond.code yX9_lays cX9_lays 9 (some .int) :: wsU) ({ frames := 3, cells := 0, slots := 0, locals := 66 }) (va_Pc [.ref h0, .int 1, .int p1] (XW D (xT cI cJ cZ cS) ta sa sv [(h0, .inr (9, [.ref ys, .ref yk, .ref yo, .ref yt, .int mk0, .ref yfa, .ref yfe, .int mL, .int mS, .int mM, .ref yro, .ref yhe, .ref ygr, .int mF, .int mC, .int mY, .ref yta, .int (nI (mz)), .int (nI (mf)), .int (nI (mt)), .int mv, .int mw, .ref ywa, .ref ybi, .ref ysi, .ref ynu, .ref ymo])), (ys, .inl (cI, 449, .inl ms)), (ybi, .inl (cI, 4, .inl bi)), (ysi, .inl (cI, 4, .inl sq)), (ynu, .inl (cJ, 160, .inr (.inl nb))), (yt, .inl (cI, 7, .inl mq))] sz)) (XQi (fun (r : Int32) (u : (Nat → Int32) × (Nat → Int32) × (Nat → Int32) × (Nat → Int32) × (Nat → Int32)) => match u with | (ms2, mq2, gl, gu, go) => ((r = laR P zq bt p1 nu)) ∧ (gl = laF P zq bt p1 nu fal) ∧ (gu = laF P zq bt p1 nu fau) ∧ (go = laO P zq bt p1 nu fao) ∧ (ms2 0 = nI P) ∧ (ms2 1 = nI Rn) ∧ (ms2 2 = nI Wn) ∧ (SI ms2) ∧ (MI ms2) ∧ (P ≤ 10) ∧ (Rn ≤ 8) ∧ (Wn ≤ 8) ∧ (RI Rn ms2) ∧ (FR P ms2 fae gl gu go farn farp fak fawn fawp fat fas)) D (fun (u : (Nat → Int32) × (Nat → Int32) × (Nat → Int32) × (Nat → Int32) × (Nat → Int32)) => match u with | (ms2, mq2, gl, gu, go) => [(h0, .inr (9, [.ref ys, .ref yk, .ref yo, .ref yt, .int mk0, .ref yfa, .ref yfe, .int mL, .int mS, .int mM, .ref yro, .ref yhe, .ref ygr, .int mF, .int mC, .int mY, .ref yta, .int (nI (mz)), .int (nI (mf)), .int (nI (mt)), .int mv, .int mw, .ref ywa, .ref ybi, .ref ysi, .ref ynu, .ref ymo])), (ys, .inl (cI, 449, .inl ms2)), (ybi, .inl (cI, 4, .inl bi)), (ysi, .inl (cI, 4, .inl sq)), (ynu, .inl (cJ, 160, .inr (.inl nb))), (yt, .inl (cI, 7, .inl mq2))]) (va_A [(h0, .inr (9, [.ref ys, .ref yk, .ref yo, .ref yt, .int mk0, .ref yfa, .ref yfe, .int mL, .int mS, .int mM, .ref yro, .ref yhe, .ref ygr, .int mF, .int mC, .int mY, .ref yta, .int (nI (mz)), .int (nI (mf)), .int (nI (mt)), .int mv, .int mw, .ref ywa, .ref ybi, .ref ysi, .ref ynu, .ref ymo])), (ys, .inl (cI, 449, .inl ms)), (ybi, .inl (cI, 4, .inl bi)), (ysi, .inl (cI, 4, .inl sq)), (ynu, .inl (cJ, 160, .inr (.inl nb))), (yt, .inl (cI, 7, .inl mq))] sz)) 0 0 (va_A [(h0, .inr (9, [.ref ys, .ref yk, .ref yo, .ref yt, .int mk0, .ref yfa, .ref yfe, .int mL, .int mS, .int mM, .ref yro, .ref yhe, .ref ygr, .int mF, .int mC, .int mY, .ref yta, .int (nI (mz)), .int (nI (mf)), .int (nI (mt)), .int mv, .int mw, .ref ywa, .ref ybi, .ref ysi, .ref ynu, .ref ymo])), (ys, .inl (cI, 449, .inl ms)), (ybi, .inl (cI, 4, .inl bi)), (ysi, .inl (cI, 4, .inl sq)), (ynu, .inl (cJ, 160, .inr (.inl nb))), (yt, .inl (cI, 7, .inl mq))] sz) := by
  refine xh (QA := fun A => XQi (fun (r : Int32) (u : (Nat → Int32) × (Nat → Int32) × (Nat → Int32) × (Nat → Int32) × (Nat → Int32)) => match u with | (ms2, mq2, gl, gu, go) => ((r = laR P zq bt p1 nu)) ∧ (gl = laF P zq bt p1 nu fal) ∧ (gu = laF P zq bt p1 nu fau) ∧ (go = laO P zq bt p1 nu fao) ∧ (ms2 0 = nI P) ∧ (ms2 1 = nI Rn) ∧ (ms2 2 = nI Wn) ∧ (SI ms2) ∧ (MI ms2) ∧ (P ≤ 10) ∧ (Rn ≤ 8) ∧ (Wn ≤ 8) ∧ (RI Rn ms2) ∧ (FR P ms2 fae gl gu go farn farp fak fawn fawp fat fas)) D (fun (u : (Nat → Int32) × (Nat → Int32) × (Nat → Int32) × (Nat → Int32) × (Nat → Int32)) => match u with | (ms2, mq2, gl, gu, go) => [(h0, .inr (9, [.ref ys, .ref yk, .ref yo, .ref yt, .int mk0, .ref yfa, .ref yfe, .int mL, .int mS, .int mM, .ref yro, .ref yhe, .ref ygr, .int mF, .int mC, .int mY, .ref yta, .int (nI (mz)), .int (nI (mf)), .int (nI (mt)), .int mv, .int mw, .ref ywa, .ref ybi, .ref ysi, .ref ynu, .ref ymo])), (ys, .inl (cI, 449, .inl ms2)), (ybi, .inl (cI, 4, .inl bi)), (ysi, .inl (cI, 4, .inl sq)), (ynu, .inl (cJ, 160, .inr (.inl nb))), (yt, .inl (cI, 7, .inl mq2))]) A) (fr := fun A => A) (by decide) (Nat.le_of_ble_eq_true rfl) ?_
  intro p e s m below meth c ls A hF hr hlk hin hsz hP hK hD hN hZ hA hS hl
  have hF : CallFix p m c cX9_lays 9 s _ _ RX9 := hF
  have hx := hF.1
  have hb := hF.2.1
  have hml := hF.2.2.1
  have hown := hF.2.2.2.1
  have hu : ∀ w ∈ wsU, w.before _ s = true := fun w h => hF.2.2.2.2 w (List.mem_cons_of_mem _ h)
  have hl : lv_has ls 9 [(0, .ref h0), (1, .int 1), (2, .int p1)] := hl
  refine lv_aload_n hx hb dX9_lays_0 rfl (lv_at hl 0 rfl) ?_
  refine lv_iload_n hx hb dX9_lays_1 rfl (lv_at hl 1 rfl) ?_
  refine xc_Vr hF (c_X9_wrong_1 l D cI cJ cZ cS ta sa sv s.heap.size h0 ys yk yo yt mk0 yfa yfe mL mS mM yro yhe ygr mF mC mY yta mz mf mt mv mw ywa ybi ysi ynu ymo bi ) kv_X9_310 ⟨rfl, rfl, Nat.le_of_ble_eq_true rfl, Nat.le_of_ble_eq_true rfl⟩ ⟨Nat.le_of_ble_eq_true rfl, Nat.le_of_ble_eq_true rfl⟩ hK hN hZ hP hD hS hA [0, 2] rfl rfl 0 rfl rfl rfl rfl hl.1 rfl (Nat.le_of_ble_eq_true rfl) dX9_lays_2 (fun r_1 hw_r_1 => ?_)
  rcases hw_r_1 with ⟨rfl, h_2⟩ | ⟨rfl, h_3⟩
  · skip
    refine lv_istore_n (lv' := [(3, .int (-1000000006)), (0, .ref h0), (1, .int 1), (2, .int p1)]) hx hb dX9_lays_5 rfl hl (by decide) rfl (fun ls hl => ?_)
    refine lv_iload_n hx hb dX9_lays_6 rfl (lv_at hl 0 rfl) ?_
    refine lv_if_eq (tgt := 16) hx hb dX9_lays_7 (by decide) (fun c_4 => absurd c_4 (by decide)) (fun c_4 => ?_)
    refine lv_aload_n hx hb dX9_lays_10 rfl (lv_at hl 1 rfl) ?_
    refine lv_iload_n hx hb dX9_lays_11 rfl (lv_at hl 0 rfl) ?_
    refine xc_Vi (wr := [(ys, .inl (cI, 449, .inl ms)), (ybi, .inl (cI, 4, .inl bi)), (ysi, .inl (cI, 4, .inl sq)), (ynu, .inl (cJ, 160, .inr (.inl nb)))]) hF (c_X9_finds_M l D cI cJ cZ cS ta sa sv s.heap.size h0 ys yk yo yt mk0 yfa yfe mL mS mM yro yhe ygr mF mC mY yta mz mf mt mv mw ywa ybi ysi ynu ymo mq ) kv_X9_70 ⟨rfl, rfl, Nat.le_of_ble_eq_true rfl, Nat.le_of_ble_eq_true rfl⟩ ⟨Nat.le_of_ble_eq_true rfl, Nat.le_of_ble_eq_true rfl⟩ hK hN hZ hP hD hS hA [0, 5] [1, 2, 3, 4] rfl rfl rfl rfl (by decide) 0 rfl rfl rfl rfl hl.1 rfl (Nat.le_of_ble_eq_true rfl) dX9_lays_12 (fun r_5 u_r_5 H locs hw_r_5 hP hD hS => ?_)
    obtain ⟨mq2_6, rfl⟩ : ∃ z, z = u_r_5 := ⟨_, rfl⟩
    try dsimp only at hw_r_5
    have hP : va_P D vwCl [(ys, .inl (cI, 449, .inl ms)), (ybi, .inl (cI, 4, .inl bi)), (ysi, .inl (cI, 4, .inl sq)), (ynu, .inl (cJ, 160, .inr (.inl nb))), (h0, .inr (9, [.ref ys, .ref yk, .ref yo, .ref yt, .int mk0, .ref yfa, .ref yfe, .int mL, .int mS, .int mM, .ref yro, .ref yhe, .ref ygr, .int mF, .int mC, .int mY, .ref yta, .int (nI (mz)), .int (nI (mf)), .int (nI (mt)), .int mv, .int mw, .ref ywa, .ref ybi, .ref ysi, .ref ynu, .ref ymo])), (yt, .inl (cI, 7, .inl mq2_6))] H := hP
    have hD : va_D A [(ys, .inl (cI, 449, .inl ms)), (ybi, .inl (cI, 4, .inl bi)), (ysi, .inl (cI, 4, .inl sq)), (ynu, .inl (cJ, 160, .inr (.inl nb))), (h0, .inr (9, [.ref ys, .ref yk, .ref yo, .ref yt, .int mk0, .ref yfa, .ref yfe, .int mL, .int mS, .int mM, .ref yro, .ref yhe, .ref ygr, .int mF, .int mC, .int mY, .ref yta, .int (nI (mz)), .int (nI (mf)), .int (nI (mt)), .int mv, .int mw, .ref ywa, .ref ybi, .ref ysi, .ref ynu, .ref ymo])), (yt, .inl (cI, 7, .inl mq2_6))] := hD
    subst hw_r_5
    exact W.iret (v := (-1000000006)) hx hb hr (fun t ht hW => ⟨⟨(-1000000006), (ms, mq2_6, fal, fau, fao), rfl, ⟨(la_m (P := P) (z := zq) (nu := nu) (hbt9.symm.trans h_2)).1, ((la_m (P := P) (z := zq) (nu := nu) (hbt9.symm.trans h_2)).2.1 _), ((la_m (P := P) (z := zq) (nu := nu) (hbt9.symm.trans h_2)).2.1 _), ((la_m (P := P) (z := zq) (nu := nu) (hbt9.symm.trans h_2)).2.2 _), hs0, hs1, hs2, hsS, hsM, hsp, hsr, hsw, hsR, hsG⟩, by rw [ht]; exact hP.sub [4, 0, 1, 2, 3, 5] rfl, hD.sub [4, 0, 1, 2, 3, 5] (by decide +kernel) rfl⟩, hS.F ht⟩) hS.2.2 dX9_lays_15 hlk
  · skip
    refine lv_istore_n (lv' := [(3, .int 0), (0, .ref h0), (1, .int 1), (2, .int p1)]) hx hb dX9_lays_5 rfl hl (by decide) rfl (fun ls hl => ?_)
    refine lv_iload_n hx hb dX9_lays_6 rfl (lv_at hl 0 rfl) ?_
    refine lv_if_eq (tgt := 16) hx hb dX9_lays_7 (by decide) (fun c_7 => ?_) (fun c_7 => absurd (by decide) c_7)
    refine lv_aload_n hx hb dX9_lays_16 rfl (lv_at hl 1 rfl) ?_
    refine lv_iload_n hx hb dX9_lays_17 rfl (lv_at hl 3 rfl) ?_
    refine xc_Vr hF (c_X9_isPlace l D cI cJ cZ cS ta sa sv s.heap.size h0 ys yk yo yt mk0 yfa yfe mL mS mM yro yhe ygr mF mC mY yta mz mf mt mv mw ywa ybi ysi ynu ymo ms P Rn Wn fae fal fau fao farn farp fak fawn fawp fat fas p1 hs0 hs1 hs2 hsS hsM hsp hsr hsw hsR hsG) kv_X9_61 ⟨rfl, rfl, Nat.le_of_ble_eq_true rfl, Nat.le_of_ble_eq_true rfl⟩ ⟨Nat.le_of_ble_eq_true rfl, Nat.le_of_ble_eq_true rfl⟩ hK hN hZ hP hD hS hA [0, 1] rfl rfl 0 rfl rfl rfl rfl hl.1 rfl (Nat.le_of_ble_eq_true rfl) dX9_lays_18 (fun r_8 hw_r_8 => ?_)
    rcases hw_r_8 with ⟨k_9, rfl, rfl, h_11⟩ | ⟨rfl, h_12⟩
    · skip
      refine lv_if_ne (tgt := 31) hx hb dX9_lays_21 (by decide) (fun c_13 => ?_) (fun c_13 => absurd c_13 (by decide))
      refine lv_iconst (v := 0) hx hb dX9_lays_31 (by decide) ?_
      refine lv_istore (lv' := [(4, .int 0), (3, .int 0), (0, .ref h0), (1, .int 1), (2, .int (nI (k_9)))]) hx hb dX9_lays_32 hl (by decide) rfl (fun ls hl => ?_)
      refine lv_iconst (v := 0) hx hb dX9_lays_34 (by decide) ?_
      refine lv_istore (lv' := [(5, .int 0), (4, .int 0), (3, .int 0), (0, .ref h0), (1, .int 1), (2, .int (nI (k_9)))]) hx hb dX9_lays_35 hl (by decide) rfl (fun ls hl => ?_)
      suffices loop_37 : ∀ (n_37 : Nat) (i : Nat) (c8 : Nat) (s8 : Nat → Int32) (l8 : Nat → Int32) (u8 : Nat → Int32) (o8 : Nat → Int32) (H : Heap) (locs : List Loc) (ls : Array Slot), 40 - i < n_37 → (i ≤ zq) → (c8 = lyC nu P k_9 i) → (l8 = lyF nu P k_9 fal i) → (u8 = lyF nu P k_9 fau i) → (o8 = lyO nu P k_9 fao i) → (s8 0 = nI P) → (s8 1 = nI Rn) → (s8 2 = nI Wn) → (SI s8) → (MI s8) → (P ≤ 10) → (Rn ≤ 8) → (Wn ≤ 8) → (RI Rn s8) → (FR P s8 fae l8 u8 o8 farn farp fak fawn fawp fat fas) → va_P D vwCl [(h0, .inr (9, [.ref ys, .ref yk, .ref yo, .ref yt, .int mk0, .ref yfa, .ref yfe, .int mL, .int mS, .int mM, .ref yro, .ref yhe, .ref ygr, .int mF, .int mC, .int mY, .ref yta, .int (nI (mz)), .int (nI (mf)), .int (nI (mt)), .int mv, .int mw, .ref ywa, .ref ybi, .ref ysi, .ref ynu, .ref ymo])), (ys, .inl (cI, 449, .inl s8)), (ybi, .inl (cI, 4, .inl bi)), (ysi, .inl (cI, 4, .inl sq)), (ynu, .inl (cJ, 160, .inr (.inl nb))), (yt, .inl (cI, 7, .inl mq))] H → va_D A [(h0, .inr (9, [.ref ys, .ref yk, .ref yo, .ref yt, .int mk0, .ref yfa, .ref yfe, .int mL, .int mS, .int mM, .ref yro, .ref yhe, .ref ygr, .int mF, .int mC, .int mY, .ref yta, .int (nI (mz)), .int (nI (mf)), .int (nI (mt)), .int mv, .int mw, .ref ywa, .ref ybi, .ref ysi, .ref ynu, .ref ymo])), (ys, .inl (cI, 449, .inl s8)), (ybi, .inl (cI, 4, .inl bi)), (ysi, .inl (cI, 4, .inl sq)), (ynu, .inl (cJ, 160, .inr (.inl nb))), (yt, .inl (cI, 7, .inl mq))] → va_S A s.heap H locs → lv_has ls 9 [(5, .int (nI (i))), (4, .int (nI (c8))), (3, .int 0), (0, .ref h0), (1, .int 1), (2, .int (nI (k_9)))] → W p l e ({ frames := 3, cells := 0, slots := 0, locals := 66 }) s m ([.ref h0, .int 1, .int (nI (k_9))] : List Value).toArray below meth c H locs 0 0 (MQ below (XQi (fun (r : Int32) (u : (Nat → Int32) × (Nat → Int32) × (Nat → Int32) × (Nat → Int32) × (Nat → Int32)) => match u with | (ms2, mq2, gl, gu, go) => ((r = laR P zq bt (nI (k_9)) nu)) ∧ (gl = laF P zq bt (nI (k_9)) nu fal) ∧ (gu = laF P zq bt (nI (k_9)) nu fau) ∧ (go = laO P zq bt (nI (k_9)) nu fao) ∧ (ms2 0 = nI P) ∧ (ms2 1 = nI Rn) ∧ (ms2 2 = nI Wn) ∧ (SI ms2) ∧ (MI ms2) ∧ (P ≤ 10) ∧ (Rn ≤ 8) ∧ (Wn ≤ 8) ∧ (RI Rn ms2) ∧ (FR P ms2 fae gl gu go farn farp fak fawn fawp fat fas)) D (fun (u : (Nat → Int32) × (Nat → Int32) × (Nat → Int32) × (Nat → Int32) × (Nat → Int32)) => match u with | (ms2, mq2, gl, gu, go) => [(h0, .inr (9, [.ref ys, .ref yk, .ref yo, .ref yt, .int mk0, .ref yfa, .ref yfe, .int mL, .int mS, .int mM, .ref yro, .ref yhe, .ref ygr, .int mF, .int mC, .int mY, .ref yta, .int (nI (mz)), .int (nI (mf)), .int (nI (mt)), .int mv, .int mw, .ref ywa, .ref ybi, .ref ysi, .ref ynu, .ref ymo])), (ys, .inl (cI, 449, .inl ms2)), (ybi, .inl (cI, 4, .inl bi)), (ysi, .inl (cI, 4, .inl sq)), (ynu, .inl (cJ, 160, .inr (.inl nb))), (yt, .inl (cI, 7, .inl mq2))]) A) ([.ref h0, .int 1, .int (nI (k_9))] : List Value).toArray s 0 0 A) (F0 m 37 ls []) by
        exact loop_37 _ 0 0 ms fal fau fao _ _ _ (Nat.lt_succ_self _) (by omega) rfl rfl rfl rfl hs0 hs1 hs2 hsS hsM hsp hsr hsw hsR hsG hP hD hS (lv_sub hl [0, 1, 2, 3, 4, 5] rfl)
      intro n_37
      induction n_37 with
      | zero =>
        intro i c8 s8 l8 u8 o8 H locs ls hm_37
        exact absurd hm_37 (Nat.not_lt_zero _)
      | succ n_37 ih_37 =>
        intro i c8 s8 l8 u8 o8 H locs ls hm_37 hi hc8 hl8 hu8 hd8 ht0 ht1 ht2 htS htM htp htr htw htR htG hP hD hS hl
        refine lv_iload hx hb dX9_lays_37 (lv_at hl 0 rfl) ?_
        refine lv_aload_n hx hb dX9_lays_39 rfl (lv_at hl 3 rfl) ?_
        refine xg hF kf_X9_46 hK hP 0 rfl rfl dX9_lays_40 ?_
        refine lv_iload_n hx hb dX9_lays_43 rfl (lv_at hl 4 rfl) ?_
        refine va_iald hx hb hK hP 3 0 rfl rfl (xin 1 4 (by decide) (by decide)) dX9_lays_44 ?_
        refine xl_i (y := sq 1) (congrArg sq rfl) ?_
        refine xl_i (y := nI (zq)) ez ?_
        refine lv_icmp_ge (tgt := 115) hx hb dX9_lays_45 (by decide) (fun c_14 => ?_) (fun c_14 => ?_)
        · skip
          have nc_14 : zq ≤ i := xn_le (a := zq) (b := i) (by omega) (by omega) c_14
          refine lv_iload hx hb dX9_lays_115 (lv_at hl 1 rfl) ?_
          exact W.iret (v := nI (c8)) hx hb hr (fun t ht hW => ⟨⟨nI (c8), (s8, mq, l8, u8, o8), rfl, ⟨((congrArg nI (hc8.trans (congrArg (lyC nu P k_9) (show i = zq by omega)))).trans (la_y (P := P) (z := zq) (nu := nu) (k := k_9) (by omega) (fun h => h_3 (hbt9.trans h)) (by omega)).1), ((hl8.trans (congrArg (lyF nu P k_9 fal) (show i = zq by omega))).trans ((la_y (P := P) (z := zq) (nu := nu) (k := k_9) (by omega) (fun h => h_3 (hbt9.trans h)) (by omega)).2.1 _)), ((hu8.trans (congrArg (lyF nu P k_9 fau) (show i = zq by omega))).trans ((la_y (P := P) (z := zq) (nu := nu) (k := k_9) (by omega) (fun h => h_3 (hbt9.trans h)) (by omega)).2.1 _)), ((hd8.trans (congrArg (lyO nu P k_9 fao) (show i = zq by omega))).trans ((la_y (P := P) (z := zq) (nu := nu) (k := k_9) (by omega) (fun h => h_3 (hbt9.trans h)) (by omega)).2.2 _)), ht0, ht1, ht2, htS, htM, htp, htr, htw, htR, htG⟩, by rw [ht]; exact hP.sub [0, 1, 2, 3, 4, 5] rfl, hD.sub [0, 1, 2, 3, 4, 5] (by decide +kernel) rfl⟩, hS.F ht⟩) hS.2.2 dX9_lays_117 hlk
        · skip
          have nc_14 : i < zq := xn_nle (a := zq) (b := i) (by omega) (by omega) c_14
          refine lv_aload_n hx hb dX9_lays_48 rfl (lv_at hl 3 rfl) ?_
          refine xg hF kf_X9_49 hK hP 0 rfl rfl dX9_lays_49 ?_
          refine lv_bipush (v := 40) hx hb dX9_lays_52 (by decide) ?_
          refine lv_iload_n hx hb dX9_lays_54 rfl (lv_at hl 4 rfl) ?_
          refine lv_imul hx hb dX9_lays_55 ?_
          refine xl_i (y := 40) (by decide) ?_
          refine lv_iload hx hb dX9_lays_56 (lv_at hl 0 rfl) ?_
          refine lv_iadd hx hb dX9_lays_58 ?_
          refine xl_i (y := nI (40 + i)) (nI_add 40 i) ?_
          refine va_lald hx hb hK hP 4 1 rfl rfl (vp_in_nI (show 40 + i < 160 by omega) (by decide)) dX9_lays_59 ?_
          refine xl_l (y := nb (40 + i)) (congrArg nb (nI_clamp (show 40 + i < 2 ^ 31 by omega))) ?_
          refine xl_l (y := nu i) (hn i (by omega)) ?_
          refine lv_lstore (lv' := [(6, .long (nu i)), (5, .int (nI (i))), (4, .int (nI (c8))), (3, .int 0), (0, .ref h0), (1, .int 1), (2, .int (nI (k_9)))]) hx hb dX9_lays_60 hl (by decide) rfl (fun ls hl => ?_)
          refine lv_aload_n hx hb dX9_lays_62 rfl (lv_at hl 4 rfl) ?_
          refine lv_iload hx hb dX9_lays_63 (lv_at hl 1 rfl) ?_
          refine xc_Vr hF (c_X9_isPlace l D cI cJ cZ cS ta sa sv H.size h0 ys yk yo yt mk0 yfa yfe mL mS mM yro yhe ygr mF mC mY yta mz mf mt mv mw ywa ybi ysi ynu ymo s8 P Rn Wn fae l8 u8 o8 farn farp fak fawn fawp fat fas (nI (i)) ht0 ht1 ht2 htS htM htp htr htw htR htG) kv_X9_61 ⟨rfl, rfl, Nat.le_of_ble_eq_true rfl, Nat.le_of_ble_eq_true rfl⟩ ⟨Nat.le_of_ble_eq_true rfl, Nat.le_of_ble_eq_true rfl⟩ hK hN hZ hP hD hS hA [0, 1] rfl rfl 0 rfl rfl rfl rfl hl.1 rfl (Nat.le_of_ble_eq_true rfl) dX9_lays_65 (fun r_15 hw_r_15 => ?_)
          rcases hw_r_15 with ⟨k_16, rfl, h_17, h_18⟩ | ⟨rfl, h_19⟩
          · skip
            refine lv_if_eq (tgt := 109) hx hb dX9_lays_68 (by decide) (fun c_20 => absurd c_20 (by decide)) (fun c_20 => ?_)
            have hi9 := xn_eq (by omega) (by omega) h_17
            refine lv_iload hx hb dX9_lays_71 (lv_at hl 1 rfl) ?_
            refine lv_iload_n hx hb dX9_lays_73 rfl (lv_at hl 6 rfl) ?_
            refine lv_icmp_eq (tgt := 109) hx hb dX9_lays_74 (by decide) (fun c_21 => ?_) (fun c_21 => ?_)
            · skip
              have nc_21 : i = k_9 := xn_eq (a := i) (b := k_9) (by omega) (by omega) c_21
              refine lv_iinc (v := nI (i + 1)) (lv' := [(5, .int (nI (i + 1))), (6, .long (nu i)), (4, .int (nI (c8))), (3, .int 0), (0, .ref h0), (1, .int 1), (2, .int (nI (k_9)))]) hx hb dX9_lays_109 hl (k := 1) rfl (nI_1 (i)) (by decide) rfl (fun ls hl => ?_)
              refine lv_goto (tgt := 37) hx hb dX9_lays_112 (by decide) ?_
              exact ih_37 (i + 1) c8 s8 l8 u8 o8 _ _ _ (by omega) (by omega) (hc8.trans (ly_n (show ¬ lyOk nu P k_9 i from (fun q => q.2.1 (by omega)))).2.2.symm) (hl8.trans ((ly_n (show ¬ lyOk nu P k_9 i from (fun q => q.2.1 (by omega)))).1 _).symm) (hu8.trans ((ly_n (show ¬ lyOk nu P k_9 i from (fun q => q.2.1 (by omega)))).1 _).symm) (hd8.trans ((ly_n (show ¬ lyOk nu P k_9 i from (fun q => q.2.1 (by omega)))).2.1 _).symm) ht0 ht1 ht2 htS htM htp htr htw htR htG (hP.sub [0, 1, 2, 3, 4, 5] rfl) (hD.sub [0, 1, 2, 3, 4, 5] (by decide +kernel) rfl) hS (lv_sub hl [0, 2, 3, 4, 5, 6] rfl)
            · skip
              have nc_21 : i ≠ k_9 := xn_ne (a := i) (b := k_9) (by omega) (by omega) c_21
              refine lv_lload hx hb dX9_lays_77 (lv_at hl 0 rfl) ?_
              refine lv_ldc2 (v := (-99)) hx hb hown (hu _ uw659) dX9_lays_79 ?_
              refine xl_l (y := (-99 : Int32).toInt64) (by decide) ?_
              refine lv_ldc2 (v := 999) hx hb hown (hu _ uw660) dX9_lays_82 ?_
              refine xl_l (y := (999 : Int32).toInt64) (by decide) ?_
              refine xc_Sr hF (c_X9_inL l D cI cJ cZ cS ta sa sv H.size (nu i) (-99) 999 ) ks_X9_57 ⟨rfl, rfl, Nat.le_of_ble_eq_true rfl, Nat.le_of_ble_eq_true rfl⟩ ⟨Nat.le_of_ble_eq_true rfl, Nat.le_of_ble_eq_true rfl⟩ hK hN hZ hP hD hS hA [] rfl rfl rfl hl.1 rfl (Nat.le_of_ble_eq_true rfl) dX9_lays_85 (fun r_22 hw_r_22 => ?_)
              rcases hw_r_22 with ⟨rfl, h_23, h_24⟩ | ⟨rfl, h_25⟩
              · skip
                refine lv_if_eq (tgt := 109) hx hb dX9_lays_88 (by decide) (fun c_26 => absurd c_26 (by decide)) (fun c_26 => ?_)
                refine lv_aload_n hx hb dX9_lays_91 rfl (lv_at hl 4 rfl) ?_
                refine lv_iload_n hx hb dX9_lays_92 rfl (lv_at hl 6 rfl) ?_
                refine lv_iload hx hb dX9_lays_93 (lv_at hl 1 rfl) ?_
                refine lv_lload hx hb dX9_lays_95 (lv_at hl 0 rfl) ?_
                refine lv_l2i (v := (nu i).toInt32) hx hb dX9_lays_97 rfl ?_
                refine lv_lload hx hb dX9_lays_98 (lv_at hl 0 rfl) ?_
                refine lv_l2i (v := (nu i).toInt32) hx hb dX9_lays_100 rfl ?_
                refine xc_Vi (wr := [(ybi, .inl (cI, 4, .inl bi)), (ysi, .inl (cI, 4, .inl sq)), (ynu, .inl (cJ, 160, .inr (.inl nb))), (yt, .inl (cI, 7, .inl mq))]) hF (c_X9_makes l D cI cJ cZ cS ta sa sv H.size h0 ys yk yo yt mk0 yfa yfe mL mS mM yro yhe ygr mF mC mY yta mz mf mt mv mw ywa ybi ysi ynu ymo s8 P Rn Wn fae l8 u8 o8 farn farp fak fawn fawp fat fas k_9 i ((nu i).toInt32) ((nu i).toInt32) (by omega) (by omega) (x_endsL h_23 h_24) ht0 ht1 ht2 htS htM htp htr htw htR htG) kv_X9_87 ⟨rfl, rfl, Nat.le_of_ble_eq_true rfl, Nat.le_of_ble_eq_true rfl⟩ ⟨Nat.le_of_ble_eq_true rfl, Nat.le_of_ble_eq_true rfl⟩ hK hN hZ hP hD hS hA [0, 1] [2, 3, 4, 5] rfl rfl rfl rfl (by decide) 0 rfl rfl rfl rfl hl.1 rfl (Nat.le_of_ble_eq_true rfl) dX9_lays_101 (fun r_27 u_r_27 H locs hw_r_27 hP hD hS => ?_)
                obtain ⟨ms2_28, rfl⟩ : ∃ z, z = u_r_27 := ⟨_, rfl⟩
                try dsimp only at hw_r_27
                obtain ⟨hw_r_27, i_29, i_30, i_31, i_32, i_33, i_34, i_35, i_36, i_37, i_38⟩ := hw_r_27
                have hP : va_P D vwCl [(ybi, .inl (cI, 4, .inl bi)), (ysi, .inl (cI, 4, .inl sq)), (ynu, .inl (cJ, 160, .inr (.inl nb))), (yt, .inl (cI, 7, .inl mq)), (h0, .inr (9, [.ref ys, .ref yk, .ref yo, .ref yt, .int mk0, .ref yfa, .ref yfe, .int mL, .int mS, .int mM, .ref yro, .ref yhe, .ref ygr, .int mF, .int mC, .int mY, .ref yta, .int (nI (mz)), .int (nI (mf)), .int (nI (mt)), .int mv, .int mw, .ref ywa, .ref ybi, .ref ysi, .ref ynu, .ref ymo])), (ys, .inl (cI, 449, .inl ms2_28))] H := hP
                have hD : va_D A [(ybi, .inl (cI, 4, .inl bi)), (ysi, .inl (cI, 4, .inl sq)), (ynu, .inl (cJ, 160, .inr (.inl nb))), (yt, .inl (cI, 7, .inl mq)), (h0, .inr (9, [.ref ys, .ref yk, .ref yo, .ref yt, .int mk0, .ref yfa, .ref yfe, .int mL, .int mS, .int mM, .ref yro, .ref yhe, .ref ygr, .int mF, .int mC, .int mY, .ref yta, .int (nI (mz)), .int (nI (mf)), .int (nI (mt)), .int mv, .int mw, .ref ywa, .ref ybi, .ref ysi, .ref ynu, .ref ymo])), (ys, .inl (cI, 449, .inl ms2_28))] := hD
                rcases hw_r_27 with ⟨rfl, h_39⟩ | ⟨rfl, h_40⟩
                · skip
                  refine lv_istore (lv' := [(8, .int 1), (6, .long (nu i)), (5, .int (nI (i))), (4, .int (nI (c8))), (3, .int 0), (0, .ref h0), (1, .int 1), (2, .int (nI (k_9)))]) hx hb dX9_lays_104 hl (by decide) rfl (fun ls hl => ?_)
                  refine lv_iinc (v := nI (c8 + 1)) (lv' := [(4, .int (nI (c8 + 1))), (8, .int 1), (6, .long (nu i)), (5, .int (nI (i))), (3, .int 0), (0, .ref h0), (1, .int 1), (2, .int (nI (k_9)))]) hx hb dX9_lays_106 hl (k := 3) rfl (nI_1 (c8)) (by decide) rfl (fun ls hl => ?_)
                  refine lv_iinc (v := nI (i + 1)) (lv' := [(5, .int (nI (i + 1))), (4, .int (nI (c8 + 1))), (8, .int 1), (6, .long (nu i)), (3, .int 0), (0, .ref h0), (1, .int 1), (2, .int (nI (k_9)))]) hx hb dX9_lays_109 hl (k := 3) rfl (nI_1 (i)) (by decide) rfl (fun ls hl => ?_)
                  refine lv_goto (tgt := 37) hx hb dX9_lays_112 (by decide) ?_
                  exact ih_37 (i + 1) (c8 + 1) ms2_28 (upd l8 (10 * k_9 + i) ((nu i).toInt32)) (upd u8 (10 * k_9 + i) ((nu i).toInt32)) (upd o8 (10 * k_9 + i) 1) _ _ _ (by omega) (by omega) ((congrArg (· + 1) hc8).trans (ly_y (show lyOk nu P k_9 i from ⟨by omega, by omega, (ly_in h_23 h_24).1, (ly_in h_23 h_24).2⟩)).2.2.symm) (by rw [hl8]; exact ((ly_y (show lyOk nu P k_9 i from ⟨by omega, by omega, (ly_in h_23 h_24).1, (ly_in h_23 h_24).2⟩)).1 _).symm) (by rw [hu8]; exact ((ly_y (show lyOk nu P k_9 i from ⟨by omega, by omega, (ly_in h_23 h_24).1, (ly_in h_23 h_24).2⟩)).1 _).symm) (by rw [hd8]; exact ((ly_y (show lyOk nu P k_9 i from ⟨by omega, by omega, (ly_in h_23 h_24).1, (ly_in h_23 h_24).2⟩)).2.1 _).symm) i_29 i_30 i_31 i_32 i_33 i_34 i_35 i_36 i_37 i_38 (hP.sub [4, 5, 0, 1, 2, 3] rfl) (hD.sub [4, 5, 0, 1, 2, 3] (by decide +kernel) rfl) hS (lv_sub hl [0, 1, 4, 5, 6, 7] rfl)
                · skip
                  refine lv_istore (lv' := [(8, .int 0), (6, .long (nu i)), (5, .int (nI (i))), (4, .int (nI (c8))), (3, .int 0), (0, .ref h0), (1, .int 1), (2, .int (nI (k_9)))]) hx hb dX9_lays_104 hl (by decide) rfl (fun ls hl => ?_)
                  refine lv_iinc (v := nI (c8 + 1)) (lv' := [(4, .int (nI (c8 + 1))), (8, .int 0), (6, .long (nu i)), (5, .int (nI (i))), (3, .int 0), (0, .ref h0), (1, .int 1), (2, .int (nI (k_9)))]) hx hb dX9_lays_106 hl (k := 3) rfl (nI_1 (c8)) (by decide) rfl (fun ls hl => ?_)
                  refine lv_iinc (v := nI (i + 1)) (lv' := [(5, .int (nI (i + 1))), (4, .int (nI (c8 + 1))), (8, .int 0), (6, .long (nu i)), (3, .int 0), (0, .ref h0), (1, .int 1), (2, .int (nI (k_9)))]) hx hb dX9_lays_109 hl (k := 3) rfl (nI_1 (i)) (by decide) rfl (fun ls hl => ?_)
                  refine lv_goto (tgt := 37) hx hb dX9_lays_112 (by decide) ?_
                  exact ih_37 (i + 1) (c8 + 1) ms2_28 (upd l8 (10 * k_9 + i) ((nu i).toInt32)) (upd u8 (10 * k_9 + i) ((nu i).toInt32)) (upd o8 (10 * k_9 + i) 1) _ _ _ (by omega) (by omega) ((congrArg (· + 1) hc8).trans (ly_y (show lyOk nu P k_9 i from ⟨by omega, by omega, (ly_in h_23 h_24).1, (ly_in h_23 h_24).2⟩)).2.2.symm) (by rw [hl8]; exact ((ly_y (show lyOk nu P k_9 i from ⟨by omega, by omega, (ly_in h_23 h_24).1, (ly_in h_23 h_24).2⟩)).1 _).symm) (by rw [hu8]; exact ((ly_y (show lyOk nu P k_9 i from ⟨by omega, by omega, (ly_in h_23 h_24).1, (ly_in h_23 h_24).2⟩)).1 _).symm) (by rw [hd8]; exact ((ly_y (show lyOk nu P k_9 i from ⟨by omega, by omega, (ly_in h_23 h_24).1, (ly_in h_23 h_24).2⟩)).2.1 _).symm) i_29 i_30 i_31 i_32 i_33 i_34 i_35 i_36 i_37 i_38 (hP.sub [4, 5, 0, 1, 2, 3] rfl) (hD.sub [4, 5, 0, 1, 2, 3] (by decide +kernel) rfl) hS (lv_sub hl [0, 1, 4, 5, 6, 7] rfl)
              · skip
                refine lv_if_eq (tgt := 109) hx hb dX9_lays_88 (by decide) (fun c_41 => ?_) (fun c_41 => absurd (by decide) c_41)
                refine lv_iinc (v := nI (i + 1)) (lv' := [(5, .int (nI (i + 1))), (6, .long (nu i)), (4, .int (nI (c8))), (3, .int 0), (0, .ref h0), (1, .int 1), (2, .int (nI (k_9)))]) hx hb dX9_lays_109 hl (k := 1) rfl (nI_1 (i)) (by decide) rfl (fun ls hl => ?_)
                refine lv_goto (tgt := 37) hx hb dX9_lays_112 (by decide) ?_
                exact ih_37 (i + 1) c8 s8 l8 u8 o8 _ _ _ (by omega) (by omega) (hc8.trans (ly_n (show ¬ lyOk nu P k_9 i from (fun q => ly_nin h_25 ⟨q.2.2.1, q.2.2.2⟩))).2.2.symm) (hl8.trans ((ly_n (show ¬ lyOk nu P k_9 i from (fun q => ly_nin h_25 ⟨q.2.2.1, q.2.2.2⟩))).1 _).symm) (hu8.trans ((ly_n (show ¬ lyOk nu P k_9 i from (fun q => ly_nin h_25 ⟨q.2.2.1, q.2.2.2⟩))).1 _).symm) (hd8.trans ((ly_n (show ¬ lyOk nu P k_9 i from (fun q => ly_nin h_25 ⟨q.2.2.1, q.2.2.2⟩))).2.1 _).symm) ht0 ht1 ht2 htS htM htp htr htw htR htG (hP.sub [0, 1, 2, 3, 4, 5] rfl) (hD.sub [0, 1, 2, 3, 4, 5] (by decide +kernel) rfl) hS (lv_sub hl [0, 2, 3, 4, 5, 6] rfl)
          · skip
            refine lv_if_eq (tgt := 109) hx hb dX9_lays_68 (by decide) (fun c_42 => ?_) (fun c_42 => absurd (by decide) c_42)
            refine lv_iinc (v := nI (i + 1)) (lv' := [(5, .int (nI (i + 1))), (6, .long (nu i)), (4, .int (nI (c8))), (3, .int 0), (0, .ref h0), (1, .int 1), (2, .int (nI (k_9)))]) hx hb dX9_lays_109 hl (k := 1) rfl (nI_1 (i)) (by decide) rfl (fun ls hl => ?_)
            refine lv_goto (tgt := 37) hx hb dX9_lays_112 (by decide) ?_
            exact ih_37 (i + 1) c8 s8 l8 u8 o8 _ _ _ (by omega) (by omega) (hc8.trans (ly_n (show ¬ lyOk nu P k_9 i from (fun q => h_19 (isP_nI (by omega) q.1)))).2.2.symm) (hl8.trans ((ly_n (show ¬ lyOk nu P k_9 i from (fun q => h_19 (isP_nI (by omega) q.1)))).1 _).symm) (hu8.trans ((ly_n (show ¬ lyOk nu P k_9 i from (fun q => h_19 (isP_nI (by omega) q.1)))).1 _).symm) (hd8.trans ((ly_n (show ¬ lyOk nu P k_9 i from (fun q => h_19 (isP_nI (by omega) q.1)))).2.1 _).symm) ht0 ht1 ht2 htS htM htp htr htw htR htG (hP.sub [0, 1, 2, 3, 4, 5] rfl) (hD.sub [0, 1, 2, 3, 4, 5] (by decide +kernel) rfl) hS (lv_sub hl [0, 2, 3, 4, 5, 6] rfl)
    · skip
      refine lv_if_ne (tgt := 31) hx hb dX9_lays_21 (by decide) (fun c_43 => absurd (by decide) c_43) (fun c_43 => ?_)
      refine lv_aload_n hx hb dX9_lays_24 rfl (lv_at hl 1 rfl) ?_
      refine lv_ldc (v := (-1000000001)) hx hb hown (hu _ uw648) dX9_lays_25 ?_
      refine xc_Vi (wr := [(ys, .inl (cI, 449, .inl ms)), (ybi, .inl (cI, 4, .inl bi)), (ysi, .inl (cI, 4, .inl sq)), (ynu, .inl (cJ, 160, .inr (.inl nb)))]) hF (c_X9_finds_B l D cI cJ cZ cS ta sa sv s.heap.size h0 ys yk yo yt mk0 yfa yfe mL mS mM yro yhe ygr mF mC mY yta mz mf mt mv mw ywa ybi ysi ynu ymo mq ) kv_X9_70 ⟨rfl, rfl, Nat.le_of_ble_eq_true rfl, Nat.le_of_ble_eq_true rfl⟩ ⟨Nat.le_of_ble_eq_true rfl, Nat.le_of_ble_eq_true rfl⟩ hK hN hZ hP hD hS hA [0, 5] [1, 2, 3, 4] rfl rfl rfl rfl (by decide) 0 rfl rfl rfl rfl hl.1 rfl (Nat.le_of_ble_eq_true rfl) dX9_lays_27 (fun r_44 u_r_44 H locs hw_r_44 hP hD hS => ?_)
      obtain ⟨mq2_45, rfl⟩ : ∃ z, z = u_r_44 := ⟨_, rfl⟩
      try dsimp only at hw_r_44
      have hP : va_P D vwCl [(ys, .inl (cI, 449, .inl ms)), (ybi, .inl (cI, 4, .inl bi)), (ysi, .inl (cI, 4, .inl sq)), (ynu, .inl (cJ, 160, .inr (.inl nb))), (h0, .inr (9, [.ref ys, .ref yk, .ref yo, .ref yt, .int mk0, .ref yfa, .ref yfe, .int mL, .int mS, .int mM, .ref yro, .ref yhe, .ref ygr, .int mF, .int mC, .int mY, .ref yta, .int (nI (mz)), .int (nI (mf)), .int (nI (mt)), .int mv, .int mw, .ref ywa, .ref ybi, .ref ysi, .ref ynu, .ref ymo])), (yt, .inl (cI, 7, .inl mq2_45))] H := hP
      have hD : va_D A [(ys, .inl (cI, 449, .inl ms)), (ybi, .inl (cI, 4, .inl bi)), (ysi, .inl (cI, 4, .inl sq)), (ynu, .inl (cJ, 160, .inr (.inl nb))), (h0, .inr (9, [.ref ys, .ref yk, .ref yo, .ref yt, .int mk0, .ref yfa, .ref yfe, .int mL, .int mS, .int mM, .ref yro, .ref yhe, .ref ygr, .int mF, .int mC, .int mY, .ref yta, .int (nI (mz)), .int (nI (mf)), .int (nI (mt)), .int mv, .int mw, .ref ywa, .ref ybi, .ref ysi, .ref ynu, .ref ymo])), (yt, .inl (cI, 7, .inl mq2_45))] := hD
      subst hw_r_44
      exact W.iret (v := (-1000000001)) hx hb hr (fun t ht hW => ⟨⟨(-1000000001), (ms, mq2_45, fal, fau, fao), rfl, ⟨(la_b (P := P) (z := zq) (nu := nu) (fun h => h_3 (hbt9.trans h)) h_12).1, ((la_b (P := P) (z := zq) (nu := nu) (fun h => h_3 (hbt9.trans h)) h_12).2.1 _), ((la_b (P := P) (z := zq) (nu := nu) (fun h => h_3 (hbt9.trans h)) h_12).2.1 _), ((la_b (P := P) (z := zq) (nu := nu) (fun h => h_3 (hbt9.trans h)) h_12).2.2 _), hs0, hs1, hs2, hsS, hsM, hsp, hsr, hsw, hsR, hsG⟩, by rw [ht]; exact hP.sub [4, 0, 1, 2, 3, 5] rfl, hD.sub [4, 0, 1, 2, 3, 5] (by decide +kernel) rfl⟩, hS.F ht⟩) hS.2.2 dX9_lays_30 hlk
set_option maxHeartbeats 4000000 in
set_option maxRecDepth 100000 in
theorem c_X9_lays_2 (l : Launch) (D : va_G) (cI cJ cZ cS : ClassId) (ta : Nat) (sa sv : Nat → Nat) (sz : Nat) (h0 : Nat) (ys : Nat) (yk : Nat) (yo : Nat) (yt : Nat) (mk0 : Int32) (yfa : Nat) (yfe : Nat) (mL : Int32) (mS : Int32) (mM : Int32) (yro : Nat) (yhe : Nat) (ygr : Nat) (mF : Int32) (mC : Int32) (mY : Int32) (yta : Nat) (mz : Nat) (mf : Nat) (mt : Nat) (mv : Int32) (mw : Int32) (ywa : Nat) (ybi : Nat) (ysi : Nat) (ynu : Nat) (ymo : Nat) (ms : Nat → Int32) (bi : Nat → Int32) (sq : Nat → Int32) (nb : Nat → Int64) (mq : Nat → Int32) (P : Nat) (Rn : Nat) (Wn : Nat) (fae : Nat → Int32) (fal : Nat → Int32) (fau : Nat → Int32) (fao : Nat → Int32) (farn : Nat → Int32) (farp : Nat → Int32) (fak : Nat → Int32) (fawn : Nat → Int32) (fawp : Nat → Int32) (fat : Nat → Int32) (fas : Nat → Int32) (p1 : Int32) (bt : Int32) (zq : Nat) (nu : Nat → Int64) (hbt9 : bi 2 = bt) (ez : sq 2 = nI zq) (hzq : zq ≤ 40) (hn : ∀ j, j < 40 → nb (80 + j) = nu j) (hsq : BA 4 41 sq) (hs0 : ms 0 = nI P) (hs1 : ms 1 = nI Rn) (hs2 : ms 2 = nI Wn) (hsS : SI ms) (hsM : MI ms) (hsp : P ≤ 10) (hsr : Rn ≤ 8) (hsw : Wn ≤ 8) (hsR : RI Rn ms) (hsG : FR P ms fae fal fau fao farn farp fak fawn fawp fat fas) : Met l yX9_lays (Cond.code yX9_lays cX9_lays 9 (some .int) :: wsU) ({ frames := 3, cells := 0, slots := 0, locals := 66 }) (va_Pc [.ref h0, .int 2, .int p1] (XW D (xT cI cJ cZ cS) ta sa sv [(h0, .inr (9, [.ref ys, .ref yk, .ref yo, .ref yt, .int mk0, .ref yfa, .ref yfe, .int mL, .int mS, .int mM, .ref yro, .ref yhe, .ref ygr, .int mF, .int mC, .int mY, .ref yta, .int (nI (mz)), .int (nI (mf)), .int (nI (mt)), .int mv, .int mw, .ref ywa, .ref ybi, .ref ysi, .ref ynu, .ref ymo])), (ys, .inl (cI, 449, .inl ms)), (ybi, .inl (cI, 4, .inl bi)), (ysi, .inl (cI, 4, .inl sq)), (ynu, .inl (cJ, 160, .inr (.inl nb))), (yt, .inl (cI, 7, .inl mq))] sz)) (XQi (fun (r : Int32) (u : (Nat → Int32) × (Nat → Int32) × (Nat → Int32) × (Nat → Int32) × (Nat → Int32)) => match u with | (ms2, mq2, gl, gu, go) => ((r = laR P zq bt p1 nu)) ∧ (gl = laF P zq bt p1 nu fal) ∧ (gu = laF P zq bt p1 nu fau) ∧ (go = laO P zq bt p1 nu fao) ∧ (ms2 0 = nI P) ∧ (ms2 1 = nI Rn) ∧ (ms2 2 = nI Wn) ∧ (SI ms2) ∧ (MI ms2) ∧ (P ≤ 10) ∧ (Rn ≤ 8) ∧ (Wn ≤ 8) ∧ (RI Rn ms2) ∧ (FR P ms2 fae gl gu go farn farp fak fawn fawp fat fas)) D (fun (u : (Nat → Int32) × (Nat → Int32) × (Nat → Int32) × (Nat → Int32) × (Nat → Int32)) => match u with | (ms2, mq2, gl, gu, go) => [(h0, .inr (9, [.ref ys, .ref yk, .ref yo, .ref yt, .int mk0, .ref yfa, .ref yfe, .int mL, .int mS, .int mM, .ref yro, .ref yhe, .ref ygr, .int mF, .int mC, .int mY, .ref yta, .int (nI (mz)), .int (nI (mf)), .int (nI (mt)), .int mv, .int mw, .ref ywa, .ref ybi, .ref ysi, .ref ynu, .ref ymo])), (ys, .inl (cI, 449, .inl ms2)), (ybi, .inl (cI, 4, .inl bi)), (ysi, .inl (cI, 4, .inl sq)), (ynu, .inl (cJ, 160, .inr (.inl nb))), (yt, .inl (cI, 7, .inl mq2))]) (va_A [(h0, .inr (9, [.ref ys, .ref yk, .ref yo, .ref yt, .int mk0, .ref yfa, .ref yfe, .int mL, .int mS, .int mM, .ref yro, .ref yhe, .ref ygr, .int mF, .int mC, .int mY, .ref yta, .int (nI (mz)), .int (nI (mf)), .int (nI (mt)), .int mv, .int mw, .ref ywa, .ref ybi, .ref ysi, .ref ynu, .ref ymo])), (ys, .inl (cI, 449, .inl ms)), (ybi, .inl (cI, 4, .inl bi)), (ysi, .inl (cI, 4, .inl sq)), (ynu, .inl (cJ, 160, .inr (.inl nb))), (yt, .inl (cI, 7, .inl mq))] sz)) 0 0 (va_A [(h0, .inr (9, [.ref ys, .ref yk, .ref yo, .ref yt, .int mk0, .ref yfa, .ref yfe, .int mL, .int mS, .int mM, .ref yro, .ref yhe, .ref ygr, .int mF, .int mC, .int mY, .ref yta, .int (nI (mz)), .int (nI (mf)), .int (nI (mt)), .int mv, .int mw, .ref ywa, .ref ybi, .ref ysi, .ref ynu, .ref ymo])), (ys, .inl (cI, 449, .inl ms)), (ybi, .inl (cI, 4, .inl bi)), (ysi, .inl (cI, 4, .inl sq)), (ynu, .inl (cJ, 160, .inr (.inl nb))), (yt, .inl (cI, 7, .inl mq))] sz) := by
  refine xh (QA := fun A => XQi (fun (r : Int32) (u : (Nat → Int32) × (Nat → Int32) × (Nat → Int32) × (Nat → Int32) × (Nat → Int32)) => match u with | (ms2, mq2, gl, gu, go) => ((r = laR P zq bt p1 nu)) ∧ (gl = laF P zq bt p1 nu fal) ∧ (gu = laF P zq bt p1 nu fau) ∧ (go = laO P zq bt p1 nu fao) ∧ (ms2 0 = nI P) ∧ (ms2 1 = nI Rn) ∧ (ms2 2 = nI Wn) ∧ (SI ms2) ∧ (MI ms2) ∧ (P ≤ 10) ∧ (Rn ≤ 8) ∧ (Wn ≤ 8) ∧ (RI Rn ms2) ∧ (FR P ms2 fae gl gu go farn farp fak fawn fawp fat fas)) D (fun (u : (Nat → Int32) × (Nat → Int32) × (Nat → Int32) × (Nat → Int32) × (Nat → Int32)) => match u with | (ms2, mq2, gl, gu, go) => [(h0, .inr (9, [.ref ys, .ref yk, .ref yo, .ref yt, .int mk0, .ref yfa, .ref yfe, .int mL, .int mS, .int mM, .ref yro, .ref yhe, .ref ygr, .int mF, .int mC, .int mY, .ref yta, .int (nI (mz)), .int (nI (mf)), .int (nI (mt)), .int mv, .int mw, .ref ywa, .ref ybi, .ref ysi, .ref ynu, .ref ymo])), (ys, .inl (cI, 449, .inl ms2)), (ybi, .inl (cI, 4, .inl bi)), (ysi, .inl (cI, 4, .inl sq)), (ynu, .inl (cJ, 160, .inr (.inl nb))), (yt, .inl (cI, 7, .inl mq2))]) A) (fr := fun A => A) (by decide) (Nat.le_of_ble_eq_true rfl) ?_
  intro p e s m below meth c ls A hF hr hlk hin hsz hP hK hD hN hZ hA hS hl
  have hF : CallFix p m c cX9_lays 9 s _ _ RX9 := hF
  have hx := hF.1
  have hb := hF.2.1
  have hml := hF.2.2.1
  have hown := hF.2.2.2.1
  have hu : ∀ w ∈ wsU, w.before _ s = true := fun w h => hF.2.2.2.2 w (List.mem_cons_of_mem _ h)
  have hl : lv_has ls 9 [(0, .ref h0), (1, .int 2), (2, .int p1)] := hl
  refine lv_aload_n hx hb dX9_lays_0 rfl (lv_at hl 0 rfl) ?_
  refine lv_iload_n hx hb dX9_lays_1 rfl (lv_at hl 1 rfl) ?_
  refine xc_Vr hF (c_X9_wrong_2 l D cI cJ cZ cS ta sa sv s.heap.size h0 ys yk yo yt mk0 yfa yfe mL mS mM yro yhe ygr mF mC mY yta mz mf mt mv mw ywa ybi ysi ynu ymo bi ) kv_X9_310 ⟨rfl, rfl, Nat.le_of_ble_eq_true rfl, Nat.le_of_ble_eq_true rfl⟩ ⟨Nat.le_of_ble_eq_true rfl, Nat.le_of_ble_eq_true rfl⟩ hK hN hZ hP hD hS hA [0, 2] rfl rfl 0 rfl rfl rfl rfl hl.1 rfl (Nat.le_of_ble_eq_true rfl) dX9_lays_2 (fun r_1 hw_r_1 => ?_)
  rcases hw_r_1 with ⟨rfl, h_2⟩ | ⟨rfl, h_3⟩
  · skip
    refine lv_istore_n (lv' := [(3, .int (-1000000006)), (0, .ref h0), (1, .int 2), (2, .int p1)]) hx hb dX9_lays_5 rfl hl (by decide) rfl (fun ls hl => ?_)
    refine lv_iload_n hx hb dX9_lays_6 rfl (lv_at hl 0 rfl) ?_
    refine lv_if_eq (tgt := 16) hx hb dX9_lays_7 (by decide) (fun c_4 => absurd c_4 (by decide)) (fun c_4 => ?_)
    refine lv_aload_n hx hb dX9_lays_10 rfl (lv_at hl 1 rfl) ?_
    refine lv_iload_n hx hb dX9_lays_11 rfl (lv_at hl 0 rfl) ?_
    refine xc_Vi (wr := [(ys, .inl (cI, 449, .inl ms)), (ybi, .inl (cI, 4, .inl bi)), (ysi, .inl (cI, 4, .inl sq)), (ynu, .inl (cJ, 160, .inr (.inl nb)))]) hF (c_X9_finds_M l D cI cJ cZ cS ta sa sv s.heap.size h0 ys yk yo yt mk0 yfa yfe mL mS mM yro yhe ygr mF mC mY yta mz mf mt mv mw ywa ybi ysi ynu ymo mq ) kv_X9_70 ⟨rfl, rfl, Nat.le_of_ble_eq_true rfl, Nat.le_of_ble_eq_true rfl⟩ ⟨Nat.le_of_ble_eq_true rfl, Nat.le_of_ble_eq_true rfl⟩ hK hN hZ hP hD hS hA [0, 5] [1, 2, 3, 4] rfl rfl rfl rfl (by decide) 0 rfl rfl rfl rfl hl.1 rfl (Nat.le_of_ble_eq_true rfl) dX9_lays_12 (fun r_5 u_r_5 H locs hw_r_5 hP hD hS => ?_)
    obtain ⟨mq2_6, rfl⟩ : ∃ z, z = u_r_5 := ⟨_, rfl⟩
    try dsimp only at hw_r_5
    have hP : va_P D vwCl [(ys, .inl (cI, 449, .inl ms)), (ybi, .inl (cI, 4, .inl bi)), (ysi, .inl (cI, 4, .inl sq)), (ynu, .inl (cJ, 160, .inr (.inl nb))), (h0, .inr (9, [.ref ys, .ref yk, .ref yo, .ref yt, .int mk0, .ref yfa, .ref yfe, .int mL, .int mS, .int mM, .ref yro, .ref yhe, .ref ygr, .int mF, .int mC, .int mY, .ref yta, .int (nI (mz)), .int (nI (mf)), .int (nI (mt)), .int mv, .int mw, .ref ywa, .ref ybi, .ref ysi, .ref ynu, .ref ymo])), (yt, .inl (cI, 7, .inl mq2_6))] H := hP
    have hD : va_D A [(ys, .inl (cI, 449, .inl ms)), (ybi, .inl (cI, 4, .inl bi)), (ysi, .inl (cI, 4, .inl sq)), (ynu, .inl (cJ, 160, .inr (.inl nb))), (h0, .inr (9, [.ref ys, .ref yk, .ref yo, .ref yt, .int mk0, .ref yfa, .ref yfe, .int mL, .int mS, .int mM, .ref yro, .ref yhe, .ref ygr, .int mF, .int mC, .int mY, .ref yta, .int (nI (mz)), .int (nI (mf)), .int (nI (mt)), .int mv, .int mw, .ref ywa, .ref ybi, .ref ysi, .ref ynu, .ref ymo])), (yt, .inl (cI, 7, .inl mq2_6))] := hD
    subst hw_r_5
    exact W.iret (v := (-1000000006)) hx hb hr (fun t ht hW => ⟨⟨(-1000000006), (ms, mq2_6, fal, fau, fao), rfl, ⟨(la_m (P := P) (z := zq) (nu := nu) (hbt9.symm.trans h_2)).1, ((la_m (P := P) (z := zq) (nu := nu) (hbt9.symm.trans h_2)).2.1 _), ((la_m (P := P) (z := zq) (nu := nu) (hbt9.symm.trans h_2)).2.1 _), ((la_m (P := P) (z := zq) (nu := nu) (hbt9.symm.trans h_2)).2.2 _), hs0, hs1, hs2, hsS, hsM, hsp, hsr, hsw, hsR, hsG⟩, by rw [ht]; exact hP.sub [4, 0, 1, 2, 3, 5] rfl, hD.sub [4, 0, 1, 2, 3, 5] (by decide +kernel) rfl⟩, hS.F ht⟩) hS.2.2 dX9_lays_15 hlk
  · skip
    refine lv_istore_n (lv' := [(3, .int 0), (0, .ref h0), (1, .int 2), (2, .int p1)]) hx hb dX9_lays_5 rfl hl (by decide) rfl (fun ls hl => ?_)
    refine lv_iload_n hx hb dX9_lays_6 rfl (lv_at hl 0 rfl) ?_
    refine lv_if_eq (tgt := 16) hx hb dX9_lays_7 (by decide) (fun c_7 => ?_) (fun c_7 => absurd (by decide) c_7)
    refine lv_aload_n hx hb dX9_lays_16 rfl (lv_at hl 1 rfl) ?_
    refine lv_iload_n hx hb dX9_lays_17 rfl (lv_at hl 3 rfl) ?_
    refine xc_Vr hF (c_X9_isPlace l D cI cJ cZ cS ta sa sv s.heap.size h0 ys yk yo yt mk0 yfa yfe mL mS mM yro yhe ygr mF mC mY yta mz mf mt mv mw ywa ybi ysi ynu ymo ms P Rn Wn fae fal fau fao farn farp fak fawn fawp fat fas p1 hs0 hs1 hs2 hsS hsM hsp hsr hsw hsR hsG) kv_X9_61 ⟨rfl, rfl, Nat.le_of_ble_eq_true rfl, Nat.le_of_ble_eq_true rfl⟩ ⟨Nat.le_of_ble_eq_true rfl, Nat.le_of_ble_eq_true rfl⟩ hK hN hZ hP hD hS hA [0, 1] rfl rfl 0 rfl rfl rfl rfl hl.1 rfl (Nat.le_of_ble_eq_true rfl) dX9_lays_18 (fun r_8 hw_r_8 => ?_)
    rcases hw_r_8 with ⟨k_9, rfl, rfl, h_11⟩ | ⟨rfl, h_12⟩
    · skip
      refine lv_if_ne (tgt := 31) hx hb dX9_lays_21 (by decide) (fun c_13 => ?_) (fun c_13 => absurd c_13 (by decide))
      refine lv_iconst (v := 0) hx hb dX9_lays_31 (by decide) ?_
      refine lv_istore (lv' := [(4, .int 0), (3, .int 0), (0, .ref h0), (1, .int 2), (2, .int (nI (k_9)))]) hx hb dX9_lays_32 hl (by decide) rfl (fun ls hl => ?_)
      refine lv_iconst (v := 0) hx hb dX9_lays_34 (by decide) ?_
      refine lv_istore (lv' := [(5, .int 0), (4, .int 0), (3, .int 0), (0, .ref h0), (1, .int 2), (2, .int (nI (k_9)))]) hx hb dX9_lays_35 hl (by decide) rfl (fun ls hl => ?_)
      suffices loop_37 : ∀ (n_37 : Nat) (i : Nat) (c8 : Nat) (s8 : Nat → Int32) (l8 : Nat → Int32) (u8 : Nat → Int32) (o8 : Nat → Int32) (H : Heap) (locs : List Loc) (ls : Array Slot), 40 - i < n_37 → (i ≤ zq) → (c8 = lyC nu P k_9 i) → (l8 = lyF nu P k_9 fal i) → (u8 = lyF nu P k_9 fau i) → (o8 = lyO nu P k_9 fao i) → (s8 0 = nI P) → (s8 1 = nI Rn) → (s8 2 = nI Wn) → (SI s8) → (MI s8) → (P ≤ 10) → (Rn ≤ 8) → (Wn ≤ 8) → (RI Rn s8) → (FR P s8 fae l8 u8 o8 farn farp fak fawn fawp fat fas) → va_P D vwCl [(h0, .inr (9, [.ref ys, .ref yk, .ref yo, .ref yt, .int mk0, .ref yfa, .ref yfe, .int mL, .int mS, .int mM, .ref yro, .ref yhe, .ref ygr, .int mF, .int mC, .int mY, .ref yta, .int (nI (mz)), .int (nI (mf)), .int (nI (mt)), .int mv, .int mw, .ref ywa, .ref ybi, .ref ysi, .ref ynu, .ref ymo])), (ys, .inl (cI, 449, .inl s8)), (ybi, .inl (cI, 4, .inl bi)), (ysi, .inl (cI, 4, .inl sq)), (ynu, .inl (cJ, 160, .inr (.inl nb))), (yt, .inl (cI, 7, .inl mq))] H → va_D A [(h0, .inr (9, [.ref ys, .ref yk, .ref yo, .ref yt, .int mk0, .ref yfa, .ref yfe, .int mL, .int mS, .int mM, .ref yro, .ref yhe, .ref ygr, .int mF, .int mC, .int mY, .ref yta, .int (nI (mz)), .int (nI (mf)), .int (nI (mt)), .int mv, .int mw, .ref ywa, .ref ybi, .ref ysi, .ref ynu, .ref ymo])), (ys, .inl (cI, 449, .inl s8)), (ybi, .inl (cI, 4, .inl bi)), (ysi, .inl (cI, 4, .inl sq)), (ynu, .inl (cJ, 160, .inr (.inl nb))), (yt, .inl (cI, 7, .inl mq))] → va_S A s.heap H locs → lv_has ls 9 [(5, .int (nI (i))), (4, .int (nI (c8))), (3, .int 0), (0, .ref h0), (1, .int 2), (2, .int (nI (k_9)))] → W p l e ({ frames := 3, cells := 0, slots := 0, locals := 66 }) s m ([.ref h0, .int 2, .int (nI (k_9))] : List Value).toArray below meth c H locs 0 0 (MQ below (XQi (fun (r : Int32) (u : (Nat → Int32) × (Nat → Int32) × (Nat → Int32) × (Nat → Int32) × (Nat → Int32)) => match u with | (ms2, mq2, gl, gu, go) => ((r = laR P zq bt (nI (k_9)) nu)) ∧ (gl = laF P zq bt (nI (k_9)) nu fal) ∧ (gu = laF P zq bt (nI (k_9)) nu fau) ∧ (go = laO P zq bt (nI (k_9)) nu fao) ∧ (ms2 0 = nI P) ∧ (ms2 1 = nI Rn) ∧ (ms2 2 = nI Wn) ∧ (SI ms2) ∧ (MI ms2) ∧ (P ≤ 10) ∧ (Rn ≤ 8) ∧ (Wn ≤ 8) ∧ (RI Rn ms2) ∧ (FR P ms2 fae gl gu go farn farp fak fawn fawp fat fas)) D (fun (u : (Nat → Int32) × (Nat → Int32) × (Nat → Int32) × (Nat → Int32) × (Nat → Int32)) => match u with | (ms2, mq2, gl, gu, go) => [(h0, .inr (9, [.ref ys, .ref yk, .ref yo, .ref yt, .int mk0, .ref yfa, .ref yfe, .int mL, .int mS, .int mM, .ref yro, .ref yhe, .ref ygr, .int mF, .int mC, .int mY, .ref yta, .int (nI (mz)), .int (nI (mf)), .int (nI (mt)), .int mv, .int mw, .ref ywa, .ref ybi, .ref ysi, .ref ynu, .ref ymo])), (ys, .inl (cI, 449, .inl ms2)), (ybi, .inl (cI, 4, .inl bi)), (ysi, .inl (cI, 4, .inl sq)), (ynu, .inl (cJ, 160, .inr (.inl nb))), (yt, .inl (cI, 7, .inl mq2))]) A) ([.ref h0, .int 2, .int (nI (k_9))] : List Value).toArray s 0 0 A) (F0 m 37 ls []) by
        exact loop_37 _ 0 0 ms fal fau fao _ _ _ (Nat.lt_succ_self _) (by omega) rfl rfl rfl rfl hs0 hs1 hs2 hsS hsM hsp hsr hsw hsR hsG hP hD hS (lv_sub hl [0, 1, 2, 3, 4, 5] rfl)
      intro n_37
      induction n_37 with
      | zero =>
        intro i c8 s8 l8 u8 o8 H locs ls hm_37
        exact absurd hm_37 (Nat.not_lt_zero _)
      | succ n_37 ih_37 =>
        intro i c8 s8 l8 u8 o8 H locs ls hm_37 hi hc8 hl8 hu8 hd8 ht0 ht1 ht2 htS htM htp htr htw htR htG hP hD hS hl
        refine lv_iload hx hb dX9_lays_37 (lv_at hl 0 rfl) ?_
        refine lv_aload_n hx hb dX9_lays_39 rfl (lv_at hl 3 rfl) ?_
        refine xg hF kf_X9_46 hK hP 0 rfl rfl dX9_lays_40 ?_
        refine lv_iload_n hx hb dX9_lays_43 rfl (lv_at hl 4 rfl) ?_
        refine va_iald hx hb hK hP 3 0 rfl rfl (xin 2 4 (by decide) (by decide)) dX9_lays_44 ?_
        refine xl_i (y := sq 2) (congrArg sq rfl) ?_
        refine xl_i (y := nI (zq)) ez ?_
        refine lv_icmp_ge (tgt := 115) hx hb dX9_lays_45 (by decide) (fun c_14 => ?_) (fun c_14 => ?_)
        · skip
          have nc_14 : zq ≤ i := xn_le (a := zq) (b := i) (by omega) (by omega) c_14
          refine lv_iload hx hb dX9_lays_115 (lv_at hl 1 rfl) ?_
          exact W.iret (v := nI (c8)) hx hb hr (fun t ht hW => ⟨⟨nI (c8), (s8, mq, l8, u8, o8), rfl, ⟨((congrArg nI (hc8.trans (congrArg (lyC nu P k_9) (show i = zq by omega)))).trans (la_y (P := P) (z := zq) (nu := nu) (k := k_9) (by omega) (fun h => h_3 (hbt9.trans h)) (by omega)).1), ((hl8.trans (congrArg (lyF nu P k_9 fal) (show i = zq by omega))).trans ((la_y (P := P) (z := zq) (nu := nu) (k := k_9) (by omega) (fun h => h_3 (hbt9.trans h)) (by omega)).2.1 _)), ((hu8.trans (congrArg (lyF nu P k_9 fau) (show i = zq by omega))).trans ((la_y (P := P) (z := zq) (nu := nu) (k := k_9) (by omega) (fun h => h_3 (hbt9.trans h)) (by omega)).2.1 _)), ((hd8.trans (congrArg (lyO nu P k_9 fao) (show i = zq by omega))).trans ((la_y (P := P) (z := zq) (nu := nu) (k := k_9) (by omega) (fun h => h_3 (hbt9.trans h)) (by omega)).2.2 _)), ht0, ht1, ht2, htS, htM, htp, htr, htw, htR, htG⟩, by rw [ht]; exact hP.sub [0, 1, 2, 3, 4, 5] rfl, hD.sub [0, 1, 2, 3, 4, 5] (by decide +kernel) rfl⟩, hS.F ht⟩) hS.2.2 dX9_lays_117 hlk
        · skip
          have nc_14 : i < zq := xn_nle (a := zq) (b := i) (by omega) (by omega) c_14
          refine lv_aload_n hx hb dX9_lays_48 rfl (lv_at hl 3 rfl) ?_
          refine xg hF kf_X9_49 hK hP 0 rfl rfl dX9_lays_49 ?_
          refine lv_bipush (v := 40) hx hb dX9_lays_52 (by decide) ?_
          refine lv_iload_n hx hb dX9_lays_54 rfl (lv_at hl 4 rfl) ?_
          refine lv_imul hx hb dX9_lays_55 ?_
          refine xl_i (y := 80) (by decide) ?_
          refine lv_iload hx hb dX9_lays_56 (lv_at hl 0 rfl) ?_
          refine lv_iadd hx hb dX9_lays_58 ?_
          refine xl_i (y := nI (80 + i)) (nI_add 80 i) ?_
          refine va_lald hx hb hK hP 4 1 rfl rfl (vp_in_nI (show 80 + i < 160 by omega) (by decide)) dX9_lays_59 ?_
          refine xl_l (y := nb (80 + i)) (congrArg nb (nI_clamp (show 80 + i < 2 ^ 31 by omega))) ?_
          refine xl_l (y := nu i) (hn i (by omega)) ?_
          refine lv_lstore (lv' := [(6, .long (nu i)), (5, .int (nI (i))), (4, .int (nI (c8))), (3, .int 0), (0, .ref h0), (1, .int 2), (2, .int (nI (k_9)))]) hx hb dX9_lays_60 hl (by decide) rfl (fun ls hl => ?_)
          refine lv_aload_n hx hb dX9_lays_62 rfl (lv_at hl 4 rfl) ?_
          refine lv_iload hx hb dX9_lays_63 (lv_at hl 1 rfl) ?_
          refine xc_Vr hF (c_X9_isPlace l D cI cJ cZ cS ta sa sv H.size h0 ys yk yo yt mk0 yfa yfe mL mS mM yro yhe ygr mF mC mY yta mz mf mt mv mw ywa ybi ysi ynu ymo s8 P Rn Wn fae l8 u8 o8 farn farp fak fawn fawp fat fas (nI (i)) ht0 ht1 ht2 htS htM htp htr htw htR htG) kv_X9_61 ⟨rfl, rfl, Nat.le_of_ble_eq_true rfl, Nat.le_of_ble_eq_true rfl⟩ ⟨Nat.le_of_ble_eq_true rfl, Nat.le_of_ble_eq_true rfl⟩ hK hN hZ hP hD hS hA [0, 1] rfl rfl 0 rfl rfl rfl rfl hl.1 rfl (Nat.le_of_ble_eq_true rfl) dX9_lays_65 (fun r_15 hw_r_15 => ?_)
          rcases hw_r_15 with ⟨k_16, rfl, h_17, h_18⟩ | ⟨rfl, h_19⟩
          · skip
            refine lv_if_eq (tgt := 109) hx hb dX9_lays_68 (by decide) (fun c_20 => absurd c_20 (by decide)) (fun c_20 => ?_)
            have hi9 := xn_eq (by omega) (by omega) h_17
            refine lv_iload hx hb dX9_lays_71 (lv_at hl 1 rfl) ?_
            refine lv_iload_n hx hb dX9_lays_73 rfl (lv_at hl 6 rfl) ?_
            refine lv_icmp_eq (tgt := 109) hx hb dX9_lays_74 (by decide) (fun c_21 => ?_) (fun c_21 => ?_)
            · skip
              have nc_21 : i = k_9 := xn_eq (a := i) (b := k_9) (by omega) (by omega) c_21
              refine lv_iinc (v := nI (i + 1)) (lv' := [(5, .int (nI (i + 1))), (6, .long (nu i)), (4, .int (nI (c8))), (3, .int 0), (0, .ref h0), (1, .int 2), (2, .int (nI (k_9)))]) hx hb dX9_lays_109 hl (k := 1) rfl (nI_1 (i)) (by decide) rfl (fun ls hl => ?_)
              refine lv_goto (tgt := 37) hx hb dX9_lays_112 (by decide) ?_
              exact ih_37 (i + 1) c8 s8 l8 u8 o8 _ _ _ (by omega) (by omega) (hc8.trans (ly_n (show ¬ lyOk nu P k_9 i from (fun q => q.2.1 (by omega)))).2.2.symm) (hl8.trans ((ly_n (show ¬ lyOk nu P k_9 i from (fun q => q.2.1 (by omega)))).1 _).symm) (hu8.trans ((ly_n (show ¬ lyOk nu P k_9 i from (fun q => q.2.1 (by omega)))).1 _).symm) (hd8.trans ((ly_n (show ¬ lyOk nu P k_9 i from (fun q => q.2.1 (by omega)))).2.1 _).symm) ht0 ht1 ht2 htS htM htp htr htw htR htG (hP.sub [0, 1, 2, 3, 4, 5] rfl) (hD.sub [0, 1, 2, 3, 4, 5] (by decide +kernel) rfl) hS (lv_sub hl [0, 2, 3, 4, 5, 6] rfl)
            · skip
              have nc_21 : i ≠ k_9 := xn_ne (a := i) (b := k_9) (by omega) (by omega) c_21
              refine lv_lload hx hb dX9_lays_77 (lv_at hl 0 rfl) ?_
              refine lv_ldc2 (v := (-99)) hx hb hown (hu _ uw659) dX9_lays_79 ?_
              refine xl_l (y := (-99 : Int32).toInt64) (by decide) ?_
              refine lv_ldc2 (v := 999) hx hb hown (hu _ uw660) dX9_lays_82 ?_
              refine xl_l (y := (999 : Int32).toInt64) (by decide) ?_
              refine xc_Sr hF (c_X9_inL l D cI cJ cZ cS ta sa sv H.size (nu i) (-99) 999 ) ks_X9_57 ⟨rfl, rfl, Nat.le_of_ble_eq_true rfl, Nat.le_of_ble_eq_true rfl⟩ ⟨Nat.le_of_ble_eq_true rfl, Nat.le_of_ble_eq_true rfl⟩ hK hN hZ hP hD hS hA [] rfl rfl rfl hl.1 rfl (Nat.le_of_ble_eq_true rfl) dX9_lays_85 (fun r_22 hw_r_22 => ?_)
              rcases hw_r_22 with ⟨rfl, h_23, h_24⟩ | ⟨rfl, h_25⟩
              · skip
                refine lv_if_eq (tgt := 109) hx hb dX9_lays_88 (by decide) (fun c_26 => absurd c_26 (by decide)) (fun c_26 => ?_)
                refine lv_aload_n hx hb dX9_lays_91 rfl (lv_at hl 4 rfl) ?_
                refine lv_iload_n hx hb dX9_lays_92 rfl (lv_at hl 6 rfl) ?_
                refine lv_iload hx hb dX9_lays_93 (lv_at hl 1 rfl) ?_
                refine lv_lload hx hb dX9_lays_95 (lv_at hl 0 rfl) ?_
                refine lv_l2i (v := (nu i).toInt32) hx hb dX9_lays_97 rfl ?_
                refine lv_lload hx hb dX9_lays_98 (lv_at hl 0 rfl) ?_
                refine lv_l2i (v := (nu i).toInt32) hx hb dX9_lays_100 rfl ?_
                refine xc_Vi (wr := [(ybi, .inl (cI, 4, .inl bi)), (ysi, .inl (cI, 4, .inl sq)), (ynu, .inl (cJ, 160, .inr (.inl nb))), (yt, .inl (cI, 7, .inl mq))]) hF (c_X9_makes l D cI cJ cZ cS ta sa sv H.size h0 ys yk yo yt mk0 yfa yfe mL mS mM yro yhe ygr mF mC mY yta mz mf mt mv mw ywa ybi ysi ynu ymo s8 P Rn Wn fae l8 u8 o8 farn farp fak fawn fawp fat fas k_9 i ((nu i).toInt32) ((nu i).toInt32) (by omega) (by omega) (x_endsL h_23 h_24) ht0 ht1 ht2 htS htM htp htr htw htR htG) kv_X9_87 ⟨rfl, rfl, Nat.le_of_ble_eq_true rfl, Nat.le_of_ble_eq_true rfl⟩ ⟨Nat.le_of_ble_eq_true rfl, Nat.le_of_ble_eq_true rfl⟩ hK hN hZ hP hD hS hA [0, 1] [2, 3, 4, 5] rfl rfl rfl rfl (by decide) 0 rfl rfl rfl rfl hl.1 rfl (Nat.le_of_ble_eq_true rfl) dX9_lays_101 (fun r_27 u_r_27 H locs hw_r_27 hP hD hS => ?_)
                obtain ⟨ms2_28, rfl⟩ : ∃ z, z = u_r_27 := ⟨_, rfl⟩
                try dsimp only at hw_r_27
                obtain ⟨hw_r_27, i_29, i_30, i_31, i_32, i_33, i_34, i_35, i_36, i_37, i_38⟩ := hw_r_27
                have hP : va_P D vwCl [(ybi, .inl (cI, 4, .inl bi)), (ysi, .inl (cI, 4, .inl sq)), (ynu, .inl (cJ, 160, .inr (.inl nb))), (yt, .inl (cI, 7, .inl mq)), (h0, .inr (9, [.ref ys, .ref yk, .ref yo, .ref yt, .int mk0, .ref yfa, .ref yfe, .int mL, .int mS, .int mM, .ref yro, .ref yhe, .ref ygr, .int mF, .int mC, .int mY, .ref yta, .int (nI (mz)), .int (nI (mf)), .int (nI (mt)), .int mv, .int mw, .ref ywa, .ref ybi, .ref ysi, .ref ynu, .ref ymo])), (ys, .inl (cI, 449, .inl ms2_28))] H := hP
                have hD : va_D A [(ybi, .inl (cI, 4, .inl bi)), (ysi, .inl (cI, 4, .inl sq)), (ynu, .inl (cJ, 160, .inr (.inl nb))), (yt, .inl (cI, 7, .inl mq)), (h0, .inr (9, [.ref ys, .ref yk, .ref yo, .ref yt, .int mk0, .ref yfa, .ref yfe, .int mL, .int mS, .int mM, .ref yro, .ref yhe, .ref ygr, .int mF, .int mC, .int mY, .ref yta, .int (nI (mz)), .int (nI (mf)), .int (nI (mt)), .int mv, .int mw, .ref ywa, .ref ybi, .ref ysi, .ref ynu, .ref ymo])), (ys, .inl (cI, 449, .inl ms2_28))] := hD
                rcases hw_r_27 with ⟨rfl, h_39⟩ | ⟨rfl, h_40⟩
                · skip
                  refine lv_istore (lv' := [(8, .int 1), (6, .long (nu i)), (5, .int (nI (i))), (4, .int (nI (c8))), (3, .int 0), (0, .ref h0), (1, .int 2), (2, .int (nI (k_9)))]) hx hb dX9_lays_104 hl (by decide) rfl (fun ls hl => ?_)
                  refine lv_iinc (v := nI (c8 + 1)) (lv' := [(4, .int (nI (c8 + 1))), (8, .int 1), (6, .long (nu i)), (5, .int (nI (i))), (3, .int 0), (0, .ref h0), (1, .int 2), (2, .int (nI (k_9)))]) hx hb dX9_lays_106 hl (k := 3) rfl (nI_1 (c8)) (by decide) rfl (fun ls hl => ?_)
                  refine lv_iinc (v := nI (i + 1)) (lv' := [(5, .int (nI (i + 1))), (4, .int (nI (c8 + 1))), (8, .int 1), (6, .long (nu i)), (3, .int 0), (0, .ref h0), (1, .int 2), (2, .int (nI (k_9)))]) hx hb dX9_lays_109 hl (k := 3) rfl (nI_1 (i)) (by decide) rfl (fun ls hl => ?_)
                  refine lv_goto (tgt := 37) hx hb dX9_lays_112 (by decide) ?_
                  exact ih_37 (i + 1) (c8 + 1) ms2_28 (upd l8 (10 * k_9 + i) ((nu i).toInt32)) (upd u8 (10 * k_9 + i) ((nu i).toInt32)) (upd o8 (10 * k_9 + i) 1) _ _ _ (by omega) (by omega) ((congrArg (· + 1) hc8).trans (ly_y (show lyOk nu P k_9 i from ⟨by omega, by omega, (ly_in h_23 h_24).1, (ly_in h_23 h_24).2⟩)).2.2.symm) (by rw [hl8]; exact ((ly_y (show lyOk nu P k_9 i from ⟨by omega, by omega, (ly_in h_23 h_24).1, (ly_in h_23 h_24).2⟩)).1 _).symm) (by rw [hu8]; exact ((ly_y (show lyOk nu P k_9 i from ⟨by omega, by omega, (ly_in h_23 h_24).1, (ly_in h_23 h_24).2⟩)).1 _).symm) (by rw [hd8]; exact ((ly_y (show lyOk nu P k_9 i from ⟨by omega, by omega, (ly_in h_23 h_24).1, (ly_in h_23 h_24).2⟩)).2.1 _).symm) i_29 i_30 i_31 i_32 i_33 i_34 i_35 i_36 i_37 i_38 (hP.sub [4, 5, 0, 1, 2, 3] rfl) (hD.sub [4, 5, 0, 1, 2, 3] (by decide +kernel) rfl) hS (lv_sub hl [0, 1, 4, 5, 6, 7] rfl)
                · skip
                  refine lv_istore (lv' := [(8, .int 0), (6, .long (nu i)), (5, .int (nI (i))), (4, .int (nI (c8))), (3, .int 0), (0, .ref h0), (1, .int 2), (2, .int (nI (k_9)))]) hx hb dX9_lays_104 hl (by decide) rfl (fun ls hl => ?_)
                  refine lv_iinc (v := nI (c8 + 1)) (lv' := [(4, .int (nI (c8 + 1))), (8, .int 0), (6, .long (nu i)), (5, .int (nI (i))), (3, .int 0), (0, .ref h0), (1, .int 2), (2, .int (nI (k_9)))]) hx hb dX9_lays_106 hl (k := 3) rfl (nI_1 (c8)) (by decide) rfl (fun ls hl => ?_)
                  refine lv_iinc (v := nI (i + 1)) (lv' := [(5, .int (nI (i + 1))), (4, .int (nI (c8 + 1))), (8, .int 0), (6, .long (nu i)), (3, .int 0), (0, .ref h0), (1, .int 2), (2, .int (nI (k_9)))]) hx hb dX9_lays_109 hl (k := 3) rfl (nI_1 (i)) (by decide) rfl (fun ls hl => ?_)
                  refine lv_goto (tgt := 37) hx hb dX9_lays_112 (by decide) ?_
                  exact ih_37 (i + 1) (c8 + 1) ms2_28 (upd l8 (10 * k_9 + i) ((nu i).toInt32)) (upd u8 (10 * k_9 + i) ((nu i).toInt32)) (upd o8 (10 * k_9 + i) 1) _ _ _ (by omega) (by omega) ((congrArg (· + 1) hc8).trans (ly_y (show lyOk nu P k_9 i from ⟨by omega, by omega, (ly_in h_23 h_24).1, (ly_in h_23 h_24).2⟩)).2.2.symm) (by rw [hl8]; exact ((ly_y (show lyOk nu P k_9 i from ⟨by omega, by omega, (ly_in h_23 h_24).1, (ly_in h_23 h_24).2⟩)).1 _).symm) (by rw [hu8]; exact ((ly_y (show lyOk nu P k_9 i from ⟨by omega, by omega, (ly_in h_23 h_24).1, (ly_in h_23 h_24).2⟩)).1 _).symm) (by rw [hd8]; exact ((ly_y (show lyOk nu P k_9 i from ⟨by omega, by omega, (ly_in h_23 h_24).1, (ly_in h_23 h_24).2⟩)).2.1 _).symm) i_29 i_30 i_31 i_32 i_33 i_34 i_35 i_36 i_37 i_38 (hP.sub [4, 5, 0, 1, 2, 3] rfl) (hD.sub [4, 5, 0, 1, 2, 3] (by decide +kernel) rfl) hS (lv_sub hl [0, 1, 4, 5, 6, 7] rfl)
              · skip
                refine lv_if_eq (tgt := 109) hx hb dX9_lays_88 (by decide) (fun c_41 => ?_) (fun c_41 => absurd (by decide) c_41)
                refine lv_iinc (v := nI (i + 1)) (lv' := [(5, .int (nI (i + 1))), (6, .long (nu i)), (4, .int (nI (c8))), (3, .int 0), (0, .ref h0), (1, .int 2), (2, .int (nI (k_9)))]) hx hb dX9_lays_109 hl (k := 1) rfl (nI_1 (i)) (by decide) rfl (fun ls hl => ?_)
                refine lv_goto (tgt := 37) hx hb dX9_lays_112 (by decide) ?_
                exact ih_37 (i + 1) c8 s8 l8 u8 o8 _ _ _ (by omega) (by omega) (hc8.trans (ly_n (show ¬ lyOk nu P k_9 i from (fun q => ly_nin h_25 ⟨q.2.2.1, q.2.2.2⟩))).2.2.symm) (hl8.trans ((ly_n (show ¬ lyOk nu P k_9 i from (fun q => ly_nin h_25 ⟨q.2.2.1, q.2.2.2⟩))).1 _).symm) (hu8.trans ((ly_n (show ¬ lyOk nu P k_9 i from (fun q => ly_nin h_25 ⟨q.2.2.1, q.2.2.2⟩))).1 _).symm) (hd8.trans ((ly_n (show ¬ lyOk nu P k_9 i from (fun q => ly_nin h_25 ⟨q.2.2.1, q.2.2.2⟩))).2.1 _).symm) ht0 ht1 ht2 htS htM htp htr htw htR htG (hP.sub [0, 1, 2, 3, 4, 5] rfl) (hD.sub [0, 1, 2, 3, 4, 5] (by decide +kernel) rfl) hS (lv_sub hl [0, 2, 3, 4, 5, 6] rfl)
          · skip
            refine lv_if_eq (tgt := 109) hx hb dX9_lays_68 (by decide) (fun c_42 => ?_) (fun c_42 => absurd (by decide) c_42)
            refine lv_iinc (v := nI (i + 1)) (lv' := [(5, .int (nI (i + 1))), (6, .long (nu i)), (4, .int (nI (c8))), (3, .int 0), (0, .ref h0), (1, .int 2), (2, .int (nI (k_9)))]) hx hb dX9_lays_109 hl (k := 1) rfl (nI_1 (i)) (by decide) rfl (fun ls hl => ?_)
            refine lv_goto (tgt := 37) hx hb dX9_lays_112 (by decide) ?_
            exact ih_37 (i + 1) c8 s8 l8 u8 o8 _ _ _ (by omega) (by omega) (hc8.trans (ly_n (show ¬ lyOk nu P k_9 i from (fun q => h_19 (isP_nI (by omega) q.1)))).2.2.symm) (hl8.trans ((ly_n (show ¬ lyOk nu P k_9 i from (fun q => h_19 (isP_nI (by omega) q.1)))).1 _).symm) (hu8.trans ((ly_n (show ¬ lyOk nu P k_9 i from (fun q => h_19 (isP_nI (by omega) q.1)))).1 _).symm) (hd8.trans ((ly_n (show ¬ lyOk nu P k_9 i from (fun q => h_19 (isP_nI (by omega) q.1)))).2.1 _).symm) ht0 ht1 ht2 htS htM htp htr htw htR htG (hP.sub [0, 1, 2, 3, 4, 5] rfl) (hD.sub [0, 1, 2, 3, 4, 5] (by decide +kernel) rfl) hS (lv_sub hl [0, 2, 3, 4, 5, 6] rfl)
    · skip
      refine lv_if_ne (tgt := 31) hx hb dX9_lays_21 (by decide) (fun c_43 => absurd (by decide) c_43) (fun c_43 => ?_)
      refine lv_aload_n hx hb dX9_lays_24 rfl (lv_at hl 1 rfl) ?_
      refine lv_ldc (v := (-1000000001)) hx hb hown (hu _ uw648) dX9_lays_25 ?_
      refine xc_Vi (wr := [(ys, .inl (cI, 449, .inl ms)), (ybi, .inl (cI, 4, .inl bi)), (ysi, .inl (cI, 4, .inl sq)), (ynu, .inl (cJ, 160, .inr (.inl nb)))]) hF (c_X9_finds_B l D cI cJ cZ cS ta sa sv s.heap.size h0 ys yk yo yt mk0 yfa yfe mL mS mM yro yhe ygr mF mC mY yta mz mf mt mv mw ywa ybi ysi ynu ymo mq ) kv_X9_70 ⟨rfl, rfl, Nat.le_of_ble_eq_true rfl, Nat.le_of_ble_eq_true rfl⟩ ⟨Nat.le_of_ble_eq_true rfl, Nat.le_of_ble_eq_true rfl⟩ hK hN hZ hP hD hS hA [0, 5] [1, 2, 3, 4] rfl rfl rfl rfl (by decide) 0 rfl rfl rfl rfl hl.1 rfl (Nat.le_of_ble_eq_true rfl) dX9_lays_27 (fun r_44 u_r_44 H locs hw_r_44 hP hD hS => ?_)
      obtain ⟨mq2_45, rfl⟩ : ∃ z, z = u_r_44 := ⟨_, rfl⟩
      try dsimp only at hw_r_44
      have hP : va_P D vwCl [(ys, .inl (cI, 449, .inl ms)), (ybi, .inl (cI, 4, .inl bi)), (ysi, .inl (cI, 4, .inl sq)), (ynu, .inl (cJ, 160, .inr (.inl nb))), (h0, .inr (9, [.ref ys, .ref yk, .ref yo, .ref yt, .int mk0, .ref yfa, .ref yfe, .int mL, .int mS, .int mM, .ref yro, .ref yhe, .ref ygr, .int mF, .int mC, .int mY, .ref yta, .int (nI (mz)), .int (nI (mf)), .int (nI (mt)), .int mv, .int mw, .ref ywa, .ref ybi, .ref ysi, .ref ynu, .ref ymo])), (yt, .inl (cI, 7, .inl mq2_45))] H := hP
      have hD : va_D A [(ys, .inl (cI, 449, .inl ms)), (ybi, .inl (cI, 4, .inl bi)), (ysi, .inl (cI, 4, .inl sq)), (ynu, .inl (cJ, 160, .inr (.inl nb))), (h0, .inr (9, [.ref ys, .ref yk, .ref yo, .ref yt, .int mk0, .ref yfa, .ref yfe, .int mL, .int mS, .int mM, .ref yro, .ref yhe, .ref ygr, .int mF, .int mC, .int mY, .ref yta, .int (nI (mz)), .int (nI (mf)), .int (nI (mt)), .int mv, .int mw, .ref ywa, .ref ybi, .ref ysi, .ref ynu, .ref ymo])), (yt, .inl (cI, 7, .inl mq2_45))] := hD
      subst hw_r_44
      exact W.iret (v := (-1000000001)) hx hb hr (fun t ht hW => ⟨⟨(-1000000001), (ms, mq2_45, fal, fau, fao), rfl, ⟨(la_b (P := P) (z := zq) (nu := nu) (fun h => h_3 (hbt9.trans h)) h_12).1, ((la_b (P := P) (z := zq) (nu := nu) (fun h => h_3 (hbt9.trans h)) h_12).2.1 _), ((la_b (P := P) (z := zq) (nu := nu) (fun h => h_3 (hbt9.trans h)) h_12).2.1 _), ((la_b (P := P) (z := zq) (nu := nu) (fun h => h_3 (hbt9.trans h)) h_12).2.2 _), hs0, hs1, hs2, hsS, hsM, hsp, hsr, hsw, hsR, hsG⟩, by rw [ht]; exact hP.sub [4, 0, 1, 2, 3, 5] rfl, hD.sub [4, 0, 1, 2, 3, 5] (by decide +kernel) rfl⟩, hS.F ht⟩) hS.2.2 dX9_lays_30 hlk
set_option maxHeartbeats 4000000 in
set_option maxRecDepth 100000 in
theorem c_X9_lays_3 (l : Launch) (D : va_G) (cI cJ cZ cS : ClassId) (ta : Nat) (sa sv : Nat → Nat) (sz : Nat) (h0 : Nat) (ys : Nat) (yk : Nat) (yo : Nat) (yt : Nat) (mk0 : Int32) (yfa : Nat) (yfe : Nat) (mL : Int32) (mS : Int32) (mM : Int32) (yro : Nat) (yhe : Nat) (ygr : Nat) (mF : Int32) (mC : Int32) (mY : Int32) (yta : Nat) (mz : Nat) (mf : Nat) (mt : Nat) (mv : Int32) (mw : Int32) (ywa : Nat) (ybi : Nat) (ysi : Nat) (ynu : Nat) (ymo : Nat) (ms : Nat → Int32) (bi : Nat → Int32) (sq : Nat → Int32) (nb : Nat → Int64) (mq : Nat → Int32) (P : Nat) (Rn : Nat) (Wn : Nat) (fae : Nat → Int32) (fal : Nat → Int32) (fau : Nat → Int32) (fao : Nat → Int32) (farn : Nat → Int32) (farp : Nat → Int32) (fak : Nat → Int32) (fawn : Nat → Int32) (fawp : Nat → Int32) (fat : Nat → Int32) (fas : Nat → Int32) (p1 : Int32) (bt : Int32) (zq : Nat) (nu : Nat → Int64) (hbt9 : bi 3 = bt) (ez : sq 3 = nI zq) (hzq : zq ≤ 40) (hn : ∀ j, j < 40 → nb (120 + j) = nu j) (hsq : BA 4 41 sq) (hs0 : ms 0 = nI P) (hs1 : ms 1 = nI Rn) (hs2 : ms 2 = nI Wn) (hsS : SI ms) (hsM : MI ms) (hsp : P ≤ 10) (hsr : Rn ≤ 8) (hsw : Wn ≤ 8) (hsR : RI Rn ms) (hsG : FR P ms fae fal fau fao farn farp fak fawn fawp fat fas) : Met l yX9_lays (Cond.code yX9_lays cX9_lays 9 (some .int) :: wsU) ({ frames := 3, cells := 0, slots := 0, locals := 66 }) (va_Pc [.ref h0, .int 3, .int p1] (XW D (xT cI cJ cZ cS) ta sa sv [(h0, .inr (9, [.ref ys, .ref yk, .ref yo, .ref yt, .int mk0, .ref yfa, .ref yfe, .int mL, .int mS, .int mM, .ref yro, .ref yhe, .ref ygr, .int mF, .int mC, .int mY, .ref yta, .int (nI (mz)), .int (nI (mf)), .int (nI (mt)), .int mv, .int mw, .ref ywa, .ref ybi, .ref ysi, .ref ynu, .ref ymo])), (ys, .inl (cI, 449, .inl ms)), (ybi, .inl (cI, 4, .inl bi)), (ysi, .inl (cI, 4, .inl sq)), (ynu, .inl (cJ, 160, .inr (.inl nb))), (yt, .inl (cI, 7, .inl mq))] sz)) (XQi (fun (r : Int32) (u : (Nat → Int32) × (Nat → Int32) × (Nat → Int32) × (Nat → Int32) × (Nat → Int32)) => match u with | (ms2, mq2, gl, gu, go) => ((r = laR P zq bt p1 nu)) ∧ (gl = laF P zq bt p1 nu fal) ∧ (gu = laF P zq bt p1 nu fau) ∧ (go = laO P zq bt p1 nu fao) ∧ (ms2 0 = nI P) ∧ (ms2 1 = nI Rn) ∧ (ms2 2 = nI Wn) ∧ (SI ms2) ∧ (MI ms2) ∧ (P ≤ 10) ∧ (Rn ≤ 8) ∧ (Wn ≤ 8) ∧ (RI Rn ms2) ∧ (FR P ms2 fae gl gu go farn farp fak fawn fawp fat fas)) D (fun (u : (Nat → Int32) × (Nat → Int32) × (Nat → Int32) × (Nat → Int32) × (Nat → Int32)) => match u with | (ms2, mq2, gl, gu, go) => [(h0, .inr (9, [.ref ys, .ref yk, .ref yo, .ref yt, .int mk0, .ref yfa, .ref yfe, .int mL, .int mS, .int mM, .ref yro, .ref yhe, .ref ygr, .int mF, .int mC, .int mY, .ref yta, .int (nI (mz)), .int (nI (mf)), .int (nI (mt)), .int mv, .int mw, .ref ywa, .ref ybi, .ref ysi, .ref ynu, .ref ymo])), (ys, .inl (cI, 449, .inl ms2)), (ybi, .inl (cI, 4, .inl bi)), (ysi, .inl (cI, 4, .inl sq)), (ynu, .inl (cJ, 160, .inr (.inl nb))), (yt, .inl (cI, 7, .inl mq2))]) (va_A [(h0, .inr (9, [.ref ys, .ref yk, .ref yo, .ref yt, .int mk0, .ref yfa, .ref yfe, .int mL, .int mS, .int mM, .ref yro, .ref yhe, .ref ygr, .int mF, .int mC, .int mY, .ref yta, .int (nI (mz)), .int (nI (mf)), .int (nI (mt)), .int mv, .int mw, .ref ywa, .ref ybi, .ref ysi, .ref ynu, .ref ymo])), (ys, .inl (cI, 449, .inl ms)), (ybi, .inl (cI, 4, .inl bi)), (ysi, .inl (cI, 4, .inl sq)), (ynu, .inl (cJ, 160, .inr (.inl nb))), (yt, .inl (cI, 7, .inl mq))] sz)) 0 0 (va_A [(h0, .inr (9, [.ref ys, .ref yk, .ref yo, .ref yt, .int mk0, .ref yfa, .ref yfe, .int mL, .int mS, .int mM, .ref yro, .ref yhe, .ref ygr, .int mF, .int mC, .int mY, .ref yta, .int (nI (mz)), .int (nI (mf)), .int (nI (mt)), .int mv, .int mw, .ref ywa, .ref ybi, .ref ysi, .ref ynu, .ref ymo])), (ys, .inl (cI, 449, .inl ms)), (ybi, .inl (cI, 4, .inl bi)), (ysi, .inl (cI, 4, .inl sq)), (ynu, .inl (cJ, 160, .inr (.inl nb))), (yt, .inl (cI, 7, .inl mq))] sz) := by
  refine xh (QA := fun A => XQi (fun (r : Int32) (u : (Nat → Int32) × (Nat → Int32) × (Nat → Int32) × (Nat → Int32) × (Nat → Int32)) => match u with | (ms2, mq2, gl, gu, go) => ((r = laR P zq bt p1 nu)) ∧ (gl = laF P zq bt p1 nu fal) ∧ (gu = laF P zq bt p1 nu fau) ∧ (go = laO P zq bt p1 nu fao) ∧ (ms2 0 = nI P) ∧ (ms2 1 = nI Rn) ∧ (ms2 2 = nI Wn) ∧ (SI ms2) ∧ (MI ms2) ∧ (P ≤ 10) ∧ (Rn ≤ 8) ∧ (Wn ≤ 8) ∧ (RI Rn ms2) ∧ (FR P ms2 fae gl gu go farn farp fak fawn fawp fat fas)) D (fun (u : (Nat → Int32) × (Nat → Int32) × (Nat → Int32) × (Nat → Int32) × (Nat → Int32)) => match u with | (ms2, mq2, gl, gu, go) => [(h0, .inr (9, [.ref ys, .ref yk, .ref yo, .ref yt, .int mk0, .ref yfa, .ref yfe, .int mL, .int mS, .int mM, .ref yro, .ref yhe, .ref ygr, .int mF, .int mC, .int mY, .ref yta, .int (nI (mz)), .int (nI (mf)), .int (nI (mt)), .int mv, .int mw, .ref ywa, .ref ybi, .ref ysi, .ref ynu, .ref ymo])), (ys, .inl (cI, 449, .inl ms2)), (ybi, .inl (cI, 4, .inl bi)), (ysi, .inl (cI, 4, .inl sq)), (ynu, .inl (cJ, 160, .inr (.inl nb))), (yt, .inl (cI, 7, .inl mq2))]) A) (fr := fun A => A) (by decide) (Nat.le_of_ble_eq_true rfl) ?_
  intro p e s m below meth c ls A hF hr hlk hin hsz hP hK hD hN hZ hA hS hl
  have hF : CallFix p m c cX9_lays 9 s _ _ RX9 := hF
  have hx := hF.1
  have hb := hF.2.1
  have hml := hF.2.2.1
  have hown := hF.2.2.2.1
  have hu : ∀ w ∈ wsU, w.before _ s = true := fun w h => hF.2.2.2.2 w (List.mem_cons_of_mem _ h)
  have hl : lv_has ls 9 [(0, .ref h0), (1, .int 3), (2, .int p1)] := hl
  refine lv_aload_n hx hb dX9_lays_0 rfl (lv_at hl 0 rfl) ?_
  refine lv_iload_n hx hb dX9_lays_1 rfl (lv_at hl 1 rfl) ?_
  refine xc_Vr hF (c_X9_wrong_3 l D cI cJ cZ cS ta sa sv s.heap.size h0 ys yk yo yt mk0 yfa yfe mL mS mM yro yhe ygr mF mC mY yta mz mf mt mv mw ywa ybi ysi ynu ymo bi ) kv_X9_310 ⟨rfl, rfl, Nat.le_of_ble_eq_true rfl, Nat.le_of_ble_eq_true rfl⟩ ⟨Nat.le_of_ble_eq_true rfl, Nat.le_of_ble_eq_true rfl⟩ hK hN hZ hP hD hS hA [0, 2] rfl rfl 0 rfl rfl rfl rfl hl.1 rfl (Nat.le_of_ble_eq_true rfl) dX9_lays_2 (fun r_1 hw_r_1 => ?_)
  rcases hw_r_1 with ⟨rfl, h_2⟩ | ⟨rfl, h_3⟩
  · skip
    refine lv_istore_n (lv' := [(3, .int (-1000000006)), (0, .ref h0), (1, .int 3), (2, .int p1)]) hx hb dX9_lays_5 rfl hl (by decide) rfl (fun ls hl => ?_)
    refine lv_iload_n hx hb dX9_lays_6 rfl (lv_at hl 0 rfl) ?_
    refine lv_if_eq (tgt := 16) hx hb dX9_lays_7 (by decide) (fun c_4 => absurd c_4 (by decide)) (fun c_4 => ?_)
    refine lv_aload_n hx hb dX9_lays_10 rfl (lv_at hl 1 rfl) ?_
    refine lv_iload_n hx hb dX9_lays_11 rfl (lv_at hl 0 rfl) ?_
    refine xc_Vi (wr := [(ys, .inl (cI, 449, .inl ms)), (ybi, .inl (cI, 4, .inl bi)), (ysi, .inl (cI, 4, .inl sq)), (ynu, .inl (cJ, 160, .inr (.inl nb)))]) hF (c_X9_finds_M l D cI cJ cZ cS ta sa sv s.heap.size h0 ys yk yo yt mk0 yfa yfe mL mS mM yro yhe ygr mF mC mY yta mz mf mt mv mw ywa ybi ysi ynu ymo mq ) kv_X9_70 ⟨rfl, rfl, Nat.le_of_ble_eq_true rfl, Nat.le_of_ble_eq_true rfl⟩ ⟨Nat.le_of_ble_eq_true rfl, Nat.le_of_ble_eq_true rfl⟩ hK hN hZ hP hD hS hA [0, 5] [1, 2, 3, 4] rfl rfl rfl rfl (by decide) 0 rfl rfl rfl rfl hl.1 rfl (Nat.le_of_ble_eq_true rfl) dX9_lays_12 (fun r_5 u_r_5 H locs hw_r_5 hP hD hS => ?_)
    obtain ⟨mq2_6, rfl⟩ : ∃ z, z = u_r_5 := ⟨_, rfl⟩
    try dsimp only at hw_r_5
    have hP : va_P D vwCl [(ys, .inl (cI, 449, .inl ms)), (ybi, .inl (cI, 4, .inl bi)), (ysi, .inl (cI, 4, .inl sq)), (ynu, .inl (cJ, 160, .inr (.inl nb))), (h0, .inr (9, [.ref ys, .ref yk, .ref yo, .ref yt, .int mk0, .ref yfa, .ref yfe, .int mL, .int mS, .int mM, .ref yro, .ref yhe, .ref ygr, .int mF, .int mC, .int mY, .ref yta, .int (nI (mz)), .int (nI (mf)), .int (nI (mt)), .int mv, .int mw, .ref ywa, .ref ybi, .ref ysi, .ref ynu, .ref ymo])), (yt, .inl (cI, 7, .inl mq2_6))] H := hP
    have hD : va_D A [(ys, .inl (cI, 449, .inl ms)), (ybi, .inl (cI, 4, .inl bi)), (ysi, .inl (cI, 4, .inl sq)), (ynu, .inl (cJ, 160, .inr (.inl nb))), (h0, .inr (9, [.ref ys, .ref yk, .ref yo, .ref yt, .int mk0, .ref yfa, .ref yfe, .int mL, .int mS, .int mM, .ref yro, .ref yhe, .ref ygr, .int mF, .int mC, .int mY, .ref yta, .int (nI (mz)), .int (nI (mf)), .int (nI (mt)), .int mv, .int mw, .ref ywa, .ref ybi, .ref ysi, .ref ynu, .ref ymo])), (yt, .inl (cI, 7, .inl mq2_6))] := hD
    subst hw_r_5
    exact W.iret (v := (-1000000006)) hx hb hr (fun t ht hW => ⟨⟨(-1000000006), (ms, mq2_6, fal, fau, fao), rfl, ⟨(la_m (P := P) (z := zq) (nu := nu) (hbt9.symm.trans h_2)).1, ((la_m (P := P) (z := zq) (nu := nu) (hbt9.symm.trans h_2)).2.1 _), ((la_m (P := P) (z := zq) (nu := nu) (hbt9.symm.trans h_2)).2.1 _), ((la_m (P := P) (z := zq) (nu := nu) (hbt9.symm.trans h_2)).2.2 _), hs0, hs1, hs2, hsS, hsM, hsp, hsr, hsw, hsR, hsG⟩, by rw [ht]; exact hP.sub [4, 0, 1, 2, 3, 5] rfl, hD.sub [4, 0, 1, 2, 3, 5] (by decide +kernel) rfl⟩, hS.F ht⟩) hS.2.2 dX9_lays_15 hlk
  · skip
    refine lv_istore_n (lv' := [(3, .int 0), (0, .ref h0), (1, .int 3), (2, .int p1)]) hx hb dX9_lays_5 rfl hl (by decide) rfl (fun ls hl => ?_)
    refine lv_iload_n hx hb dX9_lays_6 rfl (lv_at hl 0 rfl) ?_
    refine lv_if_eq (tgt := 16) hx hb dX9_lays_7 (by decide) (fun c_7 => ?_) (fun c_7 => absurd (by decide) c_7)
    refine lv_aload_n hx hb dX9_lays_16 rfl (lv_at hl 1 rfl) ?_
    refine lv_iload_n hx hb dX9_lays_17 rfl (lv_at hl 3 rfl) ?_
    refine xc_Vr hF (c_X9_isPlace l D cI cJ cZ cS ta sa sv s.heap.size h0 ys yk yo yt mk0 yfa yfe mL mS mM yro yhe ygr mF mC mY yta mz mf mt mv mw ywa ybi ysi ynu ymo ms P Rn Wn fae fal fau fao farn farp fak fawn fawp fat fas p1 hs0 hs1 hs2 hsS hsM hsp hsr hsw hsR hsG) kv_X9_61 ⟨rfl, rfl, Nat.le_of_ble_eq_true rfl, Nat.le_of_ble_eq_true rfl⟩ ⟨Nat.le_of_ble_eq_true rfl, Nat.le_of_ble_eq_true rfl⟩ hK hN hZ hP hD hS hA [0, 1] rfl rfl 0 rfl rfl rfl rfl hl.1 rfl (Nat.le_of_ble_eq_true rfl) dX9_lays_18 (fun r_8 hw_r_8 => ?_)
    rcases hw_r_8 with ⟨k_9, rfl, rfl, h_11⟩ | ⟨rfl, h_12⟩
    · skip
      refine lv_if_ne (tgt := 31) hx hb dX9_lays_21 (by decide) (fun c_13 => ?_) (fun c_13 => absurd c_13 (by decide))
      refine lv_iconst (v := 0) hx hb dX9_lays_31 (by decide) ?_
      refine lv_istore (lv' := [(4, .int 0), (3, .int 0), (0, .ref h0), (1, .int 3), (2, .int (nI (k_9)))]) hx hb dX9_lays_32 hl (by decide) rfl (fun ls hl => ?_)
      refine lv_iconst (v := 0) hx hb dX9_lays_34 (by decide) ?_
      refine lv_istore (lv' := [(5, .int 0), (4, .int 0), (3, .int 0), (0, .ref h0), (1, .int 3), (2, .int (nI (k_9)))]) hx hb dX9_lays_35 hl (by decide) rfl (fun ls hl => ?_)
      suffices loop_37 : ∀ (n_37 : Nat) (i : Nat) (c8 : Nat) (s8 : Nat → Int32) (l8 : Nat → Int32) (u8 : Nat → Int32) (o8 : Nat → Int32) (H : Heap) (locs : List Loc) (ls : Array Slot), 40 - i < n_37 → (i ≤ zq) → (c8 = lyC nu P k_9 i) → (l8 = lyF nu P k_9 fal i) → (u8 = lyF nu P k_9 fau i) → (o8 = lyO nu P k_9 fao i) → (s8 0 = nI P) → (s8 1 = nI Rn) → (s8 2 = nI Wn) → (SI s8) → (MI s8) → (P ≤ 10) → (Rn ≤ 8) → (Wn ≤ 8) → (RI Rn s8) → (FR P s8 fae l8 u8 o8 farn farp fak fawn fawp fat fas) → va_P D vwCl [(h0, .inr (9, [.ref ys, .ref yk, .ref yo, .ref yt, .int mk0, .ref yfa, .ref yfe, .int mL, .int mS, .int mM, .ref yro, .ref yhe, .ref ygr, .int mF, .int mC, .int mY, .ref yta, .int (nI (mz)), .int (nI (mf)), .int (nI (mt)), .int mv, .int mw, .ref ywa, .ref ybi, .ref ysi, .ref ynu, .ref ymo])), (ys, .inl (cI, 449, .inl s8)), (ybi, .inl (cI, 4, .inl bi)), (ysi, .inl (cI, 4, .inl sq)), (ynu, .inl (cJ, 160, .inr (.inl nb))), (yt, .inl (cI, 7, .inl mq))] H → va_D A [(h0, .inr (9, [.ref ys, .ref yk, .ref yo, .ref yt, .int mk0, .ref yfa, .ref yfe, .int mL, .int mS, .int mM, .ref yro, .ref yhe, .ref ygr, .int mF, .int mC, .int mY, .ref yta, .int (nI (mz)), .int (nI (mf)), .int (nI (mt)), .int mv, .int mw, .ref ywa, .ref ybi, .ref ysi, .ref ynu, .ref ymo])), (ys, .inl (cI, 449, .inl s8)), (ybi, .inl (cI, 4, .inl bi)), (ysi, .inl (cI, 4, .inl sq)), (ynu, .inl (cJ, 160, .inr (.inl nb))), (yt, .inl (cI, 7, .inl mq))] → va_S A s.heap H locs → lv_has ls 9 [(5, .int (nI (i))), (4, .int (nI (c8))), (3, .int 0), (0, .ref h0), (1, .int 3), (2, .int (nI (k_9)))] → W p l e ({ frames := 3, cells := 0, slots := 0, locals := 66 }) s m ([.ref h0, .int 3, .int (nI (k_9))] : List Value).toArray below meth c H locs 0 0 (MQ below (XQi (fun (r : Int32) (u : (Nat → Int32) × (Nat → Int32) × (Nat → Int32) × (Nat → Int32) × (Nat → Int32)) => match u with | (ms2, mq2, gl, gu, go) => ((r = laR P zq bt (nI (k_9)) nu)) ∧ (gl = laF P zq bt (nI (k_9)) nu fal) ∧ (gu = laF P zq bt (nI (k_9)) nu fau) ∧ (go = laO P zq bt (nI (k_9)) nu fao) ∧ (ms2 0 = nI P) ∧ (ms2 1 = nI Rn) ∧ (ms2 2 = nI Wn) ∧ (SI ms2) ∧ (MI ms2) ∧ (P ≤ 10) ∧ (Rn ≤ 8) ∧ (Wn ≤ 8) ∧ (RI Rn ms2) ∧ (FR P ms2 fae gl gu go farn farp fak fawn fawp fat fas)) D (fun (u : (Nat → Int32) × (Nat → Int32) × (Nat → Int32) × (Nat → Int32) × (Nat → Int32)) => match u with | (ms2, mq2, gl, gu, go) => [(h0, .inr (9, [.ref ys, .ref yk, .ref yo, .ref yt, .int mk0, .ref yfa, .ref yfe, .int mL, .int mS, .int mM, .ref yro, .ref yhe, .ref ygr, .int mF, .int mC, .int mY, .ref yta, .int (nI (mz)), .int (nI (mf)), .int (nI (mt)), .int mv, .int mw, .ref ywa, .ref ybi, .ref ysi, .ref ynu, .ref ymo])), (ys, .inl (cI, 449, .inl ms2)), (ybi, .inl (cI, 4, .inl bi)), (ysi, .inl (cI, 4, .inl sq)), (ynu, .inl (cJ, 160, .inr (.inl nb))), (yt, .inl (cI, 7, .inl mq2))]) A) ([.ref h0, .int 3, .int (nI (k_9))] : List Value).toArray s 0 0 A) (F0 m 37 ls []) by
        exact loop_37 _ 0 0 ms fal fau fao _ _ _ (Nat.lt_succ_self _) (by omega) rfl rfl rfl rfl hs0 hs1 hs2 hsS hsM hsp hsr hsw hsR hsG hP hD hS (lv_sub hl [0, 1, 2, 3, 4, 5] rfl)
      intro n_37
      induction n_37 with
      | zero =>
        intro i c8 s8 l8 u8 o8 H locs ls hm_37
        exact absurd hm_37 (Nat.not_lt_zero _)
      | succ n_37 ih_37 =>
        intro i c8 s8 l8 u8 o8 H locs ls hm_37 hi hc8 hl8 hu8 hd8 ht0 ht1 ht2 htS htM htp htr htw htR htG hP hD hS hl
        refine lv_iload hx hb dX9_lays_37 (lv_at hl 0 rfl) ?_
        refine lv_aload_n hx hb dX9_lays_39 rfl (lv_at hl 3 rfl) ?_
        refine xg hF kf_X9_46 hK hP 0 rfl rfl dX9_lays_40 ?_
        refine lv_iload_n hx hb dX9_lays_43 rfl (lv_at hl 4 rfl) ?_
        refine va_iald hx hb hK hP 3 0 rfl rfl (xin 3 4 (by decide) (by decide)) dX9_lays_44 ?_
        refine xl_i (y := sq 3) (congrArg sq rfl) ?_
        refine xl_i (y := nI (zq)) ez ?_
        refine lv_icmp_ge (tgt := 115) hx hb dX9_lays_45 (by decide) (fun c_14 => ?_) (fun c_14 => ?_)
        · skip
          have nc_14 : zq ≤ i := xn_le (a := zq) (b := i) (by omega) (by omega) c_14
          refine lv_iload hx hb dX9_lays_115 (lv_at hl 1 rfl) ?_
          exact W.iret (v := nI (c8)) hx hb hr (fun t ht hW => ⟨⟨nI (c8), (s8, mq, l8, u8, o8), rfl, ⟨((congrArg nI (hc8.trans (congrArg (lyC nu P k_9) (show i = zq by omega)))).trans (la_y (P := P) (z := zq) (nu := nu) (k := k_9) (by omega) (fun h => h_3 (hbt9.trans h)) (by omega)).1), ((hl8.trans (congrArg (lyF nu P k_9 fal) (show i = zq by omega))).trans ((la_y (P := P) (z := zq) (nu := nu) (k := k_9) (by omega) (fun h => h_3 (hbt9.trans h)) (by omega)).2.1 _)), ((hu8.trans (congrArg (lyF nu P k_9 fau) (show i = zq by omega))).trans ((la_y (P := P) (z := zq) (nu := nu) (k := k_9) (by omega) (fun h => h_3 (hbt9.trans h)) (by omega)).2.1 _)), ((hd8.trans (congrArg (lyO nu P k_9 fao) (show i = zq by omega))).trans ((la_y (P := P) (z := zq) (nu := nu) (k := k_9) (by omega) (fun h => h_3 (hbt9.trans h)) (by omega)).2.2 _)), ht0, ht1, ht2, htS, htM, htp, htr, htw, htR, htG⟩, by rw [ht]; exact hP.sub [0, 1, 2, 3, 4, 5] rfl, hD.sub [0, 1, 2, 3, 4, 5] (by decide +kernel) rfl⟩, hS.F ht⟩) hS.2.2 dX9_lays_117 hlk
        · skip
          have nc_14 : i < zq := xn_nle (a := zq) (b := i) (by omega) (by omega) c_14
          refine lv_aload_n hx hb dX9_lays_48 rfl (lv_at hl 3 rfl) ?_
          refine xg hF kf_X9_49 hK hP 0 rfl rfl dX9_lays_49 ?_
          refine lv_bipush (v := 40) hx hb dX9_lays_52 (by decide) ?_
          refine lv_iload_n hx hb dX9_lays_54 rfl (lv_at hl 4 rfl) ?_
          refine lv_imul hx hb dX9_lays_55 ?_
          refine xl_i (y := 120) (by decide) ?_
          refine lv_iload hx hb dX9_lays_56 (lv_at hl 0 rfl) ?_
          refine lv_iadd hx hb dX9_lays_58 ?_
          refine xl_i (y := nI (120 + i)) (nI_add 120 i) ?_
          refine va_lald hx hb hK hP 4 1 rfl rfl (vp_in_nI (show 120 + i < 160 by omega) (by decide)) dX9_lays_59 ?_
          refine xl_l (y := nb (120 + i)) (congrArg nb (nI_clamp (show 120 + i < 2 ^ 31 by omega))) ?_
          refine xl_l (y := nu i) (hn i (by omega)) ?_
          refine lv_lstore (lv' := [(6, .long (nu i)), (5, .int (nI (i))), (4, .int (nI (c8))), (3, .int 0), (0, .ref h0), (1, .int 3), (2, .int (nI (k_9)))]) hx hb dX9_lays_60 hl (by decide) rfl (fun ls hl => ?_)
          refine lv_aload_n hx hb dX9_lays_62 rfl (lv_at hl 4 rfl) ?_
          refine lv_iload hx hb dX9_lays_63 (lv_at hl 1 rfl) ?_
          refine xc_Vr hF (c_X9_isPlace l D cI cJ cZ cS ta sa sv H.size h0 ys yk yo yt mk0 yfa yfe mL mS mM yro yhe ygr mF mC mY yta mz mf mt mv mw ywa ybi ysi ynu ymo s8 P Rn Wn fae l8 u8 o8 farn farp fak fawn fawp fat fas (nI (i)) ht0 ht1 ht2 htS htM htp htr htw htR htG) kv_X9_61 ⟨rfl, rfl, Nat.le_of_ble_eq_true rfl, Nat.le_of_ble_eq_true rfl⟩ ⟨Nat.le_of_ble_eq_true rfl, Nat.le_of_ble_eq_true rfl⟩ hK hN hZ hP hD hS hA [0, 1] rfl rfl 0 rfl rfl rfl rfl hl.1 rfl (Nat.le_of_ble_eq_true rfl) dX9_lays_65 (fun r_15 hw_r_15 => ?_)
          rcases hw_r_15 with ⟨k_16, rfl, h_17, h_18⟩ | ⟨rfl, h_19⟩
          · skip
            refine lv_if_eq (tgt := 109) hx hb dX9_lays_68 (by decide) (fun c_20 => absurd c_20 (by decide)) (fun c_20 => ?_)
            have hi9 := xn_eq (by omega) (by omega) h_17
            refine lv_iload hx hb dX9_lays_71 (lv_at hl 1 rfl) ?_
            refine lv_iload_n hx hb dX9_lays_73 rfl (lv_at hl 6 rfl) ?_
            refine lv_icmp_eq (tgt := 109) hx hb dX9_lays_74 (by decide) (fun c_21 => ?_) (fun c_21 => ?_)
            · skip
              have nc_21 : i = k_9 := xn_eq (a := i) (b := k_9) (by omega) (by omega) c_21
              refine lv_iinc (v := nI (i + 1)) (lv' := [(5, .int (nI (i + 1))), (6, .long (nu i)), (4, .int (nI (c8))), (3, .int 0), (0, .ref h0), (1, .int 3), (2, .int (nI (k_9)))]) hx hb dX9_lays_109 hl (k := 1) rfl (nI_1 (i)) (by decide) rfl (fun ls hl => ?_)
              refine lv_goto (tgt := 37) hx hb dX9_lays_112 (by decide) ?_
              exact ih_37 (i + 1) c8 s8 l8 u8 o8 _ _ _ (by omega) (by omega) (hc8.trans (ly_n (show ¬ lyOk nu P k_9 i from (fun q => q.2.1 (by omega)))).2.2.symm) (hl8.trans ((ly_n (show ¬ lyOk nu P k_9 i from (fun q => q.2.1 (by omega)))).1 _).symm) (hu8.trans ((ly_n (show ¬ lyOk nu P k_9 i from (fun q => q.2.1 (by omega)))).1 _).symm) (hd8.trans ((ly_n (show ¬ lyOk nu P k_9 i from (fun q => q.2.1 (by omega)))).2.1 _).symm) ht0 ht1 ht2 htS htM htp htr htw htR htG (hP.sub [0, 1, 2, 3, 4, 5] rfl) (hD.sub [0, 1, 2, 3, 4, 5] (by decide +kernel) rfl) hS (lv_sub hl [0, 2, 3, 4, 5, 6] rfl)
            · skip
              have nc_21 : i ≠ k_9 := xn_ne (a := i) (b := k_9) (by omega) (by omega) c_21
              refine lv_lload hx hb dX9_lays_77 (lv_at hl 0 rfl) ?_
              refine lv_ldc2 (v := (-99)) hx hb hown (hu _ uw659) dX9_lays_79 ?_
              refine xl_l (y := (-99 : Int32).toInt64) (by decide) ?_
              refine lv_ldc2 (v := 999) hx hb hown (hu _ uw660) dX9_lays_82 ?_
              refine xl_l (y := (999 : Int32).toInt64) (by decide) ?_
              refine xc_Sr hF (c_X9_inL l D cI cJ cZ cS ta sa sv H.size (nu i) (-99) 999 ) ks_X9_57 ⟨rfl, rfl, Nat.le_of_ble_eq_true rfl, Nat.le_of_ble_eq_true rfl⟩ ⟨Nat.le_of_ble_eq_true rfl, Nat.le_of_ble_eq_true rfl⟩ hK hN hZ hP hD hS hA [] rfl rfl rfl hl.1 rfl (Nat.le_of_ble_eq_true rfl) dX9_lays_85 (fun r_22 hw_r_22 => ?_)
              rcases hw_r_22 with ⟨rfl, h_23, h_24⟩ | ⟨rfl, h_25⟩
              · skip
                refine lv_if_eq (tgt := 109) hx hb dX9_lays_88 (by decide) (fun c_26 => absurd c_26 (by decide)) (fun c_26 => ?_)
                refine lv_aload_n hx hb dX9_lays_91 rfl (lv_at hl 4 rfl) ?_
                refine lv_iload_n hx hb dX9_lays_92 rfl (lv_at hl 6 rfl) ?_
                refine lv_iload hx hb dX9_lays_93 (lv_at hl 1 rfl) ?_
                refine lv_lload hx hb dX9_lays_95 (lv_at hl 0 rfl) ?_
                refine lv_l2i (v := (nu i).toInt32) hx hb dX9_lays_97 rfl ?_
                refine lv_lload hx hb dX9_lays_98 (lv_at hl 0 rfl) ?_
                refine lv_l2i (v := (nu i).toInt32) hx hb dX9_lays_100 rfl ?_
                refine xc_Vi (wr := [(ybi, .inl (cI, 4, .inl bi)), (ysi, .inl (cI, 4, .inl sq)), (ynu, .inl (cJ, 160, .inr (.inl nb))), (yt, .inl (cI, 7, .inl mq))]) hF (c_X9_makes l D cI cJ cZ cS ta sa sv H.size h0 ys yk yo yt mk0 yfa yfe mL mS mM yro yhe ygr mF mC mY yta mz mf mt mv mw ywa ybi ysi ynu ymo s8 P Rn Wn fae l8 u8 o8 farn farp fak fawn fawp fat fas k_9 i ((nu i).toInt32) ((nu i).toInt32) (by omega) (by omega) (x_endsL h_23 h_24) ht0 ht1 ht2 htS htM htp htr htw htR htG) kv_X9_87 ⟨rfl, rfl, Nat.le_of_ble_eq_true rfl, Nat.le_of_ble_eq_true rfl⟩ ⟨Nat.le_of_ble_eq_true rfl, Nat.le_of_ble_eq_true rfl⟩ hK hN hZ hP hD hS hA [0, 1] [2, 3, 4, 5] rfl rfl rfl rfl (by decide) 0 rfl rfl rfl rfl hl.1 rfl (Nat.le_of_ble_eq_true rfl) dX9_lays_101 (fun r_27 u_r_27 H locs hw_r_27 hP hD hS => ?_)
                obtain ⟨ms2_28, rfl⟩ : ∃ z, z = u_r_27 := ⟨_, rfl⟩
                try dsimp only at hw_r_27
                obtain ⟨hw_r_27, i_29, i_30, i_31, i_32, i_33, i_34, i_35, i_36, i_37, i_38⟩ := hw_r_27
                have hP : va_P D vwCl [(ybi, .inl (cI, 4, .inl bi)), (ysi, .inl (cI, 4, .inl sq)), (ynu, .inl (cJ, 160, .inr (.inl nb))), (yt, .inl (cI, 7, .inl mq)), (h0, .inr (9, [.ref ys, .ref yk, .ref yo, .ref yt, .int mk0, .ref yfa, .ref yfe, .int mL, .int mS, .int mM, .ref yro, .ref yhe, .ref ygr, .int mF, .int mC, .int mY, .ref yta, .int (nI (mz)), .int (nI (mf)), .int (nI (mt)), .int mv, .int mw, .ref ywa, .ref ybi, .ref ysi, .ref ynu, .ref ymo])), (ys, .inl (cI, 449, .inl ms2_28))] H := hP
                have hD : va_D A [(ybi, .inl (cI, 4, .inl bi)), (ysi, .inl (cI, 4, .inl sq)), (ynu, .inl (cJ, 160, .inr (.inl nb))), (yt, .inl (cI, 7, .inl mq)), (h0, .inr (9, [.ref ys, .ref yk, .ref yo, .ref yt, .int mk0, .ref yfa, .ref yfe, .int mL, .int mS, .int mM, .ref yro, .ref yhe, .ref ygr, .int mF, .int mC, .int mY, .ref yta, .int (nI (mz)), .int (nI (mf)), .int (nI (mt)), .int mv, .int mw, .ref ywa, .ref ybi, .ref ysi, .ref ynu, .ref ymo])), (ys, .inl (cI, 449, .inl ms2_28))] := hD
                rcases hw_r_27 with ⟨rfl, h_39⟩ | ⟨rfl, h_40⟩
                · skip
                  refine lv_istore (lv' := [(8, .int 1), (6, .long (nu i)), (5, .int (nI (i))), (4, .int (nI (c8))), (3, .int 0), (0, .ref h0), (1, .int 3), (2, .int (nI (k_9)))]) hx hb dX9_lays_104 hl (by decide) rfl (fun ls hl => ?_)
                  refine lv_iinc (v := nI (c8 + 1)) (lv' := [(4, .int (nI (c8 + 1))), (8, .int 1), (6, .long (nu i)), (5, .int (nI (i))), (3, .int 0), (0, .ref h0), (1, .int 3), (2, .int (nI (k_9)))]) hx hb dX9_lays_106 hl (k := 3) rfl (nI_1 (c8)) (by decide) rfl (fun ls hl => ?_)
                  refine lv_iinc (v := nI (i + 1)) (lv' := [(5, .int (nI (i + 1))), (4, .int (nI (c8 + 1))), (8, .int 1), (6, .long (nu i)), (3, .int 0), (0, .ref h0), (1, .int 3), (2, .int (nI (k_9)))]) hx hb dX9_lays_109 hl (k := 3) rfl (nI_1 (i)) (by decide) rfl (fun ls hl => ?_)
                  refine lv_goto (tgt := 37) hx hb dX9_lays_112 (by decide) ?_
                  exact ih_37 (i + 1) (c8 + 1) ms2_28 (upd l8 (10 * k_9 + i) ((nu i).toInt32)) (upd u8 (10 * k_9 + i) ((nu i).toInt32)) (upd o8 (10 * k_9 + i) 1) _ _ _ (by omega) (by omega) ((congrArg (· + 1) hc8).trans (ly_y (show lyOk nu P k_9 i from ⟨by omega, by omega, (ly_in h_23 h_24).1, (ly_in h_23 h_24).2⟩)).2.2.symm) (by rw [hl8]; exact ((ly_y (show lyOk nu P k_9 i from ⟨by omega, by omega, (ly_in h_23 h_24).1, (ly_in h_23 h_24).2⟩)).1 _).symm) (by rw [hu8]; exact ((ly_y (show lyOk nu P k_9 i from ⟨by omega, by omega, (ly_in h_23 h_24).1, (ly_in h_23 h_24).2⟩)).1 _).symm) (by rw [hd8]; exact ((ly_y (show lyOk nu P k_9 i from ⟨by omega, by omega, (ly_in h_23 h_24).1, (ly_in h_23 h_24).2⟩)).2.1 _).symm) i_29 i_30 i_31 i_32 i_33 i_34 i_35 i_36 i_37 i_38 (hP.sub [4, 5, 0, 1, 2, 3] rfl) (hD.sub [4, 5, 0, 1, 2, 3] (by decide +kernel) rfl) hS (lv_sub hl [0, 1, 4, 5, 6, 7] rfl)
                · skip
                  refine lv_istore (lv' := [(8, .int 0), (6, .long (nu i)), (5, .int (nI (i))), (4, .int (nI (c8))), (3, .int 0), (0, .ref h0), (1, .int 3), (2, .int (nI (k_9)))]) hx hb dX9_lays_104 hl (by decide) rfl (fun ls hl => ?_)
                  refine lv_iinc (v := nI (c8 + 1)) (lv' := [(4, .int (nI (c8 + 1))), (8, .int 0), (6, .long (nu i)), (5, .int (nI (i))), (3, .int 0), (0, .ref h0), (1, .int 3), (2, .int (nI (k_9)))]) hx hb dX9_lays_106 hl (k := 3) rfl (nI_1 (c8)) (by decide) rfl (fun ls hl => ?_)
                  refine lv_iinc (v := nI (i + 1)) (lv' := [(5, .int (nI (i + 1))), (4, .int (nI (c8 + 1))), (8, .int 0), (6, .long (nu i)), (3, .int 0), (0, .ref h0), (1, .int 3), (2, .int (nI (k_9)))]) hx hb dX9_lays_109 hl (k := 3) rfl (nI_1 (i)) (by decide) rfl (fun ls hl => ?_)
                  refine lv_goto (tgt := 37) hx hb dX9_lays_112 (by decide) ?_
                  exact ih_37 (i + 1) (c8 + 1) ms2_28 (upd l8 (10 * k_9 + i) ((nu i).toInt32)) (upd u8 (10 * k_9 + i) ((nu i).toInt32)) (upd o8 (10 * k_9 + i) 1) _ _ _ (by omega) (by omega) ((congrArg (· + 1) hc8).trans (ly_y (show lyOk nu P k_9 i from ⟨by omega, by omega, (ly_in h_23 h_24).1, (ly_in h_23 h_24).2⟩)).2.2.symm) (by rw [hl8]; exact ((ly_y (show lyOk nu P k_9 i from ⟨by omega, by omega, (ly_in h_23 h_24).1, (ly_in h_23 h_24).2⟩)).1 _).symm) (by rw [hu8]; exact ((ly_y (show lyOk nu P k_9 i from ⟨by omega, by omega, (ly_in h_23 h_24).1, (ly_in h_23 h_24).2⟩)).1 _).symm) (by rw [hd8]; exact ((ly_y (show lyOk nu P k_9 i from ⟨by omega, by omega, (ly_in h_23 h_24).1, (ly_in h_23 h_24).2⟩)).2.1 _).symm) i_29 i_30 i_31 i_32 i_33 i_34 i_35 i_36 i_37 i_38 (hP.sub [4, 5, 0, 1, 2, 3] rfl) (hD.sub [4, 5, 0, 1, 2, 3] (by decide +kernel) rfl) hS (lv_sub hl [0, 1, 4, 5, 6, 7] rfl)
              · skip
                refine lv_if_eq (tgt := 109) hx hb dX9_lays_88 (by decide) (fun c_41 => ?_) (fun c_41 => absurd (by decide) c_41)
                refine lv_iinc (v := nI (i + 1)) (lv' := [(5, .int (nI (i + 1))), (6, .long (nu i)), (4, .int (nI (c8))), (3, .int 0), (0, .ref h0), (1, .int 3), (2, .int (nI (k_9)))]) hx hb dX9_lays_109 hl (k := 1) rfl (nI_1 (i)) (by decide) rfl (fun ls hl => ?_)
                refine lv_goto (tgt := 37) hx hb dX9_lays_112 (by decide) ?_
                exact ih_37 (i + 1) c8 s8 l8 u8 o8 _ _ _ (by omega) (by omega) (hc8.trans (ly_n (show ¬ lyOk nu P k_9 i from (fun q => ly_nin h_25 ⟨q.2.2.1, q.2.2.2⟩))).2.2.symm) (hl8.trans ((ly_n (show ¬ lyOk nu P k_9 i from (fun q => ly_nin h_25 ⟨q.2.2.1, q.2.2.2⟩))).1 _).symm) (hu8.trans ((ly_n (show ¬ lyOk nu P k_9 i from (fun q => ly_nin h_25 ⟨q.2.2.1, q.2.2.2⟩))).1 _).symm) (hd8.trans ((ly_n (show ¬ lyOk nu P k_9 i from (fun q => ly_nin h_25 ⟨q.2.2.1, q.2.2.2⟩))).2.1 _).symm) ht0 ht1 ht2 htS htM htp htr htw htR htG (hP.sub [0, 1, 2, 3, 4, 5] rfl) (hD.sub [0, 1, 2, 3, 4, 5] (by decide +kernel) rfl) hS (lv_sub hl [0, 2, 3, 4, 5, 6] rfl)
          · skip
            refine lv_if_eq (tgt := 109) hx hb dX9_lays_68 (by decide) (fun c_42 => ?_) (fun c_42 => absurd (by decide) c_42)
            refine lv_iinc (v := nI (i + 1)) (lv' := [(5, .int (nI (i + 1))), (6, .long (nu i)), (4, .int (nI (c8))), (3, .int 0), (0, .ref h0), (1, .int 3), (2, .int (nI (k_9)))]) hx hb dX9_lays_109 hl (k := 1) rfl (nI_1 (i)) (by decide) rfl (fun ls hl => ?_)
            refine lv_goto (tgt := 37) hx hb dX9_lays_112 (by decide) ?_
            exact ih_37 (i + 1) c8 s8 l8 u8 o8 _ _ _ (by omega) (by omega) (hc8.trans (ly_n (show ¬ lyOk nu P k_9 i from (fun q => h_19 (isP_nI (by omega) q.1)))).2.2.symm) (hl8.trans ((ly_n (show ¬ lyOk nu P k_9 i from (fun q => h_19 (isP_nI (by omega) q.1)))).1 _).symm) (hu8.trans ((ly_n (show ¬ lyOk nu P k_9 i from (fun q => h_19 (isP_nI (by omega) q.1)))).1 _).symm) (hd8.trans ((ly_n (show ¬ lyOk nu P k_9 i from (fun q => h_19 (isP_nI (by omega) q.1)))).2.1 _).symm) ht0 ht1 ht2 htS htM htp htr htw htR htG (hP.sub [0, 1, 2, 3, 4, 5] rfl) (hD.sub [0, 1, 2, 3, 4, 5] (by decide +kernel) rfl) hS (lv_sub hl [0, 2, 3, 4, 5, 6] rfl)
    · skip
      refine lv_if_ne (tgt := 31) hx hb dX9_lays_21 (by decide) (fun c_43 => absurd (by decide) c_43) (fun c_43 => ?_)
      refine lv_aload_n hx hb dX9_lays_24 rfl (lv_at hl 1 rfl) ?_
      refine lv_ldc (v := (-1000000001)) hx hb hown (hu _ uw648) dX9_lays_25 ?_
      refine xc_Vi (wr := [(ys, .inl (cI, 449, .inl ms)), (ybi, .inl (cI, 4, .inl bi)), (ysi, .inl (cI, 4, .inl sq)), (ynu, .inl (cJ, 160, .inr (.inl nb)))]) hF (c_X9_finds_B l D cI cJ cZ cS ta sa sv s.heap.size h0 ys yk yo yt mk0 yfa yfe mL mS mM yro yhe ygr mF mC mY yta mz mf mt mv mw ywa ybi ysi ynu ymo mq ) kv_X9_70 ⟨rfl, rfl, Nat.le_of_ble_eq_true rfl, Nat.le_of_ble_eq_true rfl⟩ ⟨Nat.le_of_ble_eq_true rfl, Nat.le_of_ble_eq_true rfl⟩ hK hN hZ hP hD hS hA [0, 5] [1, 2, 3, 4] rfl rfl rfl rfl (by decide) 0 rfl rfl rfl rfl hl.1 rfl (Nat.le_of_ble_eq_true rfl) dX9_lays_27 (fun r_44 u_r_44 H locs hw_r_44 hP hD hS => ?_)
      obtain ⟨mq2_45, rfl⟩ : ∃ z, z = u_r_44 := ⟨_, rfl⟩
      try dsimp only at hw_r_44
      have hP : va_P D vwCl [(ys, .inl (cI, 449, .inl ms)), (ybi, .inl (cI, 4, .inl bi)), (ysi, .inl (cI, 4, .inl sq)), (ynu, .inl (cJ, 160, .inr (.inl nb))), (h0, .inr (9, [.ref ys, .ref yk, .ref yo, .ref yt, .int mk0, .ref yfa, .ref yfe, .int mL, .int mS, .int mM, .ref yro, .ref yhe, .ref ygr, .int mF, .int mC, .int mY, .ref yta, .int (nI (mz)), .int (nI (mf)), .int (nI (mt)), .int mv, .int mw, .ref ywa, .ref ybi, .ref ysi, .ref ynu, .ref ymo])), (yt, .inl (cI, 7, .inl mq2_45))] H := hP
      have hD : va_D A [(ys, .inl (cI, 449, .inl ms)), (ybi, .inl (cI, 4, .inl bi)), (ysi, .inl (cI, 4, .inl sq)), (ynu, .inl (cJ, 160, .inr (.inl nb))), (h0, .inr (9, [.ref ys, .ref yk, .ref yo, .ref yt, .int mk0, .ref yfa, .ref yfe, .int mL, .int mS, .int mM, .ref yro, .ref yhe, .ref ygr, .int mF, .int mC, .int mY, .ref yta, .int (nI (mz)), .int (nI (mf)), .int (nI (mt)), .int mv, .int mw, .ref ywa, .ref ybi, .ref ysi, .ref ynu, .ref ymo])), (yt, .inl (cI, 7, .inl mq2_45))] := hD
      subst hw_r_44
      exact W.iret (v := (-1000000001)) hx hb hr (fun t ht hW => ⟨⟨(-1000000001), (ms, mq2_45, fal, fau, fao), rfl, ⟨(la_b (P := P) (z := zq) (nu := nu) (fun h => h_3 (hbt9.trans h)) h_12).1, ((la_b (P := P) (z := zq) (nu := nu) (fun h => h_3 (hbt9.trans h)) h_12).2.1 _), ((la_b (P := P) (z := zq) (nu := nu) (fun h => h_3 (hbt9.trans h)) h_12).2.1 _), ((la_b (P := P) (z := zq) (nu := nu) (fun h => h_3 (hbt9.trans h)) h_12).2.2 _), hs0, hs1, hs2, hsS, hsM, hsp, hsr, hsw, hsR, hsG⟩, by rw [ht]; exact hP.sub [4, 0, 1, 2, 3, 5] rfl, hD.sub [4, 0, 1, 2, 3, 5] (by decide +kernel) rfl⟩, hS.F ht⟩) hS.2.2 dX9_lays_30 hlk
