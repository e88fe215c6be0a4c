def LRX9_loops_7 : List UInt8 := []
def LBX9_loops_6 : List UInt8 := [0x84, 0x03, 0x01, 0xa7, 0xff, 0xb1, 0x84, 0x02, 0x01, 0xa7, 0xff, 0x9f, 0x1b, 0xac]
def LRX9_loops_6 : List UInt8 := LBX9_loops_6 ++ LRX9_loops_7
def LBX9_loops_5 : List UInt8 := [0x04, 0x1b, 0x15, 0x04, 0x99, 0x00, 0x09, 0x04, 0x1c, 0x78, 0xa7, 0x00, 0x04, 0x03, 0x80, 0x3c]
def LRX9_loops_5 : List UInt8 := LBX9_loops_5 ++ LRX9_loops_6
def LBX9_loops_4 : List UInt8 := [0x1d, 0x68, 0x1c, 0x60, 0x2e, 0x12, 0x68, 0x9f, 0x00, 0x07, 0x04, 0xa7, 0x00, 0x04, 0x03, 0x36]
def LRX9_loops_4 : List UInt8 := LBX9_loops_4 ++ LRX9_loops_5
def LBX9_loops_3 : List UInt8 := [0x1c, 0x68, 0x1d, 0x60, 0x2e, 0x12, 0x68, 0x9f, 0x00, 0x17, 0x2a, 0xb4, 0x00, 0x16, 0x10, 0x0a]
def LRX9_loops_3 : List UInt8 := LBX9_loops_3 ++ LRX9_loops_4
def LBX9_loops_2 : List UInt8 := [0x00, 0x16, 0x10, 0x0b, 0x1d, 0x68, 0x2e, 0x9c, 0x00, 0x27, 0x2a, 0xb4, 0x00, 0x16, 0x10, 0x0a]
def LRX9_loops_2 : List UInt8 := LBX9_loops_2 ++ LRX9_loops_3
def LBX9_loops_1 : List UInt8 := [0x00, 0x5d, 0x03, 0x3e, 0x1d, 0x2a, 0xb4, 0x00, 0x07, 0x03, 0x2e, 0xa2, 0x00, 0x4b, 0x2a, 0xb4]
def LRX9_loops_1 : List UInt8 := LBX9_loops_1 ++ LRX9_loops_2
def LBX9_loops_0 : List UInt8 := [0x2a, 0xb6, 0x00, 0x71, 0x03, 0x3c, 0x03, 0x3d, 0x1c, 0x2a, 0xb4, 0x00, 0x07, 0x03, 0x2e, 0xa2]
def LRX9_loops_0 : List UInt8 := LBX9_loops_0 ++ LRX9_loops_1
set_option maxRecDepth 100000 in
theorem LBX9_loops_eq : cX9_loops.data.toList = LRX9_loops_0 := by decide +kernel
theorem LBX9_loopsr_0 (k : Nat) : cX9_loops.data.toList[0 + k]? = LRX9_loops_0[k]? := by rw [LBX9_loops_eq, Nat.zero_add]
theorem LBX9_loopsr_1 (k : Nat) : cX9_loops.data.toList[16 + k]? = LRX9_loops_1[k]? := by
  have h := LBX9_loopsr_0 (16 + k)
  rw [show 0 + (16 + k) = 16 + k by omega] at h
  rw [h]
  exact (List.getElem?_append_right (l₁ := LBX9_loops_0) (l₂ := LRX9_loops_1) (show 16 ≤ 16 + k by omega)).trans (congrArg (fun i => LRX9_loops_1[i]?) (show 16 + k - 16 = k by omega))
theorem LBX9_loopsr_2 (k : Nat) : cX9_loops.data.toList[32 + k]? = LRX9_loops_2[k]? := by
  have h := LBX9_loopsr_1 (16 + k)
  rw [show 16 + (16 + k) = 32 + k by omega] at h
  rw [h]
  exact (List.getElem?_append_right (l₁ := LBX9_loops_1) (l₂ := LRX9_loops_2) (show 16 ≤ 16 + k by omega)).trans (congrArg (fun i => LRX9_loops_2[i]?) (show 16 + k - 16 = k by omega))
theorem LBX9_loopsr_3 (k : Nat) : cX9_loops.data.toList[48 + k]? = LRX9_loops_3[k]? := by
  have h := LBX9_loopsr_2 (16 + k)
  rw [show 32 + (16 + k) = 48 + k by omega] at h
  rw [h]
  exact (List.getElem?_append_right (l₁ := LBX9_loops_2) (l₂ := LRX9_loops_3) (show 16 ≤ 16 + k by omega)).trans (congrArg (fun i => LRX9_loops_3[i]?) (show 16 + k - 16 = k by omega))
theorem LBX9_loopsr_4 (k : Nat) : cX9_loops.data.toList[64 + k]? = LRX9_loops_4[k]? := by
  have h := LBX9_loopsr_3 (16 + k)
  rw [show 48 + (16 + k) = 64 + k by omega] at h
  rw [h]
  exact (List.getElem?_append_right (l₁ := LBX9_loops_3) (l₂ := LRX9_loops_4) (show 16 ≤ 16 + k by omega)).trans (congrArg (fun i => LRX9_loops_4[i]?) (show 16 + k - 16 = k by omega))
theorem LBX9_loopsr_5 (k : Nat) : cX9_loops.data.toList[80 + k]? = LRX9_loops_5[k]? := by
  have h := LBX9_loopsr_4 (16 + k)
  rw [show 64 + (16 + k) = 80 + k by omega] at h
  rw [h]
  exact (List.getElem?_append_right (l₁ := LBX9_loops_4) (l₂ := LRX9_loops_5) (show 16 ≤ 16 + k by omega)).trans (congrArg (fun i => LRX9_loops_5[i]?) (show 16 + k - 16 = k by omega))
theorem LBX9_loopsr_6 (k : Nat) : cX9_loops.data.toList[96 + k]? = LRX9_loops_6[k]? := by
  have h := LBX9_loopsr_5 (16 + k)
  rw [show 80 + (16 + k) = 96 + k by omega] at h
  rw [h]
  exact (List.getElem?_append_right (l₁ := LBX9_loops_5) (l₂ := LRX9_loops_6) (show 16 ≤ 16 + k by omega)).trans (congrArg (fun i => LRX9_loops_6[i]?) (show 16 + k - 16 = k by omega))
theorem dX9_loops_0 : decode cX9_loops 0 = .ok (.aload_n 0, 1) := dk_42_ (show cX9_loops.data.toList[0]? = some 0x2a from (LBX9_loopsr_0 0).trans (by decide +kernel))
theorem dX9_loops_1 : decode cX9_loops 1 = .ok (.invokevirtual 113, 3) := dk_182_ (show cX9_loops.data.toList[1]? = some 0xb6 from (LBX9_loopsr_0 1).trans (by decide +kernel)) (show cX9_loops.data.toList[2]? = some 0x00 from (LBX9_loopsr_0 2).trans (by decide +kernel)) (show cX9_loops.data.toList[3]? = some 0x71 from (LBX9_loopsr_0 3).trans (by decide +kernel)) (by decide)
theorem dX9_loops_4 : decode cX9_loops 4 = .ok (.iconst 0, 1) := dk_3_ (show cX9_loops.data.toList[4]? = some 0x03 from (LBX9_loopsr_0 4).trans (by decide +kernel))
theorem dX9_loops_5 : decode cX9_loops 5 = .ok (.istore_n 1, 1) := dk_60_ (show cX9_loops.data.toList[5]? = some 0x3c from (LBX9_loopsr_0 5).trans (by decide +kernel))
theorem dX9_loops_6 : decode cX9_loops 6 = .ok (.iconst 0, 1) := dk_3_ (show cX9_loops.data.toList[6]? = some 0x03 from (LBX9_loopsr_0 6).trans (by decide +kernel))
theorem dX9_loops_7 : decode cX9_loops 7 = .ok (.istore_n 2, 1) := dk_61_ (show cX9_loops.data.toList[7]? = some 0x3d from (LBX9_loopsr_0 7).trans (by decide +kernel))
theorem dX9_loops_8 : decode cX9_loops 8 = .ok (.iload_n 2, 1) := dk_28_ (show cX9_loops.data.toList[8]? = some 0x1c from (LBX9_loopsr_0 8).trans (by decide +kernel))
theorem dX9_loops_9 : decode cX9_loops 9 = .ok (.aload_n 0, 1) := dk_42_ (show cX9_loops.data.toList[9]? = some 0x2a from (LBX9_loopsr_0 9).trans (by decide +kernel))
theorem dX9_loops_10 : decode cX9_loops 10 = .ok (.getfield 7, 3) := dk_180_ (show cX9_loops.data.toList[10]? = some 0xb4 from (LBX9_loopsr_0 10).trans (by decide +kernel)) (show cX9_loops.data.toList[11]? = some 0x00 from (LBX9_loopsr_0 11).trans (by decide +kernel)) (show cX9_loops.data.toList[12]? = some 0x07 from (LBX9_loopsr_0 12).trans (by decide +kernel)) (by decide)
theorem dX9_loops_13 : decode cX9_loops 13 = .ok (.iconst 0, 1) := dk_3_ (show cX9_loops.data.toList[13]? = some 0x03 from (LBX9_loopsr_0 13).trans (by decide +kernel))
theorem dX9_loops_14 : decode cX9_loops 14 = .ok (.iaload, 1) := dk_46_ (show cX9_loops.data.toList[14]? = some 0x2e from (LBX9_loopsr_0 14).trans (by decide +kernel))
theorem dX9_loops_15 : decode cX9_loops 15 = .ok (.if_icmp .ge 93, 3) := dk_162_ (show cX9_loops.data.toList[15]? = some 0xa2 from (LBX9_loopsr_0 15).trans (by decide +kernel)) (show cX9_loops.data.toList[16]? = some 0x00 from (LBX9_loopsr_1 0).trans (by decide +kernel)) (show cX9_loops.data.toList[17]? = some 0x5d from (LBX9_loopsr_1 1).trans (by decide +kernel)) (by decide)
theorem dX9_loops_18 : decode cX9_loops 18 = .ok (.iconst 0, 1) := dk_3_ (show cX9_loops.data.toList[18]? = some 0x03 from (LBX9_loopsr_1 2).trans (by decide +kernel))
theorem dX9_loops_19 : decode cX9_loops 19 = .ok (.istore_n 3, 1) := dk_62_ (show cX9_loops.data.toList[19]? = some 0x3e from (LBX9_loopsr_1 3).trans (by decide +kernel))
theorem dX9_loops_20 : decode cX9_loops 20 = .ok (.iload_n 3, 1) := dk_29_ (show cX9_loops.data.toList[20]? = some 0x1d from (LBX9_loopsr_1 4).trans (by decide +kernel))
theorem dX9_loops_21 : decode cX9_loops 21 = .ok (.aload_n 0, 1) := dk_42_ (show cX9_loops.data.toList[21]? = some 0x2a from (LBX9_loopsr_1 5).trans (by decide +kernel))
theorem dX9_loops_22 : decode cX9_loops 22 = .ok (.getfield 7, 3) := dk_180_ (show cX9_loops.data.toList[22]? = some 0xb4 from (LBX9_loopsr_1 6).trans (by decide +kernel)) (show cX9_loops.data.toList[23]? = some 0x00 from (LBX9_loopsr_1 7).trans (by decide +kernel)) (show cX9_loops.data.toList[24]? = some 0x07 from (LBX9_loopsr_1 8).trans (by decide +kernel)) (by decide)
theorem dX9_loops_25 : decode cX9_loops 25 = .ok (.iconst 0, 1) := dk_3_ (show cX9_loops.data.toList[25]? = some 0x03 from (LBX9_loopsr_1 9).trans (by decide +kernel))
theorem dX9_loops_26 : decode cX9_loops 26 = .ok (.iaload, 1) := dk_46_ (show cX9_loops.data.toList[26]? = some 0x2e from (LBX9_loopsr_1 10).trans (by decide +kernel))
theorem dX9_loops_27 : decode cX9_loops 27 = .ok (.if_icmp .ge 75, 3) := dk_162_ (show cX9_loops.data.toList[27]? = some 0xa2 from (LBX9_loopsr_1 11).trans (by decide +kernel)) (show cX9_loops.data.toList[28]? = some 0x00 from (LBX9_loopsr_1 12).trans (by decide +kernel)) (show cX9_loops.data.toList[29]? = some 0x4b from (LBX9_loopsr_1 13).trans (by decide +kernel)) (by decide)
theorem dX9_loops_30 : decode cX9_loops 30 = .ok (.aload_n 0, 1) := dk_42_ (show cX9_loops.data.toList[30]? = some 0x2a from (LBX9_loopsr_1 14).trans (by decide +kernel))
theorem dX9_loops_31 : decode cX9_loops 31 = .ok (.getfield 22, 3) := dk_180_ (show cX9_loops.data.toList[31]? = some 0xb4 from (LBX9_loopsr_1 15).trans (by decide +kernel)) (show cX9_loops.data.toList[32]? = some 0x00 from (LBX9_loopsr_2 0).trans (by decide +kernel)) (show cX9_loops.data.toList[33]? = some 0x16 from (LBX9_loopsr_2 1).trans (by decide +kernel)) (by decide)
theorem dX9_loops_34 : decode cX9_loops 34 = .ok (.bipush 11, 2) := dk_16_ (show cX9_loops.data.toList[34]? = some 0x10 from (LBX9_loopsr_2 2).trans (by decide +kernel)) (show cX9_loops.data.toList[35]? = some 0x0b from (LBX9_loopsr_2 3).trans (by decide +kernel)) (by decide)
theorem dX9_loops_36 : decode cX9_loops 36 = .ok (.iload_n 3, 1) := dk_29_ (show cX9_loops.data.toList[36]? = some 0x1d from (LBX9_loopsr_2 4).trans (by decide +kernel))
theorem dX9_loops_37 : decode cX9_loops 37 = .ok (.imul, 1) := dk_104_ (show cX9_loops.data.toList[37]? = some 0x68 from (LBX9_loopsr_2 5).trans (by decide +kernel))
theorem dX9_loops_38 : decode cX9_loops 38 = .ok (.iaload, 1) := dk_46_ (show cX9_loops.data.toList[38]? = some 0x2e from (LBX9_loopsr_2 6).trans (by decide +kernel))
theorem dX9_loops_39 : decode cX9_loops 39 = .ok (.ifCond .ge 39, 3) := dk_156_ (show cX9_loops.data.toList[39]? = some 0x9c from (LBX9_loopsr_2 7).trans (by decide +kernel)) (show cX9_loops.data.toList[40]? = some 0x00 from (LBX9_loopsr_2 8).trans (by decide +kernel)) (show cX9_loops.data.toList[41]? = some 0x27 from (LBX9_loopsr_2 9).trans (by decide +kernel)) (by decide)
theorem dX9_loops_42 : decode cX9_loops 42 = .ok (.aload_n 0, 1) := dk_42_ (show cX9_loops.data.toList[42]? = some 0x2a from (LBX9_loopsr_2 10).trans (by decide +kernel))
theorem dX9_loops_43 : decode cX9_loops 43 = .ok (.getfield 22, 3) := dk_180_ (show cX9_loops.data.toList[43]? = some 0xb4 from (LBX9_loopsr_2 11).trans (by decide +kernel)) (show cX9_loops.data.toList[44]? = some 0x00 from (LBX9_loopsr_2 12).trans (by decide +kernel)) (show cX9_loops.data.toList[45]? = some 0x16 from (LBX9_loopsr_2 13).trans (by decide +kernel)) (by decide)
theorem dX9_loops_46 : decode cX9_loops 46 = .ok (.bipush 10, 2) := dk_16_ (show cX9_loops.data.toList[46]? = some 0x10 from (LBX9_loopsr_2 14).trans (by decide +kernel)) (show cX9_loops.data.toList[47]? = some 0x0a from (LBX9_loopsr_2 15).trans (by decide +kernel)) (by decide)
theorem dX9_loops_48 : decode cX9_loops 48 = .ok (.iload_n 2, 1) := dk_28_ (show cX9_loops.data.toList[48]? = some 0x1c from (LBX9_loopsr_3 0).trans (by decide +kernel))
theorem dX9_loops_49 : decode cX9_loops 49 = .ok (.imul, 1) := dk_104_ (show cX9_loops.data.toList[49]? = some 0x68 from (LBX9_loopsr_3 1).trans (by decide +kernel))
theorem dX9_loops_50 : decode cX9_loops 50 = .ok (.iload_n 3, 1) := dk_29_ (show cX9_loops.data.toList[50]? = some 0x1d from (LBX9_loopsr_3 2).trans (by decide +kernel))
theorem dX9_loops_51 : decode cX9_loops 51 = .ok (.iadd, 1) := dk_96_ (show cX9_loops.data.toList[51]? = some 0x60 from (LBX9_loopsr_3 3).trans (by decide +kernel))
theorem dX9_loops_52 : decode cX9_loops 52 = .ok (.iaload, 1) := dk_46_ (show cX9_loops.data.toList[52]? = some 0x2e from (LBX9_loopsr_3 4).trans (by decide +kernel))
theorem dX9_loops_53 : decode cX9_loops 53 = .ok (.ldc 104, 2) := dk_18_ (show cX9_loops.data.toList[53]? = some 0x12 from (LBX9_loopsr_3 5).trans (by decide +kernel)) (show cX9_loops.data.toList[54]? = some 0x68 from (LBX9_loopsr_3 6).trans (by decide +kernel)) (by decide)
theorem dX9_loops_55 : decode cX9_loops 55 = .ok (.if_icmp .eq 23, 3) := dk_159_ (show cX9_loops.data.toList[55]? = some 0x9f from (LBX9_loopsr_3 7).trans (by decide +kernel)) (show cX9_loops.data.toList[56]? = some 0x00 from (LBX9_loopsr_3 8).trans (by decide +kernel)) (show cX9_loops.data.toList[57]? = some 0x17 from (LBX9_loopsr_3 9).trans (by decide +kernel)) (by decide)
theorem dX9_loops_58 : decode cX9_loops 58 = .ok (.aload_n 0, 1) := dk_42_ (show cX9_loops.data.toList[58]? = some 0x2a from (LBX9_loopsr_3 10).trans (by decide +kernel))
theorem dX9_loops_59 : decode cX9_loops 59 = .ok (.getfield 22, 3) := dk_180_ (show cX9_loops.data.toList[59]? = some 0xb4 from (LBX9_loopsr_3 11).trans (by decide +kernel)) (show cX9_loops.data.toList[60]? = some 0x00 from (LBX9_loopsr_3 12).trans (by decide +kernel)) (show cX9_loops.data.toList[61]? = some 0x16 from (LBX9_loopsr_3 13).trans (by decide +kernel)) (by decide)
theorem dX9_loops_62 : decode cX9_loops 62 = .ok (.bipush 10, 2) := dk_16_ (show cX9_loops.data.toList[62]? = some 0x10 from (LBX9_loopsr_3 14).trans (by decide +kernel)) (show cX9_loops.data.toList[63]? = some 0x0a from (LBX9_loopsr_3 15).trans (by decide +kernel)) (by decide)
theorem dX9_loops_64 : decode cX9_loops 64 = .ok (.iload_n 3, 1) := dk_29_ (show cX9_loops.data.toList[64]? = some 0x1d from (LBX9_loopsr_4 0).trans (by decide +kernel))
theorem dX9_loops_65 : decode cX9_loops 65 = .ok (.imul, 1) := dk_104_ (show cX9_loops.data.toList[65]? = some 0x68 from (LBX9_loopsr_4 1).trans (by decide +kernel))
theorem dX9_loops_66 : decode cX9_loops 66 = .ok (.iload_n 2, 1) := dk_28_ (show cX9_loops.data.toList[66]? = some 0x1c from (LBX9_loopsr_4 2).trans (by decide +kernel))
theorem dX9_loops_67 : decode cX9_loops 67 = .ok (.iadd, 1) := dk_96_ (show cX9_loops.data.toList[67]? = some 0x60 from (LBX9_loopsr_4 3).trans (by decide +kernel))
theorem dX9_loops_68 : decode cX9_loops 68 = .ok (.iaload, 1) := dk_46_ (show cX9_loops.data.toList[68]? = some 0x2e from (LBX9_loopsr_4 4).trans (by decide +kernel))
theorem dX9_loops_69 : decode cX9_loops 69 = .ok (.ldc 104, 2) := dk_18_ (show cX9_loops.data.toList[69]? = some 0x12 from (LBX9_loopsr_4 5).trans (by decide +kernel)) (show cX9_loops.data.toList[70]? = some 0x68 from (LBX9_loopsr_4 6).trans (by decide +kernel)) (by decide)
theorem dX9_loops_71 : decode cX9_loops 71 = .ok (.if_icmp .eq 7, 3) := dk_159_ (show cX9_loops.data.toList[71]? = some 0x9f from (LBX9_loopsr_4 7).trans (by decide +kernel)) (show cX9_loops.data.toList[72]? = some 0x00 from (LBX9_loopsr_4 8).trans (by decide +kernel)) (show cX9_loops.data.toList[73]? = some 0x07 from (LBX9_loopsr_4 9).trans (by decide +kernel)) (by decide)
theorem dX9_loops_74 : decode cX9_loops 74 = .ok (.iconst 1, 1) := dk_4_ (show cX9_loops.data.toList[74]? = some 0x04 from (LBX9_loopsr_4 10).trans (by decide +kernel))
theorem dX9_loops_75 : decode cX9_loops 75 = .ok (.goto 4, 3) := dk_167_ (show cX9_loops.data.toList[75]? = some 0xa7 from (LBX9_loopsr_4 11).trans (by decide +kernel)) (show cX9_loops.data.toList[76]? = some 0x00 from (LBX9_loopsr_4 12).trans (by decide +kernel)) (show cX9_loops.data.toList[77]? = some 0x04 from (LBX9_loopsr_4 13).trans (by decide +kernel)) (by decide)
theorem dX9_loops_78 : decode cX9_loops 78 = .ok (.iconst 0, 1) := dk_3_ (show cX9_loops.data.toList[78]? = some 0x03 from (LBX9_loopsr_4 14).trans (by decide +kernel))
theorem dX9_loops_79 : decode cX9_loops 79 = .ok (.istore 4, 2) := dk_54_ (show cX9_loops.data.toList[79]? = some 0x36 from (LBX9_loopsr_4 15).trans (by decide +kernel)) (show cX9_loops.data.toList[80]? = some 0x04 from (LBX9_loopsr_5 0).trans (by decide +kernel)) (by decide)
theorem dX9_loops_81 : decode cX9_loops 81 = .ok (.iload_n 1, 1) := dk_27_ (show cX9_loops.data.toList[81]? = some 0x1b from (LBX9_loopsr_5 1).trans (by decide +kernel))
theorem dX9_loops_82 : decode cX9_loops 82 = .ok (.iload 4, 2) := dk_21_ (show cX9_loops.data.toList[82]? = some 0x15 from (LBX9_loopsr_5 2).trans (by decide +kernel)) (show cX9_loops.data.toList[83]? = some 0x04 from (LBX9_loopsr_5 3).trans (by decide +kernel)) (by decide)
theorem dX9_loops_84 : decode cX9_loops 84 = .ok (.ifCond .eq 9, 3) := dk_153_ (show cX9_loops.data.toList[84]? = some 0x99 from (LBX9_loopsr_5 4).trans (by decide +kernel)) (show cX9_loops.data.toList[85]? = some 0x00 from (LBX9_loopsr_5 5).trans (by decide +kernel)) (show cX9_loops.data.toList[86]? = some 0x09 from (LBX9_loopsr_5 6).trans (by decide +kernel)) (by decide)
theorem dX9_loops_87 : decode cX9_loops 87 = .ok (.iconst 1, 1) := dk_4_ (show cX9_loops.data.toList[87]? = some 0x04 from (LBX9_loopsr_5 7).trans (by decide +kernel))
theorem dX9_loops_88 : decode cX9_loops 88 = .ok (.iload_n 2, 1) := dk_28_ (show cX9_loops.data.toList[88]? = some 0x1c from (LBX9_loopsr_5 8).trans (by decide +kernel))
theorem dX9_loops_89 : decode cX9_loops 89 = .ok (.ishl, 1) := dk_120_ (show cX9_loops.data.toList[89]? = some 0x78 from (LBX9_loopsr_5 9).trans (by decide +kernel))
theorem dX9_loops_90 : decode cX9_loops 90 = .ok (.goto 4, 3) := dk_167_ (show cX9_loops.data.toList[90]? = some 0xa7 from (LBX9_loopsr_5 10).trans (by decide +kernel)) (show cX9_loops.data.toList[91]? = some 0x00 from (LBX9_loopsr_5 11).trans (by decide +kernel)) (show cX9_loops.data.toList[92]? = some 0x04 from (LBX9_loopsr_5 12).trans (by decide +kernel)) (by decide)
theorem dX9_loops_93 : decode cX9_loops 93 = .ok (.iconst 0, 1) := dk_3_ (show cX9_loops.data.toList[93]? = some 0x03 from (LBX9_loopsr_5 13).trans (by decide +kernel))
theorem dX9_loops_94 : decode cX9_loops 94 = .ok (.ior, 1) := dk_128_ (show cX9_loops.data.toList[94]? = some 0x80 from (LBX9_loopsr_5 14).trans (by decide +kernel))
theorem dX9_loops_95 : decode cX9_loops 95 = .ok (.istore_n 1, 1) := dk_60_ (show cX9_loops.data.toList[95]? = some 0x3c from (LBX9_loopsr_5 15).trans (by decide +kernel))
theorem dX9_loops_96 : decode cX9_loops 96 = .ok (.iinc 3 1, 3) := dk_132_ (show cX9_loops.data.toList[96]? = some 0x84 from (LBX9_loopsr_6 0).trans (by decide +kernel)) (show cX9_loops.data.toList[97]? = some 0x03 from (LBX9_loopsr_6 1).trans (by decide +kernel)) (show cX9_loops.data.toList[98]? = some 0x01 from (LBX9_loopsr_6 2).trans (by decide +kernel)) (by decide) (by decide)
theorem dX9_loops_99 : decode cX9_loops 99 = .ok (.goto (-79), 3) := dk_167_ (show cX9_loops.data.toList[99]? = some 0xa7 from (LBX9_loopsr_6 3).trans (by decide +kernel)) (show cX9_loops.data.toList[100]? = some 0xff from (LBX9_loopsr_6 4).trans (by decide +kernel)) (show cX9_loops.data.toList[101]? = some 0xb1 from (LBX9_loopsr_6 5).trans (by decide +kernel)) (by decide)
theorem dX9_loops_102 : decode cX9_loops 102 = .ok (.iinc 2 1, 3) := dk_132_ (show cX9_loops.data.toList[102]? = some 0x84 from (LBX9_loopsr_6 6).trans (by decide +kernel)) (show cX9_loops.data.toList[103]? = some 0x02 from (LBX9_loopsr_6 7).trans (by decide +kernel)) (show cX9_loops.data.toList[104]? = some 0x01 from (LBX9_loopsr_6 8).trans (by decide +kernel)) (by decide) (by decide)
theorem dX9_loops_105 : decode cX9_loops 105 = .ok (.goto (-97), 3) := dk_167_ (show cX9_loops.data.toList[105]? = some 0xa7 from (LBX9_loopsr_6 9).trans (by decide +kernel)) (show cX9_loops.data.toList[106]? = some 0xff from (LBX9_loopsr_6 10).trans (by decide +kernel)) (show cX9_loops.data.toList[107]? = some 0x9f from (LBX9_loopsr_6 11).trans (by decide +kernel)) (by decide)
theorem dX9_loops_108 : decode cX9_loops 108 = .ok (.iload_n 1, 1) := dk_27_ (show cX9_loops.data.toList[108]? = some 0x1b from (LBX9_loopsr_6 12).trans (by decide +kernel))
theorem dX9_loops_109 : decode cX9_loops 109 = .ok (.ireturn, 1) := dk_172_ (show cX9_loops.data.toList[109]? = some 0xac from (LBX9_loopsr_6 13).trans (by decide +kernel))
def LRX9_longer_6 : List UInt8 := []
def LBX9_longer_5 : List UInt8 := [0x12, 0x60, 0xb6, 0x00, 0x46, 0xa7, 0x00, 0x07, 0x1d, 0x15, 0x04, 0x64, 0xac]
def LRX9_longer_5 : List UInt8 := LBX9_longer_5 ++ LRX9_longer_6
def LBX9_longer_4 : List UInt8 := [0x36, 0x04, 0x1d, 0x12, 0x68, 0x9f, 0x00, 0x0a, 0x15, 0x04, 0x12, 0x68, 0xa0, 0x00, 0x0c, 0x2a]
def LRX9_longer_4 : List UInt8 := LBX9_longer_4 ++ LRX9_longer_5
def LBX9_longer_3 : List UInt8 := [0x68, 0x1c, 0x60, 0x2e, 0x3e, 0x2a, 0xb4, 0x00, 0x16, 0x10, 0x0a, 0x1c, 0x68, 0x1b, 0x60, 0x2e]
def LRX9_longer_3 : List UInt8 := LBX9_longer_3 ++ LRX9_longer_4
def LBX9_longer_2 : List UInt8 := [0x00, 0x0a, 0x2a, 0x12, 0x74, 0xb6, 0x00, 0x46, 0xac, 0x2a, 0xb4, 0x00, 0x16, 0x10, 0x0a, 0x1b]
def LRX9_longer_2 : List UInt8 := LBX9_longer_2 ++ LRX9_longer_3
def LBX9_longer_1 : List UInt8 := [0x2a, 0x12, 0x38, 0xb6, 0x00, 0x46, 0xac, 0x2a, 0xb6, 0x00, 0x71, 0x2a, 0xb4, 0x00, 0x6d, 0x99]
def LRX9_longer_1 : List UInt8 := LBX9_longer_1 ++ LRX9_longer_2
def LBX9_longer_0 : List UInt8 := [0x2a, 0x1b, 0xb6, 0x00, 0x3d, 0x99, 0x00, 0x0b, 0x2a, 0x1c, 0xb6, 0x00, 0x3d, 0x9a, 0x00, 0x0a]
def LRX9_longer_0 : List UInt8 := LBX9_longer_0 ++ LRX9_longer_1
set_option maxRecDepth 100000 in
theorem LBX9_longer_eq : cX9_longer.data.toList = LRX9_longer_0 := by decide +kernel
theorem LBX9_longerr_0 (k : Nat) : cX9_longer.data.toList[0 + k]? = LRX9_longer_0[k]? := by rw [LBX9_longer_eq, Nat.zero_add]
theorem LBX9_longerr_1 (k : Nat) : cX9_longer.data.toList[16 + k]? = LRX9_longer_1[k]? := by
  have h := LBX9_longerr_0 (16 + k)
  rw [show 0 + (16 + k) = 16 + k by omega] at h
  rw [h]
  exact (List.getElem?_append_right (l₁ := LBX9_longer_0) (l₂ := LRX9_longer_1) (show 16 ≤ 16 + k by omega)).trans (congrArg (fun i => LRX9_longer_1[i]?) (show 16 + k - 16 = k by omega))
theorem LBX9_longerr_2 (k : Nat) : cX9_longer.data.toList[32 + k]? = LRX9_longer_2[k]? := by
  have h := LBX9_longerr_1 (16 + k)
  rw [show 16 + (16 + k) = 32 + k by omega] at h
  rw [h]
  exact (List.getElem?_append_right (l₁ := LBX9_longer_1) (l₂ := LRX9_longer_2) (show 16 ≤ 16 + k by omega)).trans (congrArg (fun i => LRX9_longer_2[i]?) (show 16 + k - 16 = k by omega))
theorem LBX9_longerr_3 (k : Nat) : cX9_longer.data.toList[48 + k]? = LRX9_longer_3[k]? := by
  have h := LBX9_longerr_2 (16 + k)
  rw [show 32 + (16 + k) = 48 + k by omega] at h
  rw [h]
  exact (List.getElem?_append_right (l₁ := LBX9_longer_2) (l₂ := LRX9_longer_3) (show 16 ≤ 16 + k by omega)).trans (congrArg (fun i => LRX9_longer_3[i]?) (show 16 + k - 16 = k by omega))
theorem LBX9_longerr_4 (k : Nat) : cX9_longer.data.toList[64 + k]? = LRX9_longer_4[k]? := by
  have h := LBX9_longerr_3 (16 + k)
  rw [show 48 + (16 + k) = 64 + k by omega] at h
  rw [h]
  exact (List.getElem?_append_right (l₁ := LBX9_longer_3) (l₂ := LRX9_longer_4) (show 16 ≤ 16 + k by omega)).trans (congrArg (fun i => LRX9_longer_4[i]?) (show 16 + k - 16 = k by omega))
theorem LBX9_longerr_5 (k : Nat) : cX9_longer.data.toList[80 + k]? = LRX9_longer_5[k]? := by
  have h := LBX9_longerr_4 (16 + k)
  rw [show 64 + (16 + k) = 80 + k by omega] at h
  rw [h]
  exact (List.getElem?_append_right (l₁ := LBX9_longer_4) (l₂ := LRX9_longer_5) (show 16 ≤ 16 + k by omega)).trans (congrArg (fun i => LRX9_longer_5[i]?) (show 16 + k - 16 = k by omega))
theorem dX9_longer_0 : decode cX9_longer 0 = .ok (.aload_n 0, 1) := dk_42_ (show cX9_longer.data.toList[0]? = some 0x2a from (LBX9_longerr_0 0).trans (by decide +kernel))
theorem dX9_longer_1 : decode cX9_longer 1 = .ok (.iload_n 1, 1) := dk_27_ (show cX9_longer.data.toList[1]? = some 0x1b from (LBX9_longerr_0 1).trans (by decide +kernel))
theorem dX9_longer_2 : decode cX9_longer 2 = .ok (.invokevirtual 61, 3) := dk_182_ (show cX9_longer.data.toList[2]? = some 0xb6 from (LBX9_longerr_0 2).trans (by decide +kernel)) (show cX9_longer.data.toList[3]? = some 0x00 from (LBX9_longerr_0 3).trans (by decide +kernel)) (show cX9_longer.data.toList[4]? = some 0x3d from (LBX9_longerr_0 4).trans (by decide +kernel)) (by decide)
theorem dX9_longer_5 : decode cX9_longer 5 = .ok (.ifCond .eq 11, 3) := dk_153_ (show cX9_longer.data.toList[5]? = some 0x99 from (LBX9_longerr_0 5).trans (by decide +kernel)) (show cX9_longer.data.toList[6]? = some 0x00 from (LBX9_longerr_0 6).trans (by decide +kernel)) (show cX9_longer.data.toList[7]? = some 0x0b from (LBX9_longerr_0 7).trans (by decide +kernel)) (by decide)
theorem dX9_longer_8 : decode cX9_longer 8 = .ok (.aload_n 0, 1) := dk_42_ (show cX9_longer.data.toList[8]? = some 0x2a from (LBX9_longerr_0 8).trans (by decide +kernel))
theorem dX9_longer_9 : decode cX9_longer 9 = .ok (.iload_n 2, 1) := dk_28_ (show cX9_longer.data.toList[9]? = some 0x1c from (LBX9_longerr_0 9).trans (by decide +kernel))
theorem dX9_longer_10 : decode cX9_longer 10 = .ok (.invokevirtual 61, 3) := dk_182_ (show cX9_longer.data.toList[10]? = some 0xb6 from (LBX9_longerr_0 10).trans (by decide +kernel)) (show cX9_longer.data.toList[11]? = some 0x00 from (LBX9_longerr_0 11).trans (by decide +kernel)) (show cX9_longer.data.toList[12]? = some 0x3d from (LBX9_longerr_0 12).trans (by decide +kernel)) (by decide)
theorem dX9_longer_13 : decode cX9_longer 13 = .ok (.ifCond .ne 10, 3) := dk_154_ (show cX9_longer.data.toList[13]? = some 0x9a from (LBX9_longerr_0 13).trans (by decide +kernel)) (show cX9_longer.data.toList[14]? = some 0x00 from (LBX9_longerr_0 14).trans (by decide +kernel)) (show cX9_longer.data.toList[15]? = some 0x0a from (LBX9_longerr_0 15).trans (by decide +kernel)) (by decide)
theorem dX9_longer_16 : decode cX9_longer 16 = .ok (.aload_n 0, 1) := dk_42_ (show cX9_longer.data.toList[16]? = some 0x2a from (LBX9_longerr_1 0).trans (by decide +kernel))
theorem dX9_longer_17 : decode cX9_longer 17 = .ok (.ldc 56, 2) := dk_18_ (show cX9_longer.data.toList[17]? = some 0x12 from (LBX9_longerr_1 1).trans (by decide +kernel)) (show cX9_longer.data.toList[18]? = some 0x38 from (LBX9_longerr_1 2).trans (by decide +kernel)) (by decide)
theorem dX9_longer_19 : decode cX9_longer 19 = .ok (.invokevirtual 70, 3) := dk_182_ (show cX9_longer.data.toList[19]? = some 0xb6 from (LBX9_longerr_1 3).trans (by decide +kernel)) (show cX9_longer.data.toList[20]? = some 0x00 from (LBX9_longerr_1 4).trans (by decide +kernel)) (show cX9_longer.data.toList[21]? = some 0x46 from (LBX9_longerr_1 5).trans (by decide +kernel)) (by decide)
theorem dX9_longer_22 : decode cX9_longer 22 = .ok (.ireturn, 1) := dk_172_ (show cX9_longer.data.toList[22]? = some 0xac from (LBX9_longerr_1 6).trans (by decide +kernel))
theorem dX9_longer_23 : decode cX9_longer 23 = .ok (.aload_n 0, 1) := dk_42_ (show cX9_longer.data.toList[23]? = some 0x2a from (LBX9_longerr_1 7).trans (by decide +kernel))
theorem dX9_longer_24 : decode cX9_longer 24 = .ok (.invokevirtual 113, 3) := dk_182_ (show cX9_longer.data.toList[24]? = some 0xb6 from (LBX9_longerr_1 8).trans (by decide +kernel)) (show cX9_longer.data.toList[25]? = some 0x00 from (LBX9_longerr_1 9).trans (by decide +kernel)) (show cX9_longer.data.toList[26]? = some 0x71 from (LBX9_longerr_1 10).trans (by decide +kernel)) (by decide)
theorem dX9_longer_27 : decode cX9_longer 27 = .ok (.aload_n 0, 1) := dk_42_ (show cX9_longer.data.toList[27]? = some 0x2a from (LBX9_longerr_1 11).trans (by decide +kernel))
theorem dX9_longer_28 : decode cX9_longer 28 = .ok (.getfield 109, 3) := dk_180_ (show cX9_longer.data.toList[28]? = some 0xb4 from (LBX9_longerr_1 12).trans (by decide +kernel)) (show cX9_longer.data.toList[29]? = some 0x00 from (LBX9_longerr_1 13).trans (by decide +kernel)) (show cX9_longer.data.toList[30]? = some 0x6d from (LBX9_longerr_1 14).trans (by decide +kernel)) (by decide)
theorem dX9_longer_31 : decode cX9_longer 31 = .ok (.ifCond .eq 10, 3) := dk_153_ (show cX9_longer.data.toList[31]? = some 0x99 from (LBX9_longerr_1 15).trans (by decide +kernel)) (show cX9_longer.data.toList[32]? = some 0x00 from (LBX9_longerr_2 0).trans (by decide +kernel)) (show cX9_longer.data.toList[33]? = some 0x0a from (LBX9_longerr_2 1).trans (by decide +kernel)) (by decide)
theorem dX9_longer_34 : decode cX9_longer 34 = .ok (.aload_n 0, 1) := dk_42_ (show cX9_longer.data.toList[34]? = some 0x2a from (LBX9_longerr_2 2).trans (by decide +kernel))
theorem dX9_longer_35 : decode cX9_longer 35 = .ok (.ldc 116, 2) := dk_18_ (show cX9_longer.data.toList[35]? = some 0x12 from (LBX9_longerr_2 3).trans (by decide +kernel)) (show cX9_longer.data.toList[36]? = some 0x74 from (LBX9_longerr_2 4).trans (by decide +kernel)) (by decide)
theorem dX9_longer_37 : decode cX9_longer 37 = .ok (.invokevirtual 70, 3) := dk_182_ (show cX9_longer.data.toList[37]? = some 0xb6 from (LBX9_longerr_2 5).trans (by decide +kernel)) (show cX9_longer.data.toList[38]? = some 0x00 from (LBX9_longerr_2 6).trans (by decide +kernel)) (show cX9_longer.data.toList[39]? = some 0x46 from (LBX9_longerr_2 7).trans (by decide +kernel)) (by decide)
theorem dX9_longer_40 : decode cX9_longer 40 = .ok (.ireturn, 1) := dk_172_ (show cX9_longer.data.toList[40]? = some 0xac from (LBX9_longerr_2 8).trans (by decide +kernel))
theorem dX9_longer_41 : decode cX9_longer 41 = .ok (.aload_n 0, 1) := dk_42_ (show cX9_longer.data.toList[41]? = some 0x2a from (LBX9_longerr_2 9).trans (by decide +kernel))
theorem dX9_longer_42 : decode cX9_longer 42 = .ok (.getfield 22, 3) := dk_180_ (show cX9_longer.data.toList[42]? = some 0xb4 from (LBX9_longerr_2 10).trans (by decide +kernel)) (show cX9_longer.data.toList[43]? = some 0x00 from (LBX9_longerr_2 11).trans (by decide +kernel)) (show cX9_longer.data.toList[44]? = some 0x16 from (LBX9_longerr_2 12).trans (by decide +kernel)) (by decide)
theorem dX9_longer_45 : decode cX9_longer 45 = .ok (.bipush 10, 2) := dk_16_ (show cX9_longer.data.toList[45]? = some 0x10 from (LBX9_longerr_2 13).trans (by decide +kernel)) (show cX9_longer.data.toList[46]? = some 0x0a from (LBX9_longerr_2 14).trans (by decide +kernel)) (by decide)
theorem dX9_longer_47 : decode cX9_longer 47 = .ok (.iload_n 1, 1) := dk_27_ (show cX9_longer.data.toList[47]? = some 0x1b from (LBX9_longerr_2 15).trans (by decide +kernel))
theorem dX9_longer_48 : decode cX9_longer 48 = .ok (.imul, 1) := dk_104_ (show cX9_longer.data.toList[48]? = some 0x68 from (LBX9_longerr_3 0).trans (by decide +kernel))
theorem dX9_longer_49 : decode cX9_longer 49 = .ok (.iload_n 2, 1) := dk_28_ (show cX9_longer.data.toList[49]? = some 0x1c from (LBX9_longerr_3 1).trans (by decide +kernel))
theorem dX9_longer_50 : decode cX9_longer 50 = .ok (.iadd, 1) := dk_96_ (show cX9_longer.data.toList[50]? = some 0x60 from (LBX9_longerr_3 2).trans (by decide +kernel))
theorem dX9_longer_51 : decode cX9_longer 51 = .ok (.iaload, 1) := dk_46_ (show cX9_longer.data.toList[51]? = some 0x2e from (LBX9_longerr_3 3).trans (by decide +kernel))
theorem dX9_longer_52 : decode cX9_longer 52 = .ok (.istore_n 3, 1) := dk_62_ (show cX9_longer.data.toList[52]? = some 0x3e from (LBX9_longerr_3 4).trans (by decide +kernel))
theorem dX9_longer_53 : decode cX9_longer 53 = .ok (.aload_n 0, 1) := dk_42_ (show cX9_longer.data.toList[53]? = some 0x2a from (LBX9_longerr_3 5).trans (by decide +kernel))
theorem dX9_longer_54 : decode cX9_longer 54 = .ok (.getfield 22, 3) := dk_180_ (show cX9_longer.data.toList[54]? = some 0xb4 from (LBX9_longerr_3 6).trans (by decide +kernel)) (show cX9_longer.data.toList[55]? = some 0x00 from (LBX9_longerr_3 7).trans (by decide +kernel)) (show cX9_longer.data.toList[56]? = some 0x16 from (LBX9_longerr_3 8).trans (by decide +kernel)) (by decide)
theorem dX9_longer_57 : decode cX9_longer 57 = .ok (.bipush 10, 2) := dk_16_ (show cX9_longer.data.toList[57]? = some 0x10 from (LBX9_longerr_3 9).trans (by decide +kernel)) (show cX9_longer.data.toList[58]? = some 0x0a from (LBX9_longerr_3 10).trans (by decide +kernel)) (by decide)
theorem dX9_longer_59 : decode cX9_longer 59 = .ok (.iload_n 2, 1) := dk_28_ (show cX9_longer.data.toList[59]? = some 0x1c from (LBX9_longerr_3 11).trans (by decide +kernel))
theorem dX9_longer_60 : decode cX9_longer 60 = .ok (.imul, 1) := dk_104_ (show cX9_longer.data.toList[60]? = some 0x68 from (LBX9_longerr_3 12).trans (by decide +kernel))
theorem dX9_longer_61 : decode cX9_longer 61 = .ok (.iload_n 1, 1) := dk_27_ (show cX9_longer.data.toList[61]? = some 0x1b from (LBX9_longerr_3 13).trans (by decide +kernel))
theorem dX9_longer_62 : decode cX9_longer 62 = .ok (.iadd, 1) := dk_96_ (show cX9_longer.data.toList[62]? = some 0x60 from (LBX9_longerr_3 14).trans (by decide +kernel))
theorem dX9_longer_63 : decode cX9_longer 63 = .ok (.iaload, 1) := dk_46_ (show cX9_longer.data.toList[63]? = some 0x2e from (LBX9_longerr_3 15).trans (by decide +kernel))
theorem dX9_longer_64 : decode cX9_longer 64 = .ok (.istore 4, 2) := dk_54_ (show cX9_longer.data.toList[64]? = some 0x36 from (LBX9_longerr_4 0).trans (by decide +kernel)) (show cX9_longer.data.toList[65]? = some 0x04 from (LBX9_longerr_4 1).trans (by decide +kernel)) (by decide)
theorem dX9_longer_66 : decode cX9_longer 66 = .ok (.iload_n 3, 1) := dk_29_ (show cX9_longer.data.toList[66]? = some 0x1d from (LBX9_longerr_4 2).trans (by decide +kernel))
theorem dX9_longer_67 : decode cX9_longer 67 = .ok (.ldc 104, 2) := dk_18_ (show cX9_longer.data.toList[67]? = some 0x12 from (LBX9_longerr_4 3).trans (by decide +kernel)) (show cX9_longer.data.toList[68]? = some 0x68 from (LBX9_longerr_4 4).trans (by decide +kernel)) (by decide)
theorem dX9_longer_69 : decode cX9_longer 69 = .ok (.if_icmp .eq 10, 3) := dk_159_ (show cX9_longer.data.toList[69]? = some 0x9f from (LBX9_longerr_4 5).trans (by decide +kernel)) (show cX9_longer.data.toList[70]? = some 0x00 from (LBX9_longerr_4 6).trans (by decide +kernel)) (show cX9_longer.data.toList[71]? = some 0x0a from (LBX9_longerr_4 7).trans (by decide +kernel)) (by decide)
theorem dX9_longer_72 : decode cX9_longer 72 = .ok (.iload 4, 2) := dk_21_ (show cX9_longer.data.toList[72]? = some 0x15 from (LBX9_longerr_4 8).trans (by decide +kernel)) (show cX9_longer.data.toList[73]? = some 0x04 from (LBX9_longerr_4 9).trans (by decide +kernel)) (by decide)
theorem dX9_longer_74 : decode cX9_longer 74 = .ok (.ldc 104, 2) := dk_18_ (show cX9_longer.data.toList[74]? = some 0x12 from (LBX9_longerr_4 10).trans (by decide +kernel)) (show cX9_longer.data.toList[75]? = some 0x68 from (LBX9_longerr_4 11).trans (by decide +kernel)) (by decide)
theorem dX9_longer_76 : decode cX9_longer 76 = .ok (.if_icmp .ne 12, 3) := dk_160_ (show cX9_longer.data.toList[76]? = some 0xa0 from (LBX9_longerr_4 12).trans (by decide +kernel)) (show cX9_longer.data.toList[77]? = some 0x00 from (LBX9_longerr_4 13).trans (by decide +kernel)) (show cX9_longer.data.toList[78]? = some 0x0c from (LBX9_longerr_4 14).trans (by decide +kernel)) (by decide)
theorem dX9_longer_79 : decode cX9_longer 79 = .ok (.aload_n 0, 1) := dk_42_ (show cX9_longer.data.toList[79]? = some 0x2a from (LBX9_longerr_4 15).trans (by decide +kernel))
theorem dX9_longer_80 : decode cX9_longer 80 = .ok (.ldc 96, 2) := dk_18_ (show cX9_longer.data.toList[80]? = some 0x12 from (LBX9_longerr_5 0).trans (by decide +kernel)) (show cX9_longer.data.toList[81]? = some 0x60 from (LBX9_longerr_5 1).trans (by decide +kernel)) (by decide)
theorem dX9_longer_82 : decode cX9_longer 82 = .ok (.invokevirtual 70, 3) := dk_182_ (show cX9_longer.data.toList[82]? = some 0xb6 from (LBX9_longerr_5 2).trans (by decide +kernel)) (show cX9_longer.data.toList[83]? = some 0x00 from (LBX9_longerr_5 3).trans (by decide +kernel)) (show cX9_longer.data.toList[84]? = some 0x46 from (LBX9_longerr_5 4).trans (by decide +kernel)) (by decide)
theorem dX9_longer_85 : decode cX9_longer 85 = .ok (.goto 7, 3) := dk_167_ (show cX9_longer.data.toList[85]? = some 0xa7 from (LBX9_longerr_5 5).trans (by decide +kernel)) (show cX9_longer.data.toList[86]? = some 0x00 from (LBX9_longerr_5 6).trans (by decide +kernel)) (show cX9_longer.data.toList[87]? = some 0x07 from (LBX9_longerr_5 7).trans (by decide +kernel)) (by decide)
theorem dX9_longer_88 : decode cX9_longer 88 = .ok (.iload_n 3, 1) := dk_29_ (show cX9_longer.data.toList[88]? = some 0x1d from (LBX9_longerr_5 8).trans (by decide +kernel))
theorem dX9_longer_89 : decode cX9_longer 89 = .ok (.iload 4, 2) := dk_21_ (show cX9_longer.data.toList[89]? = some 0x15 from (LBX9_longerr_5 9).trans (by decide +kernel)) (show cX9_longer.data.toList[90]? = some 0x04 from (LBX9_longerr_5 10).trans (by decide +kernel)) (by decide)
theorem dX9_longer_91 : decode cX9_longer 91 = .ok (.isub, 1) := dk_100_ (show cX9_longer.data.toList[91]? = some 0x64 from (LBX9_longerr_5 11).trans (by decide +kernel))
theorem dX9_longer_92 : decode cX9_longer 92 = .ok (.ireturn, 1) := dk_172_ (show cX9_longer.data.toList[92]? = some 0xac from (LBX9_longerr_5 12).trans (by decide +kernel))
theorem dX9_of_0 : decode cX9_of 0 = .ok (.aload_n 0, 1) := dk_42_ (show cX9_of.data.toList[0]? = some 0x2a from by decide +kernel)
theorem dX9_of_1 : decode cX9_of 1 = .ok (.getfield 7, 3) := dk_180_ (show cX9_of.data.toList[1]? = some 0xb4 from by decide +kernel) (show cX9_of.data.toList[2]? = some 0x00 from by decide +kernel) (show cX9_of.data.toList[3]? = some 0x07 from by decide +kernel) (by decide)
theorem dX9_of_4 : decode cX9_of 4 = .ok (.sipush 313, 3) := dk_17_ (show cX9_of.data.toList[4]? = some 0x11 from by decide +kernel) (show cX9_of.data.toList[5]? = some 0x01 from by decide +kernel) (show cX9_of.data.toList[6]? = some 0x39 from by decide +kernel) (by decide)
theorem dX9_of_7 : decode cX9_of 7 = .ok (.bipush 8, 2) := dk_16_ (show cX9_of.data.toList[7]? = some 0x10 from by decide +kernel) (show cX9_of.data.toList[8]? = some 0x08 from by decide +kernel) (by decide)
theorem dX9_of_9 : decode cX9_of 9 = .ok (.iload_n 1, 1) := dk_27_ (show cX9_of.data.toList[9]? = some 0x1b from by decide +kernel)
theorem dX9_of_10 : decode cX9_of 10 = .ok (.imul, 1) := dk_104_ (show cX9_of.data.toList[10]? = some 0x68 from by decide +kernel)
theorem dX9_of_11 : decode cX9_of 11 = .ok (.iadd, 1) := dk_96_ (show cX9_of.data.toList[11]? = some 0x60 from by decide +kernel)
theorem dX9_of_12 : decode cX9_of 12 = .ok (.iload_n 2, 1) := dk_28_ (show cX9_of.data.toList[12]? = some 0x1c from by decide +kernel)
theorem dX9_of_13 : decode cX9_of 13 = .ok (.iadd, 1) := dk_96_ (show cX9_of.data.toList[13]? = some 0x60 from by decide +kernel)
theorem dX9_of_14 : decode cX9_of 14 = .ok (.iaload, 1) := dk_46_ (show cX9_of.data.toList[14]? = some 0x2e from by decide +kernel)
theorem dX9_of_15 : decode cX9_of 15 = .ok (.ireturn, 1) := dk_172_ (show cX9_of.data.toList[15]? = some 0xac from by decide +kernel)
def LRX9_round_7 : List UInt8 := []
def LBX9_round_6 : List UInt8 := [0x00, 0x07, 0x04, 0x2e, 0x04, 0x64, 0xac]
def LRX9_round_6 : List UInt8 := LBX9_round_6 ++ LRX9_round_7
def LBX9_round_5 : List UInt8 := [0x05, 0x60, 0x1c, 0x4f, 0x2a, 0xb4, 0x00, 0x07, 0x04, 0x5c, 0x2e, 0x04, 0x60, 0x4f, 0x2a, 0xb4]
def LRX9_round_5 : List UInt8 := LBX9_round_5 ++ LRX9_round_6
def LBX9_round_4 : List UInt8 := [0x1b, 0x4f, 0x2a, 0xb4, 0x00, 0x07, 0x1d, 0x04, 0x60, 0x04, 0x4f, 0x2a, 0xb4, 0x00, 0x07, 0x1d]
def LRX9_round_4 : List UInt8 := LBX9_round_4 ++ LRX9_round_5
def LBX9_round_3 : List UInt8 := [0x10, 0x08, 0x2a, 0xb4, 0x00, 0x07, 0x04, 0x2e, 0x68, 0x60, 0x3e, 0x2a, 0xb4, 0x00, 0x07, 0x1d]
def LRX9_round_3 : List UInt8 := LBX9_round_3 ++ LRX9_round_4
def LBX9_round_2 : List UInt8 := [0x2e, 0x10, 0x08, 0xa0, 0x00, 0x0a, 0x2a, 0x12, 0x45, 0xb6, 0x00, 0x46, 0xac, 0x11, 0x01, 0x39]
def LRX9_round_2 : List UInt8 := LBX9_round_2 ++ LRX9_round_3
def LBX9_round_1 : List UInt8 := [0x3d, 0x9a, 0x00, 0x0a, 0x2a, 0x12, 0x38, 0xb6, 0x00, 0x46, 0xac, 0x2a, 0xb4, 0x00, 0x07, 0x04]
def LRX9_round_1 : List UInt8 := LBX9_round_1 ++ LRX9_round_2
def LBX9_round_0 : List UInt8 := [0x1b, 0x85, 0x09, 0x14, 0x00, 0x79, 0xb8, 0x00, 0x39, 0x99, 0x00, 0x0b, 0x2a, 0x1c, 0xb6, 0x00]
def LRX9_round_0 : List UInt8 := LBX9_round_0 ++ LRX9_round_1
set_option maxRecDepth 100000 in
theorem LBX9_round_eq : cX9_round.data.toList = LRX9_round_0 := by decide +kernel
theorem LBX9_roundr_0 (k : Nat) : cX9_round.data.toList[0 + k]? = LRX9_round_0[k]? := by rw [LBX9_round_eq, Nat.zero_add]
theorem LBX9_roundr_1 (k : Nat) : cX9_round.data.toList[16 + k]? = LRX9_round_1[k]? := by
  have h := LBX9_roundr_0 (16 + k)
  rw [show 0 + (16 + k) = 16 + k by omega] at h
  rw [h]
  exact (List.getElem?_append_right (l₁ := LBX9_round_0) (l₂ := LRX9_round_1) (show 16 ≤ 16 + k by omega)).trans (congrArg (fun i => LRX9_round_1[i]?) (show 16 + k - 16 = k by omega))
theorem LBX9_roundr_2 (k : Nat) : cX9_round.data.toList[32 + k]? = LRX9_round_2[k]? := by
  have h := LBX9_roundr_1 (16 + k)
  rw [show 16 + (16 + k) = 32 + k by omega] at h
  rw [h]
  exact (List.getElem?_append_right (l₁ := LBX9_round_1) (l₂ := LRX9_round_2) (show 16 ≤ 16 + k by omega)).trans (congrArg (fun i => LRX9_round_2[i]?) (show 16 + k - 16 = k by omega))
theorem LBX9_roundr_3 (k : Nat) : cX9_round.data.toList[48 + k]? = LRX9_round_3[k]? := by
  have h := LBX9_roundr_2 (16 + k)
  rw [show 32 + (16 + k) = 48 + k by omega] at h
  rw [h]
  exact (List.getElem?_append_right (l₁ := LBX9_round_2) (l₂ := LRX9_round_3) (show 16 ≤ 16 + k by omega)).trans (congrArg (fun i => LRX9_round_3[i]?) (show 16 + k - 16 = k by omega))
theorem LBX9_roundr_4 (k : Nat) : cX9_round.data.toList[64 + k]? = LRX9_round_4[k]? := by
  have h := LBX9_roundr_3 (16 + k)
  rw [show 48 + (16 + k) = 64 + k by omega] at h
  rw [h]
  exact (List.getElem?_append_right (l₁ := LBX9_round_3) (l₂ := LRX9_round_4) (show 16 ≤ 16 + k by omega)).trans (congrArg (fun i => LRX9_round_4[i]?) (show 16 + k - 16 = k by omega))
theorem LBX9_roundr_5 (k : Nat) : cX9_round.data.toList[80 + k]? = LRX9_round_5[k]? := by
  have h := LBX9_roundr_4 (16 + k)
  rw [show 64 + (16 + k) = 80 + k by omega] at h
  rw [h]
  exact (List.getElem?_append_right (l₁ := LBX9_round_4) (l₂ := LRX9_round_5) (show 16 ≤ 16 + k by omega)).trans (congrArg (fun i => LRX9_round_5[i]?) (show 16 + k - 16 = k by omega))
theorem LBX9_roundr_6 (k : Nat) : cX9_round.data.toList[96 + k]? = LRX9_round_6[k]? := by
  have h := LBX9_roundr_5 (16 + k)
  rw [show 80 + (16 + k) = 96 + k by omega] at h
  rw [h]
  exact (List.getElem?_append_right (l₁ := LBX9_round_5) (l₂ := LRX9_round_6) (show 16 ≤ 16 + k by omega)).trans (congrArg (fun i => LRX9_round_6[i]?) (show 16 + k - 16 = k by omega))
theorem dX9_round_0 : decode cX9_round 0 = .ok (.iload_n 1, 1) := dk_27_ (show cX9_round.data.toList[0]? = some 0x1b from (LBX9_roundr_0 0).trans (by decide +kernel))
theorem dX9_round_1 : decode cX9_round 1 = .ok (.i2l, 1) := dk_133_ (show cX9_round.data.toList[1]? = some 0x85 from (LBX9_roundr_0 1).trans (by decide +kernel))
theorem dX9_round_2 : decode cX9_round 2 = .ok (.lconst 0, 1) := dk_9_ (show cX9_round.data.toList[2]? = some 0x09 from (LBX9_roundr_0 2).trans (by decide +kernel))
theorem dX9_round_3 : decode cX9_round 3 = .ok (.ldc2_w 121, 3) := dk_20_ (show cX9_round.data.toList[3]? = some 0x14 from (LBX9_roundr_0 3).trans (by decide +kernel)) (show cX9_round.data.toList[4]? = some 0x00 from (LBX9_roundr_0 4).trans (by decide +kernel)) (show cX9_round.data.toList[5]? = some 0x79 from (LBX9_roundr_0 5).trans (by decide +kernel)) (by decide)
theorem dX9_round_6 : decode cX9_round 6 = .ok (.invokestatic 57, 3) := dk_184_ (show cX9_round.data.toList[6]? = some 0xb8 from (LBX9_roundr_0 6).trans (by decide +kernel)) (show cX9_round.data.toList[7]? = some 0x00 from (LBX9_roundr_0 7).trans (by decide +kernel)) (show cX9_round.data.toList[8]? = some 0x39 from (LBX9_roundr_0 8).trans (by decide +kernel)) (by decide)
theorem dX9_round_9 : decode cX9_round 9 = .ok (.ifCond .eq 11, 3) := dk_153_ (show cX9_round.data.toList[9]? = some 0x99 from (LBX9_roundr_0 9).trans (by decide +kernel)) (show cX9_round.data.toList[10]? = some 0x00 from (LBX9_roundr_0 10).trans (by decide +kernel)) (show cX9_round.data.toList[11]? = some 0x0b from (LBX9_roundr_0 11).trans (by decide +kernel)) (by decide)
theorem dX9_round_12 : decode cX9_round 12 = .ok (.aload_n 0, 1) := dk_42_ (show cX9_round.data.toList[12]? = some 0x2a from (LBX9_roundr_0 12).trans (by decide +kernel))
theorem dX9_round_13 : decode cX9_round 13 = .ok (.iload_n 2, 1) := dk_28_ (show cX9_round.data.toList[13]? = some 0x1c from (LBX9_roundr_0 13).trans (by decide +kernel))
theorem dX9_round_14 : decode cX9_round 14 = .ok (.invokevirtual 61, 3) := dk_182_ (show cX9_round.data.toList[14]? = some 0xb6 from (LBX9_roundr_0 14).trans (by decide +kernel)) (show cX9_round.data.toList[15]? = some 0x00 from (LBX9_roundr_0 15).trans (by decide +kernel)) (show cX9_round.data.toList[16]? = some 0x3d from (LBX9_roundr_1 0).trans (by decide +kernel)) (by decide)
theorem dX9_round_17 : decode cX9_round 17 = .ok (.ifCond .ne 10, 3) := dk_154_ (show cX9_round.data.toList[17]? = some 0x9a from (LBX9_roundr_1 1).trans (by decide +kernel)) (show cX9_round.data.toList[18]? = some 0x00 from (LBX9_roundr_1 2).trans (by decide +kernel)) (show cX9_round.data.toList[19]? = some 0x0a from (LBX9_roundr_1 3).trans (by decide +kernel)) (by decide)
theorem dX9_round_20 : decode cX9_round 20 = .ok (.aload_n 0, 1) := dk_42_ (show cX9_round.data.toList[20]? = some 0x2a from (LBX9_roundr_1 4).trans (by decide +kernel))
theorem dX9_round_21 : decode cX9_round 21 = .ok (.ldc 56, 2) := dk_18_ (show cX9_round.data.toList[21]? = some 0x12 from (LBX9_roundr_1 5).trans (by decide +kernel)) (show cX9_round.data.toList[22]? = some 0x38 from (LBX9_roundr_1 6).trans (by decide +kernel)) (by decide)
theorem dX9_round_23 : decode cX9_round 23 = .ok (.invokevirtual 70, 3) := dk_182_ (show cX9_round.data.toList[23]? = some 0xb6 from (LBX9_roundr_1 7).trans (by decide +kernel)) (show cX9_round.data.toList[24]? = some 0x00 from (LBX9_roundr_1 8).trans (by decide +kernel)) (show cX9_round.data.toList[25]? = some 0x46 from (LBX9_roundr_1 9).trans (by decide +kernel)) (by decide)
theorem dX9_round_26 : decode cX9_round 26 = .ok (.ireturn, 1) := dk_172_ (show cX9_round.data.toList[26]? = some 0xac from (LBX9_roundr_1 10).trans (by decide +kernel))
theorem dX9_round_27 : decode cX9_round 27 = .ok (.aload_n 0, 1) := dk_42_ (show cX9_round.data.toList[27]? = some 0x2a from (LBX9_roundr_1 11).trans (by decide +kernel))
theorem dX9_round_28 : decode cX9_round 28 = .ok (.getfield 7, 3) := dk_180_ (show cX9_round.data.toList[28]? = some 0xb4 from (LBX9_roundr_1 12).trans (by decide +kernel)) (show cX9_round.data.toList[29]? = some 0x00 from (LBX9_roundr_1 13).trans (by decide +kernel)) (show cX9_round.data.toList[30]? = some 0x07 from (LBX9_roundr_1 14).trans (by decide +kernel)) (by decide)
theorem dX9_round_31 : decode cX9_round 31 = .ok (.iconst 1, 1) := dk_4_ (show cX9_round.data.toList[31]? = some 0x04 from (LBX9_roundr_1 15).trans (by decide +kernel))
theorem dX9_round_32 : decode cX9_round 32 = .ok (.iaload, 1) := dk_46_ (show cX9_round.data.toList[32]? = some 0x2e from (LBX9_roundr_2 0).trans (by decide +kernel))
theorem dX9_round_33 : decode cX9_round 33 = .ok (.bipush 8, 2) := dk_16_ (show cX9_round.data.toList[33]? = some 0x10 from (LBX9_roundr_2 1).trans (by decide +kernel)) (show cX9_round.data.toList[34]? = some 0x08 from (LBX9_roundr_2 2).trans (by decide +kernel)) (by decide)
theorem dX9_round_35 : decode cX9_round 35 = .ok (.if_icmp .ne 10, 3) := dk_160_ (show cX9_round.data.toList[35]? = some 0xa0 from (LBX9_roundr_2 3).trans (by decide +kernel)) (show cX9_round.data.toList[36]? = some 0x00 from (LBX9_roundr_2 4).trans (by decide +kernel)) (show cX9_round.data.toList[37]? = some 0x0a from (LBX9_roundr_2 5).trans (by decide +kernel)) (by decide)
theorem dX9_round_38 : decode cX9_round 38 = .ok (.aload_n 0, 1) := dk_42_ (show cX9_round.data.toList[38]? = some 0x2a from (LBX9_roundr_2 6).trans (by decide +kernel))
theorem dX9_round_39 : decode cX9_round 39 = .ok (.ldc 69, 2) := dk_18_ (show cX9_round.data.toList[39]? = some 0x12 from (LBX9_roundr_2 7).trans (by decide +kernel)) (show cX9_round.data.toList[40]? = some 0x45 from (LBX9_roundr_2 8).trans (by decide +kernel)) (by decide)
theorem dX9_round_41 : decode cX9_round 41 = .ok (.invokevirtual 70, 3) := dk_182_ (show cX9_round.data.toList[41]? = some 0xb6 from (LBX9_roundr_2 9).trans (by decide +kernel)) (show cX9_round.data.toList[42]? = some 0x00 from (LBX9_roundr_2 10).trans (by decide +kernel)) (show cX9_round.data.toList[43]? = some 0x46 from (LBX9_roundr_2 11).trans (by decide +kernel)) (by decide)
theorem dX9_round_44 : decode cX9_round 44 = .ok (.ireturn, 1) := dk_172_ (show cX9_round.data.toList[44]? = some 0xac from (LBX9_roundr_2 12).trans (by decide +kernel))
theorem dX9_round_45 : decode cX9_round 45 = .ok (.sipush 313, 3) := dk_17_ (show cX9_round.data.toList[45]? = some 0x11 from (LBX9_roundr_2 13).trans (by decide +kernel)) (show cX9_round.data.toList[46]? = some 0x01 from (LBX9_roundr_2 14).trans (by decide +kernel)) (show cX9_round.data.toList[47]? = some 0x39 from (LBX9_roundr_2 15).trans (by decide +kernel)) (by decide)
theorem dX9_round_48 : decode cX9_round 48 = .ok (.bipush 8, 2) := dk_16_ (show cX9_round.data.toList[48]? = some 0x10 from (LBX9_roundr_3 0).trans (by decide +kernel)) (show cX9_round.data.toList[49]? = some 0x08 from (LBX9_roundr_3 1).trans (by decide +kernel)) (by decide)
theorem dX9_round_50 : decode cX9_round 50 = .ok (.aload_n 0, 1) := dk_42_ (show cX9_round.data.toList[50]? = some 0x2a from (LBX9_roundr_3 2).trans (by decide +kernel))
theorem dX9_round_51 : decode cX9_round 51 = .ok (.getfield 7, 3) := dk_180_ (show cX9_round.data.toList[51]? = some 0xb4 from (LBX9_roundr_3 3).trans (by decide +kernel)) (show cX9_round.data.toList[52]? = some 0x00 from (LBX9_roundr_3 4).trans (by decide +kernel)) (show cX9_round.data.toList[53]? = some 0x07 from (LBX9_roundr_3 5).trans (by decide +kernel)) (by decide)
theorem dX9_round_54 : decode cX9_round 54 = .ok (.iconst 1, 1) := dk_4_ (show cX9_round.data.toList[54]? = some 0x04 from (LBX9_roundr_3 6).trans (by decide +kernel))
theorem dX9_round_55 : decode cX9_round 55 = .ok (.iaload, 1) := dk_46_ (show cX9_round.data.toList[55]? = some 0x2e from (LBX9_roundr_3 7).trans (by decide +kernel))
theorem dX9_round_56 : decode cX9_round 56 = .ok (.imul, 1) := dk_104_ (show cX9_round.data.toList[56]? = some 0x68 from (LBX9_roundr_3 8).trans (by decide +kernel))
theorem dX9_round_57 : decode cX9_round 57 = .ok (.iadd, 1) := dk_96_ (show cX9_round.data.toList[57]? = some 0x60 from (LBX9_roundr_3 9).trans (by decide +kernel))
theorem dX9_round_58 : decode cX9_round 58 = .ok (.istore_n 3, 1) := dk_62_ (show cX9_round.data.toList[58]? = some 0x3e from (LBX9_roundr_3 10).trans (by decide +kernel))
theorem dX9_round_59 : decode cX9_round 59 = .ok (.aload_n 0, 1) := dk_42_ (show cX9_round.data.toList[59]? = some 0x2a from (LBX9_roundr_3 11).trans (by decide +kernel))
theorem dX9_round_60 : decode cX9_round 60 = .ok (.getfield 7, 3) := dk_180_ (show cX9_round.data.toList[60]? = some 0xb4 from (LBX9_roundr_3 12).trans (by decide +kernel)) (show cX9_round.data.toList[61]? = some 0x00 from (LBX9_roundr_3 13).trans (by decide +kernel)) (show cX9_round.data.toList[62]? = some 0x07 from (LBX9_roundr_3 14).trans (by decide +kernel)) (by decide)
theorem dX9_round_63 : decode cX9_round 63 = .ok (.iload_n 3, 1) := dk_29_ (show cX9_round.data.toList[63]? = some 0x1d from (LBX9_roundr_3 15).trans (by decide +kernel))
theorem dX9_round_64 : decode cX9_round 64 = .ok (.iload_n 1, 1) := dk_27_ (show cX9_round.data.toList[64]? = some 0x1b from (LBX9_roundr_4 0).trans (by decide +kernel))
theorem dX9_round_65 : decode cX9_round 65 = .ok (.iastore, 1) := dk_79_ (show cX9_round.data.toList[65]? = some 0x4f from (LBX9_roundr_4 1).trans (by decide +kernel))
theorem dX9_round_66 : decode cX9_round 66 = .ok (.aload_n 0, 1) := dk_42_ (show cX9_round.data.toList[66]? = some 0x2a from (LBX9_roundr_4 2).trans (by decide +kernel))
theorem dX9_round_67 : decode cX9_round 67 = .ok (.getfield 7, 3) := dk_180_ (show cX9_round.data.toList[67]? = some 0xb4 from (LBX9_roundr_4 3).trans (by decide +kernel)) (show cX9_round.data.toList[68]? = some 0x00 from (LBX9_roundr_4 4).trans (by decide +kernel)) (show cX9_round.data.toList[69]? = some 0x07 from (LBX9_roundr_4 5).trans (by decide +kernel)) (by decide)
theorem dX9_round_70 : decode cX9_round 70 = .ok (.iload_n 3, 1) := dk_29_ (show cX9_round.data.toList[70]? = some 0x1d from (LBX9_roundr_4 6).trans (by decide +kernel))
theorem dX9_round_71 : decode cX9_round 71 = .ok (.iconst 1, 1) := dk_4_ (show cX9_round.data.toList[71]? = some 0x04 from (LBX9_roundr_4 7).trans (by decide +kernel))
theorem dX9_round_72 : decode cX9_round 72 = .ok (.iadd, 1) := dk_96_ (show cX9_round.data.toList[72]? = some 0x60 from (LBX9_roundr_4 8).trans (by decide +kernel))
theorem dX9_round_73 : decode cX9_round 73 = .ok (.iconst 1, 1) := dk_4_ (show cX9_round.data.toList[73]? = some 0x04 from (LBX9_roundr_4 9).trans (by decide +kernel))
theorem dX9_round_74 : decode cX9_round 74 = .ok (.iastore, 1) := dk_79_ (show cX9_round.data.toList[74]? = some 0x4f from (LBX9_roundr_4 10).trans (by decide +kernel))
theorem dX9_round_75 : decode cX9_round 75 = .ok (.aload_n 0, 1) := dk_42_ (show cX9_round.data.toList[75]? = some 0x2a from (LBX9_roundr_4 11).trans (by decide +kernel))
theorem dX9_round_76 : decode cX9_round 76 = .ok (.getfield 7, 3) := dk_180_ (show cX9_round.data.toList[76]? = some 0xb4 from (LBX9_roundr_4 12).trans (by decide +kernel)) (show cX9_round.data.toList[77]? = some 0x00 from (LBX9_roundr_4 13).trans (by decide +kernel)) (show cX9_round.data.toList[78]? = some 0x07 from (LBX9_roundr_4 14).trans (by decide +kernel)) (by decide)
theorem dX9_round_79 : decode cX9_round 79 = .ok (.iload_n 3, 1) := dk_29_ (show cX9_round.data.toList[79]? = some 0x1d from (LBX9_roundr_4 15).trans (by decide +kernel))
theorem dX9_round_80 : decode cX9_round 80 = .ok (.iconst 2, 1) := dk_5_ (show cX9_round.data.toList[80]? = some 0x05 from (LBX9_roundr_5 0).trans (by decide +kernel))
theorem dX9_round_81 : decode cX9_round 81 = .ok (.iadd, 1) := dk_96_ (show cX9_round.data.toList[81]? = some 0x60 from (LBX9_roundr_5 1).trans (by decide +kernel))
theorem dX9_round_82 : decode cX9_round 82 = .ok (.iload_n 2, 1) := dk_28_ (show cX9_round.data.toList[82]? = some 0x1c from (LBX9_roundr_5 2).trans (by decide +kernel))
theorem dX9_round_83 : decode cX9_round 83 = .ok (.iastore, 1) := dk_79_ (show cX9_round.data.toList[83]? = some 0x4f from (LBX9_roundr_5 3).trans (by decide +kernel))
theorem dX9_round_84 : decode cX9_round 84 = .ok (.aload_n 0, 1) := dk_42_ (show cX9_round.data.toList[84]? = some 0x2a from (LBX9_roundr_5 4).trans (by decide +kernel))
theorem dX9_round_85 : decode cX9_round 85 = .ok (.getfield 7, 3) := dk_180_ (show cX9_round.data.toList[85]? = some 0xb4 from (LBX9_roundr_5 5).trans (by decide +kernel)) (show cX9_round.data.toList[86]? = some 0x00 from (LBX9_roundr_5 6).trans (by decide +kernel)) (show cX9_round.data.toList[87]? = some 0x07 from (LBX9_roundr_5 7).trans (by decide +kernel)) (by decide)
theorem dX9_round_88 : decode cX9_round 88 = .ok (.iconst 1, 1) := dk_4_ (show cX9_round.data.toList[88]? = some 0x04 from (LBX9_roundr_5 8).trans (by decide +kernel))
theorem dX9_round_89 : decode cX9_round 89 = .ok (.dup2, 1) := dk_92_ (show cX9_round.data.toList[89]? = some 0x5c from (LBX9_roundr_5 9).trans (by decide +kernel))
theorem dX9_round_90 : decode cX9_round 90 = .ok (.iaload, 1) := dk_46_ (show cX9_round.data.toList[90]? = some 0x2e from (LBX9_roundr_5 10).trans (by decide +kernel))
theorem dX9_round_91 : decode cX9_round 91 = .ok (.iconst 1, 1) := dk_4_ (show cX9_round.data.toList[91]? = some 0x04 from (LBX9_roundr_5 11).trans (by decide +kernel))
theorem dX9_round_92 : decode cX9_round 92 = .ok (.iadd, 1) := dk_96_ (show cX9_round.data.toList[92]? = some 0x60 from (LBX9_roundr_5 12).trans (by decide +kernel))
theorem dX9_round_93 : decode cX9_round 93 = .ok (.iastore, 1) := dk_79_ (show cX9_round.data.toList[93]? = some 0x4f from (LBX9_roundr_5 13).trans (by decide +kernel))
theorem dX9_round_94 : decode cX9_round 94 = .ok (.aload_n 0, 1) := dk_42_ (show cX9_round.data.toList[94]? = some 0x2a from (LBX9_roundr_5 14).trans (by decide +kernel))
theorem dX9_round_95 : decode cX9_round 95 = .ok (.getfield 7, 3) := dk_180_ (show cX9_round.data.toList[95]? = some 0xb4 from (LBX9_roundr_5 15).trans (by decide +kernel)) (show cX9_round.data.toList[96]? = some 0x00 from (LBX9_roundr_6 0).trans (by decide +kernel)) (show cX9_round.data.toList[97]? = some 0x07 from (LBX9_roundr_6 1).trans (by decide +kernel)) (by decide)
theorem dX9_round_98 : decode cX9_round 98 = .ok (.iconst 1, 1) := dk_4_ (show cX9_round.data.toList[98]? = some 0x04 from (LBX9_roundr_6 2).trans (by decide +kernel))
theorem dX9_round_99 : decode cX9_round 99 = .ok (.iaload, 1) := dk_46_ (show cX9_round.data.toList[99]? = some 0x2e from (LBX9_roundr_6 3).trans (by decide +kernel))
theorem dX9_round_100 : decode cX9_round 100 = .ok (.iconst 1, 1) := dk_4_ (show cX9_round.data.toList[100]? = some 0x04 from (LBX9_roundr_6 4).trans (by decide +kernel))
theorem dX9_round_101 : decode cX9_round 101 = .ok (.isub, 1) := dk_100_ (show cX9_round.data.toList[101]? = some 0x64 from (LBX9_roundr_6 5).trans (by decide +kernel))
theorem dX9_round_102 : decode cX9_round 102 = .ok (.ireturn, 1) := dk_172_ (show cX9_round.data.toList[102]? = some 0xac from (LBX9_roundr_6 6).trans (by decide +kernel))
def LRX9_over_6 : List UInt8 := []
def LBX9_over_5 : List UInt8 := [0x60, 0x4f, 0x2a, 0xb4, 0x00, 0x07, 0x1d, 0x04, 0x60, 0x2e, 0xac]
def LRX9_over_5 : List UInt8 := LBX9_over_5 ++ LRX9_over_6
def LBX9_over_4 : List UInt8 := [0x04, 0x60, 0x2e, 0x60, 0x1c, 0x4f, 0x2a, 0xb4, 0x00, 0x07, 0x1d, 0x04, 0x60, 0x5c, 0x2e, 0x04]
def LRX9_over_4 : List UInt8 := LBX9_over_4 ++ LRX9_over_5
def LBX9_over_3 : List UInt8 := [0xb6, 0x00, 0x46, 0xac, 0x2a, 0xb4, 0x00, 0x07, 0x1d, 0x05, 0x60, 0x2a, 0xb4, 0x00, 0x07, 0x1d]
def LRX9_over_3 : List UInt8 := LBX9_over_3 ++ LRX9_over_4
def LBX9_over_2 : List UInt8 := [0x2a, 0xb4, 0x00, 0x07, 0x1d, 0x04, 0x60, 0x2e, 0x10, 0x06, 0xa0, 0x00, 0x0a, 0x2a, 0x12, 0x45]
def LRX9_over_2 : List UInt8 := LBX9_over_2 ++ LRX9_over_3
def LBX9_over_1 : List UInt8 := [0x2a, 0x12, 0x38, 0xb6, 0x00, 0x46, 0xac, 0x11, 0x01, 0x39, 0x10, 0x08, 0x1b, 0x68, 0x60, 0x3e]
def LRX9_over_1 : List UInt8 := LBX9_over_1 ++ LRX9_over_2
def LBX9_over_0 : List UInt8 := [0x2a, 0x1b, 0xb6, 0x00, 0x7b, 0x99, 0x00, 0x0b, 0x2a, 0x1c, 0xb6, 0x00, 0x3d, 0x9a, 0x00, 0x0a]
def LRX9_over_0 : List UInt8 := LBX9_over_0 ++ LRX9_over_1
set_option maxRecDepth 100000 in
theorem LBX9_over_eq : cX9_over.data.toList = LRX9_over_0 := by decide +kernel
theorem LBX9_overr_0 (k : Nat) : cX9_over.data.toList[0 + k]? = LRX9_over_0[k]? := by rw [LBX9_over_eq, Nat.zero_add]
theorem LBX9_overr_1 (k : Nat) : cX9_over.data.toList[16 + k]? = LRX9_over_1[k]? := by
  have h := LBX9_overr_0 (16 + k)
  rw [show 0 + (16 + k) = 16 + k by omega] at h
  rw [h]
  exact (List.getElem?_append_right (l₁ := LBX9_over_0) (l₂ := LRX9_over_1) (show 16 ≤ 16 + k by omega)).trans (congrArg (fun i => LRX9_over_1[i]?) (show 16 + k - 16 = k by omega))
theorem LBX9_overr_2 (k : Nat) : cX9_over.data.toList[32 + k]? = LRX9_over_2[k]? := by
  have h := LBX9_overr_1 (16 + k)
  rw [show 16 + (16 + k) = 32 + k by omega] at h
  rw [h]
  exact (List.getElem?_append_right (l₁ := LBX9_over_1) (l₂ := LRX9_over_2) (show 16 ≤ 16 + k by omega)).trans (congrArg (fun i => LRX9_over_2[i]?) (show 16 + k - 16 = k by omega))
theorem LBX9_overr_3 (k : Nat) : cX9_over.data.toList[48 + k]? = LRX9_over_3[k]? := by
  have h := LBX9_overr_2 (16 + k)
  rw [show 32 + (16 + k) = 48 + k by omega] at h
  rw [h]
  exact (List.getElem?_append_right (l₁ := LBX9_over_2) (l₂ := LRX9_over_3) (show 16 ≤ 16 + k by omega)).trans (congrArg (fun i => LRX9_over_3[i]?) (show 16 + k - 16 = k by omega))
theorem LBX9_overr_4 (k : Nat) : cX9_over.data.toList[64 + k]? = LRX9_over_4[k]? := by
  have h := LBX9_overr_3 (16 + k)
  rw [show 48 + (16 + k) = 64 + k by omega] at h
  rw [h]
  exact (List.getElem?_append_right (l₁ := LBX9_over_3) (l₂ := LRX9_over_4) (show 16 ≤ 16 + k by omega)).trans (congrArg (fun i => LRX9_over_4[i]?) (show 16 + k - 16 = k by omega))
theorem LBX9_overr_5 (k : Nat) : cX9_over.data.toList[80 + k]? = LRX9_over_5[k]? := by
  have h := LBX9_overr_4 (16 + k)
  rw [show 64 + (16 + k) = 80 + k by omega] at h
  rw [h]
  exact (List.getElem?_append_right (l₁ := LBX9_over_4) (l₂ := LRX9_over_5) (show 16 ≤ 16 + k by omega)).trans (congrArg (fun i => LRX9_over_5[i]?) (show 16 + k - 16 = k by omega))
theorem dX9_over_0 : decode cX9_over 0 = .ok (.aload_n 0, 1) := dk_42_ (show cX9_over.data.toList[0]? = some 0x2a from (LBX9_overr_0 0).trans (by decide +kernel))
theorem dX9_over_1 : decode cX9_over 1 = .ok (.iload_n 1, 1) := dk_27_ (show cX9_over.data.toList[1]? = some 0x1b from (LBX9_overr_0 1).trans (by decide +kernel))
theorem dX9_over_2 : decode cX9_over 2 = .ok (.invokevirtual 123, 3) := dk_182_ (show cX9_over.data.toList[2]? = some 0xb6 from (LBX9_overr_0 2).trans (by decide +kernel)) (show cX9_over.data.toList[3]? = some 0x00 from (LBX9_overr_0 3).trans (by decide +kernel)) (show cX9_over.data.toList[4]? = some 0x7b from (LBX9_overr_0 4).trans (by decide +kernel)) (by decide)
theorem dX9_over_5 : decode cX9_over 5 = .ok (.ifCond .eq 11, 3) := dk_153_ (show cX9_over.data.toList[5]? = some 0x99 from (LBX9_overr_0 5).trans (by decide +kernel)) (show cX9_over.data.toList[6]? = some 0x00 from (LBX9_overr_0 6).trans (by decide +kernel)) (show cX9_over.data.toList[7]? = some 0x0b from (LBX9_overr_0 7).trans (by decide +kernel)) (by decide)
theorem dX9_over_8 : decode cX9_over 8 = .ok (.aload_n 0, 1) := dk_42_ (show cX9_over.data.toList[8]? = some 0x2a from (LBX9_overr_0 8).trans (by decide +kernel))
theorem dX9_over_9 : decode cX9_over 9 = .ok (.iload_n 2, 1) := dk_28_ (show cX9_over.data.toList[9]? = some 0x1c from (LBX9_overr_0 9).trans (by decide +kernel))
theorem dX9_over_10 : decode cX9_over 10 = .ok (.invokevirtual 61, 3) := dk_182_ (show cX9_over.data.toList[10]? = some 0xb6 from (LBX9_overr_0 10).trans (by decide +kernel)) (show cX9_over.data.toList[11]? = some 0x00 from (LBX9_overr_0 11).trans (by decide +kernel)) (show cX9_over.data.toList[12]? = some 0x3d from (LBX9_overr_0 12).trans (by decide +kernel)) (by decide)
theorem dX9_over_13 : decode cX9_over 13 = .ok (.ifCond .ne 10, 3) := dk_154_ (show cX9_over.data.toList[13]? = some 0x9a from (LBX9_overr_0 13).trans (by decide +kernel)) (show cX9_over.data.toList[14]? = some 0x00 from (LBX9_overr_0 14).trans (by decide +kernel)) (show cX9_over.data.toList[15]? = some 0x0a from (LBX9_overr_0 15).trans (by decide +kernel)) (by decide)
theorem dX9_over_16 : decode cX9_over 16 = .ok (.aload_n 0, 1) := dk_42_ (show cX9_over.data.toList[16]? = some 0x2a from (LBX9_overr_1 0).trans (by decide +kernel))
theorem dX9_over_17 : decode cX9_over 17 = .ok (.ldc 56, 2) := dk_18_ (show cX9_over.data.toList[17]? = some 0x12 from (LBX9_overr_1 1).trans (by decide +kernel)) (show cX9_over.data.toList[18]? = some 0x38 from (LBX9_overr_1 2).trans (by decide +kernel)) (by decide)
theorem dX9_over_19 : decode cX9_over 19 = .ok (.invokevirtual 70, 3) := dk_182_ (show cX9_over.data.toList[19]? = some 0xb6 from (LBX9_overr_1 3).trans (by decide +kernel)) (show cX9_over.data.toList[20]? = some 0x00 from (LBX9_overr_1 4).trans (by decide +kernel)) (show cX9_over.data.toList[21]? = some 0x46 from (LBX9_overr_1 5).trans (by decide +kernel)) (by decide)
theorem dX9_over_22 : decode cX9_over 22 = .ok (.ireturn, 1) := dk_172_ (show cX9_over.data.toList[22]? = some 0xac from (LBX9_overr_1 6).trans (by decide +kernel))
theorem dX9_over_23 : decode cX9_over 23 = .ok (.sipush 313, 3) := dk_17_ (show cX9_over.data.toList[23]? = some 0x11 from (LBX9_overr_1 7).trans (by decide +kernel)) (show cX9_over.data.toList[24]? = some 0x01 from (LBX9_overr_1 8).trans (by decide +kernel)) (show cX9_over.data.toList[25]? = some 0x39 from (LBX9_overr_1 9).trans (by decide +kernel)) (by decide)
theorem dX9_over_26 : decode cX9_over 26 = .ok (.bipush 8, 2) := dk_16_ (show cX9_over.data.toList[26]? = some 0x10 from (LBX9_overr_1 10).trans (by decide +kernel)) (show cX9_over.data.toList[27]? = some 0x08 from (LBX9_overr_1 11).trans (by decide +kernel)) (by decide)
theorem dX9_over_28 : decode cX9_over 28 = .ok (.iload_n 1, 1) := dk_27_ (show cX9_over.data.toList[28]? = some 0x1b from (LBX9_overr_1 12).trans (by decide +kernel))
theorem dX9_over_29 : decode cX9_over 29 = .ok (.imul, 1) := dk_104_ (show cX9_over.data.toList[29]? = some 0x68 from (LBX9_overr_1 13).trans (by decide +kernel))
theorem dX9_over_30 : decode cX9_over 30 = .ok (.iadd, 1) := dk_96_ (show cX9_over.data.toList[30]? = some 0x60 from (LBX9_overr_1 14).trans (by decide +kernel))
theorem dX9_over_31 : decode cX9_over 31 = .ok (.istore_n 3, 1) := dk_62_ (show cX9_over.data.toList[31]? = some 0x3e from (LBX9_overr_1 15).trans (by decide +kernel))
theorem dX9_over_32 : decode cX9_over 32 = .ok (.aload_n 0, 1) := dk_42_ (show cX9_over.data.toList[32]? = some 0x2a from (LBX9_overr_2 0).trans (by decide +kernel))
theorem dX9_over_33 : decode cX9_over 33 = .ok (.getfield 7, 3) := dk_180_ (show cX9_over.data.toList[33]? = some 0xb4 from (LBX9_overr_2 1).trans (by decide +kernel)) (show cX9_over.data.toList[34]? = some 0x00 from (LBX9_overr_2 2).trans (by decide +kernel)) (show cX9_over.data.toList[35]? = some 0x07 from (LBX9_overr_2 3).trans (by decide +kernel)) (by decide)
theorem dX9_over_36 : decode cX9_over 36 = .ok (.iload_n 3, 1) := dk_29_ (show cX9_over.data.toList[36]? = some 0x1d from (LBX9_overr_2 4).trans (by decide +kernel))
theorem dX9_over_37 : decode cX9_over 37 = .ok (.iconst 1, 1) := dk_4_ (show cX9_over.data.toList[37]? = some 0x04 from (LBX9_overr_2 5).trans (by decide +kernel))
theorem dX9_over_38 : decode cX9_over 38 = .ok (.iadd, 1) := dk_96_ (show cX9_over.data.toList[38]? = some 0x60 from (LBX9_overr_2 6).trans (by decide +kernel))
theorem dX9_over_39 : decode cX9_over 39 = .ok (.iaload, 1) := dk_46_ (show cX9_over.data.toList[39]? = some 0x2e from (LBX9_overr_2 7).trans (by decide +kernel))
theorem dX9_over_40 : decode cX9_over 40 = .ok (.bipush 6, 2) := dk_16_ (show cX9_over.data.toList[40]? = some 0x10 from (LBX9_overr_2 8).trans (by decide +kernel)) (show cX9_over.data.toList[41]? = some 0x06 from (LBX9_overr_2 9).trans (by decide +kernel)) (by decide)
theorem dX9_over_42 : decode cX9_over 42 = .ok (.if_icmp .ne 10, 3) := dk_160_ (show cX9_over.data.toList[42]? = some 0xa0 from (LBX9_overr_2 10).trans (by decide +kernel)) (show cX9_over.data.toList[43]? = some 0x00 from (LBX9_overr_2 11).trans (by decide +kernel)) (show cX9_over.data.toList[44]? = some 0x0a from (LBX9_overr_2 12).trans (by decide +kernel)) (by decide)
theorem dX9_over_45 : decode cX9_over 45 = .ok (.aload_n 0, 1) := dk_42_ (show cX9_over.data.toList[45]? = some 0x2a from (LBX9_overr_2 13).trans (by decide +kernel))
theorem dX9_over_46 : decode cX9_over 46 = .ok (.ldc 69, 2) := dk_18_ (show cX9_over.data.toList[46]? = some 0x12 from (LBX9_overr_2 14).trans (by decide +kernel)) (show cX9_over.data.toList[47]? = some 0x45 from (LBX9_overr_2 15).trans (by decide +kernel)) (by decide)
theorem dX9_over_48 : decode cX9_over 48 = .ok (.invokevirtual 70, 3) := dk_182_ (show cX9_over.data.toList[48]? = some 0xb6 from (LBX9_overr_3 0).trans (by decide +kernel)) (show cX9_over.data.toList[49]? = some 0x00 from (LBX9_overr_3 1).trans (by decide +kernel)) (show cX9_over.data.toList[50]? = some 0x46 from (LBX9_overr_3 2).trans (by decide +kernel)) (by decide)
theorem dX9_over_51 : decode cX9_over 51 = .ok (.ireturn, 1) := dk_172_ (show cX9_over.data.toList[51]? = some 0xac from (LBX9_overr_3 3).trans (by decide +kernel))
theorem dX9_over_52 : decode cX9_over 52 = .ok (.aload_n 0, 1) := dk_42_ (show cX9_over.data.toList[52]? = some 0x2a from (LBX9_overr_3 4).trans (by decide +kernel))
theorem dX9_over_53 : decode cX9_over 53 = .ok (.getfield 7, 3) := dk_180_ (show cX9_over.data.toList[53]? = some 0xb4 from (LBX9_overr_3 5).trans (by decide +kernel)) (show cX9_over.data.toList[54]? = some 0x00 from (LBX9_overr_3 6).trans (by decide +kernel)) (show cX9_over.data.toList[55]? = some 0x07 from (LBX9_overr_3 7).trans (by decide +kernel)) (by decide)
theorem dX9_over_56 : decode cX9_over 56 = .ok (.iload_n 3, 1) := dk_29_ (show cX9_over.data.toList[56]? = some 0x1d from (LBX9_overr_3 8).trans (by decide +kernel))
theorem dX9_over_57 : decode cX9_over 57 = .ok (.iconst 2, 1) := dk_5_ (show cX9_over.data.toList[57]? = some 0x05 from (LBX9_overr_3 9).trans (by decide +kernel))
theorem dX9_over_58 : decode cX9_over 58 = .ok (.iadd, 1) := dk_96_ (show cX9_over.data.toList[58]? = some 0x60 from (LBX9_overr_3 10).trans (by decide +kernel))
theorem dX9_over_59 : decode cX9_over 59 = .ok (.aload_n 0, 1) := dk_42_ (show cX9_over.data.toList[59]? = some 0x2a from (LBX9_overr_3 11).trans (by decide +kernel))
theorem dX9_over_60 : decode cX9_over 60 = .ok (.getfield 7, 3) := dk_180_ (show cX9_over.data.toList[60]? = some 0xb4 from (LBX9_overr_3 12).trans (by decide +kernel)) (show cX9_over.data.toList[61]? = some 0x00 from (LBX9_overr_3 13).trans (by decide +kernel)) (show cX9_over.data.toList[62]? = some 0x07 from (LBX9_overr_3 14).trans (by decide +kernel)) (by decide)
theorem dX9_over_63 : decode cX9_over 63 = .ok (.iload_n 3, 1) := dk_29_ (show cX9_over.data.toList[63]? = some 0x1d from (LBX9_overr_3 15).trans (by decide +kernel))
theorem dX9_over_64 : decode cX9_over 64 = .ok (.iconst 1, 1) := dk_4_ (show cX9_over.data.toList[64]? = some 0x04 from (LBX9_overr_4 0).trans (by decide +kernel))
theorem dX9_over_65 : decode cX9_over 65 = .ok (.iadd, 1) := dk_96_ (show cX9_over.data.toList[65]? = some 0x60 from (LBX9_overr_4 1).trans (by decide +kernel))
theorem dX9_over_66 : decode cX9_over 66 = .ok (.iaload, 1) := dk_46_ (show cX9_over.data.toList[66]? = some 0x2e from (LBX9_overr_4 2).trans (by decide +kernel))
theorem dX9_over_67 : decode cX9_over 67 = .ok (.iadd, 1) := dk_96_ (show cX9_over.data.toList[67]? = some 0x60 from (LBX9_overr_4 3).trans (by decide +kernel))
theorem dX9_over_68 : decode cX9_over 68 = .ok (.iload_n 2, 1) := dk_28_ (show cX9_over.data.toList[68]? = some 0x1c from (LBX9_overr_4 4).trans (by decide +kernel))
theorem dX9_over_69 : decode cX9_over 69 = .ok (.iastore, 1) := dk_79_ (show cX9_over.data.toList[69]? = some 0x4f from (LBX9_overr_4 5).trans (by decide +kernel))
theorem dX9_over_70 : decode cX9_over 70 = .ok (.aload_n 0, 1) := dk_42_ (show cX9_over.data.toList[70]? = some 0x2a from (LBX9_overr_4 6).trans (by decide +kernel))
theorem dX9_over_71 : decode cX9_over 71 = .ok (.getfield 7, 3) := dk_180_ (show cX9_over.data.toList[71]? = some 0xb4 from (LBX9_overr_4 7).trans (by decide +kernel)) (show cX9_over.data.toList[72]? = some 0x00 from (LBX9_overr_4 8).trans (by decide +kernel)) (show cX9_over.data.toList[73]? = some 0x07 from (LBX9_overr_4 9).trans (by decide +kernel)) (by decide)
theorem dX9_over_74 : decode cX9_over 74 = .ok (.iload_n 3, 1) := dk_29_ (show cX9_over.data.toList[74]? = some 0x1d from (LBX9_overr_4 10).trans (by decide +kernel))
theorem dX9_over_75 : decode cX9_over 75 = .ok (.iconst 1, 1) := dk_4_ (show cX9_over.data.toList[75]? = some 0x04 from (LBX9_overr_4 11).trans (by decide +kernel))
theorem dX9_over_76 : decode cX9_over 76 = .ok (.iadd, 1) := dk_96_ (show cX9_over.data.toList[76]? = some 0x60 from (LBX9_overr_4 12).trans (by decide +kernel))
theorem dX9_over_77 : decode cX9_over 77 = .ok (.dup2, 1) := dk_92_ (show cX9_over.data.toList[77]? = some 0x5c from (LBX9_overr_4 13).trans (by decide +kernel))
theorem dX9_over_78 : decode cX9_over 78 = .ok (.iaload, 1) := dk_46_ (show cX9_over.data.toList[78]? = some 0x2e from (LBX9_overr_4 14).trans (by decide +kernel))
theorem dX9_over_79 : decode cX9_over 79 = .ok (.iconst 1, 1) := dk_4_ (show cX9_over.data.toList[79]? = some 0x04 from (LBX9_overr_4 15).trans (by decide +kernel))
theorem dX9_over_80 : decode cX9_over 80 = .ok (.iadd, 1) := dk_96_ (show cX9_over.data.toList[80]? = some 0x60 from (LBX9_overr_5 0).trans (by decide +kernel))
theorem dX9_over_81 : decode cX9_over 81 = .ok (.iastore, 1) := dk_79_ (show cX9_over.data.toList[81]? = some 0x4f from (LBX9_overr_5 1).trans (by decide +kernel))
theorem dX9_over_82 : decode cX9_over 82 = .ok (.aload_n 0, 1) := dk_42_ (show cX9_over.data.toList[82]? = some 0x2a from (LBX9_overr_5 2).trans (by decide +kernel))
theorem dX9_over_83 : decode cX9_over 83 = .ok (.getfield 7, 3) := dk_180_ (show cX9_over.data.toList[83]? = some 0xb4 from (LBX9_overr_5 3).trans (by decide +kernel)) (show cX9_over.data.toList[84]? = some 0x00 from (LBX9_overr_5 4).trans (by decide +kernel)) (show cX9_over.data.toList[85]? = some 0x07 from (LBX9_overr_5 5).trans (by decide +kernel)) (by decide)
theorem dX9_over_86 : decode cX9_over 86 = .ok (.iload_n 3, 1) := dk_29_ (show cX9_over.data.toList[86]? = some 0x1d from (LBX9_overr_5 6).trans (by decide +kernel))
theorem dX9_over_87 : decode cX9_over 87 = .ok (.iconst 1, 1) := dk_4_ (show cX9_over.data.toList[87]? = some 0x04 from (LBX9_overr_5 7).trans (by decide +kernel))
theorem dX9_over_88 : decode cX9_over 88 = .ok (.iadd, 1) := dk_96_ (show cX9_over.data.toList[88]? = some 0x60 from (LBX9_overr_5 8).trans (by decide +kernel))
theorem dX9_over_89 : decode cX9_over 89 = .ok (.iaload, 1) := dk_46_ (show cX9_over.data.toList[89]? = some 0x2e from (LBX9_overr_5 9).trans (by decide +kernel))
theorem dX9_over_90 : decode cX9_over 90 = .ok (.ireturn, 1) := dk_172_ (show cX9_over.data.toList[90]? = some 0xac from (LBX9_overr_5 10).trans (by decide +kernel))
def LRX9_adds_2 : List UInt8 := []
def LBX9_adds_1 : List UInt8 := [0x12, 0x68, 0xa7, 0x00, 0x09, 0x2a, 0xb4, 0x00, 0x7e, 0x1b, 0x60, 0xb5, 0x00, 0x7e, 0xb1]
def LRX9_adds_1 : List UInt8 := LBX9_adds_1 ++ LRX9_adds_2
def LBX9_adds_0 : List UInt8 := [0x2a, 0x2a, 0xb4, 0x00, 0x7e, 0x12, 0x68, 0x9f, 0x00, 0x09, 0x1b, 0x12, 0x68, 0xa0, 0x00, 0x08]
def LRX9_adds_0 : List UInt8 := LBX9_adds_0 ++ LRX9_adds_1
set_option maxRecDepth 100000 in
theorem LBX9_adds_eq : cX9_adds.data.toList = LRX9_adds_0 := by decide +kernel
theorem LBX9_addsr_0 (k : Nat) : cX9_adds.data.toList[0 + k]? = LRX9_adds_0[k]? := by rw [LBX9_adds_eq, Nat.zero_add]
theorem LBX9_addsr_1 (k : Nat) : cX9_adds.data.toList[16 + k]? = LRX9_adds_1[k]? := by
  have h := LBX9_addsr_0 (16 + k)
  rw [show 0 + (16 + k) = 16 + k by omega] at h
  rw [h]
  exact (List.getElem?_append_right (l₁ := LBX9_adds_0) (l₂ := LRX9_adds_1) (show 16 ≤ 16 + k by omega)).trans (congrArg (fun i => LRX9_adds_1[i]?) (show 16 + k - 16 = k by omega))
theorem dX9_adds_0 : decode cX9_adds 0 = .ok (.aload_n 0, 1) := dk_42_ (show cX9_adds.data.toList[0]? = some 0x2a from (LBX9_addsr_0 0).trans (by decide +kernel))
theorem dX9_adds_1 : decode cX9_adds 1 = .ok (.aload_n 0, 1) := dk_42_ (show cX9_adds.data.toList[1]? = some 0x2a from (LBX9_addsr_0 1).trans (by decide +kernel))
theorem dX9_adds_2 : decode cX9_adds 2 = .ok (.getfield 126, 3) := dk_180_ (show cX9_adds.data.toList[2]? = some 0xb4 from (LBX9_addsr_0 2).trans (by decide +kernel)) (show cX9_adds.data.toList[3]? = some 0x00 from (LBX9_addsr_0 3).trans (by decide +kernel)) (show cX9_adds.data.toList[4]? = some 0x7e from (LBX9_addsr_0 4).trans (by decide +kernel)) (by decide)
theorem dX9_adds_5 : decode cX9_adds 5 = .ok (.ldc 104, 2) := dk_18_ (show cX9_adds.data.toList[5]? = some 0x12 from (LBX9_addsr_0 5).trans (by decide +kernel)) (show cX9_adds.data.toList[6]? = some 0x68 from (LBX9_addsr_0 6).trans (by decide +kernel)) (by decide)
theorem dX9_adds_7 : decode cX9_adds 7 = .ok (.if_icmp .eq 9, 3) := dk_159_ (show cX9_adds.data.toList[7]? = some 0x9f from (LBX9_addsr_0 7).trans (by decide +kernel)) (show cX9_adds.data.toList[8]? = some 0x00 from (LBX9_addsr_0 8).trans (by decide +kernel)) (show cX9_adds.data.toList[9]? = some 0x09 from (LBX9_addsr_0 9).trans (by decide +kernel)) (by decide)
theorem dX9_adds_10 : decode cX9_adds 10 = .ok (.iload_n 1, 1) := dk_27_ (show cX9_adds.data.toList[10]? = some 0x1b from (LBX9_addsr_0 10).trans (by decide +kernel))
theorem dX9_adds_11 : decode cX9_adds 11 = .ok (.ldc 104, 2) := dk_18_ (show cX9_adds.data.toList[11]? = some 0x12 from (LBX9_addsr_0 11).trans (by decide +kernel)) (show cX9_adds.data.toList[12]? = some 0x68 from (LBX9_addsr_0 12).trans (by decide +kernel)) (by decide)
theorem dX9_adds_13 : decode cX9_adds 13 = .ok (.if_icmp .ne 8, 3) := dk_160_ (show cX9_adds.data.toList[13]? = some 0xa0 from (LBX9_addsr_0 13).trans (by decide +kernel)) (show cX9_adds.data.toList[14]? = some 0x00 from (LBX9_addsr_0 14).trans (by decide +kernel)) (show cX9_adds.data.toList[15]? = some 0x08 from (LBX9_addsr_0 15).trans (by decide +kernel)) (by decide)
theorem dX9_adds_16 : decode cX9_adds 16 = .ok (.ldc 104, 2) := dk_18_ (show cX9_adds.data.toList[16]? = some 0x12 from (LBX9_addsr_1 0).trans (by decide +kernel)) (show cX9_adds.data.toList[17]? = some 0x68 from (LBX9_addsr_1 1).trans (by decide +kernel)) (by decide)
theorem dX9_adds_18 : decode cX9_adds 18 = .ok (.goto 9, 3) := dk_167_ (show cX9_adds.data.toList[18]? = some 0xa7 from (LBX9_addsr_1 2).trans (by decide +kernel)) (show cX9_adds.data.toList[19]? = some 0x00 from (LBX9_addsr_1 3).trans (by decide +kernel)) (show cX9_adds.data.toList[20]? = some 0x09 from (LBX9_addsr_1 4).trans (by decide +kernel)) (by decide)
theorem dX9_adds_21 : decode cX9_adds 21 = .ok (.aload_n 0, 1) := dk_42_ (show cX9_adds.data.toList[21]? = some 0x2a from (LBX9_addsr_1 5).trans (by decide +kernel))
theorem dX9_adds_22 : decode cX9_adds 22 = .ok (.getfield 126, 3) := dk_180_ (show cX9_adds.data.toList[22]? = some 0xb4 from (LBX9_addsr_1 6).trans (by decide +kernel)) (show cX9_adds.data.toList[23]? = some 0x00 from (LBX9_addsr_1 7).trans (by decide +kernel)) (show cX9_adds.data.toList[24]? = some 0x7e from (LBX9_addsr_1 8).trans (by decide +kernel)) (by decide)
theorem dX9_adds_25 : decode cX9_adds 25 = .ok (.iload_n 1, 1) := dk_27_ (show cX9_adds.data.toList[25]? = some 0x1b from (LBX9_addsr_1 9).trans (by decide +kernel))
theorem dX9_adds_26 : decode cX9_adds 26 = .ok (.iadd, 1) := dk_96_ (show cX9_adds.data.toList[26]? = some 0x60 from (LBX9_addsr_1 10).trans (by decide +kernel))
theorem dX9_adds_27 : decode cX9_adds 27 = .ok (.putfield 126, 3) := dk_181_ (show cX9_adds.data.toList[27]? = some 0xb5 from (LBX9_addsr_1 11).trans (by decide +kernel)) (show cX9_adds.data.toList[28]? = some 0x00 from (LBX9_addsr_1 12).trans (by decide +kernel)) (show cX9_adds.data.toList[29]? = some 0x7e from (LBX9_addsr_1 13).trans (by decide +kernel)) (by decide)
theorem dX9_adds_30 : decode cX9_adds 30 = .ok (.return_, 1) := dk_177_ (show cX9_adds.data.toList[30]? = some 0xb1 from (LBX9_addsr_1 14).trans (by decide +kernel))
def LRX9_told_2 : List UInt8 := []
def LBX9_told_1 : List UInt8 := [0x00, 0x0c, 0x2a, 0x1b, 0x1c, 0xb6, 0x00, 0x64, 0xa7, 0x00, 0x05, 0x12, 0x68, 0xac]
def LRX9_told_1 : List UInt8 := LBX9_told_1 ++ LRX9_told_2
def LBX9_told_0 : List UInt8 := [0x1b, 0x1c, 0xa0, 0x00, 0x07, 0x03, 0xa7, 0x00, 0x17, 0x2a, 0x1b, 0x1c, 0xb6, 0x00, 0x61, 0x99]
def LRX9_told_0 : List UInt8 := LBX9_told_0 ++ LRX9_told_1
set_option maxRecDepth 100000 in
theorem LBX9_told_eq : cX9_told.data.toList = LRX9_told_0 := by decide +kernel
theorem LBX9_toldr_0 (k : Nat) : cX9_told.data.toList[0 + k]? = LRX9_told_0[k]? := by rw [LBX9_told_eq, Nat.zero_add]
theorem LBX9_toldr_1 (k : Nat) : cX9_told.data.toList[16 + k]? = LRX9_told_1[k]? := by
  have h := LBX9_toldr_0 (16 + k)
  rw [show 0 + (16 + k) = 16 + k by omega] at h
  rw [h]
  exact (List.getElem?_append_right (l₁ := LBX9_told_0) (l₂ := LRX9_told_1) (show 16 ≤ 16 + k by omega)).trans (congrArg (fun i => LRX9_told_1[i]?) (show 16 + k - 16 = k by omega))
theorem dX9_told_0 : decode cX9_told 0 = .ok (.iload_n 1, 1) := dk_27_ (show cX9_told.data.toList[0]? = some 0x1b from (LBX9_toldr_0 0).trans (by decide +kernel))
theorem dX9_told_1 : decode cX9_told 1 = .ok (.iload_n 2, 1) := dk_28_ (show cX9_told.data.toList[1]? = some 0x1c from (LBX9_toldr_0 1).trans (by decide +kernel))
theorem dX9_told_2 : decode cX9_told 2 = .ok (.if_icmp .ne 7, 3) := dk_160_ (show cX9_told.data.toList[2]? = some 0xa0 from (LBX9_toldr_0 2).trans (by decide +kernel)) (show cX9_told.data.toList[3]? = some 0x00 from (LBX9_toldr_0 3).trans (by decide +kernel)) (show cX9_told.data.toList[4]? = some 0x07 from (LBX9_toldr_0 4).trans (by decide +kernel)) (by decide)
theorem dX9_told_5 : decode cX9_told 5 = .ok (.iconst 0, 1) := dk_3_ (show cX9_told.data.toList[5]? = some 0x03 from (LBX9_toldr_0 5).trans (by decide +kernel))
theorem dX9_told_6 : decode cX9_told 6 = .ok (.goto 23, 3) := dk_167_ (show cX9_told.data.toList[6]? = some 0xa7 from (LBX9_toldr_0 6).trans (by decide +kernel)) (show cX9_told.data.toList[7]? = some 0x00 from (LBX9_toldr_0 7).trans (by decide +kernel)) (show cX9_told.data.toList[8]? = some 0x17 from (LBX9_toldr_0 8).trans (by decide +kernel)) (by decide)
theorem dX9_told_9 : decode cX9_told 9 = .ok (.aload_n 0, 1) := dk_42_ (show cX9_told.data.toList[9]? = some 0x2a from (LBX9_toldr_0 9).trans (by decide +kernel))
theorem dX9_told_10 : decode cX9_told 10 = .ok (.iload_n 1, 1) := dk_27_ (show cX9_told.data.toList[10]? = some 0x1b from (LBX9_toldr_0 10).trans (by decide +kernel))
theorem dX9_told_11 : decode cX9_told 11 = .ok (.iload_n 2, 1) := dk_28_ (show cX9_told.data.toList[11]? = some 0x1c from (LBX9_toldr_0 11).trans (by decide +kernel))
theorem dX9_told_12 : decode cX9_told 12 = .ok (.invokevirtual 97, 3) := dk_182_ (show cX9_told.data.toList[12]? = some 0xb6 from (LBX9_toldr_0 12).trans (by decide +kernel)) (show cX9_told.data.toList[13]? = some 0x00 from (LBX9_toldr_0 13).trans (by decide +kernel)) (show cX9_told.data.toList[14]? = some 0x61 from (LBX9_toldr_0 14).trans (by decide +kernel)) (by decide)
theorem dX9_told_15 : decode cX9_told 15 = .ok (.ifCond .eq 12, 3) := dk_153_ (show cX9_told.data.toList[15]? = some 0x99 from (LBX9_toldr_0 15).trans (by decide +kernel)) (show cX9_told.data.toList[16]? = some 0x00 from (LBX9_toldr_1 0).trans (by decide +kernel)) (show cX9_told.data.toList[17]? = some 0x0c from (LBX9_toldr_1 1).trans (by decide +kernel)) (by decide)
theorem dX9_told_18 : decode cX9_told 18 = .ok (.aload_n 0, 1) := dk_42_ (show cX9_told.data.toList[18]? = some 0x2a from (LBX9_toldr_1 2).trans (by decide +kernel))
theorem dX9_told_19 : decode cX9_told 19 = .ok (.iload_n 1, 1) := dk_27_ (show cX9_told.data.toList[19]? = some 0x1b from (LBX9_toldr_1 3).trans (by decide +kernel))
theorem dX9_told_20 : decode cX9_told 20 = .ok (.iload_n 2, 1) := dk_28_ (show cX9_told.data.toList[20]? = some 0x1c from (LBX9_toldr_1 4).trans (by decide +kernel))
theorem dX9_told_21 : decode cX9_told 21 = .ok (.invokevirtual 100, 3) := dk_182_ (show cX9_told.data.toList[21]? = some 0xb6 from (LBX9_toldr_1 5).trans (by decide +kernel)) (show cX9_told.data.toList[22]? = some 0x00 from (LBX9_toldr_1 6).trans (by decide +kernel)) (show cX9_told.data.toList[23]? = some 0x64 from (LBX9_toldr_1 7).trans (by decide +kernel)) (by decide)
theorem dX9_told_24 : decode cX9_told 24 = .ok (.goto 5, 3) := dk_167_ (show cX9_told.data.toList[24]? = some 0xa7 from (LBX9_toldr_1 8).trans (by decide +kernel)) (show cX9_told.data.toList[25]? = some 0x00 from (LBX9_toldr_1 9).trans (by decide +kernel)) (show cX9_told.data.toList[26]? = some 0x05 from (LBX9_toldr_1 10).trans (by decide +kernel)) (by decide)
theorem dX9_told_27 : decode cX9_told 27 = .ok (.ldc 104, 2) := dk_18_ (show cX9_told.data.toList[27]? = some 0x12 from (LBX9_toldr_1 11).trans (by decide +kernel)) (show cX9_told.data.toList[28]? = some 0x68 from (LBX9_toldr_1 12).trans (by decide +kernel)) (by decide)
theorem dX9_told_29 : decode cX9_told 29 = .ok (.ireturn, 1) := dk_172_ (show cX9_told.data.toList[29]? = some 0xac from (LBX9_toldr_1 13).trans (by decide +kernel))
def LRX9_offers_7 : List UInt8 := []
def LBX9_offers_6 : List UInt8 := [0xb4, 0x00, 0x86, 0xb5, 0x00, 0x86, 0xb1]
def LRX9_offers_6 : List UInt8 := LBX9_offers_6 ++ LRX9_offers_7
def LBX9_offers_5 : List UInt8 := [0x7e, 0x2a, 0xb4, 0x00, 0x86, 0xa2, 0x00, 0x0a, 0x2a, 0xb4, 0x00, 0x7e, 0xa7, 0x00, 0x07, 0x2a]
def LRX9_offers_5 : List UInt8 := LBX9_offers_5 ++ LRX9_offers_6
def LBX9_offers_4 : List UInt8 := [0x68, 0x2a, 0xb4, 0x00, 0x1c, 0x03, 0x2e, 0x60, 0x2e, 0xb6, 0x00, 0x82, 0x2a, 0x2a, 0xb4, 0x00]
def LRX9_offers_4 : List UInt8 := LBX9_offers_4 ++ LRX9_offers_5
def LBX9_offers_3 : List UInt8 := [0x1e, 0x2a, 0x2a, 0xb4, 0x00, 0x16, 0x10, 0x0a, 0x2a, 0xb4, 0x00, 0x1c, 0x1b, 0x04, 0x64, 0x2e]
def LRX9_offers_3 : List UInt8 := LBX9_offers_3 ++ LRX9_offers_4
def LBX9_offers_2 : List UInt8 := [0x1d, 0x2e, 0x60, 0x2e, 0xb6, 0x00, 0x82, 0x84, 0x03, 0x01, 0xa7, 0xff, 0xdd, 0x1c, 0x99, 0x00]
def LRX9_offers_2 : List UInt8 := LBX9_offers_2 ++ LRX9_offers_3
def LBX9_offers_1 : List UInt8 := [0x16, 0x10, 0x0a, 0x2a, 0xb4, 0x00, 0x1c, 0x1d, 0x04, 0x64, 0x2e, 0x68, 0x2a, 0xb4, 0x00, 0x1c]
def LRX9_offers_1 : List UInt8 := LBX9_offers_1 ++ LRX9_offers_2
def LBX9_offers_0 : List UInt8 := [0x2a, 0x03, 0xb5, 0x00, 0x7e, 0x04, 0x3e, 0x1d, 0x1b, 0xa2, 0x00, 0x24, 0x2a, 0x2a, 0xb4, 0x00]
def LRX9_offers_0 : List UInt8 := LBX9_offers_0 ++ LRX9_offers_1
set_option maxRecDepth 100000 in
theorem LBX9_offers_eq : cX9_offers.data.toList = LRX9_offers_0 := by decide +kernel
theorem LBX9_offersr_0 (k : Nat) : cX9_offers.data.toList[0 + k]? = LRX9_offers_0[k]? := by rw [LBX9_offers_eq, Nat.zero_add]
theorem LBX9_offersr_1 (k : Nat) : cX9_offers.data.toList[16 + k]? = LRX9_offers_1[k]? := by
  have h := LBX9_offersr_0 (16 + k)
  rw [show 0 + (16 + k) = 16 + k by omega] at h
  rw [h]
  exact (List.getElem?_append_right (l₁ := LBX9_offers_0) (l₂ := LRX9_offers_1) (show 16 ≤ 16 + k by omega)).trans (congrArg (fun i => LRX9_offers_1[i]?) (show 16 + k - 16 = k by omega))
theorem LBX9_offersr_2 (k : Nat) : cX9_offers.data.toList[32 + k]? = LRX9_offers_2[k]? := by
  have h := LBX9_offersr_1 (16 + k)
  rw [show 16 + (16 + k) = 32 + k by omega] at h
  rw [h]
  exact (List.getElem?_append_right (l₁ := LBX9_offers_1) (l₂ := LRX9_offers_2) (show 16 ≤ 16 + k by omega)).trans (congrArg (fun i => LRX9_offers_2[i]?) (show 16 + k - 16 = k by omega))
theorem LBX9_offersr_3 (k : Nat) : cX9_offers.data.toList[48 + k]? = LRX9_offers_3[k]? := by
  have h := LBX9_offersr_2 (16 + k)
  rw [show 32 + (16 + k) = 48 + k by omega] at h
  rw [h]
  exact (List.getElem?_append_right (l₁ := LBX9_offers_2) (l₂ := LRX9_offers_3) (show 16 ≤ 16 + k by omega)).trans (congrArg (fun i => LRX9_offers_3[i]?) (show 16 + k - 16 = k by omega))
theorem LBX9_offersr_4 (k : Nat) : cX9_offers.data.toList[64 + k]? = LRX9_offers_4[k]? := by
  have h := LBX9_offersr_3 (16 + k)
  rw [show 48 + (16 + k) = 64 + k by omega] at h
  rw [h]
  exact (List.getElem?_append_right (l₁ := LBX9_offers_3) (l₂ := LRX9_offers_4) (show 16 ≤ 16 + k by omega)).trans (congrArg (fun i => LRX9_offers_4[i]?) (show 16 + k - 16 = k by omega))
theorem LBX9_offersr_5 (k : Nat) : cX9_offers.data.toList[80 + k]? = LRX9_offers_5[k]? := by
  have h := LBX9_offersr_4 (16 + k)
  rw [show 64 + (16 + k) = 80 + k by omega] at h
  rw [h]
  exact (List.getElem?_append_right (l₁ := LBX9_offers_4) (l₂ := LRX9_offers_5) (show 16 ≤ 16 + k by omega)).trans (congrArg (fun i => LRX9_offers_5[i]?) (show 16 + k - 16 = k by omega))
theorem LBX9_offersr_6 (k : Nat) : cX9_offers.data.toList[96 + k]? = LRX9_offers_6[k]? := by
  have h := LBX9_offersr_5 (16 + k)
  rw [show 80 + (16 + k) = 96 + k by omega] at h
  rw [h]
  exact (List.getElem?_append_right (l₁ := LBX9_offers_5) (l₂ := LRX9_offers_6) (show 16 ≤ 16 + k by omega)).trans (congrArg (fun i => LRX9_offers_6[i]?) (show 16 + k - 16 = k by omega))
theorem dX9_offers_0 : decode cX9_offers 0 = .ok (.aload_n 0, 1) := dk_42_ (show cX9_offers.data.toList[0]? = some 0x2a from (LBX9_offersr_0 0).trans (by decide +kernel))
theorem dX9_offers_1 : decode cX9_offers 1 = .ok (.iconst 0, 1) := dk_3_ (show cX9_offers.data.toList[1]? = some 0x03 from (LBX9_offersr_0 1).trans (by decide +kernel))
theorem dX9_offers_2 : decode cX9_offers 2 = .ok (.putfield 126, 3) := dk_181_ (show cX9_offers.data.toList[2]? = some 0xb5 from (LBX9_offersr_0 2).trans (by decide +kernel)) (show cX9_offers.data.toList[3]? = some 0x00 from (LBX9_offersr_0 3).trans (by decide +kernel)) (show cX9_offers.data.toList[4]? = some 0x7e from (LBX9_offersr_0 4).trans (by decide +kernel)) (by decide)
theorem dX9_offers_5 : decode cX9_offers 5 = .ok (.iconst 1, 1) := dk_4_ (show cX9_offers.data.toList[5]? = some 0x04 from (LBX9_offersr_0 5).trans (by decide +kernel))
theorem dX9_offers_6 : decode cX9_offers 6 = .ok (.istore_n 3, 1) := dk_62_ (show cX9_offers.data.toList[6]? = some 0x3e from (LBX9_offersr_0 6).trans (by decide +kernel))
theorem dX9_offers_7 : decode cX9_offers 7 = .ok (.iload_n 3, 1) := dk_29_ (show cX9_offers.data.toList[7]? = some 0x1d from (LBX9_offersr_0 7).trans (by decide +kernel))
theorem dX9_offers_8 : decode cX9_offers 8 = .ok (.iload_n 1, 1) := dk_27_ (show cX9_offers.data.toList[8]? = some 0x1b from (LBX9_offersr_0 8).trans (by decide +kernel))
theorem dX9_offers_9 : decode cX9_offers 9 = .ok (.if_icmp .ge 36, 3) := dk_162_ (show cX9_offers.data.toList[9]? = some 0xa2 from (LBX9_offersr_0 9).trans (by decide +kernel)) (show cX9_offers.data.toList[10]? = some 0x00 from (LBX9_offersr_0 10).trans (by decide +kernel)) (show cX9_offers.data.toList[11]? = some 0x24 from (LBX9_offersr_0 11).trans (by decide +kernel)) (by decide)
theorem dX9_offers_12 : decode cX9_offers 12 = .ok (.aload_n 0, 1) := dk_42_ (show cX9_offers.data.toList[12]? = some 0x2a from (LBX9_offersr_0 12).trans (by decide +kernel))
theorem dX9_offers_13 : decode cX9_offers 13 = .ok (.aload_n 0, 1) := dk_42_ (show cX9_offers.data.toList[13]? = some 0x2a from (LBX9_offersr_0 13).trans (by decide +kernel))
theorem dX9_offers_14 : decode cX9_offers 14 = .ok (.getfield 22, 3) := dk_180_ (show cX9_offers.data.toList[14]? = some 0xb4 from (LBX9_offersr_0 14).trans (by decide +kernel)) (show cX9_offers.data.toList[15]? = some 0x00 from (LBX9_offersr_0 15).trans (by decide +kernel)) (show cX9_offers.data.toList[16]? = some 0x16 from (LBX9_offersr_1 0).trans (by decide +kernel)) (by decide)
theorem dX9_offers_17 : decode cX9_offers 17 = .ok (.bipush 10, 2) := dk_16_ (show cX9_offers.data.toList[17]? = some 0x10 from (LBX9_offersr_1 1).trans (by decide +kernel)) (show cX9_offers.data.toList[18]? = some 0x0a from (LBX9_offersr_1 2).trans (by decide +kernel)) (by decide)
theorem dX9_offers_19 : decode cX9_offers 19 = .ok (.aload_n 0, 1) := dk_42_ (show cX9_offers.data.toList[19]? = some 0x2a from (LBX9_offersr_1 3).trans (by decide +kernel))
theorem dX9_offers_20 : decode cX9_offers 20 = .ok (.getfield 28, 3) := dk_180_ (show cX9_offers.data.toList[20]? = some 0xb4 from (LBX9_offersr_1 4).trans (by decide +kernel)) (show cX9_offers.data.toList[21]? = some 0x00 from (LBX9_offersr_1 5).trans (by decide +kernel)) (show cX9_offers.data.toList[22]? = some 0x1c from (LBX9_offersr_1 6).trans (by decide +kernel)) (by decide)
theorem dX9_offers_23 : decode cX9_offers 23 = .ok (.iload_n 3, 1) := dk_29_ (show cX9_offers.data.toList[23]? = some 0x1d from (LBX9_offersr_1 7).trans (by decide +kernel))
theorem dX9_offers_24 : decode cX9_offers 24 = .ok (.iconst 1, 1) := dk_4_ (show cX9_offers.data.toList[24]? = some 0x04 from (LBX9_offersr_1 8).trans (by decide +kernel))
theorem dX9_offers_25 : decode cX9_offers 25 = .ok (.isub, 1) := dk_100_ (show cX9_offers.data.toList[25]? = some 0x64 from (LBX9_offersr_1 9).trans (by decide +kernel))
theorem dX9_offers_26 : decode cX9_offers 26 = .ok (.iaload, 1) := dk_46_ (show cX9_offers.data.toList[26]? = some 0x2e from (LBX9_offersr_1 10).trans (by decide +kernel))
theorem dX9_offers_27 : decode cX9_offers 27 = .ok (.imul, 1) := dk_104_ (show cX9_offers.data.toList[27]? = some 0x68 from (LBX9_offersr_1 11).trans (by decide +kernel))
theorem dX9_offers_28 : decode cX9_offers 28 = .ok (.aload_n 0, 1) := dk_42_ (show cX9_offers.data.toList[28]? = some 0x2a from (LBX9_offersr_1 12).trans (by decide +kernel))
theorem dX9_offers_29 : decode cX9_offers 29 = .ok (.getfield 28, 3) := dk_180_ (show cX9_offers.data.toList[29]? = some 0xb4 from (LBX9_offersr_1 13).trans (by decide +kernel)) (show cX9_offers.data.toList[30]? = some 0x00 from (LBX9_offersr_1 14).trans (by decide +kernel)) (show cX9_offers.data.toList[31]? = some 0x1c from (LBX9_offersr_1 15).trans (by decide +kernel)) (by decide)
theorem dX9_offers_32 : decode cX9_offers 32 = .ok (.iload_n 3, 1) := dk_29_ (show cX9_offers.data.toList[32]? = some 0x1d from (LBX9_offersr_2 0).trans (by decide +kernel))
theorem dX9_offers_33 : decode cX9_offers 33 = .ok (.iaload, 1) := dk_46_ (show cX9_offers.data.toList[33]? = some 0x2e from (LBX9_offersr_2 1).trans (by decide +kernel))
theorem dX9_offers_34 : decode cX9_offers 34 = .ok (.iadd, 1) := dk_96_ (show cX9_offers.data.toList[34]? = some 0x60 from (LBX9_offersr_2 2).trans (by decide +kernel))
theorem dX9_offers_35 : decode cX9_offers 35 = .ok (.iaload, 1) := dk_46_ (show cX9_offers.data.toList[35]? = some 0x2e from (LBX9_offersr_2 3).trans (by decide +kernel))
theorem dX9_offers_36 : decode cX9_offers 36 = .ok (.invokevirtual 130, 3) := dk_182_ (show cX9_offers.data.toList[36]? = some 0xb6 from (LBX9_offersr_2 4).trans (by decide +kernel)) (show cX9_offers.data.toList[37]? = some 0x00 from (LBX9_offersr_2 5).trans (by decide +kernel)) (show cX9_offers.data.toList[38]? = some 0x82 from (LBX9_offersr_2 6).trans (by decide +kernel)) (by decide)
theorem dX9_offers_39 : decode cX9_offers 39 = .ok (.iinc 3 1, 3) := dk_132_ (show cX9_offers.data.toList[39]? = some 0x84 from (LBX9_offersr_2 7).trans (by decide +kernel)) (show cX9_offers.data.toList[40]? = some 0x03 from (LBX9_offersr_2 8).trans (by decide +kernel)) (show cX9_offers.data.toList[41]? = some 0x01 from (LBX9_offersr_2 9).trans (by decide +kernel)) (by decide) (by decide)
theorem dX9_offers_42 : decode cX9_offers 42 = .ok (.goto (-35), 3) := dk_167_ (show cX9_offers.data.toList[42]? = some 0xa7 from (LBX9_offersr_2 10).trans (by decide +kernel)) (show cX9_offers.data.toList[43]? = some 0xff from (LBX9_offersr_2 11).trans (by decide +kernel)) (show cX9_offers.data.toList[44]? = some 0xdd from (LBX9_offersr_2 12).trans (by decide +kernel)) (by decide)
theorem dX9_offers_45 : decode cX9_offers 45 = .ok (.iload_n 2, 1) := dk_28_ (show cX9_offers.data.toList[45]? = some 0x1c from (LBX9_offersr_2 13).trans (by decide +kernel))
theorem dX9_offers_46 : decode cX9_offers 46 = .ok (.ifCond .eq 30, 3) := dk_153_ (show cX9_offers.data.toList[46]? = some 0x99 from (LBX9_offersr_2 14).trans (by decide +kernel)) (show cX9_offers.data.toList[47]? = some 0x00 from (LBX9_offersr_2 15).trans (by decide +kernel)) (show cX9_offers.data.toList[48]? = some 0x1e from (LBX9_offersr_3 0).trans (by decide +kernel)) (by decide)
theorem dX9_offers_49 : decode cX9_offers 49 = .ok (.aload_n 0, 1) := dk_42_ (show cX9_offers.data.toList[49]? = some 0x2a from (LBX9_offersr_3 1).trans (by decide +kernel))
theorem dX9_offers_50 : decode cX9_offers 50 = .ok (.aload_n 0, 1) := dk_42_ (show cX9_offers.data.toList[50]? = some 0x2a from (LBX9_offersr_3 2).trans (by decide +kernel))
theorem dX9_offers_51 : decode cX9_offers 51 = .ok (.getfield 22, 3) := dk_180_ (show cX9_offers.data.toList[51]? = some 0xb4 from (LBX9_offersr_3 3).trans (by decide +kernel)) (show cX9_offers.data.toList[52]? = some 0x00 from (LBX9_offersr_3 4).trans (by decide +kernel)) (show cX9_offers.data.toList[53]? = some 0x16 from (LBX9_offersr_3 5).trans (by decide +kernel)) (by decide)
theorem dX9_offers_54 : decode cX9_offers 54 = .ok (.bipush 10, 2) := dk_16_ (show cX9_offers.data.toList[54]? = some 0x10 from (LBX9_offersr_3 6).trans (by decide +kernel)) (show cX9_offers.data.toList[55]? = some 0x0a from (LBX9_offersr_3 7).trans (by decide +kernel)) (by decide)
theorem dX9_offers_56 : decode cX9_offers 56 = .ok (.aload_n 0, 1) := dk_42_ (show cX9_offers.data.toList[56]? = some 0x2a from (LBX9_offersr_3 8).trans (by decide +kernel))
theorem dX9_offers_57 : decode cX9_offers 57 = .ok (.getfield 28, 3) := dk_180_ (show cX9_offers.data.toList[57]? = some 0xb4 from (LBX9_offersr_3 9).trans (by decide +kernel)) (show cX9_offers.data.toList[58]? = some 0x00 from (LBX9_offersr_3 10).trans (by decide +kernel)) (show cX9_offers.data.toList[59]? = some 0x1c from (LBX9_offersr_3 11).trans (by decide +kernel)) (by decide)
theorem dX9_offers_60 : decode cX9_offers 60 = .ok (.iload_n 1, 1) := dk_27_ (show cX9_offers.data.toList[60]? = some 0x1b from (LBX9_offersr_3 12).trans (by decide +kernel))
theorem dX9_offers_61 : decode cX9_offers 61 = .ok (.iconst 1, 1) := dk_4_ (show cX9_offers.data.toList[61]? = some 0x04 from (LBX9_offersr_3 13).trans (by decide +kernel))
theorem dX9_offers_62 : decode cX9_offers 62 = .ok (.isub, 1) := dk_100_ (show cX9_offers.data.toList[62]? = some 0x64 from (LBX9_offersr_3 14).trans (by decide +kernel))
theorem dX9_offers_63 : decode cX9_offers 63 = .ok (.iaload, 1) := dk_46_ (show cX9_offers.data.toList[63]? = some 0x2e from (LBX9_offersr_3 15).trans (by decide +kernel))
theorem dX9_offers_64 : decode cX9_offers 64 = .ok (.imul, 1) := dk_104_ (show cX9_offers.data.toList[64]? = some 0x68 from (LBX9_offersr_4 0).trans (by decide +kernel))
theorem dX9_offers_65 : decode cX9_offers 65 = .ok (.aload_n 0, 1) := dk_42_ (show cX9_offers.data.toList[65]? = some 0x2a from (LBX9_offersr_4 1).trans (by decide +kernel))
theorem dX9_offers_66 : decode cX9_offers 66 = .ok (.getfield 28, 3) := dk_180_ (show cX9_offers.data.toList[66]? = some 0xb4 from (LBX9_offersr_4 2).trans (by decide +kernel)) (show cX9_offers.data.toList[67]? = some 0x00 from (LBX9_offersr_4 3).trans (by decide +kernel)) (show cX9_offers.data.toList[68]? = some 0x1c from (LBX9_offersr_4 4).trans (by decide +kernel)) (by decide)
theorem dX9_offers_69 : decode cX9_offers 69 = .ok (.iconst 0, 1) := dk_3_ (show cX9_offers.data.toList[69]? = some 0x03 from (LBX9_offersr_4 5).trans (by decide +kernel))
theorem dX9_offers_70 : decode cX9_offers 70 = .ok (.iaload, 1) := dk_46_ (show cX9_offers.data.toList[70]? = some 0x2e from (LBX9_offersr_4 6).trans (by decide +kernel))
theorem dX9_offers_71 : decode cX9_offers 71 = .ok (.iadd, 1) := dk_96_ (show cX9_offers.data.toList[71]? = some 0x60 from (LBX9_offersr_4 7).trans (by decide +kernel))
theorem dX9_offers_72 : decode cX9_offers 72 = .ok (.iaload, 1) := dk_46_ (show cX9_offers.data.toList[72]? = some 0x2e from (LBX9_offersr_4 8).trans (by decide +kernel))
theorem dX9_offers_73 : decode cX9_offers 73 = .ok (.invokevirtual 130, 3) := dk_182_ (show cX9_offers.data.toList[73]? = some 0xb6 from (LBX9_offersr_4 9).trans (by decide +kernel)) (show cX9_offers.data.toList[74]? = some 0x00 from (LBX9_offersr_4 10).trans (by decide +kernel)) (show cX9_offers.data.toList[75]? = some 0x82 from (LBX9_offersr_4 11).trans (by decide +kernel)) (by decide)
theorem dX9_offers_76 : decode cX9_offers 76 = .ok (.aload_n 0, 1) := dk_42_ (show cX9_offers.data.toList[76]? = some 0x2a from (LBX9_offersr_4 12).trans (by decide +kernel))
theorem dX9_offers_77 : decode cX9_offers 77 = .ok (.aload_n 0, 1) := dk_42_ (show cX9_offers.data.toList[77]? = some 0x2a from (LBX9_offersr_4 13).trans (by decide +kernel))
theorem dX9_offers_78 : decode cX9_offers 78 = .ok (.getfield 126, 3) := dk_180_ (show cX9_offers.data.toList[78]? = some 0xb4 from (LBX9_offersr_4 14).trans (by decide +kernel)) (show cX9_offers.data.toList[79]? = some 0x00 from (LBX9_offersr_4 15).trans (by decide +kernel)) (show cX9_offers.data.toList[80]? = some 0x7e from (LBX9_offersr_5 0).trans (by decide +kernel)) (by decide)
theorem dX9_offers_81 : decode cX9_offers 81 = .ok (.aload_n 0, 1) := dk_42_ (show cX9_offers.data.toList[81]? = some 0x2a from (LBX9_offersr_5 1).trans (by decide +kernel))
theorem dX9_offers_82 : decode cX9_offers 82 = .ok (.getfield 134, 3) := dk_180_ (show cX9_offers.data.toList[82]? = some 0xb4 from (LBX9_offersr_5 2).trans (by decide +kernel)) (show cX9_offers.data.toList[83]? = some 0x00 from (LBX9_offersr_5 3).trans (by decide +kernel)) (show cX9_offers.data.toList[84]? = some 0x86 from (LBX9_offersr_5 4).trans (by decide +kernel)) (by decide)
theorem dX9_offers_85 : decode cX9_offers 85 = .ok (.if_icmp .ge 10, 3) := dk_162_ (show cX9_offers.data.toList[85]? = some 0xa2 from (LBX9_offersr_5 5).trans (by decide +kernel)) (show cX9_offers.data.toList[86]? = some 0x00 from (LBX9_offersr_5 6).trans (by decide +kernel)) (show cX9_offers.data.toList[87]? = some 0x0a from (LBX9_offersr_5 7).trans (by decide +kernel)) (by decide)
theorem dX9_offers_88 : decode cX9_offers 88 = .ok (.aload_n 0, 1) := dk_42_ (show cX9_offers.data.toList[88]? = some 0x2a from (LBX9_offersr_5 8).trans (by decide +kernel))
theorem dX9_offers_89 : decode cX9_offers 89 = .ok (.getfield 126, 3) := dk_180_ (show cX9_offers.data.toList[89]? = some 0xb4 from (LBX9_offersr_5 9).trans (by decide +kernel)) (show cX9_offers.data.toList[90]? = some 0x00 from (LBX9_offersr_5 10).trans (by decide +kernel)) (show cX9_offers.data.toList[91]? = some 0x7e from (LBX9_offersr_5 11).trans (by decide +kernel)) (by decide)
theorem dX9_offers_92 : decode cX9_offers 92 = .ok (.goto 7, 3) := dk_167_ (show cX9_offers.data.toList[92]? = some 0xa7 from (LBX9_offersr_5 12).trans (by decide +kernel)) (show cX9_offers.data.toList[93]? = some 0x00 from (LBX9_offersr_5 13).trans (by decide +kernel)) (show cX9_offers.data.toList[94]? = some 0x07 from (LBX9_offersr_5 14).trans (by decide +kernel)) (by decide)
theorem dX9_offers_95 : decode cX9_offers 95 = .ok (.aload_n 0, 1) := dk_42_ (show cX9_offers.data.toList[95]? = some 0x2a from (LBX9_offersr_5 15).trans (by decide +kernel))
theorem dX9_offers_96 : decode cX9_offers 96 = .ok (.getfield 134, 3) := dk_180_ (show cX9_offers.data.toList[96]? = some 0xb4 from (LBX9_offersr_6 0).trans (by decide +kernel)) (show cX9_offers.data.toList[97]? = some 0x00 from (LBX9_offersr_6 1).trans (by decide +kernel)) (show cX9_offers.data.toList[98]? = some 0x86 from (LBX9_offersr_6 2).trans (by decide +kernel)) (by decide)
theorem dX9_offers_99 : decode cX9_offers 99 = .ok (.putfield 134, 3) := dk_181_ (show cX9_offers.data.toList[99]? = some 0xb5 from (LBX9_offersr_6 3).trans (by decide +kernel)) (show cX9_offers.data.toList[100]? = some 0x00 from (LBX9_offersr_6 4).trans (by decide +kernel)) (show cX9_offers.data.toList[101]? = some 0x86 from (LBX9_offersr_6 5).trans (by decide +kernel)) (by decide)
theorem dX9_offers_102 : decode cX9_offers 102 = .ok (.return_, 1) := dk_177_ (show cX9_offers.data.toList[102]? = some 0xb1 from (LBX9_offersr_6 6).trans (by decide +kernel))
def LRX9_orders_11 : List UInt8 := []
def LBX9_orders_10 : List UInt8 := [0x2a, 0x2a, 0xb4, 0x00, 0x86, 0xb5, 0x00, 0x7e, 0xb1]
def LRX9_orders_10 : List UInt8 := LBX9_orders_10 ++ LRX9_orders_11
def LBX9_orders_9 : List UInt8 := [0xff, 0xa7, 0xff, 0xc7, 0x2a, 0x1d, 0x1c, 0xb6, 0x00, 0x8c, 0x84, 0x05, 0x01, 0xa7, 0xff, 0x8c]
def LRX9_orders_9 : List UInt8 := LBX9_orders_9 ++ LRX9_orders_10
def LBX9_orders_8 : List UInt8 := [0x1c, 0x15, 0x07, 0x2e, 0x4f, 0x2a, 0xb4, 0x00, 0x1c, 0x15, 0x07, 0x15, 0x09, 0x4f, 0x84, 0x07]
def LRX9_orders_8 : List UInt8 := LBX9_orders_8 ++ LRX9_orders_9
def LBX9_orders_7 : List UInt8 := [0x00, 0x1c, 0x15, 0x08, 0x2e, 0x36, 0x09, 0x2a, 0xb4, 0x00, 0x1c, 0x15, 0x08, 0x2a, 0xb4, 0x00]
def LRX9_orders_7 : List UInt8 := LBX9_orders_7 ++ LRX9_orders_8
def LBX9_orders_6 : List UInt8 := [0x06, 0x15, 0x07, 0x70, 0x60, 0x36, 0x08, 0x15, 0x06, 0x15, 0x07, 0x6c, 0x36, 0x06, 0x2a, 0xb4]
def LRX9_orders_6 : List UInt8 := LBX9_orders_6 ++ LRX9_orders_7
def LBX9_orders_5 : List UInt8 := [0x05, 0x36, 0x06, 0x1d, 0x04, 0x64, 0x36, 0x07, 0x15, 0x07, 0x04, 0xa4, 0x00, 0x39, 0x04, 0x15]
def LRX9_orders_5 : List UInt8 := LBX9_orders_5 ++ LRX9_orders_6
def LBX9_orders_4 : List UInt8 := [0x1b, 0x05, 0x15, 0x06, 0x60, 0xb6, 0x00, 0x89, 0x4f, 0x84, 0x06, 0x01, 0xa7, 0xff, 0xe7, 0x15]
def LRX9_orders_4 : List UInt8 := LBX9_orders_4 ++ LRX9_orders_5
def LBX9_orders_3 : List UInt8 := [0x03, 0x36, 0x06, 0x15, 0x06, 0x1d, 0xa2, 0x00, 0x19, 0x2a, 0xb4, 0x00, 0x1c, 0x15, 0x06, 0x2a]
def LRX9_orders_3 : List UInt8 := LBX9_orders_3 ++ LRX9_orders_4
def LBX9_orders_2 : List UInt8 := [0x2a, 0x12, 0x68, 0xb5, 0x00, 0x86, 0x03, 0x36, 0x05, 0x15, 0x05, 0x15, 0x04, 0xa2, 0x00, 0x73]
def LRX9_orders_2 : List UInt8 := LBX9_orders_2 ++ LRX9_orders_3
def LBX9_orders_1 : List UInt8 := [0xa2, 0x00, 0x10, 0x15, 0x04, 0x15, 0x05, 0x68, 0x36, 0x04, 0x84, 0x05, 0x01, 0xa7, 0xff, 0xf0]
def LRX9_orders_1 : List UInt8 := LBX9_orders_1 ++ LRX9_orders_2
def LBX9_orders_0 : List UInt8 := [0x2a, 0x1b, 0x04, 0xb6, 0x00, 0x89, 0x3e, 0x04, 0x36, 0x04, 0x05, 0x36, 0x05, 0x15, 0x05, 0x1d]
def LRX9_orders_0 : List UInt8 := LBX9_orders_0 ++ LRX9_orders_1
set_option maxRecDepth 100000 in
theorem LBX9_orders_eq : cX9_orders.data.toList = LRX9_orders_0 := by decide +kernel
theorem LBX9_ordersr_0 (k : Nat) : cX9_orders.data.toList[0 + k]? = LRX9_orders_0[k]? := by rw [LBX9_orders_eq, Nat.zero_add]
theorem LBX9_ordersr_1 (k : Nat) : cX9_orders.data.toList[16 + k]? = LRX9_orders_1[k]? := by
  have h := LBX9_ordersr_0 (16 + k)
  rw [show 0 + (16 + k) = 16 + k by omega] at h
  rw [h]
  exact (List.getElem?_append_right (l₁ := LBX9_orders_0) (l₂ := LRX9_orders_1) (show 16 ≤ 16 + k by omega)).trans (congrArg (fun i => LRX9_orders_1[i]?) (show 16 + k - 16 = k by omega))
theorem LBX9_ordersr_2 (k : Nat) : cX9_orders.data.toList[32 + k]? = LRX9_orders_2[k]? := by
  have h := LBX9_ordersr_1 (16 + k)
  rw [show 16 + (16 + k) = 32 + k by omega] at h
  rw [h]
  exact (List.getElem?_append_right (l₁ := LBX9_orders_1) (l₂ := LRX9_orders_2) (show 16 ≤ 16 + k by omega)).trans (congrArg (fun i => LRX9_orders_2[i]?) (show 16 + k - 16 = k by omega))
theorem LBX9_ordersr_3 (k : Nat) : cX9_orders.data.toList[48 + k]? = LRX9_orders_3[k]? := by
  have h := LBX9_ordersr_2 (16 + k)
  rw [show 32 + (16 + k) = 48 + k by omega] at h
  rw [h]
  exact (List.getElem?_append_right (l₁ := LBX9_orders_2) (l₂ := LRX9_orders_3) (show 16 ≤ 16 + k by omega)).trans (congrArg (fun i => LRX9_orders_3[i]?) (show 16 + k - 16 = k by omega))
theorem LBX9_ordersr_4 (k : Nat) : cX9_orders.data.toList[64 + k]? = LRX9_orders_4[k]? := by
  have h := LBX9_ordersr_3 (16 + k)
  rw [show 48 + (16 + k) = 64 + k by omega] at h
  rw [h]
  exact (List.getElem?_append_right (l₁ := LBX9_orders_3) (l₂ := LRX9_orders_4) (show 16 ≤ 16 + k by omega)).trans (congrArg (fun i => LRX9_orders_4[i]?) (show 16 + k - 16 = k by omega))
theorem LBX9_ordersr_5 (k : Nat) : cX9_orders.data.toList[80 + k]? = LRX9_orders_5[k]? := by
  have h := LBX9_ordersr_4 (16 + k)
  rw [show 64 + (16 + k) = 80 + k by omega] at h
  rw [h]
  exact (List.getElem?_append_right (l₁ := LBX9_orders_4) (l₂ := LRX9_orders_5) (show 16 ≤ 16 + k by omega)).trans (congrArg (fun i => LRX9_orders_5[i]?) (show 16 + k - 16 = k by omega))
theorem LBX9_ordersr_6 (k : Nat) : cX9_orders.data.toList[96 + k]? = LRX9_orders_6[k]? := by
  have h := LBX9_ordersr_5 (16 + k)
  rw [show 80 + (16 + k) = 96 + k by omega] at h
  rw [h]
  exact (List.getElem?_append_right (l₁ := LBX9_orders_5) (l₂ := LRX9_orders_6) (show 16 ≤ 16 + k by omega)).trans (congrArg (fun i => LRX9_orders_6[i]?) (show 16 + k - 16 = k by omega))
theorem LBX9_ordersr_7 (k : Nat) : cX9_orders.data.toList[112 + k]? = LRX9_orders_7[k]? := by
  have h := LBX9_ordersr_6 (16 + k)
  rw [show 96 + (16 + k) = 112 + k by omega] at h
  rw [h]
  exact (List.getElem?_append_right (l₁ := LBX9_orders_6) (l₂ := LRX9_orders_7) (show 16 ≤ 16 + k by omega)).trans (congrArg (fun i => LRX9_orders_7[i]?) (show 16 + k - 16 = k by omega))
theorem LBX9_ordersr_8 (k : Nat) : cX9_orders.data.toList[128 + k]? = LRX9_orders_8[k]? := by
  have h := LBX9_ordersr_7 (16 + k)
  rw [show 112 + (16 + k) = 128 + k by omega] at h
  rw [h]
  exact (List.getElem?_append_right (l₁ := LBX9_orders_7) (l₂ := LRX9_orders_8) (show 16 ≤ 16 + k by omega)).trans (congrArg (fun i => LRX9_orders_8[i]?) (show 16 + k - 16 = k by omega))
theorem LBX9_ordersr_9 (k : Nat) : cX9_orders.data.toList[144 + k]? = LRX9_orders_9[k]? := by
  have h := LBX9_ordersr_8 (16 + k)
  rw [show 128 + (16 + k) = 144 + k by omega] at h
  rw [h]
  exact (List.getElem?_append_right (l₁ := LBX9_orders_8) (l₂ := LRX9_orders_9) (show 16 ≤ 16 + k by omega)).trans (congrArg (fun i => LRX9_orders_9[i]?) (show 16 + k - 16 = k by omega))
theorem LBX9_ordersr_10 (k : Nat) : cX9_orders.data.toList[160 + k]? = LRX9_orders_10[k]? := by
  have h := LBX9_ordersr_9 (16 + k)
  rw [show 144 + (16 + k) = 160 + k by omega] at h
  rw [h]
  exact (List.getElem?_append_right (l₁ := LBX9_orders_9) (l₂ := LRX9_orders_10) (show 16 ≤ 16 + k by omega)).trans (congrArg (fun i => LRX9_orders_10[i]?) (show 16 + k - 16 = k by omega))
theorem dX9_orders_0 : decode cX9_orders 0 = .ok (.aload_n 0, 1) := dk_42_ (show cX9_orders.data.toList[0]? = some 0x2a from (LBX9_ordersr_0 0).trans (by decide +kernel))
theorem dX9_orders_1 : decode cX9_orders 1 = .ok (.iload_n 1, 1) := dk_27_ (show cX9_orders.data.toList[1]? = some 0x1b from (LBX9_ordersr_0 1).trans (by decide +kernel))
theorem dX9_orders_2 : decode cX9_orders 2 = .ok (.iconst 1, 1) := dk_4_ (show cX9_orders.data.toList[2]? = some 0x04 from (LBX9_ordersr_0 2).trans (by decide +kernel))
theorem dX9_orders_3 : decode cX9_orders 3 = .ok (.invokevirtual 137, 3) := dk_182_ (show cX9_orders.data.toList[3]? = some 0xb6 from (LBX9_ordersr_0 3).trans (by decide +kernel)) (show cX9_orders.data.toList[4]? = some 0x00 from (LBX9_ordersr_0 4).trans (by decide +kernel)) (show cX9_orders.data.toList[5]? = some 0x89 from (LBX9_ordersr_0 5).trans (by decide +kernel)) (by decide)
theorem dX9_orders_6 : decode cX9_orders 6 = .ok (.istore_n 3, 1) := dk_62_ (show cX9_orders.data.toList[6]? = some 0x3e from (LBX9_ordersr_0 6).trans (by decide +kernel))
theorem dX9_orders_7 : decode cX9_orders 7 = .ok (.iconst 1, 1) := dk_4_ (show cX9_orders.data.toList[7]? = some 0x04 from (LBX9_ordersr_0 7).trans (by decide +kernel))
theorem dX9_orders_8 : decode cX9_orders 8 = .ok (.istore 4, 2) := dk_54_ (show cX9_orders.data.toList[8]? = some 0x36 from (LBX9_ordersr_0 8).trans (by decide +kernel)) (show cX9_orders.data.toList[9]? = some 0x04 from (LBX9_ordersr_0 9).trans (by decide +kernel)) (by decide)
theorem dX9_orders_10 : decode cX9_orders 10 = .ok (.iconst 2, 1) := dk_5_ (show cX9_orders.data.toList[10]? = some 0x05 from (LBX9_ordersr_0 10).trans (by decide +kernel))
theorem dX9_orders_11 : decode cX9_orders 11 = .ok (.istore 5, 2) := dk_54_ (show cX9_orders.data.toList[11]? = some 0x36 from (LBX9_ordersr_0 11).trans (by decide +kernel)) (show cX9_orders.data.toList[12]? = some 0x05 from (LBX9_ordersr_0 12).trans (by decide +kernel)) (by decide)
theorem dX9_orders_13 : decode cX9_orders 13 = .ok (.iload 5, 2) := dk_21_ (show cX9_orders.data.toList[13]? = some 0x15 from (LBX9_ordersr_0 13).trans (by decide +kernel)) (show cX9_orders.data.toList[14]? = some 0x05 from (LBX9_ordersr_0 14).trans (by decide +kernel)) (by decide)
theorem dX9_orders_15 : decode cX9_orders 15 = .ok (.iload_n 3, 1) := dk_29_ (show cX9_orders.data.toList[15]? = some 0x1d from (LBX9_ordersr_0 15).trans (by decide +kernel))
theorem dX9_orders_16 : decode cX9_orders 16 = .ok (.if_icmp .ge 16, 3) := dk_162_ (show cX9_orders.data.toList[16]? = some 0xa2 from (LBX9_ordersr_1 0).trans (by decide +kernel)) (show cX9_orders.data.toList[17]? = some 0x00 from (LBX9_ordersr_1 1).trans (by decide +kernel)) (show cX9_orders.data.toList[18]? = some 0x10 from (LBX9_ordersr_1 2).trans (by decide +kernel)) (by decide)
theorem dX9_orders_19 : decode cX9_orders 19 = .ok (.iload 4, 2) := dk_21_ (show cX9_orders.data.toList[19]? = some 0x15 from (LBX9_ordersr_1 3).trans (by decide +kernel)) (show cX9_orders.data.toList[20]? = some 0x04 from (LBX9_ordersr_1 4).trans (by decide +kernel)) (by decide)
theorem dX9_orders_21 : decode cX9_orders 21 = .ok (.iload 5, 2) := dk_21_ (show cX9_orders.data.toList[21]? = some 0x15 from (LBX9_ordersr_1 5).trans (by decide +kernel)) (show cX9_orders.data.toList[22]? = some 0x05 from (LBX9_ordersr_1 6).trans (by decide +kernel)) (by decide)
theorem dX9_orders_23 : decode cX9_orders 23 = .ok (.imul, 1) := dk_104_ (show cX9_orders.data.toList[23]? = some 0x68 from (LBX9_ordersr_1 7).trans (by decide +kernel))
theorem dX9_orders_24 : decode cX9_orders 24 = .ok (.istore 4, 2) := dk_54_ (show cX9_orders.data.toList[24]? = some 0x36 from (LBX9_ordersr_1 8).trans (by decide +kernel)) (show cX9_orders.data.toList[25]? = some 0x04 from (LBX9_ordersr_1 9).trans (by decide +kernel)) (by decide)
theorem dX9_orders_26 : decode cX9_orders 26 = .ok (.iinc 5 1, 3) := dk_132_ (show cX9_orders.data.toList[26]? = some 0x84 from (LBX9_ordersr_1 10).trans (by decide +kernel)) (show cX9_orders.data.toList[27]? = some 0x05 from (LBX9_ordersr_1 11).trans (by decide +kernel)) (show cX9_orders.data.toList[28]? = some 0x01 from (LBX9_ordersr_1 12).trans (by decide +kernel)) (by decide) (by decide)
theorem dX9_orders_29 : decode cX9_orders 29 = .ok (.goto (-16), 3) := dk_167_ (show cX9_orders.data.toList[29]? = some 0xa7 from (LBX9_ordersr_1 13).trans (by decide +kernel)) (show cX9_orders.data.toList[30]? = some 0xff from (LBX9_ordersr_1 14).trans (by decide +kernel)) (show cX9_orders.data.toList[31]? = some 0xf0 from (LBX9_ordersr_1 15).trans (by decide +kernel)) (by decide)
theorem dX9_orders_32 : decode cX9_orders 32 = .ok (.aload_n 0, 1) := dk_42_ (show cX9_orders.data.toList[32]? = some 0x2a from (LBX9_ordersr_2 0).trans (by decide +kernel))
theorem dX9_orders_33 : decode cX9_orders 33 = .ok (.ldc 104, 2) := dk_18_ (show cX9_orders.data.toList[33]? = some 0x12 from (LBX9_ordersr_2 1).trans (by decide +kernel)) (show cX9_orders.data.toList[34]? = some 0x68 from (LBX9_ordersr_2 2).trans (by decide +kernel)) (by decide)
theorem dX9_orders_35 : decode cX9_orders 35 = .ok (.putfield 134, 3) := dk_181_ (show cX9_orders.data.toList[35]? = some 0xb5 from (LBX9_ordersr_2 3).trans (by decide +kernel)) (show cX9_orders.data.toList[36]? = some 0x00 from (LBX9_ordersr_2 4).trans (by decide +kernel)) (show cX9_orders.data.toList[37]? = some 0x86 from (LBX9_ordersr_2 5).trans (by decide +kernel)) (by decide)
theorem dX9_orders_38 : decode cX9_orders 38 = .ok (.iconst 0, 1) := dk_3_ (show cX9_orders.data.toList[38]? = some 0x03 from (LBX9_ordersr_2 6).trans (by decide +kernel))
theorem dX9_orders_39 : decode cX9_orders 39 = .ok (.istore 5, 2) := dk_54_ (show cX9_orders.data.toList[39]? = some 0x36 from (LBX9_ordersr_2 7).trans (by decide +kernel)) (show cX9_orders.data.toList[40]? = some 0x05 from (LBX9_ordersr_2 8).trans (by decide +kernel)) (by decide)
theorem dX9_orders_41 : decode cX9_orders 41 = .ok (.iload 5, 2) := dk_21_ (show cX9_orders.data.toList[41]? = some 0x15 from (LBX9_ordersr_2 9).trans (by decide +kernel)) (show cX9_orders.data.toList[42]? = some 0x05 from (LBX9_ordersr_2 10).trans (by decide +kernel)) (by decide)
theorem dX9_orders_43 : decode cX9_orders 43 = .ok (.iload 4, 2) := dk_21_ (show cX9_orders.data.toList[43]? = some 0x15 from (LBX9_ordersr_2 11).trans (by decide +kernel)) (show cX9_orders.data.toList[44]? = some 0x04 from (LBX9_ordersr_2 12).trans (by decide +kernel)) (by decide)
theorem dX9_orders_45 : decode cX9_orders 45 = .ok (.if_icmp .ge 115, 3) := dk_162_ (show cX9_orders.data.toList[45]? = some 0xa2 from (LBX9_ordersr_2 13).trans (by decide +kernel)) (show cX9_orders.data.toList[46]? = some 0x00 from (LBX9_ordersr_2 14).trans (by decide +kernel)) (show cX9_orders.data.toList[47]? = some 0x73 from (LBX9_ordersr_2 15).trans (by decide +kernel)) (by decide)
theorem dX9_orders_48 : decode cX9_orders 48 = .ok (.iconst 0, 1) := dk_3_ (show cX9_orders.data.toList[48]? = some 0x03 from (LBX9_ordersr_3 0).trans (by decide +kernel))
theorem dX9_orders_49 : decode cX9_orders 49 = .ok (.istore 6, 2) := dk_54_ (show cX9_orders.data.toList[49]? = some 0x36 from (LBX9_ordersr_3 1).trans (by decide +kernel)) (show cX9_orders.data.toList[50]? = some 0x06 from (LBX9_ordersr_3 2).trans (by decide +kernel)) (by decide)
theorem dX9_orders_51 : decode cX9_orders 51 = .ok (.iload 6, 2) := dk_21_ (show cX9_orders.data.toList[51]? = some 0x15 from (LBX9_ordersr_3 3).trans (by decide +kernel)) (show cX9_orders.data.toList[52]? = some 0x06 from (LBX9_ordersr_3 4).trans (by decide +kernel)) (by decide)
theorem dX9_orders_53 : decode cX9_orders 53 = .ok (.iload_n 3, 1) := dk_29_ (show cX9_orders.data.toList[53]? = some 0x1d from (LBX9_ordersr_3 5).trans (by decide +kernel))
theorem dX9_orders_54 : decode cX9_orders 54 = .ok (.if_icmp .ge 25, 3) := dk_162_ (show cX9_orders.data.toList[54]? = some 0xa2 from (LBX9_ordersr_3 6).trans (by decide +kernel)) (show cX9_orders.data.toList[55]? = some 0x00 from (LBX9_ordersr_3 7).trans (by decide +kernel)) (show cX9_orders.data.toList[56]? = some 0x19 from (LBX9_ordersr_3 8).trans (by decide +kernel)) (by decide)
theorem dX9_orders_57 : decode cX9_orders 57 = .ok (.aload_n 0, 1) := dk_42_ (show cX9_orders.data.toList[57]? = some 0x2a from (LBX9_ordersr_3 9).trans (by decide +kernel))
theorem dX9_orders_58 : decode cX9_orders 58 = .ok (.getfield 28, 3) := dk_180_ (show cX9_orders.data.toList[58]? = some 0xb4 from (LBX9_ordersr_3 10).trans (by decide +kernel)) (show cX9_orders.data.toList[59]? = some 0x00 from (LBX9_ordersr_3 11).trans (by decide +kernel)) (show cX9_orders.data.toList[60]? = some 0x1c from (LBX9_ordersr_3 12).trans (by decide +kernel)) (by decide)
theorem dX9_orders_61 : decode cX9_orders 61 = .ok (.iload 6, 2) := dk_21_ (show cX9_orders.data.toList[61]? = some 0x15 from (LBX9_ordersr_3 13).trans (by decide +kernel)) (show cX9_orders.data.toList[62]? = some 0x06 from (LBX9_ordersr_3 14).trans (by decide +kernel)) (by decide)
theorem dX9_orders_63 : decode cX9_orders 63 = .ok (.aload_n 0, 1) := dk_42_ (show cX9_orders.data.toList[63]? = some 0x2a from (LBX9_ordersr_3 15).trans (by decide +kernel))
theorem dX9_orders_64 : decode cX9_orders 64 = .ok (.iload_n 1, 1) := dk_27_ (show cX9_orders.data.toList[64]? = some 0x1b from (LBX9_ordersr_4 0).trans (by decide +kernel))
theorem dX9_orders_65 : decode cX9_orders 65 = .ok (.iconst 2, 1) := dk_5_ (show cX9_orders.data.toList[65]? = some 0x05 from (LBX9_ordersr_4 1).trans (by decide +kernel))
theorem dX9_orders_66 : decode cX9_orders 66 = .ok (.iload 6, 2) := dk_21_ (show cX9_orders.data.toList[66]? = some 0x15 from (LBX9_ordersr_4 2).trans (by decide +kernel)) (show cX9_orders.data.toList[67]? = some 0x06 from (LBX9_ordersr_4 3).trans (by decide +kernel)) (by decide)
theorem dX9_orders_68 : decode cX9_orders 68 = .ok (.iadd, 1) := dk_96_ (show cX9_orders.data.toList[68]? = some 0x60 from (LBX9_ordersr_4 4).trans (by decide +kernel))
theorem dX9_orders_69 : decode cX9_orders 69 = .ok (.invokevirtual 137, 3) := dk_182_ (show cX9_orders.data.toList[69]? = some 0xb6 from (LBX9_ordersr_4 5).trans (by decide +kernel)) (show cX9_orders.data.toList[70]? = some 0x00 from (LBX9_ordersr_4 6).trans (by decide +kernel)) (show cX9_orders.data.toList[71]? = some 0x89 from (LBX9_ordersr_4 7).trans (by decide +kernel)) (by decide)
theorem dX9_orders_72 : decode cX9_orders 72 = .ok (.iastore, 1) := dk_79_ (show cX9_orders.data.toList[72]? = some 0x4f from (LBX9_ordersr_4 8).trans (by decide +kernel))
theorem dX9_orders_73 : decode cX9_orders 73 = .ok (.iinc 6 1, 3) := dk_132_ (show cX9_orders.data.toList[73]? = some 0x84 from (LBX9_ordersr_4 9).trans (by decide +kernel)) (show cX9_orders.data.toList[74]? = some 0x06 from (LBX9_ordersr_4 10).trans (by decide +kernel)) (show cX9_orders.data.toList[75]? = some 0x01 from (LBX9_ordersr_4 11).trans (by decide +kernel)) (by decide) (by decide)
theorem dX9_orders_76 : decode cX9_orders 76 = .ok (.goto (-25), 3) := dk_167_ (show cX9_orders.data.toList[76]? = some 0xa7 from (LBX9_ordersr_4 12).trans (by decide +kernel)) (show cX9_orders.data.toList[77]? = some 0xff from (LBX9_ordersr_4 13).trans (by decide +kernel)) (show cX9_orders.data.toList[78]? = some 0xe7 from (LBX9_ordersr_4 14).trans (by decide +kernel)) (by decide)
theorem dX9_orders_79 : decode cX9_orders 79 = .ok (.iload 5, 2) := dk_21_ (show cX9_orders.data.toList[79]? = some 0x15 from (LBX9_ordersr_4 15).trans (by decide +kernel)) (show cX9_orders.data.toList[80]? = some 0x05 from (LBX9_ordersr_5 0).trans (by decide +kernel)) (by decide)
theorem dX9_orders_81 : decode cX9_orders 81 = .ok (.istore 6, 2) := dk_54_ (show cX9_orders.data.toList[81]? = some 0x36 from (LBX9_ordersr_5 1).trans (by decide +kernel)) (show cX9_orders.data.toList[82]? = some 0x06 from (LBX9_ordersr_5 2).trans (by decide +kernel)) (by decide)
theorem dX9_orders_83 : decode cX9_orders 83 = .ok (.iload_n 3, 1) := dk_29_ (show cX9_orders.data.toList[83]? = some 0x1d from (LBX9_ordersr_5 3).trans (by decide +kernel))
theorem dX9_orders_84 : decode cX9_orders 84 = .ok (.iconst 1, 1) := dk_4_ (show cX9_orders.data.toList[84]? = some 0x04 from (LBX9_ordersr_5 4).trans (by decide +kernel))
theorem dX9_orders_85 : decode cX9_orders 85 = .ok (.isub, 1) := dk_100_ (show cX9_orders.data.toList[85]? = some 0x64 from (LBX9_ordersr_5 5).trans (by decide +kernel))
theorem dX9_orders_86 : decode cX9_orders 86 = .ok (.istore 7, 2) := dk_54_ (show cX9_orders.data.toList[86]? = some 0x36 from (LBX9_ordersr_5 6).trans (by decide +kernel)) (show cX9_orders.data.toList[87]? = some 0x07 from (LBX9_ordersr_5 7).trans (by decide +kernel)) (by decide)
theorem dX9_orders_88 : decode cX9_orders 88 = .ok (.iload 7, 2) := dk_21_ (show cX9_orders.data.toList[88]? = some 0x15 from (LBX9_ordersr_5 8).trans (by decide +kernel)) (show cX9_orders.data.toList[89]? = some 0x07 from (LBX9_ordersr_5 9).trans (by decide +kernel)) (by decide)
theorem dX9_orders_90 : decode cX9_orders 90 = .ok (.iconst 1, 1) := dk_4_ (show cX9_orders.data.toList[90]? = some 0x04 from (LBX9_ordersr_5 10).trans (by decide +kernel))
theorem dX9_orders_91 : decode cX9_orders 91 = .ok (.if_icmp .le 57, 3) := dk_164_ (show cX9_orders.data.toList[91]? = some 0xa4 from (LBX9_ordersr_5 11).trans (by decide +kernel)) (show cX9_orders.data.toList[92]? = some 0x00 from (LBX9_ordersr_5 12).trans (by decide +kernel)) (show cX9_orders.data.toList[93]? = some 0x39 from (LBX9_ordersr_5 13).trans (by decide +kernel)) (by decide)
theorem dX9_orders_94 : decode cX9_orders 94 = .ok (.iconst 1, 1) := dk_4_ (show cX9_orders.data.toList[94]? = some 0x04 from (LBX9_ordersr_5 14).trans (by decide +kernel))
theorem dX9_orders_95 : decode cX9_orders 95 = .ok (.iload 6, 2) := dk_21_ (show cX9_orders.data.toList[95]? = some 0x15 from (LBX9_ordersr_5 15).trans (by decide +kernel)) (show cX9_orders.data.toList[96]? = some 0x06 from (LBX9_ordersr_6 0).trans (by decide +kernel)) (by decide)
theorem dX9_orders_97 : decode cX9_orders 97 = .ok (.iload 7, 2) := dk_21_ (show cX9_orders.data.toList[97]? = some 0x15 from (LBX9_ordersr_6 1).trans (by decide +kernel)) (show cX9_orders.data.toList[98]? = some 0x07 from (LBX9_ordersr_6 2).trans (by decide +kernel)) (by decide)
theorem dX9_orders_99 : decode cX9_orders 99 = .ok (.irem, 1) := dk_112_ (show cX9_orders.data.toList[99]? = some 0x70 from (LBX9_ordersr_6 3).trans (by decide +kernel))
theorem dX9_orders_100 : decode cX9_orders 100 = .ok (.iadd, 1) := dk_96_ (show cX9_orders.data.toList[100]? = some 0x60 from (LBX9_ordersr_6 4).trans (by decide +kernel))
theorem dX9_orders_101 : decode cX9_orders 101 = .ok (.istore 8, 2) := dk_54_ (show cX9_orders.data.toList[101]? = some 0x36 from (LBX9_ordersr_6 5).trans (by decide +kernel)) (show cX9_orders.data.toList[102]? = some 0x08 from (LBX9_ordersr_6 6).trans (by decide +kernel)) (by decide)
theorem dX9_orders_103 : decode cX9_orders 103 = .ok (.iload 6, 2) := dk_21_ (show cX9_orders.data.toList[103]? = some 0x15 from (LBX9_ordersr_6 7).trans (by decide +kernel)) (show cX9_orders.data.toList[104]? = some 0x06 from (LBX9_ordersr_6 8).trans (by decide +kernel)) (by decide)
theorem dX9_orders_105 : decode cX9_orders 105 = .ok (.iload 7, 2) := dk_21_ (show cX9_orders.data.toList[105]? = some 0x15 from (LBX9_ordersr_6 9).trans (by decide +kernel)) (show cX9_orders.data.toList[106]? = some 0x07 from (LBX9_ordersr_6 10).trans (by decide +kernel)) (by decide)
theorem dX9_orders_107 : decode cX9_orders 107 = .ok (.idiv, 1) := dk_108_ (show cX9_orders.data.toList[107]? = some 0x6c from (LBX9_ordersr_6 11).trans (by decide +kernel))
theorem dX9_orders_108 : decode cX9_orders 108 = .ok (.istore 6, 2) := dk_54_ (show cX9_orders.data.toList[108]? = some 0x36 from (LBX9_ordersr_6 12).trans (by decide +kernel)) (show cX9_orders.data.toList[109]? = some 0x06 from (LBX9_ordersr_6 13).trans (by decide +kernel)) (by decide)
theorem dX9_orders_110 : decode cX9_orders 110 = .ok (.aload_n 0, 1) := dk_42_ (show cX9_orders.data.toList[110]? = some 0x2a from (LBX9_ordersr_6 14).trans (by decide +kernel))
theorem dX9_orders_111 : decode cX9_orders 111 = .ok (.getfield 28, 3) := dk_180_ (show cX9_orders.data.toList[111]? = some 0xb4 from (LBX9_ordersr_6 15).trans (by decide +kernel)) (show cX9_orders.data.toList[112]? = some 0x00 from (LBX9_ordersr_7 0).trans (by decide +kernel)) (show cX9_orders.data.toList[113]? = some 0x1c from (LBX9_ordersr_7 1).trans (by decide +kernel)) (by decide)
theorem dX9_orders_114 : decode cX9_orders 114 = .ok (.iload 8, 2) := dk_21_ (show cX9_orders.data.toList[114]? = some 0x15 from (LBX9_ordersr_7 2).trans (by decide +kernel)) (show cX9_orders.data.toList[115]? = some 0x08 from (LBX9_ordersr_7 3).trans (by decide +kernel)) (by decide)
theorem dX9_orders_116 : decode cX9_orders 116 = .ok (.iaload, 1) := dk_46_ (show cX9_orders.data.toList[116]? = some 0x2e from (LBX9_ordersr_7 4).trans (by decide +kernel))
theorem dX9_orders_117 : decode cX9_orders 117 = .ok (.istore 9, 2) := dk_54_ (show cX9_orders.data.toList[117]? = some 0x36 from (LBX9_ordersr_7 5).trans (by decide +kernel)) (show cX9_orders.data.toList[118]? = some 0x09 from (LBX9_ordersr_7 6).trans (by decide +kernel)) (by decide)
theorem dX9_orders_119 : decode cX9_orders 119 = .ok (.aload_n 0, 1) := dk_42_ (show cX9_orders.data.toList[119]? = some 0x2a from (LBX9_ordersr_7 7).trans (by decide +kernel))
theorem dX9_orders_120 : decode cX9_orders 120 = .ok (.getfield 28, 3) := dk_180_ (show cX9_orders.data.toList[120]? = some 0xb4 from (LBX9_ordersr_7 8).trans (by decide +kernel)) (show cX9_orders.data.toList[121]? = some 0x00 from (LBX9_ordersr_7 9).trans (by decide +kernel)) (show cX9_orders.data.toList[122]? = some 0x1c from (LBX9_ordersr_7 10).trans (by decide +kernel)) (by decide)
theorem dX9_orders_123 : decode cX9_orders 123 = .ok (.iload 8, 2) := dk_21_ (show cX9_orders.data.toList[123]? = some 0x15 from (LBX9_ordersr_7 11).trans (by decide +kernel)) (show cX9_orders.data.toList[124]? = some 0x08 from (LBX9_ordersr_7 12).trans (by decide +kernel)) (by decide)
theorem dX9_orders_125 : decode cX9_orders 125 = .ok (.aload_n 0, 1) := dk_42_ (show cX9_orders.data.toList[125]? = some 0x2a from (LBX9_ordersr_7 13).trans (by decide +kernel))
theorem dX9_orders_126 : decode cX9_orders 126 = .ok (.getfield 28, 3) := dk_180_ (show cX9_orders.data.toList[126]? = some 0xb4 from (LBX9_ordersr_7 14).trans (by decide +kernel)) (show cX9_orders.data.toList[127]? = some 0x00 from (LBX9_ordersr_7 15).trans (by decide +kernel)) (show cX9_orders.data.toList[128]? = some 0x1c from (LBX9_ordersr_8 0).trans (by decide +kernel)) (by decide)
theorem dX9_orders_129 : decode cX9_orders 129 = .ok (.iload 7, 2) := dk_21_ (show cX9_orders.data.toList[129]? = some 0x15 from (LBX9_ordersr_8 1).trans (by decide +kernel)) (show cX9_orders.data.toList[130]? = some 0x07 from (LBX9_ordersr_8 2).trans (by decide +kernel)) (by decide)
theorem dX9_orders_131 : decode cX9_orders 131 = .ok (.iaload, 1) := dk_46_ (show cX9_orders.data.toList[131]? = some 0x2e from (LBX9_ordersr_8 3).trans (by decide +kernel))
theorem dX9_orders_132 : decode cX9_orders 132 = .ok (.iastore, 1) := dk_79_ (show cX9_orders.data.toList[132]? = some 0x4f from (LBX9_ordersr_8 4).trans (by decide +kernel))
theorem dX9_orders_133 : decode cX9_orders 133 = .ok (.aload_n 0, 1) := dk_42_ (show cX9_orders.data.toList[133]? = some 0x2a from (LBX9_ordersr_8 5).trans (by decide +kernel))
theorem dX9_orders_134 : decode cX9_orders 134 = .ok (.getfield 28, 3) := dk_180_ (show cX9_orders.data.toList[134]? = some 0xb4 from (LBX9_ordersr_8 6).trans (by decide +kernel)) (show cX9_orders.data.toList[135]? = some 0x00 from (LBX9_ordersr_8 7).trans (by decide +kernel)) (show cX9_orders.data.toList[136]? = some 0x1c from (LBX9_ordersr_8 8).trans (by decide +kernel)) (by decide)
theorem dX9_orders_137 : decode cX9_orders 137 = .ok (.iload 7, 2) := dk_21_ (show cX9_orders.data.toList[137]? = some 0x15 from (LBX9_ordersr_8 9).trans (by decide +kernel)) (show cX9_orders.data.toList[138]? = some 0x07 from (LBX9_ordersr_8 10).trans (by decide +kernel)) (by decide)
theorem dX9_orders_139 : decode cX9_orders 139 = .ok (.iload 9, 2) := dk_21_ (show cX9_orders.data.toList[139]? = some 0x15 from (LBX9_ordersr_8 11).trans (by decide +kernel)) (show cX9_orders.data.toList[140]? = some 0x09 from (LBX9_ordersr_8 12).trans (by decide +kernel)) (by decide)
theorem dX9_orders_141 : decode cX9_orders 141 = .ok (.iastore, 1) := dk_79_ (show cX9_orders.data.toList[141]? = some 0x4f from (LBX9_ordersr_8 13).trans (by decide +kernel))
theorem dX9_orders_142 : decode cX9_orders 142 = .ok (.iinc 7 (-1), 3) := dk_132_ (show cX9_orders.data.toList[142]? = some 0x84 from (LBX9_ordersr_8 14).trans (by decide +kernel)) (show cX9_orders.data.toList[143]? = some 0x07 from (LBX9_ordersr_8 15).trans (by decide +kernel)) (show cX9_orders.data.toList[144]? = some 0xff from (LBX9_ordersr_9 0).trans (by decide +kernel)) (by decide) (by decide)
theorem dX9_orders_145 : decode cX9_orders 145 = .ok (.goto (-57), 3) := dk_167_ (show cX9_orders.data.toList[145]? = some 0xa7 from (LBX9_ordersr_9 1).trans (by decide +kernel)) (show cX9_orders.data.toList[146]? = some 0xff from (LBX9_ordersr_9 2).trans (by decide +kernel)) (show cX9_orders.data.toList[147]? = some 0xc7 from (LBX9_ordersr_9 3).trans (by decide +kernel)) (by decide)
theorem dX9_orders_148 : decode cX9_orders 148 = .ok (.aload_n 0, 1) := dk_42_ (show cX9_orders.data.toList[148]? = some 0x2a from (LBX9_ordersr_9 4).trans (by decide +kernel))
theorem dX9_orders_149 : decode cX9_orders 149 = .ok (.iload_n 3, 1) := dk_29_ (show cX9_orders.data.toList[149]? = some 0x1d from (LBX9_ordersr_9 5).trans (by decide +kernel))
theorem dX9_orders_150 : decode cX9_orders 150 = .ok (.iload_n 2, 1) := dk_28_ (show cX9_orders.data.toList[150]? = some 0x1c from (LBX9_ordersr_9 6).trans (by decide +kernel))
theorem dX9_orders_151 : decode cX9_orders 151 = .ok (.invokevirtual 140, 3) := dk_182_ (show cX9_orders.data.toList[151]? = some 0xb6 from (LBX9_ordersr_9 7).trans (by decide +kernel)) (show cX9_orders.data.toList[152]? = some 0x00 from (LBX9_ordersr_9 8).trans (by decide +kernel)) (show cX9_orders.data.toList[153]? = some 0x8c from (LBX9_ordersr_9 9).trans (by decide +kernel)) (by decide)
theorem dX9_orders_154 : decode cX9_orders 154 = .ok (.iinc 5 1, 3) := dk_132_ (show cX9_orders.data.toList[154]? = some 0x84 from (LBX9_ordersr_9 10).trans (by decide +kernel)) (show cX9_orders.data.toList[155]? = some 0x05 from (LBX9_ordersr_9 11).trans (by decide +kernel)) (show cX9_orders.data.toList[156]? = some 0x01 from (LBX9_ordersr_9 12).trans (by decide +kernel)) (by decide) (by decide)
theorem dX9_orders_157 : decode cX9_orders 157 = .ok (.goto (-116), 3) := dk_167_ (show cX9_orders.data.toList[157]? = some 0xa7 from (LBX9_ordersr_9 13).trans (by decide +kernel)) (show cX9_orders.data.toList[158]? = some 0xff from (LBX9_ordersr_9 14).trans (by decide +kernel)) (show cX9_orders.data.toList[159]? = some 0x8c from (LBX9_ordersr_9 15).trans (by decide +kernel)) (by decide)
theorem dX9_orders_160 : decode cX9_orders 160 = .ok (.aload_n 0, 1) := dk_42_ (show cX9_orders.data.toList[160]? = some 0x2a from (LBX9_ordersr_10 0).trans (by decide +kernel))
theorem dX9_orders_161 : decode cX9_orders 161 = .ok (.aload_n 0, 1) := dk_42_ (show cX9_orders.data.toList[161]? = some 0x2a from (LBX9_ordersr_10 1).trans (by decide +kernel))
theorem dX9_orders_162 : decode cX9_orders 162 = .ok (.getfield 134, 3) := dk_180_ (show cX9_orders.data.toList[162]? = some 0xb4 from (LBX9_ordersr_10 2).trans (by decide +kernel)) (show cX9_orders.data.toList[163]? = some 0x00 from (LBX9_ordersr_10 3).trans (by decide +kernel)) (show cX9_orders.data.toList[164]? = some 0x86 from (LBX9_ordersr_10 4).trans (by decide +kernel)) (by decide)
theorem dX9_orders_165 : decode cX9_orders 165 = .ok (.putfield 126, 3) := dk_181_ (show cX9_orders.data.toList[165]? = some 0xb5 from (LBX9_ordersr_10 5).trans (by decide +kernel)) (show cX9_orders.data.toList[166]? = some 0x00 from (LBX9_ordersr_10 6).trans (by decide +kernel)) (show cX9_orders.data.toList[167]? = some 0x7e from (LBX9_ordersr_10 7).trans (by decide +kernel)) (by decide)
theorem dX9_orders_168 : decode cX9_orders 168 = .ok (.return_, 1) := dk_177_ (show cX9_orders.data.toList[168]? = some 0xb1 from (LBX9_ordersr_10 8).trans (by decide +kernel))
def LRX9_meets_7 : List UInt8 := []
def LBX9_meets_6 : List UInt8 := [0xb1]
def LRX9_meets_6 : List UInt8 := LBX9_meets_6 ++ LRX9_meets_7
def LBX9_meets_5 : List UInt8 := [0x00, 0x86, 0x84, 0x03, 0x01, 0xa7, 0xff, 0xb3, 0x2a, 0x2a, 0xb4, 0x00, 0x86, 0xb5, 0x00, 0x7e]
def LRX9_meets_5 : List UInt8 := LBX9_meets_5 ++ LRX9_meets_6
def LBX9_meets_4 : List UInt8 := [0xb4, 0x00, 0x86, 0xa2, 0x00, 0x08, 0x15, 0x06, 0xa7, 0x00, 0x07, 0x2a, 0xb4, 0x00, 0x86, 0xb5]
def LRX9_meets_4 : List UInt8 := LBX9_meets_4 ++ LRX9_meets_5
def LBX9_meets_3 : List UInt8 := [0xa4, 0x00, 0x08, 0x15, 0x04, 0xa7, 0x00, 0x05, 0x15, 0x05, 0x36, 0x06, 0x2a, 0x15, 0x06, 0x2a]
def LRX9_meets_3 : List UInt8 := LBX9_meets_3 ++ LRX9_meets_4
def LBX9_meets_2 : List UInt8 := [0xb4, 0x00, 0x16, 0x10, 0x0a, 0x1c, 0x68, 0x1d, 0x60, 0x2e, 0x36, 0x05, 0x15, 0x04, 0x15, 0x05]
def LRX9_meets_2 : List UInt8 := LBX9_meets_2 ++ LRX9_meets_3
def LBX9_meets_1 : List UInt8 := [0x00, 0x49, 0x2a, 0xb4, 0x00, 0x16, 0x10, 0x0a, 0x1b, 0x68, 0x1d, 0x60, 0x2e, 0x36, 0x04, 0x2a]
def LRX9_meets_1 : List UInt8 := LBX9_meets_1 ++ LRX9_meets_2
def LBX9_meets_0 : List UInt8 := [0x2a, 0x12, 0x68, 0xb5, 0x00, 0x86, 0x03, 0x3e, 0x1d, 0x2a, 0xb4, 0x00, 0x07, 0x03, 0x2e, 0xa2]
def LRX9_meets_0 : List UInt8 := LBX9_meets_0 ++ LRX9_meets_1
set_option maxRecDepth 100000 in
theorem LBX9_meets_eq : cX9_meets.data.toList = LRX9_meets_0 := by decide +kernel
theorem LBX9_meetsr_0 (k : Nat) : cX9_meets.data.toList[0 + k]? = LRX9_meets_0[k]? := by rw [LBX9_meets_eq, Nat.zero_add]
theorem LBX9_meetsr_1 (k : Nat) : cX9_meets.data.toList[16 + k]? = LRX9_meets_1[k]? := by
  have h := LBX9_meetsr_0 (16 + k)
  rw [show 0 + (16 + k) = 16 + k by omega] at h
  rw [h]
  exact (List.getElem?_append_right (l₁ := LBX9_meets_0) (l₂ := LRX9_meets_1) (show 16 ≤ 16 + k by omega)).trans (congrArg (fun i => LRX9_meets_1[i]?) (show 16 + k - 16 = k by omega))
theorem LBX9_meetsr_2 (k : Nat) : cX9_meets.data.toList[32 + k]? = LRX9_meets_2[k]? := by
  have h := LBX9_meetsr_1 (16 + k)
  rw [show 16 + (16 + k) = 32 + k by omega] at h
  rw [h]
  exact (List.getElem?_append_right (l₁ := LBX9_meets_1) (l₂ := LRX9_meets_2) (show 16 ≤ 16 + k by omega)).trans (congrArg (fun i => LRX9_meets_2[i]?) (show 16 + k - 16 = k by omega))
theorem LBX9_meetsr_3 (k : Nat) : cX9_meets.data.toList[48 + k]? = LRX9_meets_3[k]? := by
  have h := LBX9_meetsr_2 (16 + k)
  rw [show 32 + (16 + k) = 48 + k by omega] at h
  rw [h]
  exact (List.getElem?_append_right (l₁ := LBX9_meets_2) (l₂ := LRX9_meets_3) (show 16 ≤ 16 + k by omega)).trans (congrArg (fun i => LRX9_meets_3[i]?) (show 16 + k - 16 = k by omega))
theorem LBX9_meetsr_4 (k : Nat) : cX9_meets.data.toList[64 + k]? = LRX9_meets_4[k]? := by
  have h := LBX9_meetsr_3 (16 + k)
  rw [show 48 + (16 + k) = 64 + k by omega] at h
  rw [h]
  exact (List.getElem?_append_right (l₁ := LBX9_meets_3) (l₂ := LRX9_meets_4) (show 16 ≤ 16 + k by omega)).trans (congrArg (fun i => LRX9_meets_4[i]?) (show 16 + k - 16 = k by omega))
theorem LBX9_meetsr_5 (k : Nat) : cX9_meets.data.toList[80 + k]? = LRX9_meets_5[k]? := by
  have h := LBX9_meetsr_4 (16 + k)
  rw [show 64 + (16 + k) = 80 + k by omega] at h
  rw [h]
  exact (List.getElem?_append_right (l₁ := LBX9_meets_4) (l₂ := LRX9_meets_5) (show 16 ≤ 16 + k by omega)).trans (congrArg (fun i => LRX9_meets_5[i]?) (show 16 + k - 16 = k by omega))
theorem LBX9_meetsr_6 (k : Nat) : cX9_meets.data.toList[96 + k]? = LRX9_meets_6[k]? := by
  have h := LBX9_meetsr_5 (16 + k)
  rw [show 80 + (16 + k) = 96 + k by omega] at h
  rw [h]
  exact (List.getElem?_append_right (l₁ := LBX9_meets_5) (l₂ := LRX9_meets_6) (show 16 ≤ 16 + k by omega)).trans (congrArg (fun i => LRX9_meets_6[i]?) (show 16 + k - 16 = k by omega))
theorem dX9_meets_0 : decode cX9_meets 0 = .ok (.aload_n 0, 1) := dk_42_ (show cX9_meets.data.toList[0]? = some 0x2a from (LBX9_meetsr_0 0).trans (by decide +kernel))
theorem dX9_meets_1 : decode cX9_meets 1 = .ok (.ldc 104, 2) := dk_18_ (show cX9_meets.data.toList[1]? = some 0x12 from (LBX9_meetsr_0 1).trans (by decide +kernel)) (show cX9_meets.data.toList[2]? = some 0x68 from (LBX9_meetsr_0 2).trans (by decide +kernel)) (by decide)
theorem dX9_meets_3 : decode cX9_meets 3 = .ok (.putfield 134, 3) := dk_181_ (show cX9_meets.data.toList[3]? = some 0xb5 from (LBX9_meetsr_0 3).trans (by decide +kernel)) (show cX9_meets.data.toList[4]? = some 0x00 from (LBX9_meetsr_0 4).trans (by decide +kernel)) (show cX9_meets.data.toList[5]? = some 0x86 from (LBX9_meetsr_0 5).trans (by decide +kernel)) (by decide)
theorem dX9_meets_6 : decode cX9_meets 6 = .ok (.iconst 0, 1) := dk_3_ (show cX9_meets.data.toList[6]? = some 0x03 from (LBX9_meetsr_0 6).trans (by decide +kernel))
theorem dX9_meets_7 : decode cX9_meets 7 = .ok (.istore_n 3, 1) := dk_62_ (show cX9_meets.data.toList[7]? = some 0x3e from (LBX9_meetsr_0 7).trans (by decide +kernel))
theorem dX9_meets_8 : decode cX9_meets 8 = .ok (.iload_n 3, 1) := dk_29_ (show cX9_meets.data.toList[8]? = some 0x1d from (LBX9_meetsr_0 8).trans (by decide +kernel))
theorem dX9_meets_9 : decode cX9_meets 9 = .ok (.aload_n 0, 1) := dk_42_ (show cX9_meets.data.toList[9]? = some 0x2a from (LBX9_meetsr_0 9).trans (by decide +kernel))
theorem dX9_meets_10 : decode cX9_meets 10 = .ok (.getfield 7, 3) := dk_180_ (show cX9_meets.data.toList[10]? = some 0xb4 from (LBX9_meetsr_0 10).trans (by decide +kernel)) (show cX9_meets.data.toList[11]? = some 0x00 from (LBX9_meetsr_0 11).trans (by decide +kernel)) (show cX9_meets.data.toList[12]? = some 0x07 from (LBX9_meetsr_0 12).trans (by decide +kernel)) (by decide)
theorem dX9_meets_13 : decode cX9_meets 13 = .ok (.iconst 0, 1) := dk_3_ (show cX9_meets.data.toList[13]? = some 0x03 from (LBX9_meetsr_0 13).trans (by decide +kernel))
theorem dX9_meets_14 : decode cX9_meets 14 = .ok (.iaload, 1) := dk_46_ (show cX9_meets.data.toList[14]? = some 0x2e from (LBX9_meetsr_0 14).trans (by decide +kernel))
theorem dX9_meets_15 : decode cX9_meets 15 = .ok (.if_icmp .ge 73, 3) := dk_162_ (show cX9_meets.data.toList[15]? = some 0xa2 from (LBX9_meetsr_0 15).trans (by decide +kernel)) (show cX9_meets.data.toList[16]? = some 0x00 from (LBX9_meetsr_1 0).trans (by decide +kernel)) (show cX9_meets.data.toList[17]? = some 0x49 from (LBX9_meetsr_1 1).trans (by decide +kernel)) (by decide)
theorem dX9_meets_18 : decode cX9_meets 18 = .ok (.aload_n 0, 1) := dk_42_ (show cX9_meets.data.toList[18]? = some 0x2a from (LBX9_meetsr_1 2).trans (by decide +kernel))
theorem dX9_meets_19 : decode cX9_meets 19 = .ok (.getfield 22, 3) := dk_180_ (show cX9_meets.data.toList[19]? = some 0xb4 from (LBX9_meetsr_1 3).trans (by decide +kernel)) (show cX9_meets.data.toList[20]? = some 0x00 from (LBX9_meetsr_1 4).trans (by decide +kernel)) (show cX9_meets.data.toList[21]? = some 0x16 from (LBX9_meetsr_1 5).trans (by decide +kernel)) (by decide)
theorem dX9_meets_22 : decode cX9_meets 22 = .ok (.bipush 10, 2) := dk_16_ (show cX9_meets.data.toList[22]? = some 0x10 from (LBX9_meetsr_1 6).trans (by decide +kernel)) (show cX9_meets.data.toList[23]? = some 0x0a from (LBX9_meetsr_1 7).trans (by decide +kernel)) (by decide)
theorem dX9_meets_24 : decode cX9_meets 24 = .ok (.iload_n 1, 1) := dk_27_ (show cX9_meets.data.toList[24]? = some 0x1b from (LBX9_meetsr_1 8).trans (by decide +kernel))
theorem dX9_meets_25 : decode cX9_meets 25 = .ok (.imul, 1) := dk_104_ (show cX9_meets.data.toList[25]? = some 0x68 from (LBX9_meetsr_1 9).trans (by decide +kernel))
theorem dX9_meets_26 : decode cX9_meets 26 = .ok (.iload_n 3, 1) := dk_29_ (show cX9_meets.data.toList[26]? = some 0x1d from (LBX9_meetsr_1 10).trans (by decide +kernel))
theorem dX9_meets_27 : decode cX9_meets 27 = .ok (.iadd, 1) := dk_96_ (show cX9_meets.data.toList[27]? = some 0x60 from (LBX9_meetsr_1 11).trans (by decide +kernel))
theorem dX9_meets_28 : decode cX9_meets 28 = .ok (.iaload, 1) := dk_46_ (show cX9_meets.data.toList[28]? = some 0x2e from (LBX9_meetsr_1 12).trans (by decide +kernel))
theorem dX9_meets_29 : decode cX9_meets 29 = .ok (.istore 4, 2) := dk_54_ (show cX9_meets.data.toList[29]? = some 0x36 from (LBX9_meetsr_1 13).trans (by decide +kernel)) (show cX9_meets.data.toList[30]? = some 0x04 from (LBX9_meetsr_1 14).trans (by decide +kernel)) (by decide)
theorem dX9_meets_31 : decode cX9_meets 31 = .ok (.aload_n 0, 1) := dk_42_ (show cX9_meets.data.toList[31]? = some 0x2a from (LBX9_meetsr_1 15).trans (by decide +kernel))
theorem dX9_meets_32 : decode cX9_meets 32 = .ok (.getfield 22, 3) := dk_180_ (show cX9_meets.data.toList[32]? = some 0xb4 from (LBX9_meetsr_2 0).trans (by decide +kernel)) (show cX9_meets.data.toList[33]? = some 0x00 from (LBX9_meetsr_2 1).trans (by decide +kernel)) (show cX9_meets.data.toList[34]? = some 0x16 from (LBX9_meetsr_2 2).trans (by decide +kernel)) (by decide)
theorem dX9_meets_35 : decode cX9_meets 35 = .ok (.bipush 10, 2) := dk_16_ (show cX9_meets.data.toList[35]? = some 0x10 from (LBX9_meetsr_2 3).trans (by decide +kernel)) (show cX9_meets.data.toList[36]? = some 0x0a from (LBX9_meetsr_2 4).trans (by decide +kernel)) (by decide)
theorem dX9_meets_37 : decode cX9_meets 37 = .ok (.iload_n 2, 1) := dk_28_ (show cX9_meets.data.toList[37]? = some 0x1c from (LBX9_meetsr_2 5).trans (by decide +kernel))
theorem dX9_meets_38 : decode cX9_meets 38 = .ok (.imul, 1) := dk_104_ (show cX9_meets.data.toList[38]? = some 0x68 from (LBX9_meetsr_2 6).trans (by decide +kernel))
theorem dX9_meets_39 : decode cX9_meets 39 = .ok (.iload_n 3, 1) := dk_29_ (show cX9_meets.data.toList[39]? = some 0x1d from (LBX9_meetsr_2 7).trans (by decide +kernel))
theorem dX9_meets_40 : decode cX9_meets 40 = .ok (.iadd, 1) := dk_96_ (show cX9_meets.data.toList[40]? = some 0x60 from (LBX9_meetsr_2 8).trans (by decide +kernel))
theorem dX9_meets_41 : decode cX9_meets 41 = .ok (.iaload, 1) := dk_46_ (show cX9_meets.data.toList[41]? = some 0x2e from (LBX9_meetsr_2 9).trans (by decide +kernel))
theorem dX9_meets_42 : decode cX9_meets 42 = .ok (.istore 5, 2) := dk_54_ (show cX9_meets.data.toList[42]? = some 0x36 from (LBX9_meetsr_2 10).trans (by decide +kernel)) (show cX9_meets.data.toList[43]? = some 0x05 from (LBX9_meetsr_2 11).trans (by decide +kernel)) (by decide)
theorem dX9_meets_44 : decode cX9_meets 44 = .ok (.iload 4, 2) := dk_21_ (show cX9_meets.data.toList[44]? = some 0x15 from (LBX9_meetsr_2 12).trans (by decide +kernel)) (show cX9_meets.data.toList[45]? = some 0x04 from (LBX9_meetsr_2 13).trans (by decide +kernel)) (by decide)
theorem dX9_meets_46 : decode cX9_meets 46 = .ok (.iload 5, 2) := dk_21_ (show cX9_meets.data.toList[46]? = some 0x15 from (LBX9_meetsr_2 14).trans (by decide +kernel)) (show cX9_meets.data.toList[47]? = some 0x05 from (LBX9_meetsr_2 15).trans (by decide +kernel)) (by decide)
theorem dX9_meets_48 : decode cX9_meets 48 = .ok (.if_icmp .le 8, 3) := dk_164_ (show cX9_meets.data.toList[48]? = some 0xa4 from (LBX9_meetsr_3 0).trans (by decide +kernel)) (show cX9_meets.data.toList[49]? = some 0x00 from (LBX9_meetsr_3 1).trans (by decide +kernel)) (show cX9_meets.data.toList[50]? = some 0x08 from (LBX9_meetsr_3 2).trans (by decide +kernel)) (by decide)
theorem dX9_meets_51 : decode cX9_meets 51 = .ok (.iload 4, 2) := dk_21_ (show cX9_meets.data.toList[51]? = some 0x15 from (LBX9_meetsr_3 3).trans (by decide +kernel)) (show cX9_meets.data.toList[52]? = some 0x04 from (LBX9_meetsr_3 4).trans (by decide +kernel)) (by decide)
theorem dX9_meets_53 : decode cX9_meets 53 = .ok (.goto 5, 3) := dk_167_ (show cX9_meets.data.toList[53]? = some 0xa7 from (LBX9_meetsr_3 5).trans (by decide +kernel)) (show cX9_meets.data.toList[54]? = some 0x00 from (LBX9_meetsr_3 6).trans (by decide +kernel)) (show cX9_meets.data.toList[55]? = some 0x05 from (LBX9_meetsr_3 7).trans (by decide +kernel)) (by decide)
theorem dX9_meets_56 : decode cX9_meets 56 = .ok (.iload 5, 2) := dk_21_ (show cX9_meets.data.toList[56]? = some 0x15 from (LBX9_meetsr_3 8).trans (by decide +kernel)) (show cX9_meets.data.toList[57]? = some 0x05 from (LBX9_meetsr_3 9).trans (by decide +kernel)) (by decide)
theorem dX9_meets_58 : decode cX9_meets 58 = .ok (.istore 6, 2) := dk_54_ (show cX9_meets.data.toList[58]? = some 0x36 from (LBX9_meetsr_3 10).trans (by decide +kernel)) (show cX9_meets.data.toList[59]? = some 0x06 from (LBX9_meetsr_3 11).trans (by decide +kernel)) (by decide)
theorem dX9_meets_60 : decode cX9_meets 60 = .ok (.aload_n 0, 1) := dk_42_ (show cX9_meets.data.toList[60]? = some 0x2a from (LBX9_meetsr_3 12).trans (by decide +kernel))
theorem dX9_meets_61 : decode cX9_meets 61 = .ok (.iload 6, 2) := dk_21_ (show cX9_meets.data.toList[61]? = some 0x15 from (LBX9_meetsr_3 13).trans (by decide +kernel)) (show cX9_meets.data.toList[62]? = some 0x06 from (LBX9_meetsr_3 14).trans (by decide +kernel)) (by decide)
theorem dX9_meets_63 : decode cX9_meets 63 = .ok (.aload_n 0, 1) := dk_42_ (show cX9_meets.data.toList[63]? = some 0x2a from (LBX9_meetsr_3 15).trans (by decide +kernel))
theorem dX9_meets_64 : decode cX9_meets 64 = .ok (.getfield 134, 3) := dk_180_ (show cX9_meets.data.toList[64]? = some 0xb4 from (LBX9_meetsr_4 0).trans (by decide +kernel)) (show cX9_meets.data.toList[65]? = some 0x00 from (LBX9_meetsr_4 1).trans (by decide +kernel)) (show cX9_meets.data.toList[66]? = some 0x86 from (LBX9_meetsr_4 2).trans (by decide +kernel)) (by decide)
theorem dX9_meets_67 : decode cX9_meets 67 = .ok (.if_icmp .ge 8, 3) := dk_162_ (show cX9_meets.data.toList[67]? = some 0xa2 from (LBX9_meetsr_4 3).trans (by decide +kernel)) (show cX9_meets.data.toList[68]? = some 0x00 from (LBX9_meetsr_4 4).trans (by decide +kernel)) (show cX9_meets.data.toList[69]? = some 0x08 from (LBX9_meetsr_4 5).trans (by decide +kernel)) (by decide)
theorem dX9_meets_70 : decode cX9_meets 70 = .ok (.iload 6, 2) := dk_21_ (show cX9_meets.data.toList[70]? = some 0x15 from (LBX9_meetsr_4 6).trans (by decide +kernel)) (show cX9_meets.data.toList[71]? = some 0x06 from (LBX9_meetsr_4 7).trans (by decide +kernel)) (by decide)
theorem dX9_meets_72 : decode cX9_meets 72 = .ok (.goto 7, 3) := dk_167_ (show cX9_meets.data.toList[72]? = some 0xa7 from (LBX9_meetsr_4 8).trans (by decide +kernel)) (show cX9_meets.data.toList[73]? = some 0x00 from (LBX9_meetsr_4 9).trans (by decide +kernel)) (show cX9_meets.data.toList[74]? = some 0x07 from (LBX9_meetsr_4 10).trans (by decide +kernel)) (by decide)
theorem dX9_meets_75 : decode cX9_meets 75 = .ok (.aload_n 0, 1) := dk_42_ (show cX9_meets.data.toList[75]? = some 0x2a from (LBX9_meetsr_4 11).trans (by decide +kernel))
theorem dX9_meets_76 : decode cX9_meets 76 = .ok (.getfield 134, 3) := dk_180_ (show cX9_meets.data.toList[76]? = some 0xb4 from (LBX9_meetsr_4 12).trans (by decide +kernel)) (show cX9_meets.data.toList[77]? = some 0x00 from (LBX9_meetsr_4 13).trans (by decide +kernel)) (show cX9_meets.data.toList[78]? = some 0x86 from (LBX9_meetsr_4 14).trans (by decide +kernel)) (by decide)
theorem dX9_meets_79 : decode cX9_meets 79 = .ok (.putfield 134, 3) := dk_181_ (show cX9_meets.data.toList[79]? = some 0xb5 from (LBX9_meetsr_4 15).trans (by decide +kernel)) (show cX9_meets.data.toList[80]? = some 0x00 from (LBX9_meetsr_5 0).trans (by decide +kernel)) (show cX9_meets.data.toList[81]? = some 0x86 from (LBX9_meetsr_5 1).trans (by decide +kernel)) (by decide)
theorem dX9_meets_82 : decode cX9_meets 82 = .ok (.iinc 3 1, 3) := dk_132_ (show cX9_meets.data.toList[82]? = some 0x84 from (LBX9_meetsr_5 2).trans (by decide +kernel)) (show cX9_meets.data.toList[83]? = some 0x03 from (LBX9_meetsr_5 3).trans (by decide +kernel)) (show cX9_meets.data.toList[84]? = some 0x01 from (LBX9_meetsr_5 4).trans (by decide +kernel)) (by decide) (by decide)
theorem dX9_meets_85 : decode cX9_meets 85 = .ok (.goto (-77), 3) := dk_167_ (show cX9_meets.data.toList[85]? = some 0xa7 from (LBX9_meetsr_5 5).trans (by decide +kernel)) (show cX9_meets.data.toList[86]? = some 0xff from (LBX9_meetsr_5 6).trans (by decide +kernel)) (show cX9_meets.data.toList[87]? = some 0xb3 from (LBX9_meetsr_5 7).trans (by decide +kernel)) (by decide)
theorem dX9_meets_88 : decode cX9_meets 88 = .ok (.aload_n 0, 1) := dk_42_ (show cX9_meets.data.toList[88]? = some 0x2a from (LBX9_meetsr_5 8).trans (by decide +kernel))
theorem dX9_meets_89 : decode cX9_meets 89 = .ok (.aload_n 0, 1) := dk_42_ (show cX9_meets.data.toList[89]? = some 0x2a from (LBX9_meetsr_5 9).trans (by decide +kernel))
theorem dX9_meets_90 : decode cX9_meets 90 = .ok (.getfield 134, 3) := dk_180_ (show cX9_meets.data.toList[90]? = some 0xb4 from (LBX9_meetsr_5 10).trans (by decide +kernel)) (show cX9_meets.data.toList[91]? = some 0x00 from (LBX9_meetsr_5 11).trans (by decide +kernel)) (show cX9_meets.data.toList[92]? = some 0x86 from (LBX9_meetsr_5 12).trans (by decide +kernel)) (by decide)
theorem dX9_meets_93 : decode cX9_meets 93 = .ok (.putfield 126, 3) := dk_181_ (show cX9_meets.data.toList[93]? = some 0xb5 from (LBX9_meetsr_5 13).trans (by decide +kernel)) (show cX9_meets.data.toList[94]? = some 0x00 from (LBX9_meetsr_5 14).trans (by decide +kernel)) (show cX9_meets.data.toList[95]? = some 0x7e from (LBX9_meetsr_5 15).trans (by decide +kernel)) (by decide)
theorem dX9_meets_96 : decode cX9_meets 96 = .ok (.return_, 1) := dk_177_ (show cX9_meets.data.toList[96]? = some 0xb1 from (LBX9_meetsr_6 0).trans (by decide +kernel))
def LRX9_pairs_5 : List UInt8 := []
def LBX9_pairs_4 : List UInt8 := [0x1c, 0x60, 0x2e, 0xb6, 0x00, 0x82, 0xb1]
def LRX9_pairs_4 : List UInt8 := LBX9_pairs_4 ++ LRX9_pairs_5
def LBX9_pairs_3 : List UInt8 := [0x00, 0x82, 0x1b, 0x08, 0xa0, 0x00, 0x12, 0x2a, 0x2a, 0xb4, 0x00, 0x16, 0x10, 0x0a, 0x1d, 0x68]
def LRX9_pairs_3 : List UInt8 := LBX9_pairs_3 ++ LRX9_pairs_4
def LBX9_pairs_2 : List UInt8 := [0x00, 0x82, 0xb1, 0x2a, 0x2a, 0xb4, 0x00, 0x16, 0x10, 0x0a, 0x1c, 0x68, 0x1d, 0x60, 0x2e, 0xb6]
def LRX9_pairs_2 : List UInt8 := LBX9_pairs_2 ++ LRX9_pairs_3
def LBX9_pairs_1 : List UInt8 := [0x2a, 0x1c, 0x1d, 0xb6, 0x00, 0x9d, 0xa7, 0x00, 0x09, 0x2a, 0x1d, 0x1c, 0xb6, 0x00, 0x9d, 0xb6]
def LRX9_pairs_1 : List UInt8 := LBX9_pairs_1 ++ LRX9_pairs_2
def LBX9_pairs_0 : List UInt8 := [0x1b, 0x04, 0x9f, 0x00, 0x08, 0x1b, 0x07, 0xa0, 0x00, 0x1c, 0x2a, 0x1b, 0x04, 0xa0, 0x00, 0x0c]
def LRX9_pairs_0 : List UInt8 := LBX9_pairs_0 ++ LRX9_pairs_1
set_option maxRecDepth 100000 in
theorem LBX9_pairs_eq : cX9_pairs.data.toList = LRX9_pairs_0 := by decide +kernel
theorem LBX9_pairsr_0 (k : Nat) : cX9_pairs.data.toList[0 + k]? = LRX9_pairs_0[k]? := by rw [LBX9_pairs_eq, Nat.zero_add]
theorem LBX9_pairsr_1 (k : Nat) : cX9_pairs.data.toList[16 + k]? = LRX9_pairs_1[k]? := by
  have h := LBX9_pairsr_0 (16 + k)
  rw [show 0 + (16 + k) = 16 + k by omega] at h
  rw [h]
  exact (List.getElem?_append_right (l₁ := LBX9_pairs_0) (l₂ := LRX9_pairs_1) (show 16 ≤ 16 + k by omega)).trans (congrArg (fun i => LRX9_pairs_1[i]?) (show 16 + k - 16 = k by omega))
theorem LBX9_pairsr_2 (k : Nat) : cX9_pairs.data.toList[32 + k]? = LRX9_pairs_2[k]? := by
  have h := LBX9_pairsr_1 (16 + k)
  rw [show 16 + (16 + k) = 32 + k by omega] at h
  rw [h]
  exact (List.getElem?_append_right (l₁ := LBX9_pairs_1) (l₂ := LRX9_pairs_2) (show 16 ≤ 16 + k by omega)).trans (congrArg (fun i => LRX9_pairs_2[i]?) (show 16 + k - 16 = k by omega))
theorem LBX9_pairsr_3 (k : Nat) : cX9_pairs.data.toList[48 + k]? = LRX9_pairs_3[k]? := by
  have h := LBX9_pairsr_2 (16 + k)
  rw [show 32 + (16 + k) = 48 + k by omega] at h
  rw [h]
  exact (List.getElem?_append_right (l₁ := LBX9_pairs_2) (l₂ := LRX9_pairs_3) (show 16 ≤ 16 + k by omega)).trans (congrArg (fun i => LRX9_pairs_3[i]?) (show 16 + k - 16 = k by omega))
theorem LBX9_pairsr_4 (k : Nat) : cX9_pairs.data.toList[64 + k]? = LRX9_pairs_4[k]? := by
  have h := LBX9_pairsr_3 (16 + k)
  rw [show 48 + (16 + k) = 64 + k by omega] at h
  rw [h]
  exact (List.getElem?_append_right (l₁ := LBX9_pairs_3) (l₂ := LRX9_pairs_4) (show 16 ≤ 16 + k by omega)).trans (congrArg (fun i => LRX9_pairs_4[i]?) (show 16 + k - 16 = k by omega))
theorem dX9_pairs_0 : decode cX9_pairs 0 = .ok (.iload_n 1, 1) := dk_27_ (show cX9_pairs.data.toList[0]? = some 0x1b from (LBX9_pairsr_0 0).trans (by decide +kernel))
theorem dX9_pairs_1 : decode cX9_pairs 1 = .ok (.iconst 1, 1) := dk_4_ (show cX9_pairs.data.toList[1]? = some 0x04 from (LBX9_pairsr_0 1).trans (by decide +kernel))
theorem dX9_pairs_2 : decode cX9_pairs 2 = .ok (.if_icmp .eq 8, 3) := dk_159_ (show cX9_pairs.data.toList[2]? = some 0x9f from (LBX9_pairsr_0 2).trans (by decide +kernel)) (show cX9_pairs.data.toList[3]? = some 0x00 from (LBX9_pairsr_0 3).trans (by decide +kernel)) (show cX9_pairs.data.toList[4]? = some 0x08 from (LBX9_pairsr_0 4).trans (by decide +kernel)) (by decide)
theorem dX9_pairs_5 : decode cX9_pairs 5 = .ok (.iload_n 1, 1) := dk_27_ (show cX9_pairs.data.toList[5]? = some 0x1b from (LBX9_pairsr_0 5).trans (by decide +kernel))
theorem dX9_pairs_6 : decode cX9_pairs 6 = .ok (.iconst 4, 1) := dk_7_ (show cX9_pairs.data.toList[6]? = some 0x07 from (LBX9_pairsr_0 6).trans (by decide +kernel))
theorem dX9_pairs_7 : decode cX9_pairs 7 = .ok (.if_icmp .ne 28, 3) := dk_160_ (show cX9_pairs.data.toList[7]? = some 0xa0 from (LBX9_pairsr_0 7).trans (by decide +kernel)) (show cX9_pairs.data.toList[8]? = some 0x00 from (LBX9_pairsr_0 8).trans (by decide +kernel)) (show cX9_pairs.data.toList[9]? = some 0x1c from (LBX9_pairsr_0 9).trans (by decide +kernel)) (by decide)
theorem dX9_pairs_10 : decode cX9_pairs 10 = .ok (.aload_n 0, 1) := dk_42_ (show cX9_pairs.data.toList[10]? = some 0x2a from (LBX9_pairsr_0 10).trans (by decide +kernel))
theorem dX9_pairs_11 : decode cX9_pairs 11 = .ok (.iload_n 1, 1) := dk_27_ (show cX9_pairs.data.toList[11]? = some 0x1b from (LBX9_pairsr_0 11).trans (by decide +kernel))
theorem dX9_pairs_12 : decode cX9_pairs 12 = .ok (.iconst 1, 1) := dk_4_ (show cX9_pairs.data.toList[12]? = some 0x04 from (LBX9_pairsr_0 12).trans (by decide +kernel))
theorem dX9_pairs_13 : decode cX9_pairs 13 = .ok (.if_icmp .ne 12, 3) := dk_160_ (show cX9_pairs.data.toList[13]? = some 0xa0 from (LBX9_pairsr_0 13).trans (by decide +kernel)) (show cX9_pairs.data.toList[14]? = some 0x00 from (LBX9_pairsr_0 14).trans (by decide +kernel)) (show cX9_pairs.data.toList[15]? = some 0x0c from (LBX9_pairsr_0 15).trans (by decide +kernel)) (by decide)
theorem dX9_pairs_16 : decode cX9_pairs 16 = .ok (.aload_n 0, 1) := dk_42_ (show cX9_pairs.data.toList[16]? = some 0x2a from (LBX9_pairsr_1 0).trans (by decide +kernel))
theorem dX9_pairs_17 : decode cX9_pairs 17 = .ok (.iload_n 2, 1) := dk_28_ (show cX9_pairs.data.toList[17]? = some 0x1c from (LBX9_pairsr_1 1).trans (by decide +kernel))
theorem dX9_pairs_18 : decode cX9_pairs 18 = .ok (.iload_n 3, 1) := dk_29_ (show cX9_pairs.data.toList[18]? = some 0x1d from (LBX9_pairsr_1 2).trans (by decide +kernel))
theorem dX9_pairs_19 : decode cX9_pairs 19 = .ok (.invokevirtual 157, 3) := dk_182_ (show cX9_pairs.data.toList[19]? = some 0xb6 from (LBX9_pairsr_1 3).trans (by decide +kernel)) (show cX9_pairs.data.toList[20]? = some 0x00 from (LBX9_pairsr_1 4).trans (by decide +kernel)) (show cX9_pairs.data.toList[21]? = some 0x9d from (LBX9_pairsr_1 5).trans (by decide +kernel)) (by decide)
theorem dX9_pairs_22 : decode cX9_pairs 22 = .ok (.goto 9, 3) := dk_167_ (show cX9_pairs.data.toList[22]? = some 0xa7 from (LBX9_pairsr_1 6).trans (by decide +kernel)) (show cX9_pairs.data.toList[23]? = some 0x00 from (LBX9_pairsr_1 7).trans (by decide +kernel)) (show cX9_pairs.data.toList[24]? = some 0x09 from (LBX9_pairsr_1 8).trans (by decide +kernel)) (by decide)
theorem dX9_pairs_25 : decode cX9_pairs 25 = .ok (.aload_n 0, 1) := dk_42_ (show cX9_pairs.data.toList[25]? = some 0x2a from (LBX9_pairsr_1 9).trans (by decide +kernel))
theorem dX9_pairs_26 : decode cX9_pairs 26 = .ok (.iload_n 3, 1) := dk_29_ (show cX9_pairs.data.toList[26]? = some 0x1d from (LBX9_pairsr_1 10).trans (by decide +kernel))
theorem dX9_pairs_27 : decode cX9_pairs 27 = .ok (.iload_n 2, 1) := dk_28_ (show cX9_pairs.data.toList[27]? = some 0x1c from (LBX9_pairsr_1 11).trans (by decide +kernel))
theorem dX9_pairs_28 : decode cX9_pairs 28 = .ok (.invokevirtual 157, 3) := dk_182_ (show cX9_pairs.data.toList[28]? = some 0xb6 from (LBX9_pairsr_1 12).trans (by decide +kernel)) (show cX9_pairs.data.toList[29]? = some 0x00 from (LBX9_pairsr_1 13).trans (by decide +kernel)) (show cX9_pairs.data.toList[30]? = some 0x9d from (LBX9_pairsr_1 14).trans (by decide +kernel)) (by decide)
theorem dX9_pairs_31 : decode cX9_pairs 31 = .ok (.invokevirtual 130, 3) := dk_182_ (show cX9_pairs.data.toList[31]? = some 0xb6 from (LBX9_pairsr_1 15).trans (by decide +kernel)) (show cX9_pairs.data.toList[32]? = some 0x00 from (LBX9_pairsr_2 0).trans (by decide +kernel)) (show cX9_pairs.data.toList[33]? = some 0x82 from (LBX9_pairsr_2 1).trans (by decide +kernel)) (by decide)
theorem dX9_pairs_34 : decode cX9_pairs 34 = .ok (.return_, 1) := dk_177_ (show cX9_pairs.data.toList[34]? = some 0xb1 from (LBX9_pairsr_2 2).trans (by decide +kernel))
theorem dX9_pairs_35 : decode cX9_pairs 35 = .ok (.aload_n 0, 1) := dk_42_ (show cX9_pairs.data.toList[35]? = some 0x2a from (LBX9_pairsr_2 3).trans (by decide +kernel))
theorem dX9_pairs_36 : decode cX9_pairs 36 = .ok (.aload_n 0, 1) := dk_42_ (show cX9_pairs.data.toList[36]? = some 0x2a from (LBX9_pairsr_2 4).trans (by decide +kernel))
theorem dX9_pairs_37 : decode cX9_pairs 37 = .ok (.getfield 22, 3) := dk_180_ (show cX9_pairs.data.toList[37]? = some 0xb4 from (LBX9_pairsr_2 5).trans (by decide +kernel)) (show cX9_pairs.data.toList[38]? = some 0x00 from (LBX9_pairsr_2 6).trans (by decide +kernel)) (show cX9_pairs.data.toList[39]? = some 0x16 from (LBX9_pairsr_2 7).trans (by decide +kernel)) (by decide)
theorem dX9_pairs_40 : decode cX9_pairs 40 = .ok (.bipush 10, 2) := dk_16_ (show cX9_pairs.data.toList[40]? = some 0x10 from (LBX9_pairsr_2 8).trans (by decide +kernel)) (show cX9_pairs.data.toList[41]? = some 0x0a from (LBX9_pairsr_2 9).trans (by decide +kernel)) (by decide)
theorem dX9_pairs_42 : decode cX9_pairs 42 = .ok (.iload_n 2, 1) := dk_28_ (show cX9_pairs.data.toList[42]? = some 0x1c from (LBX9_pairsr_2 10).trans (by decide +kernel))
theorem dX9_pairs_43 : decode cX9_pairs 43 = .ok (.imul, 1) := dk_104_ (show cX9_pairs.data.toList[43]? = some 0x68 from (LBX9_pairsr_2 11).trans (by decide +kernel))
theorem dX9_pairs_44 : decode cX9_pairs 44 = .ok (.iload_n 3, 1) := dk_29_ (show cX9_pairs.data.toList[44]? = some 0x1d from (LBX9_pairsr_2 12).trans (by decide +kernel))
theorem dX9_pairs_45 : decode cX9_pairs 45 = .ok (.iadd, 1) := dk_96_ (show cX9_pairs.data.toList[45]? = some 0x60 from (LBX9_pairsr_2 13).trans (by decide +kernel))
theorem dX9_pairs_46 : decode cX9_pairs 46 = .ok (.iaload, 1) := dk_46_ (show cX9_pairs.data.toList[46]? = some 0x2e from (LBX9_pairsr_2 14).trans (by decide +kernel))
theorem dX9_pairs_47 : decode cX9_pairs 47 = .ok (.invokevirtual 130, 3) := dk_182_ (show cX9_pairs.data.toList[47]? = some 0xb6 from (LBX9_pairsr_2 15).trans (by decide +kernel)) (show cX9_pairs.data.toList[48]? = some 0x00 from (LBX9_pairsr_3 0).trans (by decide +kernel)) (show cX9_pairs.data.toList[49]? = some 0x82 from (LBX9_pairsr_3 1).trans (by decide +kernel)) (by decide)
theorem dX9_pairs_50 : decode cX9_pairs 50 = .ok (.iload_n 1, 1) := dk_27_ (show cX9_pairs.data.toList[50]? = some 0x1b from (LBX9_pairsr_3 2).trans (by decide +kernel))
theorem dX9_pairs_51 : decode cX9_pairs 51 = .ok (.iconst 5, 1) := dk_8_ (show cX9_pairs.data.toList[51]? = some 0x08 from (LBX9_pairsr_3 3).trans (by decide +kernel))
theorem dX9_pairs_52 : decode cX9_pairs 52 = .ok (.if_icmp .ne 18, 3) := dk_160_ (show cX9_pairs.data.toList[52]? = some 0xa0 from (LBX9_pairsr_3 4).trans (by decide +kernel)) (show cX9_pairs.data.toList[53]? = some 0x00 from (LBX9_pairsr_3 5).trans (by decide +kernel)) (show cX9_pairs.data.toList[54]? = some 0x12 from (LBX9_pairsr_3 6).trans (by decide +kernel)) (by decide)
theorem dX9_pairs_55 : decode cX9_pairs 55 = .ok (.aload_n 0, 1) := dk_42_ (show cX9_pairs.data.toList[55]? = some 0x2a from (LBX9_pairsr_3 7).trans (by decide +kernel))
theorem dX9_pairs_56 : decode cX9_pairs 56 = .ok (.aload_n 0, 1) := dk_42_ (show cX9_pairs.data.toList[56]? = some 0x2a from (LBX9_pairsr_3 8).trans (by decide +kernel))
theorem dX9_pairs_57 : decode cX9_pairs 57 = .ok (.getfield 22, 3) := dk_180_ (show cX9_pairs.data.toList[57]? = some 0xb4 from (LBX9_pairsr_3 9).trans (by decide +kernel)) (show cX9_pairs.data.toList[58]? = some 0x00 from (LBX9_pairsr_3 10).trans (by decide +kernel)) (show cX9_pairs.data.toList[59]? = some 0x16 from (LBX9_pairsr_3 11).trans (by decide +kernel)) (by decide)
theorem dX9_pairs_60 : decode cX9_pairs 60 = .ok (.bipush 10, 2) := dk_16_ (show cX9_pairs.data.toList[60]? = some 0x10 from (LBX9_pairsr_3 12).trans (by decide +kernel)) (show cX9_pairs.data.toList[61]? = some 0x0a from (LBX9_pairsr_3 13).trans (by decide +kernel)) (by decide)
theorem dX9_pairs_62 : decode cX9_pairs 62 = .ok (.iload_n 3, 1) := dk_29_ (show cX9_pairs.data.toList[62]? = some 0x1d from (LBX9_pairsr_3 14).trans (by decide +kernel))
theorem dX9_pairs_63 : decode cX9_pairs 63 = .ok (.imul, 1) := dk_104_ (show cX9_pairs.data.toList[63]? = some 0x68 from (LBX9_pairsr_3 15).trans (by decide +kernel))
theorem dX9_pairs_64 : decode cX9_pairs 64 = .ok (.iload_n 2, 1) := dk_28_ (show cX9_pairs.data.toList[64]? = some 0x1c from (LBX9_pairsr_4 0).trans (by decide +kernel))
theorem dX9_pairs_65 : decode cX9_pairs 65 = .ok (.iadd, 1) := dk_96_ (show cX9_pairs.data.toList[65]? = some 0x60 from (LBX9_pairsr_4 1).trans (by decide +kernel))
theorem dX9_pairs_66 : decode cX9_pairs 66 = .ok (.iaload, 1) := dk_46_ (show cX9_pairs.data.toList[66]? = some 0x2e from (LBX9_pairsr_4 2).trans (by decide +kernel))
theorem dX9_pairs_67 : decode cX9_pairs 67 = .ok (.invokevirtual 130, 3) := dk_182_ (show cX9_pairs.data.toList[67]? = some 0xb6 from (LBX9_pairsr_4 3).trans (by decide +kernel)) (show cX9_pairs.data.toList[68]? = some 0x00 from (LBX9_pairsr_4 4).trans (by decide +kernel)) (show cX9_pairs.data.toList[69]? = some 0x82 from (LBX9_pairsr_4 5).trans (by decide +kernel)) (by decide)
theorem dX9_pairs_70 : decode cX9_pairs 70 = .ok (.return_, 1) := dk_177_ (show cX9_pairs.data.toList[70]? = some 0xb1 from (LBX9_pairsr_4 6).trans (by decide +kernel))
def LRX9_closes_4 : List UInt8 := []
def LBX9_closes_3 : List UInt8 := [0x1d, 0xb6, 0x00, 0x9d, 0xb6, 0x00, 0x82, 0xb1]
def LRX9_closes_3 : List UInt8 := LBX9_closes_3 ++ LRX9_closes_4
def LBX9_closes_2 : List UInt8 := [0x00, 0x9d, 0xb6, 0x00, 0x82, 0xa7, 0x00, 0x12, 0x1b, 0x07, 0xa0, 0x00, 0x0d, 0x2a, 0x2a, 0x1c]
def LRX9_closes_2 : List UInt8 := LBX9_closes_2 ++ LRX9_closes_3
def LBX9_closes_1 : List UInt8 := [0xb6, 0x00, 0x82, 0xa7, 0x00, 0x24, 0x1b, 0x04, 0xa0, 0x00, 0x10, 0x2a, 0x2a, 0x1d, 0x1c, 0xb6]
def LRX9_closes_1 : List UInt8 := LBX9_closes_1 ++ LRX9_closes_2
def LBX9_closes_0 : List UInt8 := [0x1b, 0x9a, 0x00, 0x15, 0x2a, 0x2a, 0xb4, 0x00, 0x16, 0x10, 0x0a, 0x1d, 0x68, 0x1c, 0x60, 0x2e]
def LRX9_closes_0 : List UInt8 := LBX9_closes_0 ++ LRX9_closes_1
set_option maxRecDepth 100000 in
theorem LBX9_closes_eq : cX9_closes.data.toList = LRX9_closes_0 := by decide +kernel
theorem LBX9_closesr_0 (k : Nat) : cX9_closes.data.toList[0 + k]? = LRX9_closes_0[k]? := by rw [LBX9_closes_eq, Nat.zero_add]
theorem LBX9_closesr_1 (k : Nat) : cX9_closes.data.toList[16 + k]? = LRX9_closes_1[k]? := by
  have h := LBX9_closesr_0 (16 + k)
  rw [show 0 + (16 + k) = 16 + k by omega] at h
  rw [h]
  exact (List.getElem?_append_right (l₁ := LBX9_closes_0) (l₂ := LRX9_closes_1) (show 16 ≤ 16 + k by omega)).trans (congrArg (fun i => LRX9_closes_1[i]?) (show 16 + k - 16 = k by omega))
theorem LBX9_closesr_2 (k : Nat) : cX9_closes.data.toList[32 + k]? = LRX9_closes_2[k]? := by
  have h := LBX9_closesr_1 (16 + k)
  rw [show 16 + (16 + k) = 32 + k by omega] at h
  rw [h]
  exact (List.getElem?_append_right (l₁ := LBX9_closes_1) (l₂ := LRX9_closes_2) (show 16 ≤ 16 + k by omega)).trans (congrArg (fun i => LRX9_closes_2[i]?) (show 16 + k - 16 = k by omega))
theorem LBX9_closesr_3 (k : Nat) : cX9_closes.data.toList[48 + k]? = LRX9_closes_3[k]? := by
  have h := LBX9_closesr_2 (16 + k)
  rw [show 32 + (16 + k) = 48 + k by omega] at h
  rw [h]
  exact (List.getElem?_append_right (l₁ := LBX9_closes_2) (l₂ := LRX9_closes_3) (show 16 ≤ 16 + k by omega)).trans (congrArg (fun i => LRX9_closes_3[i]?) (show 16 + k - 16 = k by omega))
theorem dX9_closes_0 : decode cX9_closes 0 = .ok (.iload_n 1, 1) := dk_27_ (show cX9_closes.data.toList[0]? = some 0x1b from (LBX9_closesr_0 0).trans (by decide +kernel))
theorem dX9_closes_1 : decode cX9_closes 1 = .ok (.ifCond .ne 21, 3) := dk_154_ (show cX9_closes.data.toList[1]? = some 0x9a from (LBX9_closesr_0 1).trans (by decide +kernel)) (show cX9_closes.data.toList[2]? = some 0x00 from (LBX9_closesr_0 2).trans (by decide +kernel)) (show cX9_closes.data.toList[3]? = some 0x15 from (LBX9_closesr_0 3).trans (by decide +kernel)) (by decide)
theorem dX9_closes_4 : decode cX9_closes 4 = .ok (.aload_n 0, 1) := dk_42_ (show cX9_closes.data.toList[4]? = some 0x2a from (LBX9_closesr_0 4).trans (by decide +kernel))
theorem dX9_closes_5 : decode cX9_closes 5 = .ok (.aload_n 0, 1) := dk_42_ (show cX9_closes.data.toList[5]? = some 0x2a from (LBX9_closesr_0 5).trans (by decide +kernel))
theorem dX9_closes_6 : decode cX9_closes 6 = .ok (.getfield 22, 3) := dk_180_ (show cX9_closes.data.toList[6]? = some 0xb4 from (LBX9_closesr_0 6).trans (by decide +kernel)) (show cX9_closes.data.toList[7]? = some 0x00 from (LBX9_closesr_0 7).trans (by decide +kernel)) (show cX9_closes.data.toList[8]? = some 0x16 from (LBX9_closesr_0 8).trans (by decide +kernel)) (by decide)
theorem dX9_closes_9 : decode cX9_closes 9 = .ok (.bipush 10, 2) := dk_16_ (show cX9_closes.data.toList[9]? = some 0x10 from (LBX9_closesr_0 9).trans (by decide +kernel)) (show cX9_closes.data.toList[10]? = some 0x0a from (LBX9_closesr_0 10).trans (by decide +kernel)) (by decide)
theorem dX9_closes_11 : decode cX9_closes 11 = .ok (.iload_n 3, 1) := dk_29_ (show cX9_closes.data.toList[11]? = some 0x1d from (LBX9_closesr_0 11).trans (by decide +kernel))
theorem dX9_closes_12 : decode cX9_closes 12 = .ok (.imul, 1) := dk_104_ (show cX9_closes.data.toList[12]? = some 0x68 from (LBX9_closesr_0 12).trans (by decide +kernel))
theorem dX9_closes_13 : decode cX9_closes 13 = .ok (.iload_n 2, 1) := dk_28_ (show cX9_closes.data.toList[13]? = some 0x1c from (LBX9_closesr_0 13).trans (by decide +kernel))
theorem dX9_closes_14 : decode cX9_closes 14 = .ok (.iadd, 1) := dk_96_ (show cX9_closes.data.toList[14]? = some 0x60 from (LBX9_closesr_0 14).trans (by decide +kernel))
theorem dX9_closes_15 : decode cX9_closes 15 = .ok (.iaload, 1) := dk_46_ (show cX9_closes.data.toList[15]? = some 0x2e from (LBX9_closesr_0 15).trans (by decide +kernel))
theorem dX9_closes_16 : decode cX9_closes 16 = .ok (.invokevirtual 130, 3) := dk_182_ (show cX9_closes.data.toList[16]? = some 0xb6 from (LBX9_closesr_1 0).trans (by decide +kernel)) (show cX9_closes.data.toList[17]? = some 0x00 from (LBX9_closesr_1 1).trans (by decide +kernel)) (show cX9_closes.data.toList[18]? = some 0x82 from (LBX9_closesr_1 2).trans (by decide +kernel)) (by decide)
theorem dX9_closes_19 : decode cX9_closes 19 = .ok (.goto 36, 3) := dk_167_ (show cX9_closes.data.toList[19]? = some 0xa7 from (LBX9_closesr_1 3).trans (by decide +kernel)) (show cX9_closes.data.toList[20]? = some 0x00 from (LBX9_closesr_1 4).trans (by decide +kernel)) (show cX9_closes.data.toList[21]? = some 0x24 from (LBX9_closesr_1 5).trans (by decide +kernel)) (by decide)
theorem dX9_closes_22 : decode cX9_closes 22 = .ok (.iload_n 1, 1) := dk_27_ (show cX9_closes.data.toList[22]? = some 0x1b from (LBX9_closesr_1 6).trans (by decide +kernel))
theorem dX9_closes_23 : decode cX9_closes 23 = .ok (.iconst 1, 1) := dk_4_ (show cX9_closes.data.toList[23]? = some 0x04 from (LBX9_closesr_1 7).trans (by decide +kernel))
theorem dX9_closes_24 : decode cX9_closes 24 = .ok (.if_icmp .ne 16, 3) := dk_160_ (show cX9_closes.data.toList[24]? = some 0xa0 from (LBX9_closesr_1 8).trans (by decide +kernel)) (show cX9_closes.data.toList[25]? = some 0x00 from (LBX9_closesr_1 9).trans (by decide +kernel)) (show cX9_closes.data.toList[26]? = some 0x10 from (LBX9_closesr_1 10).trans (by decide +kernel)) (by decide)
theorem dX9_closes_27 : decode cX9_closes 27 = .ok (.aload_n 0, 1) := dk_42_ (show cX9_closes.data.toList[27]? = some 0x2a from (LBX9_closesr_1 11).trans (by decide +kernel))
theorem dX9_closes_28 : decode cX9_closes 28 = .ok (.aload_n 0, 1) := dk_42_ (show cX9_closes.data.toList[28]? = some 0x2a from (LBX9_closesr_1 12).trans (by decide +kernel))
theorem dX9_closes_29 : decode cX9_closes 29 = .ok (.iload_n 3, 1) := dk_29_ (show cX9_closes.data.toList[29]? = some 0x1d from (LBX9_closesr_1 13).trans (by decide +kernel))
theorem dX9_closes_30 : decode cX9_closes 30 = .ok (.iload_n 2, 1) := dk_28_ (show cX9_closes.data.toList[30]? = some 0x1c from (LBX9_closesr_1 14).trans (by decide +kernel))
theorem dX9_closes_31 : decode cX9_closes 31 = .ok (.invokevirtual 157, 3) := dk_182_ (show cX9_closes.data.toList[31]? = some 0xb6 from (LBX9_closesr_1 15).trans (by decide +kernel)) (show cX9_closes.data.toList[32]? = some 0x00 from (LBX9_closesr_2 0).trans (by decide +kernel)) (show cX9_closes.data.toList[33]? = some 0x9d from (LBX9_closesr_2 1).trans (by decide +kernel)) (by decide)
theorem dX9_closes_34 : decode cX9_closes 34 = .ok (.invokevirtual 130, 3) := dk_182_ (show cX9_closes.data.toList[34]? = some 0xb6 from (LBX9_closesr_2 2).trans (by decide +kernel)) (show cX9_closes.data.toList[35]? = some 0x00 from (LBX9_closesr_2 3).trans (by decide +kernel)) (show cX9_closes.data.toList[36]? = some 0x82 from (LBX9_closesr_2 4).trans (by decide +kernel)) (by decide)
theorem dX9_closes_37 : decode cX9_closes 37 = .ok (.goto 18, 3) := dk_167_ (show cX9_closes.data.toList[37]? = some 0xa7 from (LBX9_closesr_2 5).trans (by decide +kernel)) (show cX9_closes.data.toList[38]? = some 0x00 from (LBX9_closesr_2 6).trans (by decide +kernel)) (show cX9_closes.data.toList[39]? = some 0x12 from (LBX9_closesr_2 7).trans (by decide +kernel)) (by decide)
theorem dX9_closes_40 : decode cX9_closes 40 = .ok (.iload_n 1, 1) := dk_27_ (show cX9_closes.data.toList[40]? = some 0x1b from (LBX9_closesr_2 8).trans (by decide +kernel))
theorem dX9_closes_41 : decode cX9_closes 41 = .ok (.iconst 4, 1) := dk_7_ (show cX9_closes.data.toList[41]? = some 0x07 from (LBX9_closesr_2 9).trans (by decide +kernel))
theorem dX9_closes_42 : decode cX9_closes 42 = .ok (.if_icmp .ne 13, 3) := dk_160_ (show cX9_closes.data.toList[42]? = some 0xa0 from (LBX9_closesr_2 10).trans (by decide +kernel)) (show cX9_closes.data.toList[43]? = some 0x00 from (LBX9_closesr_2 11).trans (by decide +kernel)) (show cX9_closes.data.toList[44]? = some 0x0d from (LBX9_closesr_2 12).trans (by decide +kernel)) (by decide)
theorem dX9_closes_45 : decode cX9_closes 45 = .ok (.aload_n 0, 1) := dk_42_ (show cX9_closes.data.toList[45]? = some 0x2a from (LBX9_closesr_2 13).trans (by decide +kernel))
theorem dX9_closes_46 : decode cX9_closes 46 = .ok (.aload_n 0, 1) := dk_42_ (show cX9_closes.data.toList[46]? = some 0x2a from (LBX9_closesr_2 14).trans (by decide +kernel))
theorem dX9_closes_47 : decode cX9_closes 47 = .ok (.iload_n 2, 1) := dk_28_ (show cX9_closes.data.toList[47]? = some 0x1c from (LBX9_closesr_2 15).trans (by decide +kernel))
theorem dX9_closes_48 : decode cX9_closes 48 = .ok (.iload_n 3, 1) := dk_29_ (show cX9_closes.data.toList[48]? = some 0x1d from (LBX9_closesr_3 0).trans (by decide +kernel))
theorem dX9_closes_49 : decode cX9_closes 49 = .ok (.invokevirtual 157, 3) := dk_182_ (show cX9_closes.data.toList[49]? = some 0xb6 from (LBX9_closesr_3 1).trans (by decide +kernel)) (show cX9_closes.data.toList[50]? = some 0x00 from (LBX9_closesr_3 2).trans (by decide +kernel)) (show cX9_closes.data.toList[51]? = some 0x9d from (LBX9_closesr_3 3).trans (by decide +kernel)) (by decide)
theorem dX9_closes_52 : decode cX9_closes 52 = .ok (.invokevirtual 130, 3) := dk_182_ (show cX9_closes.data.toList[52]? = some 0xb6 from (LBX9_closesr_3 4).trans (by decide +kernel)) (show cX9_closes.data.toList[53]? = some 0x00 from (LBX9_closesr_3 5).trans (by decide +kernel)) (show cX9_closes.data.toList[54]? = some 0x82 from (LBX9_closesr_3 6).trans (by decide +kernel)) (by decide)
theorem dX9_closes_55 : decode cX9_closes 55 = .ok (.return_, 1) := dk_177_ (show cX9_closes.data.toList[55]? = some 0xb1 from (LBX9_closesr_3 7).trans (by decide +kernel))
def LRX9_comesTo_10 : List UInt8 := []
def LBX9_comesTo_9 : List UInt8 := [0x00, 0x89, 0x1d, 0x15, 0x04, 0xb6, 0x00, 0x9a, 0x2a, 0xb4, 0x00, 0x7e, 0xac]
def LRX9_comesTo_9 : List UInt8 := LBX9_comesTo_9 ++ LRX9_comesTo_10
def LBX9_comesTo_8 : List UInt8 := [0x00, 0x89, 0xb6, 0x00, 0x97, 0x84, 0x05, 0x01, 0xa7, 0xff, 0xdb, 0x2a, 0x2a, 0x1b, 0x03, 0xb6]
def LRX9_comesTo_8 : List UInt8 := LBX9_comesTo_8 ++ LRX9_comesTo_9
def LBX9_comesTo_7 : List UInt8 := [0x2a, 0x1b, 0x04, 0x15, 0x05, 0x60, 0xb6, 0x00, 0x89, 0x2a, 0x1b, 0x05, 0x15, 0x05, 0x60, 0xb6]
def LRX9_comesTo_7 : List UInt8 := LBX9_comesTo_7 ++ LRX9_comesTo_8
def LBX9_comesTo_6 : List UInt8 := [0x04, 0x36, 0x05, 0x15, 0x05, 0x1c, 0xa2, 0x00, 0x25, 0x2a, 0x2a, 0x1b, 0x03, 0xb6, 0x00, 0x89]
def LRX9_comesTo_6 : List UInt8 := LBX9_comesTo_6 ++ LRX9_comesTo_7
def LBX9_comesTo_5 : List UInt8 := [0xb6, 0x00, 0x90, 0xa7, 0x00, 0x45, 0x2a, 0x1d, 0x15, 0x04, 0xb6, 0x00, 0x93, 0xa7, 0x00, 0x3b]
def LRX9_comesTo_5 : List UInt8 := LBX9_comesTo_5 ++ LRX9_comesTo_6
def LBX9_comesTo_4 : List UInt8 := [0x00, 0x00, 0x00, 0x2a, 0x2a, 0x1b, 0x04, 0xb6, 0x00, 0x90, 0xa7, 0x00, 0x4e, 0x2a, 0x1b, 0x03]
def LRX9_comesTo_4 : List UInt8 := LBX9_comesTo_4 ++ LRX9_comesTo_5
def LBX9_comesTo_3 : List UInt8 := [0x00, 0x00, 0x00, 0x21, 0x00, 0x00, 0x00, 0x33, 0x00, 0x00, 0x00, 0x3d, 0x00, 0x00, 0x00, 0x3d]
def LRX9_comesTo_3 : List UInt8 := LBX9_comesTo_3 ++ LRX9_comesTo_4
def LBX9_comesTo_2 : List UInt8 := [0xb6, 0x00, 0x89, 0xaa, 0x00, 0x00, 0x00, 0x3d, 0x00, 0x00, 0x00, 0x02, 0x00, 0x00, 0x00, 0x06]
def LRX9_comesTo_2 : List UInt8 := LBX9_comesTo_2 ++ LRX9_comesTo_3
def LBX9_comesTo_1 : List UInt8 := [0x04, 0x1c, 0x60, 0xb6, 0x00, 0x89, 0x36, 0x04, 0x2a, 0x03, 0xb5, 0x00, 0x7e, 0x2a, 0x1b, 0x03]
def LRX9_comesTo_1 : List UInt8 := LBX9_comesTo_1 ++ LRX9_comesTo_2
def LBX9_comesTo_0 : List UInt8 := [0x2a, 0x1b, 0x04, 0xb6, 0x00, 0x89, 0x3d, 0x2a, 0x1b, 0x05, 0xb6, 0x00, 0x89, 0x3e, 0x2a, 0x1b]
def LRX9_comesTo_0 : List UInt8 := LBX9_comesTo_0 ++ LRX9_comesTo_1
set_option maxRecDepth 100000 in
theorem LBX9_comesTo_eq : cX9_comesTo.data.toList = LRX9_comesTo_0 := by decide +kernel
theorem LBX9_comesTor_0 (k : Nat) : cX9_comesTo.data.toList[0 + k]? = LRX9_comesTo_0[k]? := by rw [LBX9_comesTo_eq, Nat.zero_add]
theorem LBX9_comesTor_1 (k : Nat) : cX9_comesTo.data.toList[16 + k]? = LRX9_comesTo_1[k]? := by
  have h := LBX9_comesTor_0 (16 + k)
  rw [show 0 + (16 + k) = 16 + k by omega] at h
  rw [h]
  exact (List.getElem?_append_right (l₁ := LBX9_comesTo_0) (l₂ := LRX9_comesTo_1) (show 16 ≤ 16 + k by omega)).trans (congrArg (fun i => LRX9_comesTo_1[i]?) (show 16 + k - 16 = k by omega))
theorem LBX9_comesTor_2 (k : Nat) : cX9_comesTo.data.toList[32 + k]? = LRX9_comesTo_2[k]? := by
  have h := LBX9_comesTor_1 (16 + k)
  rw [show 16 + (16 + k) = 32 + k by omega] at h
  rw [h]
  exact (List.getElem?_append_right (l₁ := LBX9_comesTo_1) (l₂ := LRX9_comesTo_2) (show 16 ≤ 16 + k by omega)).trans (congrArg (fun i => LRX9_comesTo_2[i]?) (show 16 + k - 16 = k by omega))
theorem LBX9_comesTor_3 (k : Nat) : cX9_comesTo.data.toList[48 + k]? = LRX9_comesTo_3[k]? := by
  have h := LBX9_comesTor_2 (16 + k)
  rw [show 32 + (16 + k) = 48 + k by omega] at h
  rw [h]
  exact (List.getElem?_append_right (l₁ := LBX9_comesTo_2) (l₂ := LRX9_comesTo_3) (show 16 ≤ 16 + k by omega)).trans (congrArg (fun i => LRX9_comesTo_3[i]?) (show 16 + k - 16 = k by omega))
theorem LBX9_comesTor_4 (k : Nat) : cX9_comesTo.data.toList[64 + k]? = LRX9_comesTo_4[k]? := by
  have h := LBX9_comesTor_3 (16 + k)
  rw [show 48 + (16 + k) = 64 + k by omega] at h
  rw [h]
  exact (List.getElem?_append_right (l₁ := LBX9_comesTo_3) (l₂ := LRX9_comesTo_4) (show 16 ≤ 16 + k by omega)).trans (congrArg (fun i => LRX9_comesTo_4[i]?) (show 16 + k - 16 = k by omega))
theorem LBX9_comesTor_5 (k : Nat) : cX9_comesTo.data.toList[80 + k]? = LRX9_comesTo_5[k]? := by
  have h := LBX9_comesTor_4 (16 + k)
  rw [show 64 + (16 + k) = 80 + k by omega] at h
  rw [h]
  exact (List.getElem?_append_right (l₁ := LBX9_comesTo_4) (l₂ := LRX9_comesTo_5) (show 16 ≤ 16 + k by omega)).trans (congrArg (fun i => LRX9_comesTo_5[i]?) (show 16 + k - 16 = k by omega))
theorem LBX9_comesTor_6 (k : Nat) : cX9_comesTo.data.toList[96 + k]? = LRX9_comesTo_6[k]? := by
  have h := LBX9_comesTor_5 (16 + k)
  rw [show 80 + (16 + k) = 96 + k by omega] at h
  rw [h]
  exact (List.getElem?_append_right (l₁ := LBX9_comesTo_5) (l₂ := LRX9_comesTo_6) (show 16 ≤ 16 + k by omega)).trans (congrArg (fun i => LRX9_comesTo_6[i]?) (show 16 + k - 16 = k by omega))
theorem LBX9_comesTor_7 (k : Nat) : cX9_comesTo.data.toList[112 + k]? = LRX9_comesTo_7[k]? := by
  have h := LBX9_comesTor_6 (16 + k)
  rw [show 96 + (16 + k) = 112 + k by omega] at h
  rw [h]
  exact (List.getElem?_append_right (l₁ := LBX9_comesTo_6) (l₂ := LRX9_comesTo_7) (show 16 ≤ 16 + k by omega)).trans (congrArg (fun i => LRX9_comesTo_7[i]?) (show 16 + k - 16 = k by omega))
theorem LBX9_comesTor_8 (k : Nat) : cX9_comesTo.data.toList[128 + k]? = LRX9_comesTo_8[k]? := by
  have h := LBX9_comesTor_7 (16 + k)
  rw [show 112 + (16 + k) = 128 + k by omega] at h
  rw [h]
  exact (List.getElem?_append_right (l₁ := LBX9_comesTo_7) (l₂ := LRX9_comesTo_8) (show 16 ≤ 16 + k by omega)).trans (congrArg (fun i => LRX9_comesTo_8[i]?) (show 16 + k - 16 = k by omega))
theorem LBX9_comesTor_9 (k : Nat) : cX9_comesTo.data.toList[144 + k]? = LRX9_comesTo_9[k]? := by
  have h := LBX9_comesTor_8 (16 + k)
  rw [show 128 + (16 + k) = 144 + k by omega] at h
  rw [h]
  exact (List.getElem?_append_right (l₁ := LBX9_comesTo_8) (l₂ := LRX9_comesTo_9) (show 16 ≤ 16 + k by omega)).trans (congrArg (fun i => LRX9_comesTo_9[i]?) (show 16 + k - 16 = k by omega))
theorem dX9_comesTo_0 : decode cX9_comesTo 0 = .ok (.aload_n 0, 1) := dk_42_ (show cX9_comesTo.data.toList[0]? = some 0x2a from (LBX9_comesTor_0 0).trans (by decide +kernel))
theorem dX9_comesTo_1 : decode cX9_comesTo 1 = .ok (.iload_n 1, 1) := dk_27_ (show cX9_comesTo.data.toList[1]? = some 0x1b from (LBX9_comesTor_0 1).trans (by decide +kernel))
theorem dX9_comesTo_2 : decode cX9_comesTo 2 = .ok (.iconst 1, 1) := dk_4_ (show cX9_comesTo.data.toList[2]? = some 0x04 from (LBX9_comesTor_0 2).trans (by decide +kernel))
theorem dX9_comesTo_3 : decode cX9_comesTo 3 = .ok (.invokevirtual 137, 3) := dk_182_ (show cX9_comesTo.data.toList[3]? = some 0xb6 from (LBX9_comesTor_0 3).trans (by decide +kernel)) (show cX9_comesTo.data.toList[4]? = some 0x00 from (LBX9_comesTor_0 4).trans (by decide +kernel)) (show cX9_comesTo.data.toList[5]? = some 0x89 from (LBX9_comesTor_0 5).trans (by decide +kernel)) (by decide)
theorem dX9_comesTo_6 : decode cX9_comesTo 6 = .ok (.istore_n 2, 1) := dk_61_ (show cX9_comesTo.data.toList[6]? = some 0x3d from (LBX9_comesTor_0 6).trans (by decide +kernel))
theorem dX9_comesTo_7 : decode cX9_comesTo 7 = .ok (.aload_n 0, 1) := dk_42_ (show cX9_comesTo.data.toList[7]? = some 0x2a from (LBX9_comesTor_0 7).trans (by decide +kernel))
theorem dX9_comesTo_8 : decode cX9_comesTo 8 = .ok (.iload_n 1, 1) := dk_27_ (show cX9_comesTo.data.toList[8]? = some 0x1b from (LBX9_comesTor_0 8).trans (by decide +kernel))
theorem dX9_comesTo_9 : decode cX9_comesTo 9 = .ok (.iconst 2, 1) := dk_5_ (show cX9_comesTo.data.toList[9]? = some 0x05 from (LBX9_comesTor_0 9).trans (by decide +kernel))
theorem dX9_comesTo_10 : decode cX9_comesTo 10 = .ok (.invokevirtual 137, 3) := dk_182_ (show cX9_comesTo.data.toList[10]? = some 0xb6 from (LBX9_comesTor_0 10).trans (by decide +kernel)) (show cX9_comesTo.data.toList[11]? = some 0x00 from (LBX9_comesTor_0 11).trans (by decide +kernel)) (show cX9_comesTo.data.toList[12]? = some 0x89 from (LBX9_comesTor_0 12).trans (by decide +kernel)) (by decide)
theorem dX9_comesTo_13 : decode cX9_comesTo 13 = .ok (.istore_n 3, 1) := dk_62_ (show cX9_comesTo.data.toList[13]? = some 0x3e from (LBX9_comesTor_0 13).trans (by decide +kernel))
theorem dX9_comesTo_14 : decode cX9_comesTo 14 = .ok (.aload_n 0, 1) := dk_42_ (show cX9_comesTo.data.toList[14]? = some 0x2a from (LBX9_comesTor_0 14).trans (by decide +kernel))
theorem dX9_comesTo_15 : decode cX9_comesTo 15 = .ok (.iload_n 1, 1) := dk_27_ (show cX9_comesTo.data.toList[15]? = some 0x1b from (LBX9_comesTor_0 15).trans (by decide +kernel))
theorem dX9_comesTo_16 : decode cX9_comesTo 16 = .ok (.iconst 1, 1) := dk_4_ (show cX9_comesTo.data.toList[16]? = some 0x04 from (LBX9_comesTor_1 0).trans (by decide +kernel))
theorem dX9_comesTo_17 : decode cX9_comesTo 17 = .ok (.iload_n 2, 1) := dk_28_ (show cX9_comesTo.data.toList[17]? = some 0x1c from (LBX9_comesTor_1 1).trans (by decide +kernel))
theorem dX9_comesTo_18 : decode cX9_comesTo 18 = .ok (.iadd, 1) := dk_96_ (show cX9_comesTo.data.toList[18]? = some 0x60 from (LBX9_comesTor_1 2).trans (by decide +kernel))
theorem dX9_comesTo_19 : decode cX9_comesTo 19 = .ok (.invokevirtual 137, 3) := dk_182_ (show cX9_comesTo.data.toList[19]? = some 0xb6 from (LBX9_comesTor_1 3).trans (by decide +kernel)) (show cX9_comesTo.data.toList[20]? = some 0x00 from (LBX9_comesTor_1 4).trans (by decide +kernel)) (show cX9_comesTo.data.toList[21]? = some 0x89 from (LBX9_comesTor_1 5).trans (by decide +kernel)) (by decide)
theorem dX9_comesTo_22 : decode cX9_comesTo 22 = .ok (.istore 4, 2) := dk_54_ (show cX9_comesTo.data.toList[22]? = some 0x36 from (LBX9_comesTor_1 6).trans (by decide +kernel)) (show cX9_comesTo.data.toList[23]? = some 0x04 from (LBX9_comesTor_1 7).trans (by decide +kernel)) (by decide)
theorem dX9_comesTo_24 : decode cX9_comesTo 24 = .ok (.aload_n 0, 1) := dk_42_ (show cX9_comesTo.data.toList[24]? = some 0x2a from (LBX9_comesTor_1 8).trans (by decide +kernel))
theorem dX9_comesTo_25 : decode cX9_comesTo 25 = .ok (.iconst 0, 1) := dk_3_ (show cX9_comesTo.data.toList[25]? = some 0x03 from (LBX9_comesTor_1 9).trans (by decide +kernel))
theorem dX9_comesTo_26 : decode cX9_comesTo 26 = .ok (.putfield 126, 3) := dk_181_ (show cX9_comesTo.data.toList[26]? = some 0xb5 from (LBX9_comesTor_1 10).trans (by decide +kernel)) (show cX9_comesTo.data.toList[27]? = some 0x00 from (LBX9_comesTor_1 11).trans (by decide +kernel)) (show cX9_comesTo.data.toList[28]? = some 0x7e from (LBX9_comesTor_1 12).trans (by decide +kernel)) (by decide)
theorem dX9_comesTo_29 : decode cX9_comesTo 29 = .ok (.aload_n 0, 1) := dk_42_ (show cX9_comesTo.data.toList[29]? = some 0x2a from (LBX9_comesTor_1 13).trans (by decide +kernel))
theorem dX9_comesTo_30 : decode cX9_comesTo 30 = .ok (.iload_n 1, 1) := dk_27_ (show cX9_comesTo.data.toList[30]? = some 0x1b from (LBX9_comesTor_1 14).trans (by decide +kernel))
theorem dX9_comesTo_31 : decode cX9_comesTo 31 = .ok (.iconst 0, 1) := dk_3_ (show cX9_comesTo.data.toList[31]? = some 0x03 from (LBX9_comesTor_1 15).trans (by decide +kernel))
theorem dX9_comesTo_32 : decode cX9_comesTo 32 = .ok (.invokevirtual 137, 3) := dk_182_ (show cX9_comesTo.data.toList[32]? = some 0xb6 from (LBX9_comesTor_2 0).trans (by decide +kernel)) (show cX9_comesTo.data.toList[33]? = some 0x00 from (LBX9_comesTor_2 1).trans (by decide +kernel)) (show cX9_comesTo.data.toList[34]? = some 0x89 from (LBX9_comesTor_2 2).trans (by decide +kernel)) (by decide)
theorem dX9_comesTo_35 : decode cX9_comesTo 35 = .ok (.tableswitch 61 2 6 #[33, 51, 61, 61, 42], 33) := by decide +kernel
theorem dX9_comesTo_68 : decode cX9_comesTo 68 = .ok (.aload_n 0, 1) := dk_42_ (show cX9_comesTo.data.toList[68]? = some 0x2a from (LBX9_comesTor_4 4).trans (by decide +kernel))
theorem dX9_comesTo_69 : decode cX9_comesTo 69 = .ok (.iload_n 1, 1) := dk_27_ (show cX9_comesTo.data.toList[69]? = some 0x1b from (LBX9_comesTor_4 5).trans (by decide +kernel))
theorem dX9_comesTo_70 : decode cX9_comesTo 70 = .ok (.iconst 1, 1) := dk_4_ (show cX9_comesTo.data.toList[70]? = some 0x04 from (LBX9_comesTor_4 6).trans (by decide +kernel))
theorem dX9_comesTo_71 : decode cX9_comesTo 71 = .ok (.invokevirtual 144, 3) := dk_182_ (show cX9_comesTo.data.toList[71]? = some 0xb6 from (LBX9_comesTor_4 7).trans (by decide +kernel)) (show cX9_comesTo.data.toList[72]? = some 0x00 from (LBX9_comesTor_4 8).trans (by decide +kernel)) (show cX9_comesTo.data.toList[73]? = some 0x90 from (LBX9_comesTor_4 9).trans (by decide +kernel)) (by decide)
theorem dX9_comesTo_74 : decode cX9_comesTo 74 = .ok (.goto 78, 3) := dk_167_ (show cX9_comesTo.data.toList[74]? = some 0xa7 from (LBX9_comesTor_4 10).trans (by decide +kernel)) (show cX9_comesTo.data.toList[75]? = some 0x00 from (LBX9_comesTor_4 11).trans (by decide +kernel)) (show cX9_comesTo.data.toList[76]? = some 0x4e from (LBX9_comesTor_4 12).trans (by decide +kernel)) (by decide)
theorem dX9_comesTo_77 : decode cX9_comesTo 77 = .ok (.aload_n 0, 1) := dk_42_ (show cX9_comesTo.data.toList[77]? = some 0x2a from (LBX9_comesTor_4 13).trans (by decide +kernel))
theorem dX9_comesTo_78 : decode cX9_comesTo 78 = .ok (.iload_n 1, 1) := dk_27_ (show cX9_comesTo.data.toList[78]? = some 0x1b from (LBX9_comesTor_4 14).trans (by decide +kernel))
theorem dX9_comesTo_79 : decode cX9_comesTo 79 = .ok (.iconst 0, 1) := dk_3_ (show cX9_comesTo.data.toList[79]? = some 0x03 from (LBX9_comesTor_4 15).trans (by decide +kernel))
theorem dX9_comesTo_80 : decode cX9_comesTo 80 = .ok (.invokevirtual 144, 3) := dk_182_ (show cX9_comesTo.data.toList[80]? = some 0xb6 from (LBX9_comesTor_5 0).trans (by decide +kernel)) (show cX9_comesTo.data.toList[81]? = some 0x00 from (LBX9_comesTor_5 1).trans (by decide +kernel)) (show cX9_comesTo.data.toList[82]? = some 0x90 from (LBX9_comesTor_5 2).trans (by decide +kernel)) (by decide)
theorem dX9_comesTo_83 : decode cX9_comesTo 83 = .ok (.goto 69, 3) := dk_167_ (show cX9_comesTo.data.toList[83]? = some 0xa7 from (LBX9_comesTor_5 3).trans (by decide +kernel)) (show cX9_comesTo.data.toList[84]? = some 0x00 from (LBX9_comesTor_5 4).trans (by decide +kernel)) (show cX9_comesTo.data.toList[85]? = some 0x45 from (LBX9_comesTor_5 5).trans (by decide +kernel)) (by decide)
theorem dX9_comesTo_86 : decode cX9_comesTo 86 = .ok (.aload_n 0, 1) := dk_42_ (show cX9_comesTo.data.toList[86]? = some 0x2a from (LBX9_comesTor_5 6).trans (by decide +kernel))
theorem dX9_comesTo_87 : decode cX9_comesTo 87 = .ok (.iload_n 3, 1) := dk_29_ (show cX9_comesTo.data.toList[87]? = some 0x1d from (LBX9_comesTor_5 7).trans (by decide +kernel))
theorem dX9_comesTo_88 : decode cX9_comesTo 88 = .ok (.iload 4, 2) := dk_21_ (show cX9_comesTo.data.toList[88]? = some 0x15 from (LBX9_comesTor_5 8).trans (by decide +kernel)) (show cX9_comesTo.data.toList[89]? = some 0x04 from (LBX9_comesTor_5 9).trans (by decide +kernel)) (by decide)
theorem dX9_comesTo_90 : decode cX9_comesTo 90 = .ok (.invokevirtual 147, 3) := dk_182_ (show cX9_comesTo.data.toList[90]? = some 0xb6 from (LBX9_comesTor_5 10).trans (by decide +kernel)) (show cX9_comesTo.data.toList[91]? = some 0x00 from (LBX9_comesTor_5 11).trans (by decide +kernel)) (show cX9_comesTo.data.toList[92]? = some 0x93 from (LBX9_comesTor_5 12).trans (by decide +kernel)) (by decide)
theorem dX9_comesTo_93 : decode cX9_comesTo 93 = .ok (.goto 59, 3) := dk_167_ (show cX9_comesTo.data.toList[93]? = some 0xa7 from (LBX9_comesTor_5 13).trans (by decide +kernel)) (show cX9_comesTo.data.toList[94]? = some 0x00 from (LBX9_comesTor_5 14).trans (by decide +kernel)) (show cX9_comesTo.data.toList[95]? = some 0x3b from (LBX9_comesTor_5 15).trans (by decide +kernel)) (by decide)
theorem dX9_comesTo_96 : decode cX9_comesTo 96 = .ok (.iconst 1, 1) := dk_4_ (show cX9_comesTo.data.toList[96]? = some 0x04 from (LBX9_comesTor_6 0).trans (by decide +kernel))
theorem dX9_comesTo_97 : decode cX9_comesTo 97 = .ok (.istore 5, 2) := dk_54_ (show cX9_comesTo.data.toList[97]? = some 0x36 from (LBX9_comesTor_6 1).trans (by decide +kernel)) (show cX9_comesTo.data.toList[98]? = some 0x05 from (LBX9_comesTor_6 2).trans (by decide +kernel)) (by decide)
theorem dX9_comesTo_99 : decode cX9_comesTo 99 = .ok (.iload 5, 2) := dk_21_ (show cX9_comesTo.data.toList[99]? = some 0x15 from (LBX9_comesTor_6 3).trans (by decide +kernel)) (show cX9_comesTo.data.toList[100]? = some 0x05 from (LBX9_comesTor_6 4).trans (by decide +kernel)) (by decide)
theorem dX9_comesTo_101 : decode cX9_comesTo 101 = .ok (.iload_n 2, 1) := dk_28_ (show cX9_comesTo.data.toList[101]? = some 0x1c from (LBX9_comesTor_6 5).trans (by decide +kernel))
theorem dX9_comesTo_102 : decode cX9_comesTo 102 = .ok (.if_icmp .ge 37, 3) := dk_162_ (show cX9_comesTo.data.toList[102]? = some 0xa2 from (LBX9_comesTor_6 6).trans (by decide +kernel)) (show cX9_comesTo.data.toList[103]? = some 0x00 from (LBX9_comesTor_6 7).trans (by decide +kernel)) (show cX9_comesTo.data.toList[104]? = some 0x25 from (LBX9_comesTor_6 8).trans (by decide +kernel)) (by decide)
theorem dX9_comesTo_105 : decode cX9_comesTo 105 = .ok (.aload_n 0, 1) := dk_42_ (show cX9_comesTo.data.toList[105]? = some 0x2a from (LBX9_comesTor_6 9).trans (by decide +kernel))
theorem dX9_comesTo_106 : decode cX9_comesTo 106 = .ok (.aload_n 0, 1) := dk_42_ (show cX9_comesTo.data.toList[106]? = some 0x2a from (LBX9_comesTor_6 10).trans (by decide +kernel))
theorem dX9_comesTo_107 : decode cX9_comesTo 107 = .ok (.iload_n 1, 1) := dk_27_ (show cX9_comesTo.data.toList[107]? = some 0x1b from (LBX9_comesTor_6 11).trans (by decide +kernel))
theorem dX9_comesTo_108 : decode cX9_comesTo 108 = .ok (.iconst 0, 1) := dk_3_ (show cX9_comesTo.data.toList[108]? = some 0x03 from (LBX9_comesTor_6 12).trans (by decide +kernel))
theorem dX9_comesTo_109 : decode cX9_comesTo 109 = .ok (.invokevirtual 137, 3) := dk_182_ (show cX9_comesTo.data.toList[109]? = some 0xb6 from (LBX9_comesTor_6 13).trans (by decide +kernel)) (show cX9_comesTo.data.toList[110]? = some 0x00 from (LBX9_comesTor_6 14).trans (by decide +kernel)) (show cX9_comesTo.data.toList[111]? = some 0x89 from (LBX9_comesTor_6 15).trans (by decide +kernel)) (by decide)
theorem dX9_comesTo_112 : decode cX9_comesTo 112 = .ok (.aload_n 0, 1) := dk_42_ (show cX9_comesTo.data.toList[112]? = some 0x2a from (LBX9_comesTor_7 0).trans (by decide +kernel))
theorem dX9_comesTo_113 : decode cX9_comesTo 113 = .ok (.iload_n 1, 1) := dk_27_ (show cX9_comesTo.data.toList[113]? = some 0x1b from (LBX9_comesTor_7 1).trans (by decide +kernel))
theorem dX9_comesTo_114 : decode cX9_comesTo 114 = .ok (.iconst 1, 1) := dk_4_ (show cX9_comesTo.data.toList[114]? = some 0x04 from (LBX9_comesTor_7 2).trans (by decide +kernel))
theorem dX9_comesTo_115 : decode cX9_comesTo 115 = .ok (.iload 5, 2) := dk_21_ (show cX9_comesTo.data.toList[115]? = some 0x15 from (LBX9_comesTor_7 3).trans (by decide +kernel)) (show cX9_comesTo.data.toList[116]? = some 0x05 from (LBX9_comesTor_7 4).trans (by decide +kernel)) (by decide)
theorem dX9_comesTo_117 : decode cX9_comesTo 117 = .ok (.iadd, 1) := dk_96_ (show cX9_comesTo.data.toList[117]? = some 0x60 from (LBX9_comesTor_7 5).trans (by decide +kernel))
theorem dX9_comesTo_118 : decode cX9_comesTo 118 = .ok (.invokevirtual 137, 3) := dk_182_ (show cX9_comesTo.data.toList[118]? = some 0xb6 from (LBX9_comesTor_7 6).trans (by decide +kernel)) (show cX9_comesTo.data.toList[119]? = some 0x00 from (LBX9_comesTor_7 7).trans (by decide +kernel)) (show cX9_comesTo.data.toList[120]? = some 0x89 from (LBX9_comesTor_7 8).trans (by decide +kernel)) (by decide)
theorem dX9_comesTo_121 : decode cX9_comesTo 121 = .ok (.aload_n 0, 1) := dk_42_ (show cX9_comesTo.data.toList[121]? = some 0x2a from (LBX9_comesTor_7 9).trans (by decide +kernel))
theorem dX9_comesTo_122 : decode cX9_comesTo 122 = .ok (.iload_n 1, 1) := dk_27_ (show cX9_comesTo.data.toList[122]? = some 0x1b from (LBX9_comesTor_7 10).trans (by decide +kernel))
theorem dX9_comesTo_123 : decode cX9_comesTo 123 = .ok (.iconst 2, 1) := dk_5_ (show cX9_comesTo.data.toList[123]? = some 0x05 from (LBX9_comesTor_7 11).trans (by decide +kernel))
theorem dX9_comesTo_124 : decode cX9_comesTo 124 = .ok (.iload 5, 2) := dk_21_ (show cX9_comesTo.data.toList[124]? = some 0x15 from (LBX9_comesTor_7 12).trans (by decide +kernel)) (show cX9_comesTo.data.toList[125]? = some 0x05 from (LBX9_comesTor_7 13).trans (by decide +kernel)) (by decide)
theorem dX9_comesTo_126 : decode cX9_comesTo 126 = .ok (.iadd, 1) := dk_96_ (show cX9_comesTo.data.toList[126]? = some 0x60 from (LBX9_comesTor_7 14).trans (by decide +kernel))
theorem dX9_comesTo_127 : decode cX9_comesTo 127 = .ok (.invokevirtual 137, 3) := dk_182_ (show cX9_comesTo.data.toList[127]? = some 0xb6 from (LBX9_comesTor_7 15).trans (by decide +kernel)) (show cX9_comesTo.data.toList[128]? = some 0x00 from (LBX9_comesTor_8 0).trans (by decide +kernel)) (show cX9_comesTo.data.toList[129]? = some 0x89 from (LBX9_comesTor_8 1).trans (by decide +kernel)) (by decide)
theorem dX9_comesTo_130 : decode cX9_comesTo 130 = .ok (.invokevirtual 151, 3) := dk_182_ (show cX9_comesTo.data.toList[130]? = some 0xb6 from (LBX9_comesTor_8 2).trans (by decide +kernel)) (show cX9_comesTo.data.toList[131]? = some 0x00 from (LBX9_comesTor_8 3).trans (by decide +kernel)) (show cX9_comesTo.data.toList[132]? = some 0x97 from (LBX9_comesTor_8 4).trans (by decide +kernel)) (by decide)
theorem dX9_comesTo_133 : decode cX9_comesTo 133 = .ok (.iinc 5 1, 3) := dk_132_ (show cX9_comesTo.data.toList[133]? = some 0x84 from (LBX9_comesTor_8 5).trans (by decide +kernel)) (show cX9_comesTo.data.toList[134]? = some 0x05 from (LBX9_comesTor_8 6).trans (by decide +kernel)) (show cX9_comesTo.data.toList[135]? = some 0x01 from (LBX9_comesTor_8 7).trans (by decide +kernel)) (by decide) (by decide)
theorem dX9_comesTo_136 : decode cX9_comesTo 136 = .ok (.goto (-37), 3) := dk_167_ (show cX9_comesTo.data.toList[136]? = some 0xa7 from (LBX9_comesTor_8 8).trans (by decide +kernel)) (show cX9_comesTo.data.toList[137]? = some 0xff from (LBX9_comesTor_8 9).trans (by decide +kernel)) (show cX9_comesTo.data.toList[138]? = some 0xdb from (LBX9_comesTor_8 10).trans (by decide +kernel)) (by decide)
theorem dX9_comesTo_139 : decode cX9_comesTo 139 = .ok (.aload_n 0, 1) := dk_42_ (show cX9_comesTo.data.toList[139]? = some 0x2a from (LBX9_comesTor_8 11).trans (by decide +kernel))
theorem dX9_comesTo_140 : decode cX9_comesTo 140 = .ok (.aload_n 0, 1) := dk_42_ (show cX9_comesTo.data.toList[140]? = some 0x2a from (LBX9_comesTor_8 12).trans (by decide +kernel))
theorem dX9_comesTo_141 : decode cX9_comesTo 141 = .ok (.iload_n 1, 1) := dk_27_ (show cX9_comesTo.data.toList[141]? = some 0x1b from (LBX9_comesTor_8 13).trans (by decide +kernel))
theorem dX9_comesTo_142 : decode cX9_comesTo 142 = .ok (.iconst 0, 1) := dk_3_ (show cX9_comesTo.data.toList[142]? = some 0x03 from (LBX9_comesTor_8 14).trans (by decide +kernel))
theorem dX9_comesTo_143 : decode cX9_comesTo 143 = .ok (.invokevirtual 137, 3) := dk_182_ (show cX9_comesTo.data.toList[143]? = some 0xb6 from (LBX9_comesTor_8 15).trans (by decide +kernel)) (show cX9_comesTo.data.toList[144]? = some 0x00 from (LBX9_comesTor_9 0).trans (by decide +kernel)) (show cX9_comesTo.data.toList[145]? = some 0x89 from (LBX9_comesTor_9 1).trans (by decide +kernel)) (by decide)
theorem dX9_comesTo_146 : decode cX9_comesTo 146 = .ok (.iload_n 3, 1) := dk_29_ (show cX9_comesTo.data.toList[146]? = some 0x1d from (LBX9_comesTor_9 2).trans (by decide +kernel))
theorem dX9_comesTo_147 : decode cX9_comesTo 147 = .ok (.iload 4, 2) := dk_21_ (show cX9_comesTo.data.toList[147]? = some 0x15 from (LBX9_comesTor_9 3).trans (by decide +kernel)) (show cX9_comesTo.data.toList[148]? = some 0x04 from (LBX9_comesTor_9 4).trans (by decide +kernel)) (by decide)
theorem dX9_comesTo_149 : decode cX9_comesTo 149 = .ok (.invokevirtual 154, 3) := dk_182_ (show cX9_comesTo.data.toList[149]? = some 0xb6 from (LBX9_comesTor_9 5).trans (by decide +kernel)) (show cX9_comesTo.data.toList[150]? = some 0x00 from (LBX9_comesTor_9 6).trans (by decide +kernel)) (show cX9_comesTo.data.toList[151]? = some 0x9a from (LBX9_comesTor_9 7).trans (by decide +kernel)) (by decide)
theorem dX9_comesTo_152 : decode cX9_comesTo 152 = .ok (.aload_n 0, 1) := dk_42_ (show cX9_comesTo.data.toList[152]? = some 0x2a from (LBX9_comesTor_9 8).trans (by decide +kernel))
theorem dX9_comesTo_153 : decode cX9_comesTo 153 = .ok (.getfield 126, 3) := dk_180_ (show cX9_comesTo.data.toList[153]? = some 0xb4 from (LBX9_comesTor_9 9).trans (by decide +kernel)) (show cX9_comesTo.data.toList[154]? = some 0x00 from (LBX9_comesTor_9 10).trans (by decide +kernel)) (show cX9_comesTo.data.toList[155]? = some 0x7e from (LBX9_comesTor_9 11).trans (by decide +kernel)) (by decide)
theorem dX9_comesTo_156 : decode cX9_comesTo 156 = .ok (.ireturn, 1) := dk_172_ (show cX9_comesTo.data.toList[156]? = some 0xac from (LBX9_comesTor_9 12).trans (by decide +kernel))
def LRX9_sum_4 : List UInt8 := []
def LBX9_sum_3 : List UInt8 := [0xb6, 0x00, 0x46, 0xa7, 0x00, 0x04, 0x1c, 0xac]
def LRX9_sum_3 : List UInt8 := LBX9_sum_3 ++ LRX9_sum_4
def LBX9_sum_2 : List UInt8 := [0xac, 0x2a, 0x1b, 0xb6, 0x00, 0xa0, 0x3d, 0x1c, 0x12, 0x68, 0xa0, 0x00, 0x0c, 0x2a, 0x12, 0x60]
def LRX9_sum_2 : List UInt8 := LBX9_sum_2 ++ LRX9_sum_3
def LBX9_sum_1 : List UInt8 := [0xb6, 0x00, 0x71, 0x2a, 0xb4, 0x00, 0x6d, 0x99, 0x00, 0x0a, 0x2a, 0x12, 0x74, 0xb6, 0x00, 0x46]
def LRX9_sum_1 : List UInt8 := LBX9_sum_1 ++ LRX9_sum_2
def LBX9_sum_0 : List UInt8 := [0x2a, 0x1b, 0xb6, 0x00, 0x7b, 0x9a, 0x00, 0x0a, 0x2a, 0x12, 0x38, 0xb6, 0x00, 0x46, 0xac, 0x2a]
def LRX9_sum_0 : List UInt8 := LBX9_sum_0 ++ LRX9_sum_1
set_option maxRecDepth 100000 in
theorem LBX9_sum_eq : cX9_sum.data.toList = LRX9_sum_0 := by decide +kernel
theorem LBX9_sumr_0 (k : Nat) : cX9_sum.data.toList[0 + k]? = LRX9_sum_0[k]? := by rw [LBX9_sum_eq, Nat.zero_add]
theorem LBX9_sumr_1 (k : Nat) : cX9_sum.data.toList[16 + k]? = LRX9_sum_1[k]? := by
  have h := LBX9_sumr_0 (16 + k)
  rw [show 0 + (16 + k) = 16 + k by omega] at h
  rw [h]
  exact (List.getElem?_append_right (l₁ := LBX9_sum_0) (l₂ := LRX9_sum_1) (show 16 ≤ 16 + k by omega)).trans (congrArg (fun i => LRX9_sum_1[i]?) (show 16 + k - 16 = k by omega))
theorem LBX9_sumr_2 (k : Nat) : cX9_sum.data.toList[32 + k]? = LRX9_sum_2[k]? := by
  have h := LBX9_sumr_1 (16 + k)
  rw [show 16 + (16 + k) = 32 + k by omega] at h
  rw [h]
  exact (List.getElem?_append_right (l₁ := LBX9_sum_1) (l₂ := LRX9_sum_2) (show 16 ≤ 16 + k by omega)).trans (congrArg (fun i => LRX9_sum_2[i]?) (show 16 + k - 16 = k by omega))
theorem LBX9_sumr_3 (k : Nat) : cX9_sum.data.toList[48 + k]? = LRX9_sum_3[k]? := by
  have h := LBX9_sumr_2 (16 + k)
  rw [show 32 + (16 + k) = 48 + k by omega] at h
  rw [h]
  exact (List.getElem?_append_right (l₁ := LBX9_sum_2) (l₂ := LRX9_sum_3) (show 16 ≤ 16 + k by omega)).trans (congrArg (fun i => LRX9_sum_3[i]?) (show 16 + k - 16 = k by omega))
theorem dX9_sum_0 : decode cX9_sum 0 = .ok (.aload_n 0, 1) := dk_42_ (show cX9_sum.data.toList[0]? = some 0x2a from (LBX9_sumr_0 0).trans (by decide +kernel))
theorem dX9_sum_1 : decode cX9_sum 1 = .ok (.iload_n 1, 1) := dk_27_ (show cX9_sum.data.toList[1]? = some 0x1b from (LBX9_sumr_0 1).trans (by decide +kernel))
theorem dX9_sum_2 : decode cX9_sum 2 = .ok (.invokevirtual 123, 3) := dk_182_ (show cX9_sum.data.toList[2]? = some 0xb6 from (LBX9_sumr_0 2).trans (by decide +kernel)) (show cX9_sum.data.toList[3]? = some 0x00 from (LBX9_sumr_0 3).trans (by decide +kernel)) (show cX9_sum.data.toList[4]? = some 0x7b from (LBX9_sumr_0 4).trans (by decide +kernel)) (by decide)
theorem dX9_sum_5 : decode cX9_sum 5 = .ok (.ifCond .ne 10, 3) := dk_154_ (show cX9_sum.data.toList[5]? = some 0x9a from (LBX9_sumr_0 5).trans (by decide +kernel)) (show cX9_sum.data.toList[6]? = some 0x00 from (LBX9_sumr_0 6).trans (by decide +kernel)) (show cX9_sum.data.toList[7]? = some 0x0a from (LBX9_sumr_0 7).trans (by decide +kernel)) (by decide)
theorem dX9_sum_8 : decode cX9_sum 8 = .ok (.aload_n 0, 1) := dk_42_ (show cX9_sum.data.toList[8]? = some 0x2a from (LBX9_sumr_0 8).trans (by decide +kernel))
theorem dX9_sum_9 : decode cX9_sum 9 = .ok (.ldc 56, 2) := dk_18_ (show cX9_sum.data.toList[9]? = some 0x12 from (LBX9_sumr_0 9).trans (by decide +kernel)) (show cX9_sum.data.toList[10]? = some 0x38 from (LBX9_sumr_0 10).trans (by decide +kernel)) (by decide)
theorem dX9_sum_11 : decode cX9_sum 11 = .ok (.invokevirtual 70, 3) := dk_182_ (show cX9_sum.data.toList[11]? = some 0xb6 from (LBX9_sumr_0 11).trans (by decide +kernel)) (show cX9_sum.data.toList[12]? = some 0x00 from (LBX9_sumr_0 12).trans (by decide +kernel)) (show cX9_sum.data.toList[13]? = some 0x46 from (LBX9_sumr_0 13).trans (by decide +kernel)) (by decide)
theorem dX9_sum_14 : decode cX9_sum 14 = .ok (.ireturn, 1) := dk_172_ (show cX9_sum.data.toList[14]? = some 0xac from (LBX9_sumr_0 14).trans (by decide +kernel))
theorem dX9_sum_15 : decode cX9_sum 15 = .ok (.aload_n 0, 1) := dk_42_ (show cX9_sum.data.toList[15]? = some 0x2a from (LBX9_sumr_0 15).trans (by decide +kernel))
theorem dX9_sum_16 : decode cX9_sum 16 = .ok (.invokevirtual 113, 3) := dk_182_ (show cX9_sum.data.toList[16]? = some 0xb6 from (LBX9_sumr_1 0).trans (by decide +kernel)) (show cX9_sum.data.toList[17]? = some 0x00 from (LBX9_sumr_1 1).trans (by decide +kernel)) (show cX9_sum.data.toList[18]? = some 0x71 from (LBX9_sumr_1 2).trans (by decide +kernel)) (by decide)
theorem dX9_sum_19 : decode cX9_sum 19 = .ok (.aload_n 0, 1) := dk_42_ (show cX9_sum.data.toList[19]? = some 0x2a from (LBX9_sumr_1 3).trans (by decide +kernel))
theorem dX9_sum_20 : decode cX9_sum 20 = .ok (.getfield 109, 3) := dk_180_ (show cX9_sum.data.toList[20]? = some 0xb4 from (LBX9_sumr_1 4).trans (by decide +kernel)) (show cX9_sum.data.toList[21]? = some 0x00 from (LBX9_sumr_1 5).trans (by decide +kernel)) (show cX9_sum.data.toList[22]? = some 0x6d from (LBX9_sumr_1 6).trans (by decide +kernel)) (by decide)
theorem dX9_sum_23 : decode cX9_sum 23 = .ok (.ifCond .eq 10, 3) := dk_153_ (show cX9_sum.data.toList[23]? = some 0x99 from (LBX9_sumr_1 7).trans (by decide +kernel)) (show cX9_sum.data.toList[24]? = some 0x00 from (LBX9_sumr_1 8).trans (by decide +kernel)) (show cX9_sum.data.toList[25]? = some 0x0a from (LBX9_sumr_1 9).trans (by decide +kernel)) (by decide)
theorem dX9_sum_26 : decode cX9_sum 26 = .ok (.aload_n 0, 1) := dk_42_ (show cX9_sum.data.toList[26]? = some 0x2a from (LBX9_sumr_1 10).trans (by decide +kernel))
theorem dX9_sum_27 : decode cX9_sum 27 = .ok (.ldc 116, 2) := dk_18_ (show cX9_sum.data.toList[27]? = some 0x12 from (LBX9_sumr_1 11).trans (by decide +kernel)) (show cX9_sum.data.toList[28]? = some 0x74 from (LBX9_sumr_1 12).trans (by decide +kernel)) (by decide)
theorem dX9_sum_29 : decode cX9_sum 29 = .ok (.invokevirtual 70, 3) := dk_182_ (show cX9_sum.data.toList[29]? = some 0xb6 from (LBX9_sumr_1 13).trans (by decide +kernel)) (show cX9_sum.data.toList[30]? = some 0x00 from (LBX9_sumr_1 14).trans (by decide +kernel)) (show cX9_sum.data.toList[31]? = some 0x46 from (LBX9_sumr_1 15).trans (by decide +kernel)) (by decide)
theorem dX9_sum_32 : decode cX9_sum 32 = .ok (.ireturn, 1) := dk_172_ (show cX9_sum.data.toList[32]? = some 0xac from (LBX9_sumr_2 0).trans (by decide +kernel))
theorem dX9_sum_33 : decode cX9_sum 33 = .ok (.aload_n 0, 1) := dk_42_ (show cX9_sum.data.toList[33]? = some 0x2a from (LBX9_sumr_2 1).trans (by decide +kernel))
theorem dX9_sum_34 : decode cX9_sum 34 = .ok (.iload_n 1, 1) := dk_27_ (show cX9_sum.data.toList[34]? = some 0x1b from (LBX9_sumr_2 2).trans (by decide +kernel))
theorem dX9_sum_35 : decode cX9_sum 35 = .ok (.invokevirtual 160, 3) := dk_182_ (show cX9_sum.data.toList[35]? = some 0xb6 from (LBX9_sumr_2 3).trans (by decide +kernel)) (show cX9_sum.data.toList[36]? = some 0x00 from (LBX9_sumr_2 4).trans (by decide +kernel)) (show cX9_sum.data.toList[37]? = some 0xa0 from (LBX9_sumr_2 5).trans (by decide +kernel)) (by decide)
theorem dX9_sum_38 : decode cX9_sum 38 = .ok (.istore_n 2, 1) := dk_61_ (show cX9_sum.data.toList[38]? = some 0x3d from (LBX9_sumr_2 6).trans (by decide +kernel))
theorem dX9_sum_39 : decode cX9_sum 39 = .ok (.iload_n 2, 1) := dk_28_ (show cX9_sum.data.toList[39]? = some 0x1c from (LBX9_sumr_2 7).trans (by decide +kernel))
theorem dX9_sum_40 : decode cX9_sum 40 = .ok (.ldc 104, 2) := dk_18_ (show cX9_sum.data.toList[40]? = some 0x12 from (LBX9_sumr_2 8).trans (by decide +kernel)) (show cX9_sum.data.toList[41]? = some 0x68 from (LBX9_sumr_2 9).trans (by decide +kernel)) (by decide)
theorem dX9_sum_42 : decode cX9_sum 42 = .ok (.if_icmp .ne 12, 3) := dk_160_ (show cX9_sum.data.toList[42]? = some 0xa0 from (LBX9_sumr_2 10).trans (by decide +kernel)) (show cX9_sum.data.toList[43]? = some 0x00 from (LBX9_sumr_2 11).trans (by decide +kernel)) (show cX9_sum.data.toList[44]? = some 0x0c from (LBX9_sumr_2 12).trans (by decide +kernel)) (by decide)
theorem dX9_sum_45 : decode cX9_sum 45 = .ok (.aload_n 0, 1) := dk_42_ (show cX9_sum.data.toList[45]? = some 0x2a from (LBX9_sumr_2 13).trans (by decide +kernel))
theorem dX9_sum_46 : decode cX9_sum 46 = .ok (.ldc 96, 2) := dk_18_ (show cX9_sum.data.toList[46]? = some 0x12 from (LBX9_sumr_2 14).trans (by decide +kernel)) (show cX9_sum.data.toList[47]? = some 0x60 from (LBX9_sumr_2 15).trans (by decide +kernel)) (by decide)
theorem dX9_sum_48 : decode cX9_sum 48 = .ok (.invokevirtual 70, 3) := dk_182_ (show cX9_sum.data.toList[48]? = some 0xb6 from (LBX9_sumr_3 0).trans (by decide +kernel)) (show cX9_sum.data.toList[49]? = some 0x00 from (LBX9_sumr_3 1).trans (by decide +kernel)) (show cX9_sum.data.toList[50]? = some 0x46 from (LBX9_sumr_3 2).trans (by decide +kernel)) (by decide)
theorem dX9_sum_51 : decode cX9_sum 51 = .ok (.goto 4, 3) := dk_167_ (show cX9_sum.data.toList[51]? = some 0xa7 from (LBX9_sumr_3 3).trans (by decide +kernel)) (show cX9_sum.data.toList[52]? = some 0x00 from (LBX9_sumr_3 4).trans (by decide +kernel)) (show cX9_sum.data.toList[53]? = some 0x04 from (LBX9_sumr_3 5).trans (by decide +kernel)) (by decide)
theorem dX9_sum_54 : decode cX9_sum 54 = .ok (.iload_n 2, 1) := dk_28_ (show cX9_sum.data.toList[54]? = some 0x1c from (LBX9_sumr_3 6).trans (by decide +kernel))
theorem dX9_sum_55 : decode cX9_sum 55 = .ok (.ireturn, 1) := dk_172_ (show cX9_sum.data.toList[55]? = some 0xac from (LBX9_sumr_3 7).trans (by decide +kernel))
def LRX9_roundOf_5 : List UInt8 := []
def LBX9_roundOf_4 : List UInt8 := [0xb6, 0x00, 0x89, 0xa7, 0x00, 0x09, 0x2a, 0x12, 0x60, 0xb6, 0x00, 0x46, 0xac]
def LRX9_roundOf_4 : List UInt8 := LBX9_roundOf_4 ++ LRX9_roundOf_5
def LBX9_roundOf_3 : List UInt8 := [0xac, 0x1c, 0x2a, 0x1b, 0x04, 0xb6, 0x00, 0x89, 0xa2, 0x00, 0x0e, 0x2a, 0x1b, 0x05, 0x1c, 0x60]
def LRX9_roundOf_3 : List UInt8 := LBX9_roundOf_3 ++ LRX9_roundOf_4
def LBX9_roundOf_2 : List UInt8 := [0x13, 0x2a, 0x1b, 0x1c, 0x02, 0xa0, 0x00, 0x07, 0x03, 0xa7, 0x00, 0x04, 0x04, 0xb6, 0x00, 0x89]
def LRX9_roundOf_2 : List UInt8 := LBX9_roundOf_2 ++ LRX9_roundOf_3
def LBX9_roundOf_1 : List UInt8 := [0xb8, 0x00, 0x39, 0x9a, 0x00, 0x0a, 0x2a, 0x12, 0x38, 0xb6, 0x00, 0x46, 0xac, 0x1c, 0x9c, 0x00]
def LRX9_roundOf_1 : List UInt8 := LBX9_roundOf_1 ++ LRX9_roundOf_2
def LBX9_roundOf_0 : List UInt8 := [0x2a, 0x1b, 0xb6, 0x00, 0x7b, 0x99, 0x00, 0x11, 0x1c, 0x85, 0x14, 0x00, 0xa3, 0x14, 0x00, 0xa5]
def LRX9_roundOf_0 : List UInt8 := LBX9_roundOf_0 ++ LRX9_roundOf_1
set_option maxRecDepth 100000 in
theorem LBX9_roundOf_eq : cX9_roundOf.data.toList = LRX9_roundOf_0 := by decide +kernel
theorem LBX9_roundOfr_0 (k : Nat) : cX9_roundOf.data.toList[0 + k]? = LRX9_roundOf_0[k]? := by rw [LBX9_roundOf_eq, Nat.zero_add]
theorem LBX9_roundOfr_1 (k : Nat) : cX9_roundOf.data.toList[16 + k]? = LRX9_roundOf_1[k]? := by
  have h := LBX9_roundOfr_0 (16 + k)
  rw [show 0 + (16 + k) = 16 + k by omega] at h
  rw [h]
  exact (List.getElem?_append_right (l₁ := LBX9_roundOf_0) (l₂ := LRX9_roundOf_1) (show 16 ≤ 16 + k by omega)).trans (congrArg (fun i => LRX9_roundOf_1[i]?) (show 16 + k - 16 = k by omega))
theorem LBX9_roundOfr_2 (k : Nat) : cX9_roundOf.data.toList[32 + k]? = LRX9_roundOf_2[k]? := by
  have h := LBX9_roundOfr_1 (16 + k)
  rw [show 16 + (16 + k) = 32 + k by omega] at h
  rw [h]
  exact (List.getElem?_append_right (l₁ := LBX9_roundOf_1) (l₂ := LRX9_roundOf_2) (show 16 ≤ 16 + k by omega)).trans (congrArg (fun i => LRX9_roundOf_2[i]?) (show 16 + k - 16 = k by omega))
theorem LBX9_roundOfr_3 (k : Nat) : cX9_roundOf.data.toList[48 + k]? = LRX9_roundOf_3[k]? := by
  have h := LBX9_roundOfr_2 (16 + k)
  rw [show 32 + (16 + k) = 48 + k by omega] at h
  rw [h]
  exact (List.getElem?_append_right (l₁ := LBX9_roundOf_2) (l₂ := LRX9_roundOf_3) (show 16 ≤ 16 + k by omega)).trans (congrArg (fun i => LRX9_roundOf_3[i]?) (show 16 + k - 16 = k by omega))
theorem LBX9_roundOfr_4 (k : Nat) : cX9_roundOf.data.toList[64 + k]? = LRX9_roundOf_4[k]? := by
  have h := LBX9_roundOfr_3 (16 + k)
  rw [show 48 + (16 + k) = 64 + k by omega] at h
  rw [h]
  exact (List.getElem?_append_right (l₁ := LBX9_roundOf_3) (l₂ := LRX9_roundOf_4) (show 16 ≤ 16 + k by omega)).trans (congrArg (fun i => LRX9_roundOf_4[i]?) (show 16 + k - 16 = k by omega))
theorem dX9_roundOf_0 : decode cX9_roundOf 0 = .ok (.aload_n 0, 1) := dk_42_ (show cX9_roundOf.data.toList[0]? = some 0x2a from (LBX9_roundOfr_0 0).trans (by decide +kernel))
theorem dX9_roundOf_1 : decode cX9_roundOf 1 = .ok (.iload_n 1, 1) := dk_27_ (show cX9_roundOf.data.toList[1]? = some 0x1b from (LBX9_roundOfr_0 1).trans (by decide +kernel))
theorem dX9_roundOf_2 : decode cX9_roundOf 2 = .ok (.invokevirtual 123, 3) := dk_182_ (show cX9_roundOf.data.toList[2]? = some 0xb6 from (LBX9_roundOfr_0 2).trans (by decide +kernel)) (show cX9_roundOf.data.toList[3]? = some 0x00 from (LBX9_roundOfr_0 3).trans (by decide +kernel)) (show cX9_roundOf.data.toList[4]? = some 0x7b from (LBX9_roundOfr_0 4).trans (by decide +kernel)) (by decide)
theorem dX9_roundOf_5 : decode cX9_roundOf 5 = .ok (.ifCond .eq 17, 3) := dk_153_ (show cX9_roundOf.data.toList[5]? = some 0x99 from (LBX9_roundOfr_0 5).trans (by decide +kernel)) (show cX9_roundOf.data.toList[6]? = some 0x00 from (LBX9_roundOfr_0 6).trans (by decide +kernel)) (show cX9_roundOf.data.toList[7]? = some 0x11 from (LBX9_roundOfr_0 7).trans (by decide +kernel)) (by decide)
theorem dX9_roundOf_8 : decode cX9_roundOf 8 = .ok (.iload_n 2, 1) := dk_28_ (show cX9_roundOf.data.toList[8]? = some 0x1c from (LBX9_roundOfr_0 8).trans (by decide +kernel))
theorem dX9_roundOf_9 : decode cX9_roundOf 9 = .ok (.i2l, 1) := dk_133_ (show cX9_roundOf.data.toList[9]? = some 0x85 from (LBX9_roundOfr_0 9).trans (by decide +kernel))
theorem dX9_roundOf_10 : decode cX9_roundOf 10 = .ok (.ldc2_w 163, 3) := dk_20_ (show cX9_roundOf.data.toList[10]? = some 0x14 from (LBX9_roundOfr_0 10).trans (by decide +kernel)) (show cX9_roundOf.data.toList[11]? = some 0x00 from (LBX9_roundOfr_0 11).trans (by decide +kernel)) (show cX9_roundOf.data.toList[12]? = some 0xa3 from (LBX9_roundOfr_0 12).trans (by decide +kernel)) (by decide)
theorem dX9_roundOf_13 : decode cX9_roundOf 13 = .ok (.ldc2_w 165, 3) := dk_20_ (show cX9_roundOf.data.toList[13]? = some 0x14 from (LBX9_roundOfr_0 13).trans (by decide +kernel)) (show cX9_roundOf.data.toList[14]? = some 0x00 from (LBX9_roundOfr_0 14).trans (by decide +kernel)) (show cX9_roundOf.data.toList[15]? = some 0xa5 from (LBX9_roundOfr_0 15).trans (by decide +kernel)) (by decide)
theorem dX9_roundOf_16 : decode cX9_roundOf 16 = .ok (.invokestatic 57, 3) := dk_184_ (show cX9_roundOf.data.toList[16]? = some 0xb8 from (LBX9_roundOfr_1 0).trans (by decide +kernel)) (show cX9_roundOf.data.toList[17]? = some 0x00 from (LBX9_roundOfr_1 1).trans (by decide +kernel)) (show cX9_roundOf.data.toList[18]? = some 0x39 from (LBX9_roundOfr_1 2).trans (by decide +kernel)) (by decide)
theorem dX9_roundOf_19 : decode cX9_roundOf 19 = .ok (.ifCond .ne 10, 3) := dk_154_ (show cX9_roundOf.data.toList[19]? = some 0x9a from (LBX9_roundOfr_1 3).trans (by decide +kernel)) (show cX9_roundOf.data.toList[20]? = some 0x00 from (LBX9_roundOfr_1 4).trans (by decide +kernel)) (show cX9_roundOf.data.toList[21]? = some 0x0a from (LBX9_roundOfr_1 5).trans (by decide +kernel)) (by decide)
theorem dX9_roundOf_22 : decode cX9_roundOf 22 = .ok (.aload_n 0, 1) := dk_42_ (show cX9_roundOf.data.toList[22]? = some 0x2a from (LBX9_roundOfr_1 6).trans (by decide +kernel))
theorem dX9_roundOf_23 : decode cX9_roundOf 23 = .ok (.ldc 56, 2) := dk_18_ (show cX9_roundOf.data.toList[23]? = some 0x12 from (LBX9_roundOfr_1 7).trans (by decide +kernel)) (show cX9_roundOf.data.toList[24]? = some 0x38 from (LBX9_roundOfr_1 8).trans (by decide +kernel)) (by decide)
theorem dX9_roundOf_25 : decode cX9_roundOf 25 = .ok (.invokevirtual 70, 3) := dk_182_ (show cX9_roundOf.data.toList[25]? = some 0xb6 from (LBX9_roundOfr_1 9).trans (by decide +kernel)) (show cX9_roundOf.data.toList[26]? = some 0x00 from (LBX9_roundOfr_1 10).trans (by decide +kernel)) (show cX9_roundOf.data.toList[27]? = some 0x46 from (LBX9_roundOfr_1 11).trans (by decide +kernel)) (by decide)
theorem dX9_roundOf_28 : decode cX9_roundOf 28 = .ok (.ireturn, 1) := dk_172_ (show cX9_roundOf.data.toList[28]? = some 0xac from (LBX9_roundOfr_1 12).trans (by decide +kernel))
theorem dX9_roundOf_29 : decode cX9_roundOf 29 = .ok (.iload_n 2, 1) := dk_28_ (show cX9_roundOf.data.toList[29]? = some 0x1c from (LBX9_roundOfr_1 13).trans (by decide +kernel))
theorem dX9_roundOf_30 : decode cX9_roundOf 30 = .ok (.ifCond .ge 19, 3) := dk_156_ (show cX9_roundOf.data.toList[30]? = some 0x9c from (LBX9_roundOfr_1 14).trans (by decide +kernel)) (show cX9_roundOf.data.toList[31]? = some 0x00 from (LBX9_roundOfr_1 15).trans (by decide +kernel)) (show cX9_roundOf.data.toList[32]? = some 0x13 from (LBX9_roundOfr_2 0).trans (by decide +kernel)) (by decide)
theorem dX9_roundOf_33 : decode cX9_roundOf 33 = .ok (.aload_n 0, 1) := dk_42_ (show cX9_roundOf.data.toList[33]? = some 0x2a from (LBX9_roundOfr_2 1).trans (by decide +kernel))
theorem dX9_roundOf_34 : decode cX9_roundOf 34 = .ok (.iload_n 1, 1) := dk_27_ (show cX9_roundOf.data.toList[34]? = some 0x1b from (LBX9_roundOfr_2 2).trans (by decide +kernel))
theorem dX9_roundOf_35 : decode cX9_roundOf 35 = .ok (.iload_n 2, 1) := dk_28_ (show cX9_roundOf.data.toList[35]? = some 0x1c from (LBX9_roundOfr_2 3).trans (by decide +kernel))
theorem dX9_roundOf_36 : decode cX9_roundOf 36 = .ok (.iconst (-1), 1) := dk_2_ (show cX9_roundOf.data.toList[36]? = some 0x02 from (LBX9_roundOfr_2 4).trans (by decide +kernel))
theorem dX9_roundOf_37 : decode cX9_roundOf 37 = .ok (.if_icmp .ne 7, 3) := dk_160_ (show cX9_roundOf.data.toList[37]? = some 0xa0 from (LBX9_roundOfr_2 5).trans (by decide +kernel)) (show cX9_roundOf.data.toList[38]? = some 0x00 from (LBX9_roundOfr_2 6).trans (by decide +kernel)) (show cX9_roundOf.data.toList[39]? = some 0x07 from (LBX9_roundOfr_2 7).trans (by decide +kernel)) (by decide)
theorem dX9_roundOf_40 : decode cX9_roundOf 40 = .ok (.iconst 0, 1) := dk_3_ (show cX9_roundOf.data.toList[40]? = some 0x03 from (LBX9_roundOfr_2 8).trans (by decide +kernel))
theorem dX9_roundOf_41 : decode cX9_roundOf 41 = .ok (.goto 4, 3) := dk_167_ (show cX9_roundOf.data.toList[41]? = some 0xa7 from (LBX9_roundOfr_2 9).trans (by decide +kernel)) (show cX9_roundOf.data.toList[42]? = some 0x00 from (LBX9_roundOfr_2 10).trans (by decide +kernel)) (show cX9_roundOf.data.toList[43]? = some 0x04 from (LBX9_roundOfr_2 11).trans (by decide +kernel)) (by decide)
theorem dX9_roundOf_44 : decode cX9_roundOf 44 = .ok (.iconst 1, 1) := dk_4_ (show cX9_roundOf.data.toList[44]? = some 0x04 from (LBX9_roundOfr_2 12).trans (by decide +kernel))
theorem dX9_roundOf_45 : decode cX9_roundOf 45 = .ok (.invokevirtual 137, 3) := dk_182_ (show cX9_roundOf.data.toList[45]? = some 0xb6 from (LBX9_roundOfr_2 13).trans (by decide +kernel)) (show cX9_roundOf.data.toList[46]? = some 0x00 from (LBX9_roundOfr_2 14).trans (by decide +kernel)) (show cX9_roundOf.data.toList[47]? = some 0x89 from (LBX9_roundOfr_2 15).trans (by decide +kernel)) (by decide)
theorem dX9_roundOf_48 : decode cX9_roundOf 48 = .ok (.ireturn, 1) := dk_172_ (show cX9_roundOf.data.toList[48]? = some 0xac from (LBX9_roundOfr_3 0).trans (by decide +kernel))
theorem dX9_roundOf_49 : decode cX9_roundOf 49 = .ok (.iload_n 2, 1) := dk_28_ (show cX9_roundOf.data.toList[49]? = some 0x1c from (LBX9_roundOfr_3 1).trans (by decide +kernel))
theorem dX9_roundOf_50 : decode cX9_roundOf 50 = .ok (.aload_n 0, 1) := dk_42_ (show cX9_roundOf.data.toList[50]? = some 0x2a from (LBX9_roundOfr_3 2).trans (by decide +kernel))
theorem dX9_roundOf_51 : decode cX9_roundOf 51 = .ok (.iload_n 1, 1) := dk_27_ (show cX9_roundOf.data.toList[51]? = some 0x1b from (LBX9_roundOfr_3 3).trans (by decide +kernel))
theorem dX9_roundOf_52 : decode cX9_roundOf 52 = .ok (.iconst 1, 1) := dk_4_ (show cX9_roundOf.data.toList[52]? = some 0x04 from (LBX9_roundOfr_3 4).trans (by decide +kernel))
theorem dX9_roundOf_53 : decode cX9_roundOf 53 = .ok (.invokevirtual 137, 3) := dk_182_ (show cX9_roundOf.data.toList[53]? = some 0xb6 from (LBX9_roundOfr_3 5).trans (by decide +kernel)) (show cX9_roundOf.data.toList[54]? = some 0x00 from (LBX9_roundOfr_3 6).trans (by decide +kernel)) (show cX9_roundOf.data.toList[55]? = some 0x89 from (LBX9_roundOfr_3 7).trans (by decide +kernel)) (by decide)
theorem dX9_roundOf_56 : decode cX9_roundOf 56 = .ok (.if_icmp .ge 14, 3) := dk_162_ (show cX9_roundOf.data.toList[56]? = some 0xa2 from (LBX9_roundOfr_3 8).trans (by decide +kernel)) (show cX9_roundOf.data.toList[57]? = some 0x00 from (LBX9_roundOfr_3 9).trans (by decide +kernel)) (show cX9_roundOf.data.toList[58]? = some 0x0e from (LBX9_roundOfr_3 10).trans (by decide +kernel)) (by decide)
theorem dX9_roundOf_59 : decode cX9_roundOf 59 = .ok (.aload_n 0, 1) := dk_42_ (show cX9_roundOf.data.toList[59]? = some 0x2a from (LBX9_roundOfr_3 11).trans (by decide +kernel))
theorem dX9_roundOf_60 : decode cX9_roundOf 60 = .ok (.iload_n 1, 1) := dk_27_ (show cX9_roundOf.data.toList[60]? = some 0x1b from (LBX9_roundOfr_3 12).trans (by decide +kernel))
theorem dX9_roundOf_61 : decode cX9_roundOf 61 = .ok (.iconst 2, 1) := dk_5_ (show cX9_roundOf.data.toList[61]? = some 0x05 from (LBX9_roundOfr_3 13).trans (by decide +kernel))
theorem dX9_roundOf_62 : decode cX9_roundOf 62 = .ok (.iload_n 2, 1) := dk_28_ (show cX9_roundOf.data.toList[62]? = some 0x1c from (LBX9_roundOfr_3 14).trans (by decide +kernel))
theorem dX9_roundOf_63 : decode cX9_roundOf 63 = .ok (.iadd, 1) := dk_96_ (show cX9_roundOf.data.toList[63]? = some 0x60 from (LBX9_roundOfr_3 15).trans (by decide +kernel))
theorem dX9_roundOf_64 : decode cX9_roundOf 64 = .ok (.invokevirtual 137, 3) := dk_182_ (show cX9_roundOf.data.toList[64]? = some 0xb6 from (LBX9_roundOfr_4 0).trans (by decide +kernel)) (show cX9_roundOf.data.toList[65]? = some 0x00 from (LBX9_roundOfr_4 1).trans (by decide +kernel)) (show cX9_roundOf.data.toList[66]? = some 0x89 from (LBX9_roundOfr_4 2).trans (by decide +kernel)) (by decide)
theorem dX9_roundOf_67 : decode cX9_roundOf 67 = .ok (.goto 9, 3) := dk_167_ (show cX9_roundOf.data.toList[67]? = some 0xa7 from (LBX9_roundOfr_4 3).trans (by decide +kernel)) (show cX9_roundOf.data.toList[68]? = some 0x00 from (LBX9_roundOfr_4 4).trans (by decide +kernel)) (show cX9_roundOf.data.toList[69]? = some 0x09 from (LBX9_roundOfr_4 5).trans (by decide +kernel)) (by decide)
theorem dX9_roundOf_70 : decode cX9_roundOf 70 = .ok (.aload_n 0, 1) := dk_42_ (show cX9_roundOf.data.toList[70]? = some 0x2a from (LBX9_roundOfr_4 6).trans (by decide +kernel))
theorem dX9_roundOf_71 : decode cX9_roundOf 71 = .ok (.ldc 96, 2) := dk_18_ (show cX9_roundOf.data.toList[71]? = some 0x12 from (LBX9_roundOfr_4 7).trans (by decide +kernel)) (show cX9_roundOf.data.toList[72]? = some 0x60 from (LBX9_roundOfr_4 8).trans (by decide +kernel)) (by decide)
theorem dX9_roundOf_73 : decode cX9_roundOf 73 = .ok (.invokevirtual 70, 3) := dk_182_ (show cX9_roundOf.data.toList[73]? = some 0xb6 from (LBX9_roundOfr_4 9).trans (by decide +kernel)) (show cX9_roundOf.data.toList[74]? = some 0x00 from (LBX9_roundOfr_4 10).trans (by decide +kernel)) (show cX9_roundOf.data.toList[75]? = some 0x46 from (LBX9_roundOfr_4 11).trans (by decide +kernel)) (by decide)
theorem dX9_roundOf_76 : decode cX9_roundOf 76 = .ok (.ireturn, 1) := dk_172_ (show cX9_roundOf.data.toList[76]? = some 0xac from (LBX9_roundOfr_4 12).trans (by decide +kernel))
def LRX9_as_6 : List UInt8 := []
def LBX9_as_5 : List UInt8 := [0x00, 0x89, 0xa7, 0x00, 0x09, 0x2a, 0x12, 0xa7, 0xb6, 0x00, 0x46, 0xac]
def LRX9_as_5 : List UInt8 := LBX9_as_5 ++ LRX9_as_6
def LBX9_as_4 : List UInt8 := [0x04, 0xa7, 0x00, 0x04, 0x03, 0x36, 0x04, 0x15, 0x04, 0x99, 0x00, 0x0c, 0x2a, 0x1b, 0x04, 0xb6]
def LRX9_as_4 : List UInt8 := LBX9_as_4 ++ LRX9_as_5
def LBX9_as_3 : List UInt8 := [0x1d, 0x07, 0x9f, 0x00, 0x0e, 0x1c, 0x05, 0xa0, 0x00, 0x0d, 0x1d, 0x10, 0x06, 0xa0, 0x00, 0x07]
def LRX9_as_3 : List UInt8 := LBX9_as_3 ++ LRX9_as_4
def LBX9_as_2 : List UInt8 := [0x89, 0x3e, 0x1c, 0x99, 0x00, 0x1d, 0x1d, 0x1c, 0x9f, 0x00, 0x18, 0x1c, 0x04, 0xa0, 0x00, 0x08]
def LRX9_as_2 : List UInt8 := LBX9_as_2 ++ LRX9_as_3
def LBX9_as_1 : List UInt8 := [0x39, 0x9a, 0x00, 0x0a, 0x2a, 0x12, 0x38, 0xb6, 0x00, 0x46, 0xac, 0x2a, 0x1b, 0x03, 0xb6, 0x00]
def LRX9_as_1 : List UInt8 := LBX9_as_1 ++ LRX9_as_2
def LBX9_as_0 : List UInt8 := [0x2a, 0x1b, 0xb6, 0x00, 0x7b, 0x99, 0x00, 0x0f, 0x1c, 0x85, 0x09, 0x14, 0x00, 0x79, 0xb8, 0x00]
def LRX9_as_0 : List UInt8 := LBX9_as_0 ++ LRX9_as_1
set_option maxRecDepth 100000 in
theorem LBX9_as_eq : cX9_as.data.toList = LRX9_as_0 := by decide +kernel
theorem LBX9_asr_0 (k : Nat) : cX9_as.data.toList[0 + k]? = LRX9_as_0[k]? := by rw [LBX9_as_eq, Nat.zero_add]
theorem LBX9_asr_1 (k : Nat) : cX9_as.data.toList[16 + k]? = LRX9_as_1[k]? := by
  have h := LBX9_asr_0 (16 + k)
  rw [show 0 + (16 + k) = 16 + k by omega] at h
  rw [h]
  exact (List.getElem?_append_right (l₁ := LBX9_as_0) (l₂ := LRX9_as_1) (show 16 ≤ 16 + k by omega)).trans (congrArg (fun i => LRX9_as_1[i]?) (show 16 + k - 16 = k by omega))
theorem LBX9_asr_2 (k : Nat) : cX9_as.data.toList[32 + k]? = LRX9_as_2[k]? := by
  have h := LBX9_asr_1 (16 + k)
  rw [show 16 + (16 + k) = 32 + k by omega] at h
  rw [h]
  exact (List.getElem?_append_right (l₁ := LBX9_as_1) (l₂ := LRX9_as_2) (show 16 ≤ 16 + k by omega)).trans (congrArg (fun i => LRX9_as_2[i]?) (show 16 + k - 16 = k by omega))
theorem LBX9_asr_3 (k : Nat) : cX9_as.data.toList[48 + k]? = LRX9_as_3[k]? := by
  have h := LBX9_asr_2 (16 + k)
  rw [show 32 + (16 + k) = 48 + k by omega] at h
  rw [h]
  exact (List.getElem?_append_right (l₁ := LBX9_as_2) (l₂ := LRX9_as_3) (show 16 ≤ 16 + k by omega)).trans (congrArg (fun i => LRX9_as_3[i]?) (show 16 + k - 16 = k by omega))
theorem LBX9_asr_4 (k : Nat) : cX9_as.data.toList[64 + k]? = LRX9_as_4[k]? := by
  have h := LBX9_asr_3 (16 + k)
  rw [show 48 + (16 + k) = 64 + k by omega] at h
  rw [h]
  exact (List.getElem?_append_right (l₁ := LBX9_as_3) (l₂ := LRX9_as_4) (show 16 ≤ 16 + k by omega)).trans (congrArg (fun i => LRX9_as_4[i]?) (show 16 + k - 16 = k by omega))
theorem LBX9_asr_5 (k : Nat) : cX9_as.data.toList[80 + k]? = LRX9_as_5[k]? := by
  have h := LBX9_asr_4 (16 + k)
  rw [show 64 + (16 + k) = 80 + k by omega] at h
  rw [h]
  exact (List.getElem?_append_right (l₁ := LBX9_as_4) (l₂ := LRX9_as_5) (show 16 ≤ 16 + k by omega)).trans (congrArg (fun i => LRX9_as_5[i]?) (show 16 + k - 16 = k by omega))
theorem dX9_as_0 : decode cX9_as 0 = .ok (.aload_n 0, 1) := dk_42_ (show cX9_as.data.toList[0]? = some 0x2a from (LBX9_asr_0 0).trans (by decide +kernel))
theorem dX9_as_1 : decode cX9_as 1 = .ok (.iload_n 1, 1) := dk_27_ (show cX9_as.data.toList[1]? = some 0x1b from (LBX9_asr_0 1).trans (by decide +kernel))
theorem dX9_as_2 : decode cX9_as 2 = .ok (.invokevirtual 123, 3) := dk_182_ (show cX9_as.data.toList[2]? = some 0xb6 from (LBX9_asr_0 2).trans (by decide +kernel)) (show cX9_as.data.toList[3]? = some 0x00 from (LBX9_asr_0 3).trans (by decide +kernel)) (show cX9_as.data.toList[4]? = some 0x7b from (LBX9_asr_0 4).trans (by decide +kernel)) (by decide)
theorem dX9_as_5 : decode cX9_as 5 = .ok (.ifCond .eq 15, 3) := dk_153_ (show cX9_as.data.toList[5]? = some 0x99 from (LBX9_asr_0 5).trans (by decide +kernel)) (show cX9_as.data.toList[6]? = some 0x00 from (LBX9_asr_0 6).trans (by decide +kernel)) (show cX9_as.data.toList[7]? = some 0x0f from (LBX9_asr_0 7).trans (by decide +kernel)) (by decide)
theorem dX9_as_8 : decode cX9_as 8 = .ok (.iload_n 2, 1) := dk_28_ (show cX9_as.data.toList[8]? = some 0x1c from (LBX9_asr_0 8).trans (by decide +kernel))
theorem dX9_as_9 : decode cX9_as 9 = .ok (.i2l, 1) := dk_133_ (show cX9_as.data.toList[9]? = some 0x85 from (LBX9_asr_0 9).trans (by decide +kernel))
theorem dX9_as_10 : decode cX9_as 10 = .ok (.lconst 0, 1) := dk_9_ (show cX9_as.data.toList[10]? = some 0x09 from (LBX9_asr_0 10).trans (by decide +kernel))
theorem dX9_as_11 : decode cX9_as 11 = .ok (.ldc2_w 121, 3) := dk_20_ (show cX9_as.data.toList[11]? = some 0x14 from (LBX9_asr_0 11).trans (by decide +kernel)) (show cX9_as.data.toList[12]? = some 0x00 from (LBX9_asr_0 12).trans (by decide +kernel)) (show cX9_as.data.toList[13]? = some 0x79 from (LBX9_asr_0 13).trans (by decide +kernel)) (by decide)
theorem dX9_as_14 : decode cX9_as 14 = .ok (.invokestatic 57, 3) := dk_184_ (show cX9_as.data.toList[14]? = some 0xb8 from (LBX9_asr_0 14).trans (by decide +kernel)) (show cX9_as.data.toList[15]? = some 0x00 from (LBX9_asr_0 15).trans (by decide +kernel)) (show cX9_as.data.toList[16]? = some 0x39 from (LBX9_asr_1 0).trans (by decide +kernel)) (by decide)
theorem dX9_as_17 : decode cX9_as 17 = .ok (.ifCond .ne 10, 3) := dk_154_ (show cX9_as.data.toList[17]? = some 0x9a from (LBX9_asr_1 1).trans (by decide +kernel)) (show cX9_as.data.toList[18]? = some 0x00 from (LBX9_asr_1 2).trans (by decide +kernel)) (show cX9_as.data.toList[19]? = some 0x0a from (LBX9_asr_1 3).trans (by decide +kernel)) (by decide)
theorem dX9_as_20 : decode cX9_as 20 = .ok (.aload_n 0, 1) := dk_42_ (show cX9_as.data.toList[20]? = some 0x2a from (LBX9_asr_1 4).trans (by decide +kernel))
theorem dX9_as_21 : decode cX9_as 21 = .ok (.ldc 56, 2) := dk_18_ (show cX9_as.data.toList[21]? = some 0x12 from (LBX9_asr_1 5).trans (by decide +kernel)) (show cX9_as.data.toList[22]? = some 0x38 from (LBX9_asr_1 6).trans (by decide +kernel)) (by decide)
theorem dX9_as_23 : decode cX9_as 23 = .ok (.invokevirtual 70, 3) := dk_182_ (show cX9_as.data.toList[23]? = some 0xb6 from (LBX9_asr_1 7).trans (by decide +kernel)) (show cX9_as.data.toList[24]? = some 0x00 from (LBX9_asr_1 8).trans (by decide +kernel)) (show cX9_as.data.toList[25]? = some 0x46 from (LBX9_asr_1 9).trans (by decide +kernel)) (by decide)
theorem dX9_as_26 : decode cX9_as 26 = .ok (.ireturn, 1) := dk_172_ (show cX9_as.data.toList[26]? = some 0xac from (LBX9_asr_1 10).trans (by decide +kernel))
theorem dX9_as_27 : decode cX9_as 27 = .ok (.aload_n 0, 1) := dk_42_ (show cX9_as.data.toList[27]? = some 0x2a from (LBX9_asr_1 11).trans (by decide +kernel))
theorem dX9_as_28 : decode cX9_as 28 = .ok (.iload_n 1, 1) := dk_27_ (show cX9_as.data.toList[28]? = some 0x1b from (LBX9_asr_1 12).trans (by decide +kernel))
theorem dX9_as_29 : decode cX9_as 29 = .ok (.iconst 0, 1) := dk_3_ (show cX9_as.data.toList[29]? = some 0x03 from (LBX9_asr_1 13).trans (by decide +kernel))
theorem dX9_as_30 : decode cX9_as 30 = .ok (.invokevirtual 137, 3) := dk_182_ (show cX9_as.data.toList[30]? = some 0xb6 from (LBX9_asr_1 14).trans (by decide +kernel)) (show cX9_as.data.toList[31]? = some 0x00 from (LBX9_asr_1 15).trans (by decide +kernel)) (show cX9_as.data.toList[32]? = some 0x89 from (LBX9_asr_2 0).trans (by decide +kernel)) (by decide)
theorem dX9_as_33 : decode cX9_as 33 = .ok (.istore_n 3, 1) := dk_62_ (show cX9_as.data.toList[33]? = some 0x3e from (LBX9_asr_2 1).trans (by decide +kernel))
theorem dX9_as_34 : decode cX9_as 34 = .ok (.iload_n 2, 1) := dk_28_ (show cX9_as.data.toList[34]? = some 0x1c from (LBX9_asr_2 2).trans (by decide +kernel))
theorem dX9_as_35 : decode cX9_as 35 = .ok (.ifCond .eq 29, 3) := dk_153_ (show cX9_as.data.toList[35]? = some 0x99 from (LBX9_asr_2 3).trans (by decide +kernel)) (show cX9_as.data.toList[36]? = some 0x00 from (LBX9_asr_2 4).trans (by decide +kernel)) (show cX9_as.data.toList[37]? = some 0x1d from (LBX9_asr_2 5).trans (by decide +kernel)) (by decide)
theorem dX9_as_38 : decode cX9_as 38 = .ok (.iload_n 3, 1) := dk_29_ (show cX9_as.data.toList[38]? = some 0x1d from (LBX9_asr_2 6).trans (by decide +kernel))
theorem dX9_as_39 : decode cX9_as 39 = .ok (.iload_n 2, 1) := dk_28_ (show cX9_as.data.toList[39]? = some 0x1c from (LBX9_asr_2 7).trans (by decide +kernel))
theorem dX9_as_40 : decode cX9_as 40 = .ok (.if_icmp .eq 24, 3) := dk_159_ (show cX9_as.data.toList[40]? = some 0x9f from (LBX9_asr_2 8).trans (by decide +kernel)) (show cX9_as.data.toList[41]? = some 0x00 from (LBX9_asr_2 9).trans (by decide +kernel)) (show cX9_as.data.toList[42]? = some 0x18 from (LBX9_asr_2 10).trans (by decide +kernel)) (by decide)
theorem dX9_as_43 : decode cX9_as 43 = .ok (.iload_n 2, 1) := dk_28_ (show cX9_as.data.toList[43]? = some 0x1c from (LBX9_asr_2 11).trans (by decide +kernel))
theorem dX9_as_44 : decode cX9_as 44 = .ok (.iconst 1, 1) := dk_4_ (show cX9_as.data.toList[44]? = some 0x04 from (LBX9_asr_2 12).trans (by decide +kernel))
theorem dX9_as_45 : decode cX9_as 45 = .ok (.if_icmp .ne 8, 3) := dk_160_ (show cX9_as.data.toList[45]? = some 0xa0 from (LBX9_asr_2 13).trans (by decide +kernel)) (show cX9_as.data.toList[46]? = some 0x00 from (LBX9_asr_2 14).trans (by decide +kernel)) (show cX9_as.data.toList[47]? = some 0x08 from (LBX9_asr_2 15).trans (by decide +kernel)) (by decide)
theorem dX9_as_48 : decode cX9_as 48 = .ok (.iload_n 3, 1) := dk_29_ (show cX9_as.data.toList[48]? = some 0x1d from (LBX9_asr_3 0).trans (by decide +kernel))
theorem dX9_as_49 : decode cX9_as 49 = .ok (.iconst 4, 1) := dk_7_ (show cX9_as.data.toList[49]? = some 0x07 from (LBX9_asr_3 1).trans (by decide +kernel))
theorem dX9_as_50 : decode cX9_as 50 = .ok (.if_icmp .eq 14, 3) := dk_159_ (show cX9_as.data.toList[50]? = some 0x9f from (LBX9_asr_3 2).trans (by decide +kernel)) (show cX9_as.data.toList[51]? = some 0x00 from (LBX9_asr_3 3).trans (by decide +kernel)) (show cX9_as.data.toList[52]? = some 0x0e from (LBX9_asr_3 4).trans (by decide +kernel)) (by decide)
theorem dX9_as_53 : decode cX9_as 53 = .ok (.iload_n 2, 1) := dk_28_ (show cX9_as.data.toList[53]? = some 0x1c from (LBX9_asr_3 5).trans (by decide +kernel))
theorem dX9_as_54 : decode cX9_as 54 = .ok (.iconst 2, 1) := dk_5_ (show cX9_as.data.toList[54]? = some 0x05 from (LBX9_asr_3 6).trans (by decide +kernel))
theorem dX9_as_55 : decode cX9_as 55 = .ok (.if_icmp .ne 13, 3) := dk_160_ (show cX9_as.data.toList[55]? = some 0xa0 from (LBX9_asr_3 7).trans (by decide +kernel)) (show cX9_as.data.toList[56]? = some 0x00 from (LBX9_asr_3 8).trans (by decide +kernel)) (show cX9_as.data.toList[57]? = some 0x0d from (LBX9_asr_3 9).trans (by decide +kernel)) (by decide)
theorem dX9_as_58 : decode cX9_as 58 = .ok (.iload_n 3, 1) := dk_29_ (show cX9_as.data.toList[58]? = some 0x1d from (LBX9_asr_3 10).trans (by decide +kernel))
theorem dX9_as_59 : decode cX9_as 59 = .ok (.bipush 6, 2) := dk_16_ (show cX9_as.data.toList[59]? = some 0x10 from (LBX9_asr_3 11).trans (by decide +kernel)) (show cX9_as.data.toList[60]? = some 0x06 from (LBX9_asr_3 12).trans (by decide +kernel)) (by decide)
theorem dX9_as_61 : decode cX9_as 61 = .ok (.if_icmp .ne 7, 3) := dk_160_ (show cX9_as.data.toList[61]? = some 0xa0 from (LBX9_asr_3 13).trans (by decide +kernel)) (show cX9_as.data.toList[62]? = some 0x00 from (LBX9_asr_3 14).trans (by decide +kernel)) (show cX9_as.data.toList[63]? = some 0x07 from (LBX9_asr_3 15).trans (by decide +kernel)) (by decide)
theorem dX9_as_64 : decode cX9_as 64 = .ok (.iconst 1, 1) := dk_4_ (show cX9_as.data.toList[64]? = some 0x04 from (LBX9_asr_4 0).trans (by decide +kernel))
theorem dX9_as_65 : decode cX9_as 65 = .ok (.goto 4, 3) := dk_167_ (show cX9_as.data.toList[65]? = some 0xa7 from (LBX9_asr_4 1).trans (by decide +kernel)) (show cX9_as.data.toList[66]? = some 0x00 from (LBX9_asr_4 2).trans (by decide +kernel)) (show cX9_as.data.toList[67]? = some 0x04 from (LBX9_asr_4 3).trans (by decide +kernel)) (by decide)
theorem dX9_as_68 : decode cX9_as 68 = .ok (.iconst 0, 1) := dk_3_ (show cX9_as.data.toList[68]? = some 0x03 from (LBX9_asr_4 4).trans (by decide +kernel))
theorem dX9_as_69 : decode cX9_as 69 = .ok (.istore 4, 2) := dk_54_ (show cX9_as.data.toList[69]? = some 0x36 from (LBX9_asr_4 5).trans (by decide +kernel)) (show cX9_as.data.toList[70]? = some 0x04 from (LBX9_asr_4 6).trans (by decide +kernel)) (by decide)
theorem dX9_as_71 : decode cX9_as 71 = .ok (.iload 4, 2) := dk_21_ (show cX9_as.data.toList[71]? = some 0x15 from (LBX9_asr_4 7).trans (by decide +kernel)) (show cX9_as.data.toList[72]? = some 0x04 from (LBX9_asr_4 8).trans (by decide +kernel)) (by decide)
theorem dX9_as_73 : decode cX9_as 73 = .ok (.ifCond .eq 12, 3) := dk_153_ (show cX9_as.data.toList[73]? = some 0x99 from (LBX9_asr_4 9).trans (by decide +kernel)) (show cX9_as.data.toList[74]? = some 0x00 from (LBX9_asr_4 10).trans (by decide +kernel)) (show cX9_as.data.toList[75]? = some 0x0c from (LBX9_asr_4 11).trans (by decide +kernel)) (by decide)
theorem dX9_as_76 : decode cX9_as 76 = .ok (.aload_n 0, 1) := dk_42_ (show cX9_as.data.toList[76]? = some 0x2a from (LBX9_asr_4 12).trans (by decide +kernel))
theorem dX9_as_77 : decode cX9_as 77 = .ok (.iload_n 1, 1) := dk_27_ (show cX9_as.data.toList[77]? = some 0x1b from (LBX9_asr_4 13).trans (by decide +kernel))
theorem dX9_as_78 : decode cX9_as 78 = .ok (.iconst 1, 1) := dk_4_ (show cX9_as.data.toList[78]? = some 0x04 from (LBX9_asr_4 14).trans (by decide +kernel))
theorem dX9_as_79 : decode cX9_as 79 = .ok (.invokevirtual 137, 3) := dk_182_ (show cX9_as.data.toList[79]? = some 0xb6 from (LBX9_asr_4 15).trans (by decide +kernel)) (show cX9_as.data.toList[80]? = some 0x00 from (LBX9_asr_5 0).trans (by decide +kernel)) (show cX9_as.data.toList[81]? = some 0x89 from (LBX9_asr_5 1).trans (by decide +kernel)) (by decide)
theorem dX9_as_82 : decode cX9_as 82 = .ok (.goto 9, 3) := dk_167_ (show cX9_as.data.toList[82]? = some 0xa7 from (LBX9_asr_5 2).trans (by decide +kernel)) (show cX9_as.data.toList[83]? = some 0x00 from (LBX9_asr_5 3).trans (by decide +kernel)) (show cX9_as.data.toList[84]? = some 0x09 from (LBX9_asr_5 4).trans (by decide +kernel)) (by decide)
theorem dX9_as_85 : decode cX9_as 85 = .ok (.aload_n 0, 1) := dk_42_ (show cX9_as.data.toList[85]? = some 0x2a from (LBX9_asr_5 5).trans (by decide +kernel))
theorem dX9_as_86 : decode cX9_as 86 = .ok (.ldc 167, 2) := dk_18_ (show cX9_as.data.toList[86]? = some 0x12 from (LBX9_asr_5 6).trans (by decide +kernel)) (show cX9_as.data.toList[87]? = some 0xa7 from (LBX9_asr_5 7).trans (by decide +kernel)) (by decide)
theorem dX9_as_88 : decode cX9_as 88 = .ok (.invokevirtual 70, 3) := dk_182_ (show cX9_as.data.toList[88]? = some 0xb6 from (LBX9_asr_5 8).trans (by decide +kernel)) (show cX9_as.data.toList[89]? = some 0x00 from (LBX9_asr_5 9).trans (by decide +kernel)) (show cX9_as.data.toList[90]? = some 0x46 from (LBX9_asr_5 10).trans (by decide +kernel)) (by decide)
theorem dX9_as_91 : decode cX9_as 91 = .ok (.ireturn, 1) := dk_172_ (show cX9_as.data.toList[91]? = some 0xac from (LBX9_asr_5 11).trans (by decide +kernel))
theorem uw719 : Cond.constantLong RX9 121 6 ∈ wsU := ut5 (List.mem_of_getElem? (i := 147) rfl) rfl
theorem uw720 : Cond.methodLink RX9 123 yX9_isRound ∈ wsU := ut5 (List.mem_of_getElem? (i := 152) rfl) rfl
theorem uw721 : Cond.instanceMethod yX9_isRound ∈ wsU := ut5 (List.mem_of_getElem? (i := 154) rfl) rfl
theorem uw722 : Cond.selects RX9 yX9_isRound yX9_isRound ∈ wsU := us_sel (q := (yX9_isRound, 27)) (List.mem_of_getElem? (i := 39) (by decide +kernel)) rfl
theorem uw723 : Cond.code yX9_isRound cX9_isRound 2 (some .boolean) ∈ wsU := ut5 (List.mem_of_getElem? (i := 155) rfl) rfl
theorem uw724 : Cond.fieldLink RX9 126 "LongerBackModel" "sumOf" "I" ∈ wsU := ut4 (List.mem_of_getElem? (i := 216) rfl) rfl
theorem uw725 : Cond.fieldLink RX9 134 "LongerBackModel" "least" "I" ∈ wsU := ut4 (List.mem_of_getElem? (i := 217) rfl) rfl
theorem uw726 : Cond.fieldLink RX9 28 "LongerBackModel" "row" "[I" ∈ wsU := ut4 (List.mem_of_getElem? (i := 218) rfl) rfl
theorem uw727 : Cond.methodLink RX9 130 yX9_adds ∈ wsU := ut5 (List.mem_of_getElem? (i := 176) rfl) rfl
theorem uw728 : Cond.instanceMethod yX9_adds ∈ wsU := ut5 (List.mem_of_getElem? (i := 178) rfl) rfl
theorem uw729 : Cond.selects RX9 yX9_adds yX9_adds ∈ wsU := us_sel (q := (yX9_adds, 27)) (List.mem_of_getElem? (i := 44) (by decide +kernel)) rfl
theorem uw730 : Cond.code yX9_adds cX9_adds 2 none ∈ wsU := ut5 (List.mem_of_getElem? (i := 179) rfl) rfl
theorem uw731 : Cond.methodLink RX9 137 yX9_of ∈ wsU := ut5 (List.mem_of_getElem? (i := 164) rfl) rfl
theorem uw732 : Cond.instanceMethod yX9_of ∈ wsU := ut5 (List.mem_of_getElem? (i := 166) rfl) rfl
theorem uw733 : Cond.selects RX9 yX9_of yX9_of ∈ wsU := us_sel (q := (yX9_of, 27)) (List.mem_of_getElem? (i := 41) (by decide +kernel)) rfl
theorem uw734 : Cond.code yX9_of cX9_of 3 (some .int) ∈ wsU := ut5 (List.mem_of_getElem? (i := 167) rfl) rfl
theorem uw735 : Cond.methodLink RX9 140 yX9_offers ∈ wsU := ut5 (List.mem_of_getElem? (i := 172) rfl) rfl
theorem uw736 : Cond.instanceMethod yX9_offers ∈ wsU := ut5 (List.mem_of_getElem? (i := 174) rfl) rfl
theorem uw737 : Cond.selects RX9 yX9_offers yX9_offers ∈ wsU := us_sel (q := (yX9_offers, 27)) (List.mem_of_getElem? (i := 43) (by decide +kernel)) rfl
theorem uw738 : Cond.code yX9_offers cX9_offers 4 none ∈ wsU := ut5 (List.mem_of_getElem? (i := 175) rfl) rfl
theorem uw739 : Cond.methodLink RX9 157 yX9_told ∈ wsU := ut5 (List.mem_of_getElem? (i := 188) rfl) rfl
theorem uw740 : Cond.instanceMethod yX9_told ∈ wsU := ut5 (List.mem_of_getElem? (i := 190) rfl) rfl
theorem uw741 : Cond.selects RX9 yX9_told yX9_told ∈ wsU := us_sel (q := (yX9_told, 27)) (List.mem_of_getElem? (i := 47) (by decide +kernel)) rfl
theorem uw742 : Cond.code yX9_told cX9_told 3 (some .int) ∈ wsU := ut5 (List.mem_of_getElem? (i := 191) rfl) rfl
theorem uw743 : Cond.methodLink RX9 154 yX9_closes ∈ wsU := ut5 (List.mem_of_getElem? (i := 192) rfl) rfl
theorem uw744 : Cond.instanceMethod yX9_closes ∈ wsU := ut5 (List.mem_of_getElem? (i := 194) rfl) rfl
theorem uw745 : Cond.selects RX9 yX9_closes yX9_closes ∈ wsU := us_sel (q := (yX9_closes, 27)) (List.mem_of_getElem? (i := 48) (by decide +kernel)) rfl
theorem uw746 : Cond.code yX9_closes cX9_closes 4 none ∈ wsU := ut5 (List.mem_of_getElem? (i := 195) rfl) rfl
theorem uw747 : Cond.methodLink RX9 151 yX9_pairs ∈ wsU := ut5 (List.mem_of_getElem? (i := 184) rfl) rfl
theorem uw748 : Cond.instanceMethod yX9_pairs ∈ wsU := ut5 (List.mem_of_getElem? (i := 186) rfl) rfl
theorem uw749 : Cond.selects RX9 yX9_pairs yX9_pairs ∈ wsU := us_sel (q := (yX9_pairs, 27)) (List.mem_of_getElem? (i := 46) (by decide +kernel)) rfl
theorem uw750 : Cond.code yX9_pairs cX9_pairs 4 none ∈ wsU := ut5 (List.mem_of_getElem? (i := 187) rfl) rfl
theorem uw751 : Cond.methodLink RX9 144 yX9_orders ∈ wsU := ut5 (List.mem_of_getElem? (i := 168) rfl) rfl
theorem uw752 : Cond.instanceMethod yX9_orders ∈ wsU := ut5 (List.mem_of_getElem? (i := 170) rfl) rfl
theorem uw753 : Cond.selects RX9 yX9_orders yX9_orders ∈ wsU := us_sel (q := (yX9_orders, 27)) (List.mem_of_getElem? (i := 42) (by decide +kernel)) rfl
theorem uw754 : Cond.code yX9_orders cX9_orders 10 none ∈ wsU := ut5 (List.mem_of_getElem? (i := 171) rfl) rfl
theorem uw755 : Cond.methodLink RX9 147 yX9_meets ∈ wsU := ut5 (List.mem_of_getElem? (i := 180) rfl) rfl
theorem uw756 : Cond.instanceMethod yX9_meets ∈ wsU := ut5 (List.mem_of_getElem? (i := 182) rfl) rfl
theorem uw757 : Cond.selects RX9 yX9_meets yX9_meets ∈ wsU := us_sel (q := (yX9_meets, 27)) (List.mem_of_getElem? (i := 45) (by decide +kernel)) rfl
theorem uw758 : Cond.code yX9_meets cX9_meets 7 none ∈ wsU := ut5 (List.mem_of_getElem? (i := 183) rfl) rfl
theorem uw759 : Cond.methodLink RX9 160 yX9_comesTo ∈ wsU := ut5 (List.mem_of_getElem? (i := 160) rfl) rfl
theorem uw760 : Cond.instanceMethod yX9_comesTo ∈ wsU := ut5 (List.mem_of_getElem? (i := 162) rfl) rfl
theorem uw761 : Cond.selects RX9 yX9_comesTo yX9_comesTo ∈ wsU := us_sel (q := (yX9_comesTo, 27)) (List.mem_of_getElem? (i := 40) (by decide +kernel)) rfl
theorem uw762 : Cond.code yX9_comesTo cX9_comesTo 6 (some .int) ∈ wsU := ut5 (List.mem_of_getElem? (i := 163) rfl) rfl
theorem uw763 : Cond.constantLong RX9 163 (-2) ∈ wsU := ut5 (List.mem_of_getElem? (i := 200) rfl) rfl
theorem uw764 : Cond.constantLong RX9 165 5 ∈ wsU := ut5 (List.mem_of_getElem? (i := 201) rfl) rfl
theorem uw765 : Cond.constant RX9 167 (-1000000003) ∈ wsU := ut5 (List.mem_of_getElem? (i := 206) rfl) rfl
theorem kv_X9_123 : xWV RX9 123 RX9 yX9_isRound cX9_isRound 2 (some .boolean) 1 := ⟨⟨uw720, uw721, uw722, uw657, uw723⟩, by decide +kernel⟩
theorem kf_X9_126 : xWF RX9 126 9 8 RX9 TX9 27 := ⟨inUX9, rfl, by decide, uw724⟩
theorem kf_X9_134 : xWF RX9 134 9 9 RX9 TX9 27 := ⟨inUX9, rfl, by decide, uw725⟩
theorem kf_X9_28 : xWF RX9 28 9 10 RX9 TX9 27 := ⟨inUX9, rfl, by decide, uw726⟩
theorem kv_X9_130 : xWV RX9 130 RX9 yX9_adds cX9_adds 2 none 1 := ⟨⟨uw727, uw728, uw729, uw657, uw730⟩, by decide +kernel⟩
theorem kv_X9_137 : xWV RX9 137 RX9 yX9_of cX9_of 3 (some .int) 2 := ⟨⟨uw731, uw732, uw733, uw657, uw734⟩, by decide +kernel⟩
theorem kv_X9_140 : xWV RX9 140 RX9 yX9_offers cX9_offers 4 none 2 := ⟨⟨uw735, uw736, uw737, uw657, uw738⟩, by decide +kernel⟩
theorem kv_X9_157 : xWV RX9 157 RX9 yX9_told cX9_told 3 (some .int) 2 := ⟨⟨uw739, uw740, uw741, uw657, uw742⟩, by decide +kernel⟩
theorem kv_X9_154 : xWV RX9 154 RX9 yX9_closes cX9_closes 4 none 3 := ⟨⟨uw743, uw744, uw745, uw657, uw746⟩, by decide +kernel⟩
theorem kv_X9_151 : xWV RX9 151 RX9 yX9_pairs cX9_pairs 4 none 3 := ⟨⟨uw747, uw748, uw749, uw657, uw750⟩, by decide +kernel⟩
theorem kv_X9_144 : xWV RX9 144 RX9 yX9_orders cX9_orders 10 none 2 := ⟨⟨uw751, uw752, uw753, uw657, uw754⟩, by decide +kernel⟩
theorem kv_X9_147 : xWV RX9 147 RX9 yX9_meets cX9_meets 7 none 2 := ⟨⟨uw755, uw756, uw757, uw657, uw758⟩, by decide +kernel⟩
theorem kv_X9_160 : xWV RX9 160 RX9 yX9_comesTo cX9_comesTo 6 (some .int) 1 := ⟨⟨uw759, uw760, uw761, uw657, uw762⟩, by decide +kernel⟩
theorem x_pl2 {a x : Int32} {P : Nat} (hP : P ≤ 10) (ex : x = nI P - 1) (h1 : ¬ a < 0) (h2 : ¬ x < a) : ∃ k : Nat, k < P ∧ a = nI k := by
  obtain ⟨k, -, e, h⟩ := x_pl hP ex h1 h2
  exact ⟨k, h, e⟩
theorem x_lt1 {i z : Nat} {x : Int32} (hi : i ≤ 7) (hz : z < 7) (ex : x = nI z - 1) (h : ¬ x ≤ nI i) : i + 1 < z := by
  subst ex
  by_cases e : z = 0
  · subst e
    exfalso
    apply h
    rw [Int32.le_iff_toInt_le, nI_toInt (by omega)]
    have : (nI 0 - 1).toInt = -1 := by decide
    omega
  · have e2 : nI z - 1 = nI (z - 1) := pk_sub (a := z) (b := 1) (by omega)
    rw [e2] at h
    have := xn_nle (a := z - 1) (b := i) (by omega) (by omega) h
    omega
theorem x_s26 (a : Int32) : (a.toInt < 2 ∨ 6 < a.toInt) ∨ a = 2 ∨ a = 3 ∨ a = 4 ∨ a = 5 ∨ a = 6 := by
  have e2 : (2 : Int32).toInt = 2 := by decide
  have e3 : (3 : Int32).toInt = 3 := by decide
  have e4 : (4 : Int32).toInt = 4 := by decide
  have e5 : (5 : Int32).toInt = 5 := by decide
  have e6 : (6 : Int32).toInt = 6 := by decide
  simp only [← Int32.toInt_inj]
  omega
theorem x_cpput {f f2 t : Nat → Int32} {i : Nat} (h : ∀ j, j < i → f j = t j) (e : f2 = upd f i (t i)) : ∀ j, j < i + 1 → f2 j = t j := by
  intro j hj
  rw [e]
  by_cases q : j = i
  · subst q; exact pk_us
  · rw [pk_un q]; exact h j (by omega)
theorem x_all {f t : Nat → Int32} {i : Nat} (h : ∀ j, j < i → f j = t j) (hi : 449 ≤ i) : ∀ j, j < 449 → f j = t j := fun j hj => h j (by omega)
set_option maxHeartbeats 4000000 in
set_option maxRecDepth 100000 in
theorem c_X9_loops (l : Launch) (D : va_G) (cI cJ cZ cS : ClassId) (ta : Nat) (sa sv : Nat → Nat) (sz : Nat) (h0 : Nat) (ys : Nat) (yk : Nat) (yo : Nat) (yt : Nat) (mk0 : Int32) (yfa : Nat) (yfe : Nat) (mL : Int32) (mS : Int32) (mM : Int32) (yro : Nat) (yhe : Nat) (ygr : Nat) (mF : Int32) (mC : Int32) (mY : Int32) (yta : Nat) (mz : Nat) (mf : Nat) (mt : Nat) (mv : Int32) (mw : Int32) (ywa : Nat) (ybi : Nat) (ysi : Nat) (ynu : Nat) (ymo : Nat) (ms : Nat → Int32) (fa : Nat → Int32) (fe : Nat → Int32) (P : Nat) (Rn : Nat) (Wn : Nat) (fae : Nat → Int32) (fal : Nat → Int32) (fau : Nat → Int32) (fao : Nat → Int32) (farn : Nat → Int32) (farp : Nat → Int32) (fak : Nat → Int32) (fawn : Nat → Int32) (fawp : Nat → Int32) (fat : Nat → Int32) (fas : Nat → Int32) (hs0 : ms 0 = nI P) (hs1 : ms 1 = nI Rn) (hs2 : ms 2 = nI Wn) (hsS : SI ms) (hsM : MI ms) (hsp : P ≤ 10) (hsr : Rn ≤ 8) (hsw : Wn ≤ 8) (hsR : RI Rn ms) (hsG : FR P ms fae fal fau fao farn farp fak fawn fawp fat fas) : Met l yX9_loops (Cond.code yX9_loops cX9_loops 5 (some .int) :: wsU) ({ frames := 2, cells := 0, slots := 0, locals := 52 }) (va_Pc [.ref h0] (XW D (xT cI cJ cZ cS) ta sa sv [(h0, .inr (9, [.ref ys, .ref yk, .ref yo, .ref yt, .int mk0, .ref yfa, .ref yfe, .int mL, .int mS, .int mM, .ref yro, .ref yhe, .ref ygr, .int mF, .int mC, .int mY, .ref yta, .int (nI (mz)), .int (nI (mf)), .int (nI (mt)), .int mv, .int mw, .ref ywa, .ref ybi, .ref ysi, .ref ynu, .ref ymo])), (ys, .inl (cI, 449, .inl ms)), (yfa, .inl (cI, 100, .inl fa)), (yfe, .inl (cI, 100, .inl fe))] sz)) (XQi (fun (r : Int32) (u : Int32 × (Nat → Int32) × (Nat → Int32)) => match u with | (mL2, fa2, fe2) => (True)) D (fun (u : Int32 × (Nat → Int32) × (Nat → Int32)) => match u with | (mL2, fa2, fe2) => [(h0, .inr (9, [.ref ys, .ref yk, .ref yo, .ref yt, .int mk0, .ref yfa, .ref yfe, .int mL2, .int mS, .int mM, .ref yro, .ref yhe, .ref ygr, .int mF, .int mC, .int mY, .ref yta, .int (nI (mz)), .int (nI (mf)), .int (nI (mt)), .int mv, .int mw, .ref ywa, .ref ybi, .ref ysi, .ref ynu, .ref ymo])), (ys, .inl (cI, 449, .inl ms)), (yfa, .inl (cI, 100, .inl fa2)), (yfe, .inl (cI, 100, .inl fe2))]) (va_A [(h0, .inr (9, [.ref ys, .ref yk, .ref yo, .ref yt, .int mk0, .ref yfa, .ref yfe, .int mL, .int mS, .int mM, .ref yro, .ref yhe, .ref ygr, .int mF, .int mC, .int mY, .ref yta, .int (nI (mz)), .int (nI (mf)), .int (nI (mt)), .int mv, .int mw, .ref ywa, .ref ybi, .ref ysi, .ref ynu, .ref ymo])), (ys, .inl (cI, 449, .inl ms)), (yfa, .inl (cI, 100, .inl fa)), (yfe, .inl (cI, 100, .inl fe))] sz)) 0 0 (va_A [(h0, .inr (9, [.ref ys, .ref yk, .ref yo, .ref yt, .int mk0, .ref yfa, .ref yfe, .int mL, .int mS, .int mM, .ref yro, .ref yhe, .ref ygr, .int mF, .int mC, .int mY, .ref yta, .int (nI (mz)), .int (nI (mf)), .int (nI (mt)), .int mv, .int mw, .ref ywa, .ref ybi, .ref ysi, .ref ynu, .ref ymo])), (ys, .inl (cI, 449, .inl ms)), (yfa, .inl (cI, 100, .inl fa)), (yfe, .inl (cI, 100, .inl fe))] sz) := by
  refine xh (QA := fun A => XQi (fun (r : Int32) (u : Int32 × (Nat → Int32) × (Nat → Int32)) => match u with | (mL2, fa2, fe2) => (True)) D (fun (u : Int32 × (Nat → Int32) × (Nat → Int32)) => match u with | (mL2, fa2, fe2) => [(h0, .inr (9, [.ref ys, .ref yk, .ref yo, .ref yt, .int mk0, .ref yfa, .ref yfe, .int mL2, .int mS, .int mM, .ref yro, .ref yhe, .ref ygr, .int mF, .int mC, .int mY, .ref yta, .int (nI (mz)), .int (nI (mf)), .int (nI (mt)), .int mv, .int mw, .ref ywa, .ref ybi, .ref ysi, .ref ynu, .ref ymo])), (ys, .inl (cI, 449, .inl ms)), (yfa, .inl (cI, 100, .inl fa2)), (yfe, .inl (cI, 100, .inl fe2))]) A) (fr := fun A => A) (by decide) (Nat.le_of_ble_eq_true rfl) ?_
  intro p e s m below meth c ls A hF hr hlk hin hsz hP hK hD hN hZ hA hS hl
  have hF : CallFix p m c cX9_loops 5 s _ _ RX9 := hF
  have hx := hF.1
  have hb := hF.2.1
  have hml := hF.2.2.1
  have hown := hF.2.2.2.1
  have hu : ∀ w ∈ wsU, w.before _ s = true := fun w h => hF.2.2.2.2 w (List.mem_cons_of_mem _ h)
  have hl : lv_has ls 5 [(0, .ref h0)] := hl
  refine lv_aload_n hx hb dX9_loops_0 rfl (lv_at hl 0 rfl) ?_
  refine xc_Vv (wr := []) hF (c_X9_findFar l D cI cJ cZ cS ta sa sv s.heap.size h0 ys yk yo yt mk0 yfa yfe mL mS mM yro yhe ygr mF mC mY yta mz mf mt mv mw ywa ybi ysi ynu ymo ms fa fe P Rn Wn fae fal fau fao farn farp fak fawn fawp fat fas hs0 hs1 hs2 hsS hsM hsp hsr hsw hsR hsG) kv_X9_113 ⟨rfl, rfl, Nat.le_of_ble_eq_true rfl, Nat.le_of_ble_eq_true rfl⟩ ⟨Nat.le_of_ble_eq_true rfl, Nat.le_of_ble_eq_true rfl⟩ hK hN hZ hP hD hS hA [0, 1, 2, 3] [] rfl rfl rfl rfl (by decide) 0 rfl rfl rfl rfl hl.1 rfl (Nat.le_of_ble_eq_true rfl) dX9_loops_1 (fun u_r_1 H locs hw_r_1 hP hD hS => ?_)
  obtain ⟨mL2_2, fa2_3, fe2_4⟩ := u_r_1
  try dsimp only at hw_r_1
  have i_5 := hw_r_1
  have hP : va_P D vwCl [(h0, .inr (9, [.ref ys, .ref yk, .ref yo, .ref yt, .int mk0, .ref yfa, .ref yfe, .int mL2_2, .int mS, .int mM, .ref yro, .ref yhe, .ref ygr, .int mF, .int mC, .int mY, .ref yta, .int (nI (mz)), .int (nI (mf)), .int (nI (mt)), .int mv, .int mw, .ref ywa, .ref ybi, .ref ysi, .ref ynu, .ref ymo])), (ys, .inl (cI, 449, .inl ms)), (yfa, .inl (cI, 100, .inl fa2_3)), (yfe, .inl (cI, 100, .inl fe2_4))] H := hP
  have hD : va_D A [(h0, .inr (9, [.ref ys, .ref yk, .ref yo, .ref yt, .int mk0, .ref yfa, .ref yfe, .int mL2_2, .int mS, .int mM, .ref yro, .ref yhe, .ref ygr, .int mF, .int mC, .int mY, .ref yta, .int (nI (mz)), .int (nI (mf)), .int (nI (mt)), .int mv, .int mw, .ref ywa, .ref ybi, .ref ysi, .ref ynu, .ref ymo])), (ys, .inl (cI, 449, .inl ms)), (yfa, .inl (cI, 100, .inl fa2_3)), (yfe, .inl (cI, 100, .inl fe2_4))] := hD
  refine lv_iconst (v := 0) hx hb dX9_loops_4 (by decide) ?_
  refine lv_istore_n (lv' := [(1, .int 0), (0, .ref h0)]) hx hb dX9_loops_5 rfl hl (by decide) rfl (fun ls hl => ?_)
  refine lv_iconst (v := 0) hx hb dX9_loops_6 (by decide) ?_
  refine lv_istore_n (lv' := [(2, .int 0), (1, .int 0), (0, .ref h0)]) hx hb dX9_loops_7 rfl hl (by decide) rfl (fun ls hl => ?_)
  suffices loop_8 : ∀ (n_8 : Nat) (i : Nat) (u : Int32) (H : Heap) (locs : List Loc) (ls : Array Slot), P - i < n_8 → (i ≤ P) → va_P D vwCl [(h0, .inr (9, [.ref ys, .ref yk, .ref yo, .ref yt, .int mk0, .ref yfa, .ref yfe, .int mL2_2, .int mS, .int mM, .ref yro, .ref yhe, .ref ygr, .int mF, .int mC, .int mY, .ref yta, .int (nI (mz)), .int (nI (mf)), .int (nI (mt)), .int mv, .int mw, .ref ywa, .ref ybi, .ref ysi, .ref ynu, .ref ymo])), (ys, .inl (cI, 449, .inl ms)), (yfa, .inl (cI, 100, .inl fa2_3)), (yfe, .inl (cI, 100, .inl fe2_4))] H → va_D A [(h0, .inr (9, [.ref ys, .ref yk, .ref yo, .ref yt, .int mk0, .ref yfa, .ref yfe, .int mL2_2, .int mS, .int mM, .ref yro, .ref yhe, .ref ygr, .int mF, .int mC, .int mY, .ref yta, .int (nI (mz)), .int (nI (mf)), .int (nI (mt)), .int mv, .int mw, .ref ywa, .ref ybi, .ref ysi, .ref ynu, .ref ymo])), (ys, .inl (cI, 449, .inl ms)), (yfa, .inl (cI, 100, .inl fa2_3)), (yfe, .inl (cI, 100, .inl fe2_4))] → va_S A s.heap H locs → lv_has ls 5 [(2, .int (nI (i))), (1, .int u), (0, .ref h0)] → W p l e ({ frames := 2, cells := 0, slots := 0, locals := 52 }) s m ([.ref h0] : List Value).toArray below meth c H locs 0 0 (MQ below (XQi (fun (r : Int32) (u : Int32 × (Nat → Int32) × (Nat → Int32)) => match u with | (mL2, fa2, fe2) => (True)) D (fun (u : Int32 × (Nat → Int32) × (Nat → Int32)) => match u with | (mL2, fa2, fe2) => [(h0, .inr (9, [.ref ys, .ref yk, .ref yo, .ref yt, .int mk0, .ref yfa, .ref yfe, .int mL2, .int mS, .int mM, .ref yro, .ref yhe, .ref ygr, .int mF, .int mC, .int mY, .ref yta, .int (nI (mz)), .int (nI (mf)), .int (nI (mt)), .int mv, .int mw, .ref ywa, .ref ybi, .ref ysi, .ref ynu, .ref ymo])), (ys, .inl (cI, 449, .inl ms)), (yfa, .inl (cI, 100, .inl fa2)), (yfe, .inl (cI, 100, .inl fe2))]) A) ([.ref h0] : List Value).toArray s 0 0 A) (F0 m 8 ls []) by
    exact loop_8 _ 0 0 _ _ _ (Nat.lt_succ_self _) (by omega) hP hD hS (lv_sub hl [0, 1, 2] rfl)
  intro n_8
  induction n_8 with
  | zero =>
    intro i u H locs ls hm_8
    exact absurd hm_8 (Nat.not_lt_zero _)
  | succ n_8 ih_8 =>
    intro i u H locs ls hm_8 hi hP hD hS hl
    refine lv_iload_n hx hb dX9_loops_8 rfl (lv_at hl 0 rfl) ?_
    refine lv_aload_n hx hb dX9_loops_9 rfl (lv_at hl 2 rfl) ?_
    refine xg hF kf_X9_7 hK hP 0 rfl rfl dX9_loops_10 ?_
    refine lv_iconst (v := 0) hx hb dX9_loops_13 (by decide) ?_
    refine va_iald hx hb hK hP 1 0 rfl rfl (xin 0 449 (by decide) (by decide)) dX9_loops_14 ?_
    refine xl_i (y := nI (P)) hs0 ?_
    refine lv_icmp_ge (tgt := 108) hx hb dX9_loops_15 (by decide) (fun c_6 => ?_) (fun c_6 => ?_)
    · skip
      have nc_6 : P ≤ i := xn_le (a := P) (b := i) (by omega) (by omega) c_6
      refine lv_iload_n hx hb dX9_loops_108 rfl (lv_at hl 1 rfl) ?_
      exact W.iret (v := u) hx hb hr (fun t ht hW => ⟨⟨u, (mL2_2, fa2_3, fe2_4), rfl, trivial, by rw [ht]; exact hP.sub [0, 1, 2, 3] rfl, hD.sub [0, 1, 2, 3] (by decide) rfl⟩, hS.F ht⟩) hS.2.2 dX9_loops_109 hlk
    · skip
      have nc_6 : i < P := xn_nle (a := P) (b := i) (by omega) (by omega) c_6
      refine lv_iconst (v := 0) hx hb dX9_loops_18 (by decide) ?_
      refine lv_istore_n (lv' := [(3, .int 0), (2, .int (nI (i))), (1, .int u), (0, .ref h0)]) hx hb dX9_loops_19 rfl hl (by decide) rfl (fun ls hl => ?_)
      suffices loop_20 : ∀ (n_20 : Nat) (i2 : Nat) (u2 : Int32) (H : Heap) (locs : List Loc) (ls : Array Slot), P - i2 < n_20 → (i2 ≤ P) → va_P D vwCl [(h0, .inr (9, [.ref ys, .ref yk, .ref yo, .ref yt, .int mk0, .ref yfa, .ref yfe, .int mL2_2, .int mS, .int mM, .ref yro, .ref yhe, .ref ygr, .int mF, .int mC, .int mY, .ref yta, .int (nI (mz)), .int (nI (mf)), .int (nI (mt)), .int mv, .int mw, .ref ywa, .ref ybi, .ref ysi, .ref ynu, .ref ymo])), (ys, .inl (cI, 449, .inl ms)), (yfa, .inl (cI, 100, .inl fa2_3)), (yfe, .inl (cI, 100, .inl fe2_4))] H → va_D A [(h0, .inr (9, [.ref ys, .ref yk, .ref yo, .ref yt, .int mk0, .ref yfa, .ref yfe, .int mL2_2, .int mS, .int mM, .ref yro, .ref yhe, .ref ygr, .int mF, .int mC, .int mY, .ref yta, .int (nI (mz)), .int (nI (mf)), .int (nI (mt)), .int mv, .int mw, .ref ywa, .ref ybi, .ref ysi, .ref ynu, .ref ymo])), (ys, .inl (cI, 449, .inl ms)), (yfa, .inl (cI, 100, .inl fa2_3)), (yfe, .inl (cI, 100, .inl fe2_4))] → va_S A s.heap H locs → lv_has ls 5 [(3, .int (nI (i2))), (2, .int (nI (i))), (1, .int u2), (0, .ref h0)] → W p l e ({ frames := 2, cells := 0, slots := 0, locals := 52 }) s m ([.ref h0] : List Value).toArray below meth c H locs 0 0 (MQ below (XQi (fun (r : Int32) (u : Int32 × (Nat → Int32) × (Nat → Int32)) => match u with | (mL2, fa2, fe2) => (True)) D (fun (u : Int32 × (Nat → Int32) × (Nat → Int32)) => match u with | (mL2, fa2, fe2) => [(h0, .inr (9, [.ref ys, .ref yk, .ref yo, .ref yt, .int mk0, .ref yfa, .ref yfe, .int mL2, .int mS, .int mM, .ref yro, .ref yhe, .ref ygr, .int mF, .int mC, .int mY, .ref yta, .int (nI (mz)), .int (nI (mf)), .int (nI (mt)), .int mv, .int mw, .ref ywa, .ref ybi, .ref ysi, .ref ynu, .ref ymo])), (ys, .inl (cI, 449, .inl ms)), (yfa, .inl (cI, 100, .inl fa2)), (yfe, .inl (cI, 100, .inl fe2))]) A) ([.ref h0] : List Value).toArray s 0 0 A) (F0 m 20 ls []) by
        exact loop_20 _ 0 u _ _ _ (Nat.lt_succ_self _) (by omega) hP hD hS (lv_sub hl [0, 1, 2, 3] rfl)
      intro n_20
      induction n_20 with
      | zero =>
        intro i2 u2 H locs ls hm_20
        exact absurd hm_20 (Nat.not_lt_zero _)
      | succ n_20 ih_20 =>
        intro i2 u2 H locs ls hm_20 hi2 hP hD hS hl
        refine lv_iload_n hx hb dX9_loops_20 rfl (lv_at hl 0 rfl) ?_
        refine lv_aload_n hx hb dX9_loops_21 rfl (lv_at hl 3 rfl) ?_
        refine xg hF kf_X9_7 hK hP 0 rfl rfl dX9_loops_22 ?_
        refine lv_iconst (v := 0) hx hb dX9_loops_25 (by decide) ?_
        refine va_iald hx hb hK hP 1 0 rfl rfl (xin 0 449 (by decide) (by decide)) dX9_loops_26 ?_
        refine xl_i (y := nI (P)) hs0 ?_
        refine lv_icmp_ge (tgt := 102) hx hb dX9_loops_27 (by decide) (fun c_7 => ?_) (fun c_7 => ?_)
        · skip
          have nc_7 : P ≤ i2 := xn_le (a := P) (b := i2) (by omega) (by omega) c_7
          refine lv_iinc (v := nI (i + 1)) (lv' := [(2, .int (nI (i + 1))), (3, .int (nI (i2))), (1, .int u2), (0, .ref h0)]) hx hb dX9_loops_102 hl (k := 1) rfl (nI_1 (i)) (by decide) rfl (fun ls hl => ?_)
          refine lv_goto (tgt := 8) hx hb dX9_loops_105 (by decide) ?_
          exact ih_8 (i + 1) u2 _ _ _ (by omega) (by omega) (hP.sub [0, 1, 2, 3] rfl) (hD.sub [0, 1, 2, 3] (by decide) rfl) hS (lv_sub hl [0, 2, 3] rfl)
        · skip
          have nc_7 : i2 < P := xn_nle (a := P) (b := i2) (by omega) (by omega) c_7
          refine lv_aload_n hx hb dX9_loops_30 rfl (lv_at hl 3 rfl) ?_
          refine xg hF kf_X9_22 hK hP 0 rfl rfl dX9_loops_31 ?_
          refine lv_bipush (v := 11) hx hb dX9_loops_34 (by decide) ?_
          refine lv_iload_n hx hb dX9_loops_36 rfl (lv_at hl 0 rfl) ?_
          refine lv_imul hx hb dX9_loops_37 ?_
          refine xl_i (y := nI (11 * i2)) (pk_mul 11 i2) ?_
          refine va_iald hx hb hK hP 2 0 rfl rfl (vp_in_nI (show 11 * i2 < 100 by omega) (by decide)) dX9_loops_38 ?_
          refine xl_i (y := fa2_3 (11 * i2)) (congrArg fa2_3 (nI_clamp (show 11 * i2 < 2 ^ 31 by omega))) ?_
          refine lv_if_ge (tgt := 78) hx hb dX9_loops_39 (by decide) (fun c_8 => ?_) (fun c_8 => ?_)
          · skip
            refine lv_iconst (v := 0) hx hb dX9_loops_78 (by decide) ?_
            refine lv_istore (lv' := [(4, .int 0), (3, .int (nI (i2))), (2, .int (nI (i))), (1, .int u2), (0, .ref h0)]) hx hb dX9_loops_79 hl (by decide) rfl (fun ls hl => ?_)
            refine lv_iload_n hx hb dX9_loops_81 rfl (lv_at hl 3 rfl) ?_
            refine lv_iload hx hb dX9_loops_82 (lv_at hl 0 rfl) ?_
            refine lv_if_eq (tgt := 93) hx hb dX9_loops_84 (by decide) (fun c_9 => ?_) (fun c_9 => absurd (by decide) c_9)
            refine lv_iconst (v := 0) hx hb dX9_loops_93 (by decide) ?_
            refine lv_ior hx hb dX9_loops_94 ?_
            refine lv_topi (fun x_10 ex_10 => ?_)
            refine lv_istore_n (lv' := [(1, .int x_10), (4, .int 0), (3, .int (nI (i2))), (2, .int (nI (i))), (0, .ref h0)]) hx hb dX9_loops_95 rfl hl (by decide) rfl (fun ls hl => ?_)
            refine lv_iinc (v := nI (i2 + 1)) (lv' := [(3, .int (nI (i2 + 1))), (1, .int x_10), (4, .int 0), (2, .int (nI (i))), (0, .ref h0)]) hx hb dX9_loops_96 hl (k := 2) rfl (nI_1 (i2)) (by decide) rfl (fun ls hl => ?_)
            refine lv_goto (tgt := 20) hx hb dX9_loops_99 (by decide) ?_
            exact ih_20 (i2 + 1) x_10 _ _ _ (by omega) (by omega) (hP.sub [0, 1, 2, 3] rfl) (hD.sub [0, 1, 2, 3] (by decide) rfl) hS (lv_sub hl [0, 3, 1, 4] rfl)
          · skip
            refine lv_aload_n hx hb dX9_loops_42 rfl (lv_at hl 3 rfl) ?_
            refine xg hF kf_X9_22 hK hP 0 rfl rfl dX9_loops_43 ?_
            refine lv_bipush (v := 10) hx hb dX9_loops_46 (by decide) ?_
            refine lv_iload_n hx hb dX9_loops_48 rfl (lv_at hl 1 rfl) ?_
            refine lv_imul hx hb dX9_loops_49 ?_
            refine xl_i (y := nI (10 * i)) (pk_mul 10 i) ?_
            refine lv_iload_n hx hb dX9_loops_50 rfl (lv_at hl 0 rfl) ?_
            refine lv_iadd hx hb dX9_loops_51 ?_
            refine xl_i (y := nI (10 * i + i2)) (nI_add (10 * i) i2) ?_
            refine va_iald hx hb hK hP 2 0 rfl rfl (vp_in_nI (show 10 * i + i2 < 100 by omega) (by decide)) dX9_loops_52 ?_
            refine xl_i (y := fa2_3 (10 * i + i2)) (congrArg fa2_3 (nI_clamp (show 10 * i + i2 < 2 ^ 31 by omega))) ?_
            refine lv_ldc (v := 100000000) hx hb hown (hu _ uw701) dX9_loops_53 ?_
            refine lv_icmp_eq (tgt := 78) hx hb dX9_loops_55 (by decide) (fun c_11 => ?_) (fun c_11 => ?_)
            · skip
              refine lv_iconst (v := 0) hx hb dX9_loops_78 (by decide) ?_
              refine lv_istore (lv' := [(4, .int 0), (3, .int (nI (i2))), (2, .int (nI (i))), (1, .int u2), (0, .ref h0)]) hx hb dX9_loops_79 hl (by decide) rfl (fun ls hl => ?_)
              refine lv_iload_n hx hb dX9_loops_81 rfl (lv_at hl 3 rfl) ?_
              refine lv_iload hx hb dX9_loops_82 (lv_at hl 0 rfl) ?_
              refine lv_if_eq (tgt := 93) hx hb dX9_loops_84 (by decide) (fun c_12 => ?_) (fun c_12 => absurd (by decide) c_12)
              refine lv_iconst (v := 0) hx hb dX9_loops_93 (by decide) ?_
              refine lv_ior hx hb dX9_loops_94 ?_
              refine lv_topi (fun x_13 ex_13 => ?_)
              refine lv_istore_n (lv' := [(1, .int x_13), (4, .int 0), (3, .int (nI (i2))), (2, .int (nI (i))), (0, .ref h0)]) hx hb dX9_loops_95 rfl hl (by decide) rfl (fun ls hl => ?_)
              refine lv_iinc (v := nI (i2 + 1)) (lv' := [(3, .int (nI (i2 + 1))), (1, .int x_13), (4, .int 0), (2, .int (nI (i))), (0, .ref h0)]) hx hb dX9_loops_96 hl (k := 2) rfl (nI_1 (i2)) (by decide) rfl (fun ls hl => ?_)
              refine lv_goto (tgt := 20) hx hb dX9_loops_99 (by decide) ?_
              exact ih_20 (i2 + 1) x_13 _ _ _ (by omega) (by omega) (hP.sub [0, 1, 2, 3] rfl) (hD.sub [0, 1, 2, 3] (by decide) rfl) hS (lv_sub hl [0, 3, 1, 4] rfl)
            · skip
              refine lv_aload_n hx hb dX9_loops_58 rfl (lv_at hl 3 rfl) ?_
              refine xg hF kf_X9_22 hK hP 0 rfl rfl dX9_loops_59 ?_
              refine lv_bipush (v := 10) hx hb dX9_loops_62 (by decide) ?_
              refine lv_iload_n hx hb dX9_loops_64 rfl (lv_at hl 0 rfl) ?_
              refine lv_imul hx hb dX9_loops_65 ?_
              refine xl_i (y := nI (10 * i2)) (pk_mul 10 i2) ?_
              refine lv_iload_n hx hb dX9_loops_66 rfl (lv_at hl 1 rfl) ?_
              refine lv_iadd hx hb dX9_loops_67 ?_
              refine xl_i (y := nI (10 * i2 + i)) (nI_add (10 * i2) i) ?_
              refine va_iald hx hb hK hP 2 0 rfl rfl (vp_in_nI (show 10 * i2 + i < 100 by omega) (by decide)) dX9_loops_68 ?_
              refine xl_i (y := fa2_3 (10 * i2 + i)) (congrArg fa2_3 (nI_clamp (show 10 * i2 + i < 2 ^ 31 by omega))) ?_
              refine lv_ldc (v := 100000000) hx hb hown (hu _ uw701) dX9_loops_69 ?_
              refine lv_icmp_eq (tgt := 78) hx hb dX9_loops_71 (by decide) (fun c_14 => ?_) (fun c_14 => ?_)
              · skip
                refine lv_iconst (v := 0) hx hb dX9_loops_78 (by decide) ?_
                refine lv_istore (lv' := [(4, .int 0), (3, .int (nI (i2))), (2, .int (nI (i))), (1, .int u2), (0, .ref h0)]) hx hb dX9_loops_79 hl (by decide) rfl (fun ls hl => ?_)
                refine lv_iload_n hx hb dX9_loops_81 rfl (lv_at hl 3 rfl) ?_
                refine lv_iload hx hb dX9_loops_82 (lv_at hl 0 rfl) ?_
                refine lv_if_eq (tgt := 93) hx hb dX9_loops_84 (by decide) (fun c_15 => ?_) (fun c_15 => absurd (by decide) c_15)
                refine lv_iconst (v := 0) hx hb dX9_loops_93 (by decide) ?_
                refine lv_ior hx hb dX9_loops_94 ?_
                refine lv_topi (fun x_16 ex_16 => ?_)
                refine lv_istore_n (lv' := [(1, .int x_16), (4, .int 0), (3, .int (nI (i2))), (2, .int (nI (i))), (0, .ref h0)]) hx hb dX9_loops_95 rfl hl (by decide) rfl (fun ls hl => ?_)
                refine lv_iinc (v := nI (i2 + 1)) (lv' := [(3, .int (nI (i2 + 1))), (1, .int x_16), (4, .int 0), (2, .int (nI (i))), (0, .ref h0)]) hx hb dX9_loops_96 hl (k := 2) rfl (nI_1 (i2)) (by decide) rfl (fun ls hl => ?_)
                refine lv_goto (tgt := 20) hx hb dX9_loops_99 (by decide) ?_
                exact ih_20 (i2 + 1) x_16 _ _ _ (by omega) (by omega) (hP.sub [0, 1, 2, 3] rfl) (hD.sub [0, 1, 2, 3] (by decide) rfl) hS (lv_sub hl [0, 3, 1, 4] rfl)
              · skip
                refine lv_iconst (v := 1) hx hb dX9_loops_74 (by decide) ?_
                refine lv_goto (tgt := 79) hx hb dX9_loops_75 (by decide) ?_
                refine lv_istore (lv' := [(4, .int 1), (3, .int (nI (i2))), (2, .int (nI (i))), (1, .int u2), (0, .ref h0)]) hx hb dX9_loops_79 hl (by decide) rfl (fun ls hl => ?_)
                refine lv_iload_n hx hb dX9_loops_81 rfl (lv_at hl 3 rfl) ?_
                refine lv_iload hx hb dX9_loops_82 (lv_at hl 0 rfl) ?_
                refine lv_if_eq (tgt := 93) hx hb dX9_loops_84 (by decide) (fun c_17 => absurd c_17 (by decide)) (fun c_17 => ?_)
                refine lv_iconst (v := 1) hx hb dX9_loops_87 (by decide) ?_
                refine lv_iload_n hx hb dX9_loops_88 rfl (lv_at hl 2 rfl) ?_
                refine lv_ishl hx hb dX9_loops_89 ?_
                refine lv_topi (fun x_18 ex_18 => ?_)
                refine lv_goto (tgt := 94) hx hb dX9_loops_90 (by decide) ?_
                refine lv_ior hx hb dX9_loops_94 ?_
                refine lv_topi (fun x_19 ex_19 => ?_)
                refine lv_istore_n (lv' := [(1, .int x_19), (4, .int 1), (3, .int (nI (i2))), (2, .int (nI (i))), (0, .ref h0)]) hx hb dX9_loops_95 rfl hl (by decide) rfl (fun ls hl => ?_)
                refine lv_iinc (v := nI (i2 + 1)) (lv' := [(3, .int (nI (i2 + 1))), (1, .int x_19), (4, .int 1), (2, .int (nI (i))), (0, .ref h0)]) hx hb dX9_loops_96 hl (k := 2) rfl (nI_1 (i2)) (by decide) rfl (fun ls hl => ?_)
                refine lv_goto (tgt := 20) hx hb dX9_loops_99 (by decide) ?_
                exact ih_20 (i2 + 1) x_19 _ _ _ (by omega) (by omega) (hP.sub [0, 1, 2, 3] rfl) (hD.sub [0, 1, 2, 3] (by decide) rfl) hS (lv_sub hl [0, 3, 1, 4] rfl)
set_option maxHeartbeats 4000000 in
set_option maxRecDepth 100000 in
theorem c_X9_longer (l : Launch) (D : va_G) (cI cJ cZ cS : ClassId) (ta : Nat) (sa sv : Nat → Nat) (sz : Nat) (h0 : Nat) (ys : Nat) (yk : Nat) (yo : Nat) (yt : Nat) (mk0 : Int32) (yfa : Nat) (yfe : Nat) (mL : Int32) (mS : Int32) (mM : Int32) (yro : Nat) (yhe : Nat) (ygr : Nat) (mF : Int32) (mC : Int32) (mY : Int32) (yta : Nat) (mz : Nat) (mf : Nat) (mt : Nat) (mv : Int32) (mw : Int32) (ywa : Nat) (ybi : Nat) (ysi : Nat) (ynu : Nat) (ymo : Nat) (ms : Nat → Int32) (fa : Nat → Int32) (fe : Nat → Int32) (mq : Nat → Int32) (P : Nat) (Rn : Nat) (Wn : Nat) (fae : Nat → Int32) (fal : Nat → Int32) (fau : Nat → Int32) (fao : Nat → Int32) (farn : Nat → Int32) (farp : Nat → Int32) (fak : Nat → Int32) (fawn : Nat → Int32) (fawp : Nat → Int32) (fat : Nat → Int32) (fas : Nat → Int32) (p0 : Int32) (p1 : Int32) (hs0 : ms 0 = nI P) (hs1 : ms 1 = nI Rn) (hs2 : ms 2 = nI Wn) (hsS : SI ms) (hsM : MI ms) (hsp : P ≤ 10) (hsr : Rn ≤ 8) (hsw : Wn ≤ 8) (hsR : RI Rn ms) (hsG : FR P ms fae fal fau fao farn farp fak fawn fawp fat fas) : Met l yX9_longer (Cond.code yX9_longer cX9_longer 5 (some .int) :: wsU) ({ frames := 2, cells := 0, slots := 0, locals := 52 }) (va_Pc [.ref h0, .int p0, .int p1] (XW D (xT cI cJ cZ cS) ta sa sv [(h0, .inr (9, [.ref ys, .ref yk, .ref yo, .ref yt, .int mk0, .ref yfa, .ref yfe, .int mL, .int mS, .int mM, .ref yro, .ref yhe, .ref ygr, .int mF, .int mC, .int mY, .ref yta, .int (nI (mz)), .int (nI (mf)), .int (nI (mt)), .int mv, .int mw, .ref ywa, .ref ybi, .ref ysi, .ref ynu, .ref ymo])), (ys, .inl (cI, 449, .inl ms)), (yfa, .inl (cI, 100, .inl fa)), (yfe, .inl (cI, 100, .inl fe)), (yt, .inl (cI, 7, .inl mq))] sz)) (XQi (fun (r : Int32) (u : Int32 × (Nat → Int32) × (Nat → Int32) × (Nat → Int32)) => match u with | (mL2, fa2, fe2, mq2) => (True)) D (fun (u : Int32 × (Nat → Int32) × (Nat → Int32) × (Nat → Int32)) => match u with | (mL2, fa2, fe2, mq2) => [(h0, .inr (9, [.ref ys, .ref yk, .ref yo, .ref yt, .int mk0, .ref yfa, .ref yfe, .int mL2, .int mS, .int mM, .ref yro, .ref yhe, .ref ygr, .int mF, .int mC, .int mY, .ref yta, .int (nI (mz)), .int (nI (mf)), .int (nI (mt)), .int mv, .int mw, .ref ywa, .ref ybi, .ref ysi, .ref ynu, .ref ymo])), (ys, .inl (cI, 449, .inl ms)), (yfa, .inl (cI, 100, .inl fa2)), (yfe, .inl (cI, 100, .inl fe2)), (yt, .inl (cI, 7, .inl mq2))]) (va_A [(h0, .inr (9, [.ref ys, .ref yk, .ref yo, .ref yt, .int mk0, .ref yfa, .ref yfe, .int mL, .int mS, .int mM, .ref yro, .ref yhe, .ref ygr, .int mF, .int mC, .int mY, .ref yta, .int (nI (mz)), .int (nI (mf)), .int (nI (mt)), .int mv, .int mw, .ref ywa, .ref ybi, .ref ysi, .ref ynu, .ref ymo])), (ys, .inl (cI, 449, .inl ms)), (yfa, .inl (cI, 100, .inl fa)), (yfe, .inl (cI, 100, .inl fe)), (yt, .inl (cI, 7, .inl mq))] sz)) 0 0 (va_A [(h0, .inr (9, [.ref ys, .ref yk, .ref yo, .ref yt, .int mk0, .ref yfa, .ref yfe, .int mL, .int mS, .int mM, .ref yro, .ref yhe, .ref ygr, .int mF, .int mC, .int mY, .ref yta, .int (nI (mz)), .int (nI (mf)), .int (nI (mt)), .int mv, .int mw, .ref ywa, .ref ybi, .ref ysi, .ref ynu, .ref ymo])), (ys, .inl (cI, 449, .inl ms)), (yfa, .inl (cI, 100, .inl fa)), (yfe, .inl (cI, 100, .inl fe)), (yt, .inl (cI, 7, .inl mq))] sz) := by
  refine xh (QA := fun A => XQi (fun (r : Int32) (u : Int32 × (Nat → Int32) × (Nat → Int32) × (Nat → Int32)) => match u with | (mL2, fa2, fe2, mq2) => (True)) D (fun (u : Int32 × (Nat → Int32) × (Nat → Int32) × (Nat → Int32)) => match u with | (mL2, fa2, fe2, mq2) => [(h0, .inr (9, [.ref ys, .ref yk, .ref yo, .ref yt, .int mk0, .ref yfa, .ref yfe, .int mL2, .int mS, .int mM, .ref yro, .ref yhe, .ref ygr, .int mF, .int mC, .int mY, .ref yta, .int (nI (mz)), .int (nI (mf)), .int (nI (mt)), .int mv, .int mw, .ref ywa, .ref ybi, .ref ysi, .ref ynu, .ref ymo])), (ys, .inl (cI, 449, .inl ms)), (yfa, .inl (cI, 100, .inl fa2)), (yfe, .inl (cI, 100, .inl fe2)), (yt, .inl (cI, 7, .inl mq2))]) A) (fr := fun A => A) (by decide) (Nat.le_of_ble_eq_true rfl) ?_
  intro p e s m below meth c ls A hF hr hlk hin hsz hP hK hD hN hZ hA hS hl
  have hF : CallFix p m c cX9_longer 5 s _ _ RX9 := hF
  have hx := hF.1
  have hb := hF.2.1
  have hml := hF.2.2.1
  have hown := hF.2.2.2.1
  have hu : ∀ w ∈ wsU, w.before _ s = true := fun w h => hF.2.2.2.2 w (List.mem_cons_of_mem _ h)
  have hl : lv_has ls 5 [(0, .ref h0), (1, .int p0), (2, .int p1)] := hl
  refine lv_aload_n hx hb dX9_longer_0 rfl (lv_at hl 0 rfl) ?_
  refine lv_iload_n hx hb dX9_longer_1 rfl (lv_at hl 1 rfl) ?_
  refine xc_Vr hF (c_X9_isPlace l D cI cJ cZ cS ta sa sv s.heap.size h0 ys yk yo yt mk0 yfa yfe mL mS mM yro yhe ygr mF mC mY yta mz mf mt mv mw ywa ybi ysi ynu ymo ms P Rn Wn fae fal fau fao farn farp fak fawn fawp fat fas p0 hs0 hs1 hs2 hsS hsM hsp hsr hsw hsR hsG) kv_X9_61 ⟨rfl, rfl, Nat.le_of_ble_eq_true rfl, Nat.le_of_ble_eq_true rfl⟩ ⟨Nat.le_of_ble_eq_true rfl, Nat.le_of_ble_eq_true rfl⟩ hK hN hZ hP hD hS hA [0, 1] rfl rfl 0 rfl rfl rfl rfl hl.1 rfl (Nat.le_of_ble_eq_true rfl) dX9_longer_2 (fun r_1 hw_r_1 => ?_)
  rcases hw_r_1 with ⟨k_2, rfl, rfl, h_4⟩ | ⟨rfl, h_5⟩
  · skip
    refine lv_if_eq (tgt := 16) hx hb dX9_longer_5 (by decide) (fun c_6 => absurd c_6 (by decide)) (fun c_6 => ?_)
    refine lv_aload_n hx hb dX9_longer_8 rfl (lv_at hl 0 rfl) ?_
    refine lv_iload_n hx hb dX9_longer_9 rfl (lv_at hl 2 rfl) ?_
    refine xc_Vr hF (c_X9_isPlace l D cI cJ cZ cS ta sa sv s.heap.size h0 ys yk yo yt mk0 yfa yfe mL mS mM yro yhe ygr mF mC mY yta mz mf mt mv mw ywa ybi ysi ynu ymo ms P Rn Wn fae fal fau fao farn farp fak fawn fawp fat fas p1 hs0 hs1 hs2 hsS hsM hsp hsr hsw hsR hsG) kv_X9_61 ⟨rfl, rfl, Nat.le_of_ble_eq_true rfl, Nat.le_of_ble_eq_true rfl⟩ ⟨Nat.le_of_ble_eq_true rfl, Nat.le_of_ble_eq_true rfl⟩ hK hN hZ hP hD hS hA [0, 1] rfl rfl 0 rfl rfl rfl rfl hl.1 rfl (Nat.le_of_ble_eq_true rfl) dX9_longer_10 (fun r_7 hw_r_7 => ?_)
    rcases hw_r_7 with ⟨k_8, rfl, rfl, h_10⟩ | ⟨rfl, h_11⟩
    · skip
      refine lv_if_ne (tgt := 23) hx hb dX9_longer_13 (by decide) (fun c_12 => ?_) (fun c_12 => absurd c_12 (by decide))
      refine lv_aload_n hx hb dX9_longer_23 rfl (lv_at hl 0 rfl) ?_
      refine xc_Vv (wr := [(yt, .inl (cI, 7, .inl mq))]) hF (c_X9_findFar l D cI cJ cZ cS ta sa sv s.heap.size h0 ys yk yo yt mk0 yfa yfe mL mS mM yro yhe ygr mF mC mY yta mz mf mt mv mw ywa ybi ysi ynu ymo ms fa fe P Rn Wn fae fal fau fao farn farp fak fawn fawp fat fas hs0 hs1 hs2 hsS hsM hsp hsr hsw hsR hsG) kv_X9_113 ⟨rfl, rfl, Nat.le_of_ble_eq_true rfl, Nat.le_of_ble_eq_true rfl⟩ ⟨Nat.le_of_ble_eq_true rfl, Nat.le_of_ble_eq_true rfl⟩ hK hN hZ hP hD hS hA [0, 1, 2, 3] [4] rfl rfl rfl rfl (by decide) 0 rfl rfl rfl rfl hl.1 rfl (Nat.le_of_ble_eq_true rfl) dX9_longer_24 (fun u_r_13 H locs hw_r_13 hP hD hS => ?_)
      obtain ⟨mL2_14, fa2_15, fe2_16⟩ := u_r_13
      try dsimp only at hw_r_13
      have i_17 := hw_r_13
      have hP : va_P D vwCl [(yt, .inl (cI, 7, .inl mq)), (h0, .inr (9, [.ref ys, .ref yk, .ref yo, .ref yt, .int mk0, .ref yfa, .ref yfe, .int mL2_14, .int mS, .int mM, .ref yro, .ref yhe, .ref ygr, .int mF, .int mC, .int mY, .ref yta, .int (nI (mz)), .int (nI (mf)), .int (nI (mt)), .int mv, .int mw, .ref ywa, .ref ybi, .ref ysi, .ref ynu, .ref ymo])), (ys, .inl (cI, 449, .inl ms)), (yfa, .inl (cI, 100, .inl fa2_15)), (yfe, .inl (cI, 100, .inl fe2_16))] H := hP
      have hD : va_D A [(yt, .inl (cI, 7, .inl mq)), (h0, .inr (9, [.ref ys, .ref yk, .ref yo, .ref yt, .int mk0, .ref yfa, .ref yfe, .int mL2_14, .int mS, .int mM, .ref yro, .ref yhe, .ref ygr, .int mF, .int mC, .int mY, .ref yta, .int (nI (mz)), .int (nI (mf)), .int (nI (mt)), .int mv, .int mw, .ref ywa, .ref ybi, .ref ysi, .ref ynu, .ref ymo])), (ys, .inl (cI, 449, .inl ms)), (yfa, .inl (cI, 100, .inl fa2_15)), (yfe, .inl (cI, 100, .inl fe2_16))] := hD
      refine lv_aload_n hx hb dX9_longer_27 rfl (lv_at hl 0 rfl) ?_
      refine xg hF kf_X9_109 hK hP 1 rfl rfl dX9_longer_28 ?_
      refine lv_if_eq (tgt := 41) hx hb dX9_longer_31 (by decide) (fun c_18 => ?_) (fun c_18 => ?_)
      · skip
        refine lv_aload_n hx hb dX9_longer_41 rfl (lv_at hl 0 rfl) ?_
        refine xg hF kf_X9_22 hK hP 1 rfl rfl dX9_longer_42 ?_
        refine lv_bipush (v := 10) hx hb dX9_longer_45 (by decide) ?_
        refine lv_iload_n hx hb dX9_longer_47 rfl (lv_at hl 1 rfl) ?_
        refine lv_imul hx hb dX9_longer_48 ?_
        refine xl_i (y := nI (10 * k_2)) (pk_mul 10 k_2) ?_
        refine lv_iload_n hx hb dX9_longer_49 rfl (lv_at hl 2 rfl) ?_
        refine lv_iadd hx hb dX9_longer_50 ?_
        refine xl_i (y := nI (10 * k_2 + k_8)) (nI_add (10 * k_2) k_8) ?_
        refine va_iald hx hb hK hP 3 0 rfl rfl (vp_in_nI (show 10 * k_2 + k_8 < 100 by omega) (by decide)) dX9_longer_51 ?_
        refine xl_i (y := fa2_15 (10 * k_2 + k_8)) (congrArg fa2_15 (nI_clamp (show 10 * k_2 + k_8 < 2 ^ 31 by omega))) ?_
        refine lv_istore_n (lv' := [(3, .int (fa2_15 (10 * k_2 + k_8))), (0, .ref h0), (1, .int (nI (k_2))), (2, .int (nI (k_8)))]) hx hb dX9_longer_52 rfl hl (by decide) rfl (fun ls hl => ?_)
        refine lv_aload_n hx hb dX9_longer_53 rfl (lv_at hl 1 rfl) ?_
        refine xg hF kf_X9_22 hK hP 1 rfl rfl dX9_longer_54 ?_
        refine lv_bipush (v := 10) hx hb dX9_longer_57 (by decide) ?_
        refine lv_iload_n hx hb dX9_longer_59 rfl (lv_at hl 3 rfl) ?_
        refine lv_imul hx hb dX9_longer_60 ?_
        refine xl_i (y := nI (10 * k_8)) (pk_mul 10 k_8) ?_
        refine lv_iload_n hx hb dX9_longer_61 rfl (lv_at hl 2 rfl) ?_
        refine lv_iadd hx hb dX9_longer_62 ?_
        refine xl_i (y := nI (10 * k_8 + k_2)) (nI_add (10 * k_8) k_2) ?_
        refine va_iald hx hb hK hP 3 0 rfl rfl (vp_in_nI (show 10 * k_8 + k_2 < 100 by omega) (by decide)) dX9_longer_63 ?_
        refine xl_i (y := fa2_15 (10 * k_8 + k_2)) (congrArg fa2_15 (nI_clamp (show 10 * k_8 + k_2 < 2 ^ 31 by omega))) ?_
        refine lv_istore (lv' := [(4, .int (fa2_15 (10 * k_8 + k_2))), (3, .int (fa2_15 (10 * k_2 + k_8))), (0, .ref h0), (1, .int (nI (k_2))), (2, .int (nI (k_8)))]) hx hb dX9_longer_64 hl (by decide) rfl (fun ls hl => ?_)
        refine lv_iload_n hx hb dX9_longer_66 rfl (lv_at hl 1 rfl) ?_
        refine lv_ldc (v := 100000000) hx hb hown (hu _ uw701) dX9_longer_67 ?_
        refine lv_icmp_eq (tgt := 79) hx hb dX9_longer_69 (by decide) (fun c_19 => ?_) (fun c_19 => ?_)
        · skip
          refine lv_aload_n hx hb dX9_longer_79 rfl (lv_at hl 2 rfl) ?_
          refine lv_ldc (v := (-1000000004)) hx hb hown (hu _ uw699) dX9_longer_80 ?_
          refine xc_Vi (wr := [(ys, .inl (cI, 449, .inl ms)), (yfa, .inl (cI, 100, .inl fa2_15)), (yfe, .inl (cI, 100, .inl fe2_16))]) hF (c_X9_finds_N l D cI cJ cZ cS ta sa sv H.size h0 ys yk yo yt mk0 yfa yfe mL2_14 mS mM yro yhe ygr mF mC mY yta mz mf mt mv mw ywa ybi ysi ynu ymo mq ) kv_X9_70 ⟨rfl, rfl, Nat.le_of_ble_eq_true rfl, Nat.le_of_ble_eq_true rfl⟩ ⟨Nat.le_of_ble_eq_true rfl, Nat.le_of_ble_eq_true rfl⟩ hK hN hZ hP hD hS hA [1, 0] [2, 3, 4] rfl rfl rfl rfl (by decide) 0 rfl rfl rfl rfl hl.1 rfl (Nat.le_of_ble_eq_true rfl) dX9_longer_82 (fun r_20 u_r_20 H locs hw_r_20 hP hD hS => ?_)
          obtain ⟨mq2_21, rfl⟩ : ∃ z, z = u_r_20 := ⟨_, rfl⟩
          try dsimp only at hw_r_20
          have hP : va_P D vwCl [(ys, .inl (cI, 449, .inl ms)), (yfa, .inl (cI, 100, .inl fa2_15)), (yfe, .inl (cI, 100, .inl fe2_16)), (h0, .inr (9, [.ref ys, .ref yk, .ref yo, .ref yt, .int mk0, .ref yfa, .ref yfe, .int mL2_14, .int mS, .int mM, .ref yro, .ref yhe, .ref ygr, .int mF, .int mC, .int mY, .ref yta, .int (nI (mz)), .int (nI (mf)), .int (nI (mt)), .int mv, .int mw, .ref ywa, .ref ybi, .ref ysi, .ref ynu, .ref ymo])), (yt, .inl (cI, 7, .inl mq2_21))] H := hP
          have hD : va_D A [(ys, .inl (cI, 449, .inl ms)), (yfa, .inl (cI, 100, .inl fa2_15)), (yfe, .inl (cI, 100, .inl fe2_16)), (h0, .inr (9, [.ref ys, .ref yk, .ref yo, .ref yt, .int mk0, .ref yfa, .ref yfe, .int mL2_14, .int mS, .int mM, .ref yro, .ref yhe, .ref ygr, .int mF, .int mC, .int mY, .ref yta, .int (nI (mz)), .int (nI (mf)), .int (nI (mt)), .int mv, .int mw, .ref ywa, .ref ybi, .ref ysi, .ref ynu, .ref ymo])), (yt, .inl (cI, 7, .inl mq2_21))] := hD
          subst hw_r_20
          refine lv_goto (tgt := 92) hx hb dX9_longer_85 (by decide) ?_
          exact W.iret (v := (-1000000004)) hx hb hr (fun t ht hW => ⟨⟨(-1000000004), (mL2_14, fa2_15, fe2_16, mq2_21), rfl, trivial, by rw [ht]; exact hP.sub [3, 0, 1, 2, 4] rfl, hD.sub [3, 0, 1, 2, 4] (by decide +kernel) rfl⟩, hS.F ht⟩) hS.2.2 dX9_longer_92 hlk
        · skip
          refine lv_iload hx hb dX9_longer_72 (lv_at hl 0 rfl) ?_
          refine lv_ldc (v := 100000000) hx hb hown (hu _ uw701) dX9_longer_74 ?_
          refine lv_icmp_ne (tgt := 88) hx hb dX9_longer_76 (by decide) (fun c_22 => ?_) (fun c_22 => ?_)
          · skip
            refine lv_iload_n hx hb dX9_longer_88 rfl (lv_at hl 1 rfl) ?_
            refine lv_iload hx hb dX9_longer_89 (lv_at hl 0 rfl) ?_
            refine lv_isub hx hb dX9_longer_91 ?_
            refine lv_topi (fun x_23 ex_23 => ?_)
            exact W.iret (v := x_23) hx hb hr (fun t ht hW => ⟨⟨x_23, (mL2_14, fa2_15, fe2_16, mq), rfl, trivial, by rw [ht]; exact hP.sub [1, 2, 3, 4, 0] rfl, hD.sub [1, 2, 3, 4, 0] (by decide +kernel) rfl⟩, hS.F ht⟩) hS.2.2 dX9_longer_92 hlk
          · skip
            refine lv_aload_n hx hb dX9_longer_79 rfl (lv_at hl 2 rfl) ?_
            refine lv_ldc (v := (-1000000004)) hx hb hown (hu _ uw699) dX9_longer_80 ?_
            refine xc_Vi (wr := [(ys, .inl (cI, 449, .inl ms)), (yfa, .inl (cI, 100, .inl fa2_15)), (yfe, .inl (cI, 100, .inl fe2_16))]) hF (c_X9_finds_N l D cI cJ cZ cS ta sa sv H.size h0 ys yk yo yt mk0 yfa yfe mL2_14 mS mM yro yhe ygr mF mC mY yta mz mf mt mv mw ywa ybi ysi ynu ymo mq ) kv_X9_70 ⟨rfl, rfl, Nat.le_of_ble_eq_true rfl, Nat.le_of_ble_eq_true rfl⟩ ⟨Nat.le_of_ble_eq_true rfl, Nat.le_of_ble_eq_true rfl⟩ hK hN hZ hP hD hS hA [1, 0] [2, 3, 4] rfl rfl rfl rfl (by decide) 0 rfl rfl rfl rfl hl.1 rfl (Nat.le_of_ble_eq_true rfl) dX9_longer_82 (fun r_24 u_r_24 H locs hw_r_24 hP hD hS => ?_)
            obtain ⟨mq2_25, rfl⟩ : ∃ z, z = u_r_24 := ⟨_, rfl⟩
            try dsimp only at hw_r_24
            have hP : va_P D vwCl [(ys, .inl (cI, 449, .inl ms)), (yfa, .inl (cI, 100, .inl fa2_15)), (yfe, .inl (cI, 100, .inl fe2_16)), (h0, .inr (9, [.ref ys, .ref yk, .ref yo, .ref yt, .int mk0, .ref yfa, .ref yfe, .int mL2_14, .int mS, .int mM, .ref yro, .ref yhe, .ref ygr, .int mF, .int mC, .int mY, .ref yta, .int (nI (mz)), .int (nI (mf)), .int (nI (mt)), .int mv, .int mw, .ref ywa, .ref ybi, .ref ysi, .ref ynu, .ref ymo])), (yt, .inl (cI, 7, .inl mq2_25))] H := hP
            have hD : va_D A [(ys, .inl (cI, 449, .inl ms)), (yfa, .inl (cI, 100, .inl fa2_15)), (yfe, .inl (cI, 100, .inl fe2_16)), (h0, .inr (9, [.ref ys, .ref yk, .ref yo, .ref yt, .int mk0, .ref yfa, .ref yfe, .int mL2_14, .int mS, .int mM, .ref yro, .ref yhe, .ref ygr, .int mF, .int mC, .int mY, .ref yta, .int (nI (mz)), .int (nI (mf)), .int (nI (mt)), .int mv, .int mw, .ref ywa, .ref ybi, .ref ysi, .ref ynu, .ref ymo])), (yt, .inl (cI, 7, .inl mq2_25))] := hD
            subst hw_r_24
            refine lv_goto (tgt := 92) hx hb dX9_longer_85 (by decide) ?_
            exact W.iret (v := (-1000000004)) hx hb hr (fun t ht hW => ⟨⟨(-1000000004), (mL2_14, fa2_15, fe2_16, mq2_25), rfl, trivial, by rw [ht]; exact hP.sub [3, 0, 1, 2, 4] rfl, hD.sub [3, 0, 1, 2, 4] (by decide +kernel) rfl⟩, hS.F ht⟩) hS.2.2 dX9_longer_92 hlk
      · skip
        refine lv_aload_n hx hb dX9_longer_34 rfl (lv_at hl 0 rfl) ?_
        refine lv_ldc (v := (-1000000005)) hx hb hown (hu _ uw716) dX9_longer_35 ?_
        refine xc_Vi (wr := [(ys, .inl (cI, 449, .inl ms)), (yfa, .inl (cI, 100, .inl fa2_15)), (yfe, .inl (cI, 100, .inl fe2_16))]) hF (c_X9_finds_T l D cI cJ cZ cS ta sa sv H.size h0 ys yk yo yt mk0 yfa yfe mL2_14 mS mM yro yhe ygr mF mC mY yta mz mf mt mv mw ywa ybi ysi ynu ymo mq ) kv_X9_70 ⟨rfl, rfl, Nat.le_of_ble_eq_true rfl, Nat.le_of_ble_eq_true rfl⟩ ⟨Nat.le_of_ble_eq_true rfl, Nat.le_of_ble_eq_true rfl⟩ hK hN hZ hP hD hS hA [1, 0] [2, 3, 4] rfl rfl rfl rfl (by decide) 0 rfl rfl rfl rfl hl.1 rfl (Nat.le_of_ble_eq_true rfl) dX9_longer_37 (fun r_26 u_r_26 H locs hw_r_26 hP hD hS => ?_)
        obtain ⟨mq2_27, rfl⟩ : ∃ z, z = u_r_26 := ⟨_, rfl⟩
        try dsimp only at hw_r_26
        have hP : va_P D vwCl [(ys, .inl (cI, 449, .inl ms)), (yfa, .inl (cI, 100, .inl fa2_15)), (yfe, .inl (cI, 100, .inl fe2_16)), (h0, .inr (9, [.ref ys, .ref yk, .ref yo, .ref yt, .int mk0, .ref yfa, .ref yfe, .int mL2_14, .int mS, .int mM, .ref yro, .ref yhe, .ref ygr, .int mF, .int mC, .int mY, .ref yta, .int (nI (mz)), .int (nI (mf)), .int (nI (mt)), .int mv, .int mw, .ref ywa, .ref ybi, .ref ysi, .ref ynu, .ref ymo])), (yt, .inl (cI, 7, .inl mq2_27))] H := hP
        have hD : va_D A [(ys, .inl (cI, 449, .inl ms)), (yfa, .inl (cI, 100, .inl fa2_15)), (yfe, .inl (cI, 100, .inl fe2_16)), (h0, .inr (9, [.ref ys, .ref yk, .ref yo, .ref yt, .int mk0, .ref yfa, .ref yfe, .int mL2_14, .int mS, .int mM, .ref yro, .ref yhe, .ref ygr, .int mF, .int mC, .int mY, .ref yta, .int (nI (mz)), .int (nI (mf)), .int (nI (mt)), .int mv, .int mw, .ref ywa, .ref ybi, .ref ysi, .ref ynu, .ref ymo])), (yt, .inl (cI, 7, .inl mq2_27))] := hD
        subst hw_r_26
        exact W.iret (v := (-1000000005)) hx hb hr (fun t ht hW => ⟨⟨(-1000000005), (mL2_14, fa2_15, fe2_16, mq2_27), rfl, trivial, by rw [ht]; exact hP.sub [3, 0, 1, 2, 4] rfl, hD.sub [3, 0, 1, 2, 4] (by decide +kernel) rfl⟩, hS.F ht⟩) hS.2.2 dX9_longer_40 hlk
    · skip
      refine lv_if_ne (tgt := 23) hx hb dX9_longer_13 (by decide) (fun c_28 => absurd (by decide) c_28) (fun c_28 => ?_)
      refine lv_aload_n hx hb dX9_longer_16 rfl (lv_at hl 0 rfl) ?_
      refine lv_ldc (v := (-1000000001)) hx hb hown (hu _ uw648) dX9_longer_17 ?_
      refine xc_Vi (wr := [(ys, .inl (cI, 449, .inl ms)), (yfa, .inl (cI, 100, .inl fa)), (yfe, .inl (cI, 100, .inl fe))]) hF (c_X9_finds_B l D cI cJ cZ cS ta sa sv s.heap.size h0 ys yk yo yt mk0 yfa yfe mL mS mM yro yhe ygr mF mC mY yta mz mf mt mv mw ywa ybi ysi ynu ymo mq ) kv_X9_70 ⟨rfl, rfl, Nat.le_of_ble_eq_true rfl, Nat.le_of_ble_eq_true rfl⟩ ⟨Nat.le_of_ble_eq_true rfl, Nat.le_of_ble_eq_true rfl⟩ hK hN hZ hP hD hS hA [0, 4] [1, 2, 3] rfl rfl rfl rfl (by decide) 0 rfl rfl rfl rfl hl.1 rfl (Nat.le_of_ble_eq_true rfl) dX9_longer_19 (fun r_29 u_r_29 H locs hw_r_29 hP hD hS => ?_)
      obtain ⟨mq2_30, rfl⟩ : ∃ z, z = u_r_29 := ⟨_, rfl⟩
      try dsimp only at hw_r_29
      have hP : va_P D vwCl [(ys, .inl (cI, 449, .inl ms)), (yfa, .inl (cI, 100, .inl fa)), (yfe, .inl (cI, 100, .inl fe)), (h0, .inr (9, [.ref ys, .ref yk, .ref yo, .ref yt, .int mk0, .ref yfa, .ref yfe, .int mL, .int mS, .int mM, .ref yro, .ref yhe, .ref ygr, .int mF, .int mC, .int mY, .ref yta, .int (nI (mz)), .int (nI (mf)), .int (nI (mt)), .int mv, .int mw, .ref ywa, .ref ybi, .ref ysi, .ref ynu, .ref ymo])), (yt, .inl (cI, 7, .inl mq2_30))] H := hP
      have hD : va_D A [(ys, .inl (cI, 449, .inl ms)), (yfa, .inl (cI, 100, .inl fa)), (yfe, .inl (cI, 100, .inl fe)), (h0, .inr (9, [.ref ys, .ref yk, .ref yo, .ref yt, .int mk0, .ref yfa, .ref yfe, .int mL, .int mS, .int mM, .ref yro, .ref yhe, .ref ygr, .int mF, .int mC, .int mY, .ref yta, .int (nI (mz)), .int (nI (mf)), .int (nI (mt)), .int mv, .int mw, .ref ywa, .ref ybi, .ref ysi, .ref ynu, .ref ymo])), (yt, .inl (cI, 7, .inl mq2_30))] := hD
      subst hw_r_29
      exact W.iret (v := (-1000000001)) hx hb hr (fun t ht hW => ⟨⟨(-1000000001), (mL, fa, fe, mq2_30), rfl, trivial, by rw [ht]; exact hP.sub [3, 0, 1, 2, 4] rfl, hD.sub [3, 0, 1, 2, 4] (by decide +kernel) rfl⟩, hS.F ht⟩) hS.2.2 dX9_longer_22 hlk
  · skip
    refine lv_if_eq (tgt := 16) hx hb dX9_longer_5 (by decide) (fun c_31 => ?_) (fun c_31 => absurd (by decide) c_31)
    refine lv_aload_n hx hb dX9_longer_16 rfl (lv_at hl 0 rfl) ?_
    refine lv_ldc (v := (-1000000001)) hx hb hown (hu _ uw648) dX9_longer_17 ?_
    refine xc_Vi (wr := [(ys, .inl (cI, 449, .inl ms)), (yfa, .inl (cI, 100, .inl fa)), (yfe, .inl (cI, 100, .inl fe))]) hF (c_X9_finds_B l D cI cJ cZ cS ta sa sv s.heap.size h0 ys yk yo yt mk0 yfa yfe mL mS mM yro yhe ygr mF mC mY yta mz mf mt mv mw ywa ybi ysi ynu ymo mq ) kv_X9_70 ⟨rfl, rfl, Nat.le_of_ble_eq_true rfl, Nat.le_of_ble_eq_true rfl⟩ ⟨Nat.le_of_ble_eq_true rfl, Nat.le_of_ble_eq_true rfl⟩ hK hN hZ hP hD hS hA [0, 4] [1, 2, 3] rfl rfl rfl rfl (by decide) 0 rfl rfl rfl rfl hl.1 rfl (Nat.le_of_ble_eq_true rfl) dX9_longer_19 (fun r_32 u_r_32 H locs hw_r_32 hP hD hS => ?_)
    obtain ⟨mq2_33, rfl⟩ : ∃ z, z = u_r_32 := ⟨_, rfl⟩
    try dsimp only at hw_r_32
    have hP : va_P D vwCl [(ys, .inl (cI, 449, .inl ms)), (yfa, .inl (cI, 100, .inl fa)), (yfe, .inl (cI, 100, .inl fe)), (h0, .inr (9, [.ref ys, .ref yk, .ref yo, .ref yt, .int mk0, .ref yfa, .ref yfe, .int mL, .int mS, .int mM, .ref yro, .ref yhe, .ref ygr, .int mF, .int mC, .int mY, .ref yta, .int (nI (mz)), .int (nI (mf)), .int (nI (mt)), .int mv, .int mw, .ref ywa, .ref ybi, .ref ysi, .ref ynu, .ref ymo])), (yt, .inl (cI, 7, .inl mq2_33))] H := hP
    have hD : va_D A [(ys, .inl (cI, 449, .inl ms)), (yfa, .inl (cI, 100, .inl fa)), (yfe, .inl (cI, 100, .inl fe)), (h0, .inr (9, [.ref ys, .ref yk, .ref yo, .ref yt, .int mk0, .ref yfa, .ref yfe, .int mL, .int mS, .int mM, .ref yro, .ref yhe, .ref ygr, .int mF, .int mC, .int mY, .ref yta, .int (nI (mz)), .int (nI (mf)), .int (nI (mt)), .int mv, .int mw, .ref ywa, .ref ybi, .ref ysi, .ref ynu, .ref ymo])), (yt, .inl (cI, 7, .inl mq2_33))] := hD
    subst hw_r_32
    exact W.iret (v := (-1000000001)) hx hb hr (fun t ht hW => ⟨⟨(-1000000001), (mL, fa, fe, mq2_33), rfl, trivial, by rw [ht]; exact hP.sub [3, 0, 1, 2, 4] rfl, hD.sub [3, 0, 1, 2, 4] (by decide +kernel) rfl⟩, hS.F ht⟩) hS.2.2 dX9_longer_22 hlk
set_option maxHeartbeats 4000000 in
set_option maxRecDepth 100000 in
theorem c_X9_of (l : Launch) (D : va_G) (cI cJ cZ cS : ClassId) (ta : Nat) (sa sv : Nat → Nat) (sz : Nat) (h0 : Nat) (ys : Nat) (yk : Nat) (yo : Nat) (yt : Nat) (mk0 : Int32) (yfa : Nat) (yfe : Nat) (mL : Int32) (mS : Int32) (mM : Int32) (yro : Nat) (yhe : Nat) (ygr : Nat) (mF : Int32) (mC : Int32) (mY : Int32) (yta : Nat) (mz : Nat) (mf : Nat) (mt : Nat) (mv : Int32) (mw : Int32) (ywa : Nat) (ybi : Nat) (ysi : Nat) (ynu : Nat) (ymo : Nat) (ms : Nat → Int32) (P : Nat) (Rn : Nat) (Wn : Nat) (fae : Nat → Int32) (fal : Nat → Int32) (fau : Nat → Int32) (fao : Nat → Int32) (farn : Nat → Int32) (farp : Nat → Int32) (fak : Nat → Int32) (fawn : Nat → Int32) (fawp : Nat → Int32) (fat : Nat → Int32) (fas : Nat → Int32) (j : Nat) (k : Nat) (hj : j < 8) (hk : k < 8) (hs0 : ms 0 = nI P) (hs1 : ms 1 = nI Rn) (hs2 : ms 2 = nI Wn) (hsS : SI ms) (hsM : MI ms) (hsp : P ≤ 10) (hsr : Rn ≤ 8) (hsw : Wn ≤ 8) (hsR : RI Rn ms) (hsG : FR P ms fae fal fau fao farn farp fak fawn fawp fat fas) : Met l yX9_of (Cond.code yX9_of cX9_of 3 (some .int) :: wsU) ({ frames := 0, cells := 0, slots := 0, locals := 0 }) (va_Pc [.ref h0, .int (nI (j)), .int (nI (k))] (XW D (xT cI cJ cZ cS) ta sa sv [(h0, .inr (9, [.ref ys, .ref yk, .ref yo, .ref yt, .int mk0, .ref yfa, .ref yfe, .int mL, .int mS, .int mM, .ref yro, .ref yhe, .ref ygr, .int mF, .int mC, .int mY, .ref yta, .int (nI (mz)), .int (nI (mf)), .int (nI (mt)), .int mv, .int mw, .ref ywa, .ref ybi, .ref ysi, .ref ynu, .ref ymo])), (ys, .inl (cI, 449, .inl ms))] sz)) (vp_Si (fun r : Int32 => (r = ms (313 + 8 * j + k)))) 0 0 (fun _ => False) := by
  refine xh (QA := fun _ => vp_Si (fun r : Int32 => (r = ms (313 + 8 * j + k)))) (fr := fun _ _ => False) (by decide) (Nat.le_of_ble_eq_true rfl) ?_
  intro p e s m below meth c ls A hF hr hlk hin hsz hP hK hD hN hZ hA hS hl
  have hF : CallFix p m c cX9_of 3 s _ _ RX9 := hF
  have hx := hF.1
  have hb := hF.2.1
  have hml := hF.2.2.1
  have hown := hF.2.2.2.1
  have hu : ∀ w ∈ wsU, w.before _ s = true := fun w h => hF.2.2.2.2 w (List.mem_cons_of_mem _ h)
  have hl : lv_has ls 3 [(0, .ref h0), (1, .int (nI (j))), (2, .int (nI (k)))] := hl
  refine lv_aload_n hx hb dX9_of_0 rfl (lv_at hl 0 rfl) ?_
  refine xg hF kf_X9_7 hK hP 0 rfl rfl dX9_of_1 ?_
  refine lv_sipush (v := 313) hx hb dX9_of_4 (by decide) ?_
  refine lv_bipush (v := 8) hx hb dX9_of_7 (by decide) ?_
  refine lv_iload_n hx hb dX9_of_9 rfl (lv_at hl 1 rfl) ?_
  refine lv_imul hx hb dX9_of_10 ?_
  refine xl_i (y := nI (8 * j)) (pk_mul 8 j) ?_
  refine lv_iadd hx hb dX9_of_11 ?_
  refine xl_i (y := nI (313 + (8 * j))) (nI_add 313 (8 * j)) ?_
  refine lv_iload_n hx hb dX9_of_12 rfl (lv_at hl 2 rfl) ?_
  refine lv_iadd hx hb dX9_of_13 ?_
  refine xl_i (y := nI (313 + (8 * j) + k)) (nI_add (313 + (8 * j)) k) ?_
  refine va_iald hx hb hK hP 1 0 rfl rfl (vp_in_nI (show 313 + (8 * j) + k < 449 by omega) (by decide)) dX9_of_14 ?_
  refine xl_i (y := ms (313 + (8 * j) + k)) (congrArg ms (nI_clamp (show 313 + (8 * j) + k < 2 ^ 31 by omega))) ?_
  exact W.iret (v := ms (313 + (8 * j) + k)) hx hb hr (fun t ht hW => ⟨ms (313 + (8 * j) + k), rfl, (by first | exact rfl), ht⟩) (fun q h => by cases h) dX9_of_15 hlk
set_option maxHeartbeats 4000000 in
set_option maxRecDepth 100000 in
theorem c_X9_ofs (l : Launch) (D : va_G) (cI cJ cZ cS : ClassId) (ta : Nat) (sa sv : Nat → Nat) (sz : Nat) (h0 : Nat) (ys : Nat) (yk : Nat) (yo : Nat) (yt : Nat) (mk0 : Int32) (yfa : Nat) (yfe : Nat) (mL : Int32) (mS : Int32) (mM : Int32) (yro : Nat) (yhe : Nat) (ygr : Nat) (mF : Int32) (mC : Int32) (mY : Int32) (yta : Nat) (mz : Nat) (mf : Nat) (mt : Nat) (mv : Int32) (mw : Int32) (ywa : Nat) (ybi : Nat) (ysi : Nat) (ynu : Nat) (ymo : Nat) (ms : Nat → Int32) (P : Nat) (Rn : Nat) (Wn : Nat) (fae : Nat → Int32) (fal : Nat → Int32) (fau : Nat → Int32) (fao : Nat → Int32) (farn : Nat → Int32) (farp : Nat → Int32) (fak : Nat → Int32) (fawn : Nat → Int32) (fawp : Nat → Int32) (fat : Nat → Int32) (fas : Nat → Int32) (j : Nat) (k : Nat) (hj : j < 8) (hk2 : 2 ≤ k) (hk : k < 8) (hs0 : ms 0 = nI P) (hs1 : ms 1 = nI Rn) (hs2 : ms 2 = nI Wn) (hsS : SI ms) (hsM : MI ms) (hsp : P ≤ 10) (hsr : Rn ≤ 8) (hsw : Wn ≤ 8) (hsR : RI Rn ms) (hsG : FR P ms fae fal fau fao farn farp fak fawn fawp fat fas) : Met l yX9_of (Cond.code yX9_of cX9_of 3 (some .int) :: wsU) ({ frames := 0, cells := 0, slots := 0, locals := 0 }) (va_Pc [.ref h0, .int (nI (j)), .int (nI (k))] (XW D (xT cI cJ cZ cS) ta sa sv [(h0, .inr (9, [.ref ys, .ref yk, .ref yo, .ref yt, .int mk0, .ref yfa, .ref yfe, .int mL, .int mS, .int mM, .ref yro, .ref yhe, .ref ygr, .int mF, .int mC, .int mY, .ref yta, .int (nI (mz)), .int (nI (mf)), .int (nI (mt)), .int mv, .int mw, .ref ywa, .ref ybi, .ref ysi, .ref ynu, .ref ymo])), (ys, .inl (cI, 449, .inl ms))] sz)) (vp_Si (fun r : Int32 => (∃ (y : Nat), r = nI (y) ∧ (y < 10) ∧ (ms (313 + 8 * j + k) = nI y)))) 0 0 (fun _ => False) := by
  refine xh (QA := fun _ => vp_Si (fun r : Int32 => (∃ (y : Nat), r = nI (y) ∧ (y < 10) ∧ (ms (313 + 8 * j + k) = nI y)))) (fr := fun _ _ => False) (by decide) (Nat.le_of_ble_eq_true rfl) ?_
  intro p e s m below meth c ls A hF hr hlk hin hsz hP hK hD hN hZ hA hS hl
  have hF : CallFix p m c cX9_of 3 s _ _ RX9 := hF
  have hx := hF.1
  have hb := hF.2.1
  have hml := hF.2.2.1
  have hown := hF.2.2.2.1
  have hu : ∀ w ∈ wsU, w.before _ s = true := fun w h => hF.2.2.2.2 w (List.mem_cons_of_mem _ h)
  have hl : lv_has ls 3 [(0, .ref h0), (1, .int (nI (j))), (2, .int (nI (k)))] := hl
  refine lv_aload_n hx hb dX9_of_0 rfl (lv_at hl 0 rfl) ?_
  refine xg hF kf_X9_7 hK hP 0 rfl rfl dX9_of_1 ?_
  refine lv_sipush (v := 313) hx hb dX9_of_4 (by decide) ?_
  refine lv_bipush (v := 8) hx hb dX9_of_7 (by decide) ?_
  refine lv_iload_n hx hb dX9_of_9 rfl (lv_at hl 1 rfl) ?_
  refine lv_imul hx hb dX9_of_10 ?_
  refine xl_i (y := nI (8 * j)) (pk_mul 8 j) ?_
  refine lv_iadd hx hb dX9_of_11 ?_
  refine xl_i (y := nI (313 + (8 * j))) (nI_add 313 (8 * j)) ?_
  refine lv_iload_n hx hb dX9_of_12 rfl (lv_at hl 2 rfl) ?_
  refine lv_iadd hx hb dX9_of_13 ?_
  refine xl_i (y := nI (313 + (8 * j) + k)) (nI_add (313 + (8 * j)) k) ?_
  refine va_iald hx hb hK hP 1 0 rfl rfl (vp_in_nI (show 313 + (8 * j) + k < 449 by omega) (by decide)) dX9_of_14 ?_
  refine xl_i (y := ms (313 + (8 * j) + k)) (congrArg ms (nI_clamp (show 313 + (8 * j) + k < 2 ^ 31 by omega))) ?_
  obtain ⟨z_1, ez_1, hz_10⟩ := hsS.rs2 j (k - 2) (by omega) (by omega) (show 313 + (8 * j) + k = _ by omega)
  refine xl_i (y := nI (z_1)) ez_1 ?_
  exact W.iret (v := nI (z_1)) hx hb hr (fun t ht hW => ⟨nI (z_1), rfl, (by first | exact ⟨z_1, rfl, (by first | assumption | omega | exact Or.inl (by first | assumption | omega) | exact Or.inr (by first | assumption | omega)), (by first | assumption | omega | exact Or.inl (by first | assumption | omega) | exact Or.inr (by first | assumption | omega))⟩), ht⟩) (fun q h => by cases h) dX9_of_15 hlk
set_option maxHeartbeats 4000000 in
set_option maxRecDepth 100000 in
theorem c_X9_of1 (l : Launch) (D : va_G) (cI cJ cZ cS : ClassId) (ta : Nat) (sa sv : Nat → Nat) (sz : Nat) (h0 : Nat) (ys : Nat) (yk : Nat) (yo : Nat) (yt : Nat) (mk0 : Int32) (yfa : Nat) (yfe : Nat) (mL : Int32) (mS : Int32) (mM : Int32) (yro : Nat) (yhe : Nat) (ygr : Nat) (mF : Int32) (mC : Int32) (mY : Int32) (yta : Nat) (mz : Nat) (mf : Nat) (mt : Nat) (mv : Int32) (mw : Int32) (ywa : Nat) (ybi : Nat) (ysi : Nat) (ynu : Nat) (ymo : Nat) (ms : Nat → Int32) (P : Nat) (Rn : Nat) (Wn : Nat) (fae : Nat → Int32) (fal : Nat → Int32) (fau : Nat → Int32) (fao : Nat → Int32) (farn : Nat → Int32) (farp : Nat → Int32) (fak : Nat → Int32) (fawn : Nat → Int32) (fawp : Nat → Int32) (fat : Nat → Int32) (fas : Nat → Int32) (j : Nat) (hj : j < Rn) (hs0 : ms 0 = nI P) (hs1 : ms 1 = nI Rn) (hs2 : ms 2 = nI Wn) (hsS : SI ms) (hsM : MI ms) (hsp : P ≤ 10) (hsr : Rn ≤ 8) (hsw : Wn ≤ 8) (hsR : RI Rn ms) (hsG : FR P ms fae fal fau fao farn farp fak fawn fawp fat fas) : Met l yX9_of (Cond.code yX9_of cX9_of 3 (some .int) :: wsU) ({ frames := 0, cells := 0, slots := 0, locals := 0 }) (va_Pc [.ref h0, .int (nI (j)), .int 1] (XW D (xT cI cJ cZ cS) ta sa sv [(h0, .inr (9, [.ref ys, .ref yk, .ref yo, .ref yt, .int mk0, .ref yfa, .ref yfe, .int mL, .int mS, .int mM, .ref yro, .ref yhe, .ref ygr, .int mF, .int mC, .int mY, .ref yta, .int (nI (mz)), .int (nI (mf)), .int (nI (mt)), .int mv, .int mw, .ref ywa, .ref ybi, .ref ysi, .ref ynu, .ref ymo])), (ys, .inl (cI, 449, .inl ms))] sz)) (vp_Si (fun r : Int32 => (∃ (q : Nat), r = nI (q) ∧ (1 ≤ q) ∧ (q < 7) ∧ (ms (313 + 8 * j + 1) = nI q)))) 0 0 (fun _ => False) := by
  refine xh (QA := fun _ => vp_Si (fun r : Int32 => (∃ (q : Nat), r = nI (q) ∧ (1 ≤ q) ∧ (q < 7) ∧ (ms (313 + 8 * j + 1) = nI q)))) (fr := fun _ _ => False) (by decide) (Nat.le_of_ble_eq_true rfl) ?_
  intro p e s m below meth c ls A hF hr hlk hin hsz hP hK hD hN hZ hA hS hl
  have hF : CallFix p m c cX9_of 3 s _ _ RX9 := hF
  have hx := hF.1
  have hb := hF.2.1
  have hml := hF.2.2.1
  have hown := hF.2.2.2.1
  have hu : ∀ w ∈ wsU, w.before _ s = true := fun w h => hF.2.2.2.2 w (List.mem_cons_of_mem _ h)
  have hl : lv_has ls 3 [(0, .ref h0), (1, .int (nI (j))), (2, .int 1)] := hl
  refine lv_aload_n hx hb dX9_of_0 rfl (lv_at hl 0 rfl) ?_
  refine xg hF kf_X9_7 hK hP 0 rfl rfl dX9_of_1 ?_
  refine lv_sipush (v := 313) hx hb dX9_of_4 (by decide) ?_
  refine lv_bipush (v := 8) hx hb dX9_of_7 (by decide) ?_
  refine lv_iload_n hx hb dX9_of_9 rfl (lv_at hl 1 rfl) ?_
  refine lv_imul hx hb dX9_of_10 ?_
  refine xl_i (y := nI (8 * j)) (pk_mul 8 j) ?_
  refine lv_iadd hx hb dX9_of_11 ?_
  refine xl_i (y := nI (313 + (8 * j))) (nI_add 313 (8 * j)) ?_
  refine lv_iload_n hx hb dX9_of_12 rfl (lv_at hl 2 rfl) ?_
  refine lv_iadd hx hb dX9_of_13 ?_
  refine xl_i (y := nI (313 + (8 * j) + 1)) (nI_add (313 + (8 * j)) 1) ?_
  refine va_iald hx hb hK hP 1 0 rfl rfl (vp_in_nI (show 313 + (8 * j) + 1 < 449 by omega) (by decide)) dX9_of_14 ?_
  refine xl_i (y := ms (313 + (8 * j) + 1)) (congrArg ms (nI_clamp (show 313 + (8 * j) + 1 < 2 ^ 31 by omega))) ?_
  obtain ⟨z_1, ez_1, hz_10, hz_11⟩ := hsR.len j (by omega) (by omega) (show 313 + (8 * j) + 1 = _ by omega)
  refine xl_i (y := nI (z_1)) ez_1 ?_
  exact W.iret (v := nI (z_1)) hx hb hr (fun t ht hW => ⟨nI (z_1), rfl, (by first | exact ⟨z_1, rfl, (by first | assumption | omega | exact Or.inl (by first | assumption | omega) | exact Or.inr (by first | assumption | omega)), (by first | assumption | omega | exact Or.inl (by first | assumption | omega) | exact Or.inr (by first | assumption | omega)), (by first | assumption | omega | exact Or.inl (by first | assumption | omega) | exact Or.inr (by first | assumption | omega))⟩), ht⟩) (fun q h => by cases h) dX9_of_15 hlk
set_option maxHeartbeats 4000000 in
set_option maxRecDepth 100000 in
theorem c_X9_round (l : Launch) (D : va_G) (cI cJ cZ cS : ClassId) (ta : Nat) (sa sv : Nat → Nat) (sz : Nat) (h0 : Nat) (ys : Nat) (yk : Nat) (yo : Nat) (yt : Nat) (mk0 : Int32) (yfa : Nat) (yfe : Nat) (mL : Int32) (mS : Int32) (mM : Int32) (yro : Nat) (yhe : Nat) (ygr : Nat) (mF : Int32) (mC : Int32) (mY : Int32) (yta : Nat) (mz : Nat) (mf : Nat) (mt : Nat) (mv : Int32) (mw : Int32) (ywa : Nat) (ybi : Nat) (ysi : Nat) (ynu : Nat) (ymo : Nat) (ms : Nat → Int32) (mq : Nat → Int32) (P : Nat) (Rn : Nat) (Wn : Nat) (fae : Nat → Int32) (fal : Nat → Int32) (fau : Nat → Int32) (fao : Nat → Int32) (farn : Nat → Int32) (farp : Nat → Int32) (fak : Nat → Int32) (fawn : Nat → Int32) (fawp : Nat → Int32) (fat : Nat → Int32) (fas : Nat → Int32) (p0 : Int32) (p1 : Int32) (hs0 : ms 0 = nI P) (hs1 : ms 1 = nI Rn) (hs2 : ms 2 = nI Wn) (hsS : SI ms) (hsM : MI ms) (hsp : P ≤ 10) (hsr : Rn ≤ 8) (hsw : Wn ≤ 8) (hsR : RI Rn ms) (hsG : FR P ms fae fal fau fao farn farp fak fawn fawp fat fas) : Met l yX9_round (Cond.code yX9_round cX9_round 4 (some .int) :: wsU) ({ frames := 2, cells := 0, slots := 0, locals := 46 }) (va_Pc [.ref h0, .int p0, .int p1] (XW D (xT cI cJ cZ cS) ta sa sv [(h0, .inr (9, [.ref ys, .ref yk, .ref yo, .ref yt, .int mk0, .ref yfa, .ref yfe, .int mL, .int mS, .int mM, .ref yro, .ref yhe, .ref ygr, .int mF, .int mC, .int mY, .ref yta, .int (nI (mz)), .int (nI (mf)), .int (nI (mt)), .int mv, .int mw, .ref ywa, .ref ybi, .ref ysi, .ref ynu, .ref ymo])), (ys, .inl (cI, 449, .inl ms)), (yt, .inl (cI, 7, .inl mq))] sz)) (XQi (fun (r : Int32) (u : (Nat → Int32) × (Nat → Int32) × Nat × (Nat → Int32) × (Nat → Int32) × (Nat → Int32)) => match u with | (ms2, mq2, R2, grn, grp, gk) => ((r = sp_rdr P Rn p0 p1)) ∧ (R2 = sp_rd P Rn p0 p1) ∧ (gk = rdK P Rn p0 p1 fak) ∧ (grn = rdL P Rn p0 p1 farn) ∧ (grp = rdS P Rn p0 p1 farp) ∧ (ms2 0 = nI P) ∧ (ms2 1 = nI R2) ∧ (ms2 2 = nI Wn) ∧ (SI ms2) ∧ (MI ms2) ∧ (P ≤ 10) ∧ (R2 ≤ 8) ∧ (Wn ≤ 8) ∧ (RI R2 ms2) ∧ (FR P ms2 fae fal fau fao grn grp gk fawn fawp fat fas)) D (fun (u : (Nat → Int32) × (Nat → Int32) × Nat × (Nat → Int32) × (Nat → Int32) × (Nat → Int32)) => match u with | (ms2, mq2, R2, grn, grp, gk) => [(h0, .inr (9, [.ref ys, .ref yk, .ref yo, .ref yt, .int mk0, .ref yfa, .ref yfe, .int mL, .int mS, .int mM, .ref yro, .ref yhe, .ref ygr, .int mF, .int mC, .int mY, .ref yta, .int (nI (mz)), .int (nI (mf)), .int (nI (mt)), .int mv, .int mw, .ref ywa, .ref ybi, .ref ysi, .ref ynu, .ref ymo])), (ys, .inl (cI, 449, .inl ms2)), (yt, .inl (cI, 7, .inl mq2))]) (va_A [(h0, .inr (9, [.ref ys, .ref yk, .ref yo, .ref yt, .int mk0, .ref yfa, .ref yfe, .int mL, .int mS, .int mM, .ref yro, .ref yhe, .ref ygr, .int mF, .int mC, .int mY, .ref yta, .int (nI (mz)), .int (nI (mf)), .int (nI (mt)), .int mv, .int mw, .ref ywa, .ref ybi, .ref ysi, .ref ynu, .ref ymo])), (ys, .inl (cI, 449, .inl ms)), (yt, .inl (cI, 7, .inl mq))] sz)) 0 0 (va_A [(h0, .inr (9, [.ref ys, .ref yk, .ref yo, .ref yt, .int mk0, .ref yfa, .ref yfe, .int mL, .int mS, .int mM, .ref yro, .ref yhe, .ref ygr, .int mF, .int mC, .int mY, .ref yta, .int (nI (mz)), .int (nI (mf)), .int (nI (mt)), .int mv, .int mw, .ref ywa, .ref ybi, .ref ysi, .ref ynu, .ref ymo])), (ys, .inl (cI, 449, .inl ms)), (yt, .inl (cI, 7, .inl mq))] sz) := by
  refine xh (QA := fun A => XQi (fun (r : Int32) (u : (Nat → Int32) × (Nat → Int32) × Nat × (Nat → Int32) × (Nat → Int32) × (Nat → Int32)) => match u with | (ms2, mq2, R2, grn, grp, gk) => ((r = sp_rdr P Rn p0 p1)) ∧ (R2 = sp_rd P Rn p0 p1) ∧ (gk = rdK P Rn p0 p1 fak) ∧ (grn = rdL P Rn p0 p1 farn) ∧ (grp = rdS P Rn p0 p1 farp) ∧ (ms2 0 = nI P) ∧ (ms2 1 = nI R2) ∧ (ms2 2 = nI Wn) ∧ (SI ms2) ∧ (MI ms2) ∧ (P ≤ 10) ∧ (R2 ≤ 8) ∧ (Wn ≤ 8) ∧ (RI R2 ms2) ∧ (FR P ms2 fae fal fau fao grn grp gk fawn fawp fat fas)) D (fun (u : (Nat → Int32) × (Nat → Int32) × Nat × (Nat → Int32) × (Nat → Int32) × (Nat → Int32)) => match u with | (ms2, mq2, R2, grn, grp, gk) => [(h0, .inr (9, [.ref ys, .ref yk, .ref yo, .ref yt, .int mk0, .ref yfa, .ref yfe, .int mL, .int mS, .int mM, .ref yro, .ref yhe, .ref ygr, .int mF, .int mC, .int mY, .ref yta, .int (nI (mz)), .int (nI (mf)), .int (nI (mt)), .int mv, .int mw, .ref ywa, .ref ybi, .ref ysi, .ref ynu, .ref ymo])), (ys, .inl (cI, 449, .inl ms2)), (yt, .inl (cI, 7, .inl mq2))]) A) (fr := fun A => A) (by decide) (Nat.le_of_ble_eq_true rfl) ?_
  intro p e s m below meth c ls A hF hr hlk hin hsz hP hK hD hN hZ hA hS hl
  have hF : CallFix p m c cX9_round 4 s _ _ RX9 := hF
  have hx := hF.1
  have hb := hF.2.1
  have hml := hF.2.2.1
  have hown := hF.2.2.2.1
  have hu : ∀ w ∈ wsU, w.before _ s = true := fun w h => hF.2.2.2.2 w (List.mem_cons_of_mem _ h)
  have hl : lv_has ls 4 [(0, .ref h0), (1, .int p0), (2, .int p1)] := hl
  refine lv_iload_n hx hb dX9_round_0 rfl (lv_at hl 1 rfl) ?_
  refine lv_i2l (v := p0.toInt64) hx hb dX9_round_1 rfl ?_
  refine lv_lconst (v := 0) hx hb dX9_round_2 (by decide) ?_
  refine xl_l (y := (0 : Int32).toInt64) (by decide) ?_
  refine lv_ldc2 (v := 6) hx hb hown (hu _ uw719) dX9_round_3 ?_
  refine xl_l (y := (6 : Int32).toInt64) (by decide) ?_
  refine xc_Sr hF (c_X9_in l D cI cJ cZ cS ta sa sv s.heap.size p0 0 6 ) ks_X9_57 ⟨rfl, rfl, Nat.le_of_ble_eq_true rfl, Nat.le_of_ble_eq_true rfl⟩ ⟨Nat.le_of_ble_eq_true rfl, Nat.le_of_ble_eq_true rfl⟩ hK hN hZ hP hD hS hA [] rfl rfl rfl hl.1 rfl (Nat.le_of_ble_eq_true rfl) dX9_round_6 (fun r_1 hw_r_1 => ?_)
  rcases hw_r_1 with ⟨rfl, h_2, h_3⟩ | ⟨rfl, h_4⟩
  · skip
    refine lv_if_eq (tgt := 20) hx hb dX9_round_9 (by decide) (fun c_5 => absurd c_5 (by decide)) (fun c_5 => ?_)
    refine lv_aload_n hx hb dX9_round_12 rfl (lv_at hl 0 rfl) ?_
    refine lv_iload_n hx hb dX9_round_13 rfl (lv_at hl 2 rfl) ?_
    refine xc_Vr hF (c_X9_isPlace l D cI cJ cZ cS ta sa sv s.heap.size h0 ys yk yo yt mk0 yfa yfe mL mS mM yro yhe ygr mF mC mY yta mz mf mt mv mw ywa ybi ysi ynu ymo ms P Rn Wn fae fal fau fao farn farp fak fawn fawp fat fas p1 hs0 hs1 hs2 hsS hsM hsp hsr hsw hsR hsG) kv_X9_61 ⟨rfl, rfl, Nat.le_of_ble_eq_true rfl, Nat.le_of_ble_eq_true rfl⟩ ⟨Nat.le_of_ble_eq_true rfl, Nat.le_of_ble_eq_true rfl⟩ hK hN hZ hP hD hS hA [0, 1] rfl rfl 0 rfl rfl rfl rfl hl.1 rfl (Nat.le_of_ble_eq_true rfl) dX9_round_14 (fun r_6 hw_r_6 => ?_)
    rcases hw_r_6 with ⟨k_7, rfl, rfl, h_9⟩ | ⟨rfl, h_10⟩
    · skip
      refine lv_if_ne (tgt := 27) hx hb dX9_round_17 (by decide) (fun c_11 => ?_) (fun c_11 => absurd c_11 (by decide))
      refine lv_aload_n hx hb dX9_round_27 rfl (lv_at hl 0 rfl) ?_
      refine xg hF kf_X9_7 hK hP 0 rfl rfl dX9_round_28 ?_
      refine lv_iconst (v := 1) hx hb dX9_round_31 (by decide) ?_
      refine va_iald hx hb hK hP 1 0 rfl rfl (xin 1 449 (by decide) (by decide)) dX9_round_32 ?_
      refine xl_i (y := nI (Rn)) hs1 ?_
      refine lv_bipush (v := 8) hx hb dX9_round_33 (by decide) ?_
      refine lv_icmp_ne (tgt := 45) hx hb dX9_round_35 (by decide) (fun c_12 => ?_) (fun c_12 => ?_)
      · skip
        have nc_12 : Rn ≠ 8 := xn_ne (a := Rn) (b := 8) (by omega) (by omega) c_12
        refine lv_sipush (v := 313) hx hb dX9_round_45 (by decide) ?_
        refine lv_bipush (v := 8) hx hb dX9_round_48 (by decide) ?_
        refine lv_aload_n hx hb dX9_round_50 rfl (lv_at hl 0 rfl) ?_
        refine xg hF kf_X9_7 hK hP 0 rfl rfl dX9_round_51 ?_
        refine lv_iconst (v := 1) hx hb dX9_round_54 (by decide) ?_
        refine va_iald hx hb hK hP 1 0 rfl rfl (xin 1 449 (by decide) (by decide)) dX9_round_55 ?_
        refine xl_i (y := nI (Rn)) hs1 ?_
        refine lv_imul hx hb dX9_round_56 ?_
        refine xl_i (y := nI (8 * Rn)) (pk_mul 8 Rn) ?_
        refine lv_iadd hx hb dX9_round_57 ?_
        refine xl_i (y := nI (313 + (8 * Rn))) (nI_add 313 (8 * Rn)) ?_
        refine lv_istore_n (lv' := [(3, .int (nI (313 + (8 * Rn)))), (0, .ref h0), (1, .int p0), (2, .int (nI (k_7)))]) hx hb dX9_round_58 rfl hl (by decide) rfl (fun ls hl => ?_)
        refine lv_aload_n hx hb dX9_round_59 rfl (lv_at hl 1 rfl) ?_
        refine xg hF kf_X9_7 hK hP 0 rfl rfl dX9_round_60 ?_
        refine lv_iload_n hx hb dX9_round_63 rfl (lv_at hl 0 rfl) ?_
        refine lv_iload_n hx hb dX9_round_64 rfl (lv_at hl 2 rfl) ?_
        refine va_iast hx hb hK hP hD hS 1 0 rfl rfl (vp_in_nI (show 313 + (8 * Rn) < 449 by omega) (by decide)) dX9_round_65 (fun H locs hP hD hS => ?_)
        rw [nI_clamp (show 313 + (8 * Rn) < 2 ^ 31 by omega)] at hP hD
        obtain ⟨f_13, ef_13⟩ : ∃ g, g = upd ms (313 + (8 * Rn)) p0 := ⟨_, rfl⟩
        rw [← ef_13] at hP hD
        have k0_f_13 : f_13 0 = nI P := by rw [ef_13]; exact (pk_un (show 0 ≠ (313 + (8 * Rn)) by omega)).trans hs0
        have k1_f_13 : f_13 1 = nI Rn := by rw [ef_13]; exact (pk_un (show 1 ≠ (313 + (8 * Rn)) by omega)).trans hs1
        have k2_f_13 : f_13 2 = nI Wn := by rw [ef_13]; exact (pk_un (show 2 ≠ (313 + (8 * Rn)) by omega)).trans hs2
        have kS_f_13 : SI f_13 := by rw [ef_13]; exact SI.upd hsS (okS.kind (r := Rn) (by omega) (by omega))
        have kM_f_13 : MI f_13 := by rw [ef_13]; exact MI.upd hsM (okM.out (show (313 + (8 * Rn)) < 13 ∨ 113 ≤ (313 + (8 * Rn)) by omega))
        have kR_f_13 : RI Rn f_13 := by rw [ef_13]; exact RI.upd hsR (fun r9 hr9 e9 => by omega)
        have kG_f_13 : FR P f_13 fae fal fau fao farn farp (upd fak (Rn) p0) fawn fawp fat fas := by rw [ef_13]; exact FR.pk hsG (show Rn < 8 by omega) (by omega)
        have hP : va_P D vwCl [(h0, .inr (9, [.ref ys, .ref yk, .ref yo, .ref yt, .int mk0, .ref yfa, .ref yfe, .int mL, .int mS, .int mM, .ref yro, .ref yhe, .ref ygr, .int mF, .int mC, .int mY, .ref yta, .int (nI (mz)), .int (nI (mf)), .int (nI (mt)), .int mv, .int mw, .ref ywa, .ref ybi, .ref ysi, .ref ynu, .ref ymo])), (ys, .inl (cI, 449, .inl f_13)), (yt, .inl (cI, 7, .inl mq))] H := hP
        have hD : va_D A [(h0, .inr (9, [.ref ys, .ref yk, .ref yo, .ref yt, .int mk0, .ref yfa, .ref yfe, .int mL, .int mS, .int mM, .ref yro, .ref yhe, .ref ygr, .int mF, .int mC, .int mY, .ref yta, .int (nI (mz)), .int (nI (mf)), .int (nI (mt)), .int mv, .int mw, .ref ywa, .ref ybi, .ref ysi, .ref ynu, .ref ymo])), (ys, .inl (cI, 449, .inl f_13)), (yt, .inl (cI, 7, .inl mq))] := hD
        refine lv_aload_n hx hb dX9_round_66 rfl (lv_at hl 1 rfl) ?_
        refine xg hF kf_X9_7 hK hP 0 rfl rfl dX9_round_67 ?_
        refine lv_iload_n hx hb dX9_round_70 rfl (lv_at hl 0 rfl) ?_
        refine lv_iconst (v := 1) hx hb dX9_round_71 (by decide) ?_
        refine lv_iadd hx hb dX9_round_72 ?_
        refine xl_i (y := nI (313 + (8 * Rn) + 1)) (nI_add (313 + (8 * Rn)) 1) ?_
        refine lv_iconst (v := 1) hx hb dX9_round_73 (by decide) ?_
        refine va_iast hx hb hK hP hD hS 1 0 rfl rfl (vp_in_nI (show 313 + (8 * Rn) + 1 < 449 by omega) (by decide)) dX9_round_74 (fun H locs hP hD hS => ?_)
        rw [nI_clamp (show 313 + (8 * Rn) + 1 < 2 ^ 31 by omega)] at hP hD
        obtain ⟨f_14, ef_14⟩ : ∃ g, g = upd f_13 (313 + (8 * Rn) + 1) 1 := ⟨_, rfl⟩
        rw [← ef_14] at hP hD
        have k0_f_14 : f_14 0 = nI P := by rw [ef_14]; exact (pk_un (show 0 ≠ (313 + (8 * Rn) + 1) by omega)).trans k0_f_13
        have k1_f_14 : f_14 1 = nI Rn := by rw [ef_14]; exact (pk_un (show 1 ≠ (313 + (8 * Rn) + 1) by omega)).trans k1_f_13
        have k2_f_14 : f_14 2 = nI Wn := by rw [ef_14]; exact (pk_un (show 2 ≠ (313 + (8 * Rn) + 1) by omega)).trans k2_f_13
        have kS_f_14 : SI f_14 := by rw [ef_14]; exact SI.upd kS_f_13 (okS.rl (r := Rn) (q := 1) (by omega) (by omega) (by decide))
        have kM_f_14 : MI f_14 := by rw [ef_14]; exact MI.upd kM_f_13 (okM.out (show (313 + (8 * Rn) + 1) < 13 ∨ 113 ≤ (313 + (8 * Rn) + 1) by omega))
        have kR_f_14 : RI Rn f_14 := by rw [ef_14]; exact RI.upd kR_f_13 (fun _ _ _ => ⟨1, by decide, by decide, rfl⟩)
        have kG_f_14 : FR P f_14 fae fal fau fao (upd farn (Rn) 1) farp (upd fak (Rn) p0) fawn fawp fat fas := by rw [ef_14]; exact FR.prn kG_f_13 (show Rn < 8 by omega) (by omega)
        have hP : va_P D vwCl [(h0, .inr (9, [.ref ys, .ref yk, .ref yo, .ref yt, .int mk0, .ref yfa, .ref yfe, .int mL, .int mS, .int mM, .ref yro, .ref yhe, .ref ygr, .int mF, .int mC, .int mY, .ref yta, .int (nI (mz)), .int (nI (mf)), .int (nI (mt)), .int mv, .int mw, .ref ywa, .ref ybi, .ref ysi, .ref ynu, .ref ymo])), (ys, .inl (cI, 449, .inl f_14)), (yt, .inl (cI, 7, .inl mq))] H := hP
        have hD : va_D A [(h0, .inr (9, [.ref ys, .ref yk, .ref yo, .ref yt, .int mk0, .ref yfa, .ref yfe, .int mL, .int mS, .int mM, .ref yro, .ref yhe, .ref ygr, .int mF, .int mC, .int mY, .ref yta, .int (nI (mz)), .int (nI (mf)), .int (nI (mt)), .int mv, .int mw, .ref ywa, .ref ybi, .ref ysi, .ref ynu, .ref ymo])), (ys, .inl (cI, 449, .inl f_14)), (yt, .inl (cI, 7, .inl mq))] := hD
        refine lv_aload_n hx hb dX9_round_75 rfl (lv_at hl 1 rfl) ?_
        refine xg hF kf_X9_7 hK hP 0 rfl rfl dX9_round_76 ?_
        refine lv_iload_n hx hb dX9_round_79 rfl (lv_at hl 0 rfl) ?_
        refine lv_iconst (v := 2) hx hb dX9_round_80 (by decide) ?_
        refine lv_iadd hx hb dX9_round_81 ?_
        refine xl_i (y := nI (313 + (8 * Rn) + 2)) (nI_add (313 + (8 * Rn)) 2) ?_
        refine lv_iload_n hx hb dX9_round_82 rfl (lv_at hl 3 rfl) ?_
        refine va_iast hx hb hK hP hD hS 1 0 rfl rfl (vp_in_nI (show 313 + (8 * Rn) + 2 < 449 by omega) (by decide)) dX9_round_83 (fun H locs hP hD hS => ?_)
        rw [nI_clamp (show 313 + (8 * Rn) + 2 < 2 ^ 31 by omega)] at hP hD
        obtain ⟨f_15, ef_15⟩ : ∃ g, g = upd f_14 (313 + (8 * Rn) + 2) (nI (k_7)) := ⟨_, rfl⟩
        rw [← ef_15] at hP hD
        have k0_f_15 : f_15 0 = nI P := by rw [ef_15]; exact (pk_un (show 0 ≠ (313 + (8 * Rn) + 2) by omega)).trans k0_f_14
        have k1_f_15 : f_15 1 = nI Rn := by rw [ef_15]; exact (pk_un (show 1 ≠ (313 + (8 * Rn) + 2) by omega)).trans k1_f_14
        have k2_f_15 : f_15 2 = nI Wn := by rw [ef_15]; exact (pk_un (show 2 ≠ (313 + (8 * Rn) + 2) by omega)).trans k2_f_14
        have kS_f_15 : SI f_15 := by rw [ef_15]; exact SI.upd kS_f_14 (okS.rs (r := Rn) (i := 0) (by omega) (by omega) (by omega) (show k_7 < 10 by omega))
        have kM_f_15 : MI f_15 := by rw [ef_15]; exact MI.upd kM_f_14 (okM.out (show (313 + (8 * Rn) + 2) < 13 ∨ 113 ≤ (313 + (8 * Rn) + 2) by omega))
        have kR_f_15 : RI Rn f_15 := by rw [ef_15]; exact RI.upd kR_f_14 (fun r9 hr9 e9 => by omega)
        have kG_f_15 : FR P f_15 fae fal fau fao (upd farn (Rn) 1) (upd farp (Rn * 6 + 0) (nI (k_7))) (upd fak (Rn) p0) fawn fawp fat fas := by rw [ef_15]; exact FR.prp kG_f_14 (show Rn < 8 by omega) (show 0 < 6 by omega) (by omega)
        have hP : va_P D vwCl [(h0, .inr (9, [.ref ys, .ref yk, .ref yo, .ref yt, .int mk0, .ref yfa, .ref yfe, .int mL, .int mS, .int mM, .ref yro, .ref yhe, .ref ygr, .int mF, .int mC, .int mY, .ref yta, .int (nI (mz)), .int (nI (mf)), .int (nI (mt)), .int mv, .int mw, .ref ywa, .ref ybi, .ref ysi, .ref ynu, .ref ymo])), (ys, .inl (cI, 449, .inl f_15)), (yt, .inl (cI, 7, .inl mq))] H := hP
        have hD : va_D A [(h0, .inr (9, [.ref ys, .ref yk, .ref yo, .ref yt, .int mk0, .ref yfa, .ref yfe, .int mL, .int mS, .int mM, .ref yro, .ref yhe, .ref ygr, .int mF, .int mC, .int mY, .ref yta, .int (nI (mz)), .int (nI (mf)), .int (nI (mt)), .int mv, .int mw, .ref ywa, .ref ybi, .ref ysi, .ref ynu, .ref ymo])), (ys, .inl (cI, 449, .inl f_15)), (yt, .inl (cI, 7, .inl mq))] := hD
        refine lv_aload_n hx hb dX9_round_84 rfl (lv_at hl 1 rfl) ?_
        refine xg hF kf_X9_7 hK hP 0 rfl rfl dX9_round_85 ?_
        refine lv_iconst (v := 1) hx hb dX9_round_88 (by decide) ?_
        refine lv_dup2_11 hx hb dX9_round_89 rfl rfl ?_
        refine va_iald hx hb hK hP 1 0 rfl rfl (xin 1 449 (by decide) (by decide)) dX9_round_90 ?_
        refine xl_i (y := nI (Rn)) k1_f_15 ?_
        refine lv_iconst (v := 1) hx hb dX9_round_91 (by decide) ?_
        refine lv_iadd hx hb dX9_round_92 ?_
        refine xl_i (y := nI (Rn + 1)) (nI_add Rn 1) ?_
        refine va_iast hx hb hK hP hD hS 1 0 rfl rfl (xin 1 449 (by decide) (by decide)) dX9_round_93 (fun H locs hP hD hS => ?_)
        obtain ⟨f_16, ef_16⟩ : ∃ g, g = upd f_15 1 (nI (Rn + 1)) := ⟨_, rfl⟩
        have hP : va_P D vwCl [(h0, .inr (9, [.ref ys, .ref yk, .ref yo, .ref yt, .int mk0, .ref yfa, .ref yfe, .int mL, .int mS, .int mM, .ref yro, .ref yhe, .ref ygr, .int mF, .int mC, .int mY, .ref yta, .int (nI (mz)), .int (nI (mf)), .int (nI (mt)), .int mv, .int mw, .ref ywa, .ref ybi, .ref ysi, .ref ynu, .ref ymo])), (ys, .inl (cI, 449, .inl (upd f_15 1 (nI (Rn + 1))))), (yt, .inl (cI, 7, .inl mq))] H := hP
        have hD : va_D A [(h0, .inr (9, [.ref ys, .ref yk, .ref yo, .ref yt, .int mk0, .ref yfa, .ref yfe, .int mL, .int mS, .int mM, .ref yro, .ref yhe, .ref ygr, .int mF, .int mC, .int mY, .ref yta, .int (nI (mz)), .int (nI (mf)), .int (nI (mt)), .int mv, .int mw, .ref ywa, .ref ybi, .ref ysi, .ref ynu, .ref ymo])), (ys, .inl (cI, 449, .inl (upd f_15 1 (nI (Rn + 1))))), (yt, .inl (cI, 7, .inl mq))] := hD
        rw [← ef_16] at hP hD
        have k0_f_16 : f_16 0 = nI P := by rw [ef_16]; exact (pk_un (show 0 ≠ 1 by omega)).trans k0_f_15
        have k1_f_16 : f_16 1 = nI (Rn + 1) := by rw [ef_16]; exact pk_us
        have kr_f_16 : Rn + 1 ≤ 8 := by omega
        have k2_f_16 : f_16 2 = nI Wn := by rw [ef_16]; exact (pk_un (show 2 ≠ 1 by omega)).trans k2_f_15
        have kS_f_16 : SI f_16 := by rw [ef_16]; exact SI.upd kS_f_15 (okS.low (show 1 < 313 by omega))
        have kM_f_16 : MI f_16 := by rw [ef_16]; exact MI.upd kM_f_15 (okM.out (show 1 < 13 ∨ 113 ≤ 1 by omega))
        have kR_f_16 : RI (Rn + 1) f_16 := by rw [ef_16]; exact RI.upd (RI.more kR_f_15 ⟨1, by decide, by decide, (by rw [ef_15]; exact (pk_un (by omega)).trans (by rw [ef_14]; exact pk_us))⟩) (fun r9 hr9 e9 => by omega)
        have kG_f_16 : FR P f_16 fae fal fau fao (upd farn (Rn) 1) (upd farp (Rn * 6 + 0) (nI (k_7))) (upd fak (Rn) p0) fawn fawp fat fas := by rw [ef_16]; exact FR.cnt kG_f_15 (by decide)
        have hP : va_P D vwCl [(h0, .inr (9, [.ref ys, .ref yk, .ref yo, .ref yt, .int mk0, .ref yfa, .ref yfe, .int mL, .int mS, .int mM, .ref yro, .ref yhe, .ref ygr, .int mF, .int mC, .int mY, .ref yta, .int (nI (mz)), .int (nI (mf)), .int (nI (mt)), .int mv, .int mw, .ref ywa, .ref ybi, .ref ysi, .ref ynu, .ref ymo])), (ys, .inl (cI, 449, .inl f_16)), (yt, .inl (cI, 7, .inl mq))] H := hP
        have hD : va_D A [(h0, .inr (9, [.ref ys, .ref yk, .ref yo, .ref yt, .int mk0, .ref yfa, .ref yfe, .int mL, .int mS, .int mM, .ref yro, .ref yhe, .ref ygr, .int mF, .int mC, .int mY, .ref yta, .int (nI (mz)), .int (nI (mf)), .int (nI (mt)), .int mv, .int mw, .ref ywa, .ref ybi, .ref ysi, .ref ynu, .ref ymo])), (ys, .inl (cI, 449, .inl f_16)), (yt, .inl (cI, 7, .inl mq))] := hD
        refine lv_aload_n hx hb dX9_round_94 rfl (lv_at hl 1 rfl) ?_
        refine xg hF kf_X9_7 hK hP 0 rfl rfl dX9_round_95 ?_
        refine lv_iconst (v := 1) hx hb dX9_round_98 (by decide) ?_
        refine va_iald hx hb hK hP 1 0 rfl rfl (xin 1 449 (by decide) (by decide)) dX9_round_99 ?_
        refine xl_i (y := nI (Rn + 1)) k1_f_16 ?_
        refine lv_iconst (v := 1) hx hb dX9_round_100 (by decide) ?_
        refine lv_isub hx hb dX9_round_101 ?_
        refine xl_i (y := nI (Rn + 1 - 1)) (pk_sub (show 1 ≤ Rn + 1 by omega)) ?_
        exact W.iret (v := nI (Rn + 1 - 1)) hx hb hr (fun t ht hW => ⟨⟨nI (Rn + 1 - 1), (f_16, mq, Rn + 1, upd farn (Rn) 1, upd farp (Rn * 6 + 0) (nI (k_7)), upd fak (Rn) p0), rfl, ⟨(sp_rd1 ⟨⟨h_2, h_3⟩, isP_nI (by omega) (by omega)⟩ (by omega)).2, (sp_rd1 ⟨⟨h_2, h_3⟩, isP_nI (by omega) (by omega)⟩ (by omega)).1, (if_pos (show okRn P Rn p0 _ from ⟨⟨⟨h_2, h_3⟩, isP_nI (by omega) (by omega)⟩, by omega⟩)).symm, (rdL_1 (show okRn P Rn p0 _ from ⟨⟨⟨h_2, h_3⟩, isP_nI (by omega) (by omega)⟩, by omega⟩)), (if_pos (show okRn P Rn p0 _ from ⟨⟨⟨h_2, h_3⟩, isP_nI (by omega) (by omega)⟩, by omega⟩)).symm, k0_f_16, k1_f_16, k2_f_16, kS_f_16, kM_f_16, hsp, kr_f_16, hsw, kR_f_16, kG_f_16⟩, by rw [ht]; exact hP.sub [0, 1, 2] rfl, hD.sub [0, 1, 2] (by decide) rfl⟩, hS.F ht⟩) hS.2.2 dX9_round_102 hlk
      · skip
        have nc_12 : Rn = 8 := xn_eq (a := Rn) (b := 8) (by omega) (by omega) c_12
        refine lv_aload_n hx hb dX9_round_38 rfl (lv_at hl 0 rfl) ?_
        refine lv_ldc (v := (-1000000002)) hx hb hown (hu _ uw676) dX9_round_39 ?_
        refine xc_Vi (wr := [(ys, .inl (cI, 449, .inl ms))]) hF (c_X9_finds_F l D cI cJ cZ cS ta sa sv s.heap.size h0 ys yk yo yt mk0 yfa yfe mL mS mM yro yhe ygr mF mC mY yta mz mf mt mv mw ywa ybi ysi ynu ymo mq ) kv_X9_70 ⟨rfl, rfl, Nat.le_of_ble_eq_true rfl, Nat.le_of_ble_eq_true rfl⟩ ⟨Nat.le_of_ble_eq_true rfl, Nat.le_of_ble_eq_true rfl⟩ hK hN hZ hP hD hS hA [0, 2] [1] rfl rfl rfl rfl (by decide) 0 rfl rfl rfl rfl hl.1 rfl (Nat.le_of_ble_eq_true rfl) dX9_round_41 (fun r_17 u_r_17 H locs hw_r_17 hP hD hS => ?_)
        obtain ⟨mq2_18, rfl⟩ : ∃ z, z = u_r_17 := ⟨_, rfl⟩
        try dsimp only at hw_r_17
        have hP : va_P D vwCl [(ys, .inl (cI, 449, .inl ms)), (h0, .inr (9, [.ref ys, .ref yk, .ref yo, .ref yt, .int mk0, .ref yfa, .ref yfe, .int mL, .int mS, .int mM, .ref yro, .ref yhe, .ref ygr, .int mF, .int mC, .int mY, .ref yta, .int (nI (mz)), .int (nI (mf)), .int (nI (mt)), .int mv, .int mw, .ref ywa, .ref ybi, .ref ysi, .ref ynu, .ref ymo])), (yt, .inl (cI, 7, .inl mq2_18))] H := hP
        have hD : va_D A [(ys, .inl (cI, 449, .inl ms)), (h0, .inr (9, [.ref ys, .ref yk, .ref yo, .ref yt, .int mk0, .ref yfa, .ref yfe, .int mL, .int mS, .int mM, .ref yro, .ref yhe, .ref ygr, .int mF, .int mC, .int mY, .ref yta, .int (nI (mz)), .int (nI (mf)), .int (nI (mt)), .int mv, .int mw, .ref ywa, .ref ybi, .ref ysi, .ref ynu, .ref ymo])), (yt, .inl (cI, 7, .inl mq2_18))] := hD
        subst hw_r_17
        exact W.iret (v := (-1000000002)) hx hb hr (fun t ht hW => ⟨⟨(-1000000002), (ms, mq2_18, Rn, farn, farp, fak), rfl, ⟨(sp_rd2 ⟨⟨h_2, h_3⟩, isP_nI (by omega) (by omega)⟩ (by omega)).2, (sp_rd2 ⟨⟨h_2, h_3⟩, isP_nI (by omega) (by omega)⟩ (by omega)).1, (if_neg (fun h => absurd h.2 (by omega))).symm, (if_neg (fun h => absurd h.2 (by omega))).symm, (if_neg (fun h => absurd h.2 (by omega))).symm, hs0, hs1, hs2, hsS, hsM, hsp, hsr, hsw, hsR, hsG⟩, by rw [ht]; exact hP.sub [1, 0, 2] rfl, hD.sub [1, 0, 2] (by decide) rfl⟩, hS.F ht⟩) hS.2.2 dX9_round_44 hlk
    · skip
      refine lv_if_ne (tgt := 27) hx hb dX9_round_17 (by decide) (fun c_19 => absurd (by decide) c_19) (fun c_19 => ?_)
      refine lv_aload_n hx hb dX9_round_20 rfl (lv_at hl 0 rfl) ?_
      refine lv_ldc (v := (-1000000001)) hx hb hown (hu _ uw648) dX9_round_21 ?_
      refine xc_Vi (wr := [(ys, .inl (cI, 449, .inl ms))]) hF (c_X9_finds_B l D cI cJ cZ cS ta sa sv s.heap.size h0 ys yk yo yt mk0 yfa yfe mL mS mM yro yhe ygr mF mC mY yta mz mf mt mv mw ywa ybi ysi ynu ymo mq ) kv_X9_70 ⟨rfl, rfl, Nat.le_of_ble_eq_true rfl, Nat.le_of_ble_eq_true rfl⟩ ⟨Nat.le_of_ble_eq_true rfl, Nat.le_of_ble_eq_true rfl⟩ hK hN hZ hP hD hS hA [0, 2] [1] rfl rfl rfl rfl (by decide) 0 rfl rfl rfl rfl hl.1 rfl (Nat.le_of_ble_eq_true rfl) dX9_round_23 (fun r_20 u_r_20 H locs hw_r_20 hP hD hS => ?_)
      obtain ⟨mq2_21, rfl⟩ : ∃ z, z = u_r_20 := ⟨_, rfl⟩
      try dsimp only at hw_r_20
      have hP : va_P D vwCl [(ys, .inl (cI, 449, .inl ms)), (h0, .inr (9, [.ref ys, .ref yk, .ref yo, .ref yt, .int mk0, .ref yfa, .ref yfe, .int mL, .int mS, .int mM, .ref yro, .ref yhe, .ref ygr, .int mF, .int mC, .int mY, .ref yta, .int (nI (mz)), .int (nI (mf)), .int (nI (mt)), .int mv, .int mw, .ref ywa, .ref ybi, .ref ysi, .ref ynu, .ref ymo])), (yt, .inl (cI, 7, .inl mq2_21))] H := hP
      have hD : va_D A [(ys, .inl (cI, 449, .inl ms)), (h0, .inr (9, [.ref ys, .ref yk, .ref yo, .ref yt, .int mk0, .ref yfa, .ref yfe, .int mL, .int mS, .int mM, .ref yro, .ref yhe, .ref ygr, .int mF, .int mC, .int mY, .ref yta, .int (nI (mz)), .int (nI (mf)), .int (nI (mt)), .int mv, .int mw, .ref ywa, .ref ybi, .ref ysi, .ref ynu, .ref ymo])), (yt, .inl (cI, 7, .inl mq2_21))] := hD
      subst hw_r_20
      exact W.iret (v := (-1000000001)) hx hb hr (fun t ht hW => ⟨⟨(-1000000001), (ms, mq2_21, Rn, farn, farp, fak), rfl, ⟨(sp_rd3 (P := P) (R := Rn) (fun h => h_10 h.2)).2, (sp_rd3 (P := P) (R := Rn) (fun h => h_10 h.2)).1, (if_neg (fun h => h_10 h.1.2)).symm, (if_neg (fun h => h_10 h.1.2)).symm, (if_neg (fun h => h_10 h.1.2)).symm, hs0, hs1, hs2, hsS, hsM, hsp, hsr, hsw, hsR, hsG⟩, by rw [ht]; exact hP.sub [1, 0, 2] rfl, hD.sub [1, 0, 2] (by decide) rfl⟩, hS.F ht⟩) hS.2.2 dX9_round_26 hlk
  · skip
    refine lv_if_eq (tgt := 20) hx hb dX9_round_9 (by decide) (fun c_22 => ?_) (fun c_22 => absurd (by decide) c_22)
    refine lv_aload_n hx hb dX9_round_20 rfl (lv_at hl 0 rfl) ?_
    refine lv_ldc (v := (-1000000001)) hx hb hown (hu _ uw648) dX9_round_21 ?_
    refine xc_Vi (wr := [(ys, .inl (cI, 449, .inl ms))]) hF (c_X9_finds_B l D cI cJ cZ cS ta sa sv s.heap.size h0 ys yk yo yt mk0 yfa yfe mL mS mM yro yhe ygr mF mC mY yta mz mf mt mv mw ywa ybi ysi ynu ymo mq ) kv_X9_70 ⟨rfl, rfl, Nat.le_of_ble_eq_true rfl, Nat.le_of_ble_eq_true rfl⟩ ⟨Nat.le_of_ble_eq_true rfl, Nat.le_of_ble_eq_true rfl⟩ hK hN hZ hP hD hS hA [0, 2] [1] rfl rfl rfl rfl (by decide) 0 rfl rfl rfl rfl hl.1 rfl (Nat.le_of_ble_eq_true rfl) dX9_round_23 (fun r_23 u_r_23 H locs hw_r_23 hP hD hS => ?_)
    obtain ⟨mq2_24, rfl⟩ : ∃ z, z = u_r_23 := ⟨_, rfl⟩
    try dsimp only at hw_r_23
    have hP : va_P D vwCl [(ys, .inl (cI, 449, .inl ms)), (h0, .inr (9, [.ref ys, .ref yk, .ref yo, .ref yt, .int mk0, .ref yfa, .ref yfe, .int mL, .int mS, .int mM, .ref yro, .ref yhe, .ref ygr, .int mF, .int mC, .int mY, .ref yta, .int (nI (mz)), .int (nI (mf)), .int (nI (mt)), .int mv, .int mw, .ref ywa, .ref ybi, .ref ysi, .ref ynu, .ref ymo])), (yt, .inl (cI, 7, .inl mq2_24))] H := hP
    have hD : va_D A [(ys, .inl (cI, 449, .inl ms)), (h0, .inr (9, [.ref ys, .ref yk, .ref yo, .ref yt, .int mk0, .ref yfa, .ref yfe, .int mL, .int mS, .int mM, .ref yro, .ref yhe, .ref ygr, .int mF, .int mC, .int mY, .ref yta, .int (nI (mz)), .int (nI (mf)), .int (nI (mt)), .int mv, .int mw, .ref ywa, .ref ybi, .ref ysi, .ref ynu, .ref ymo])), (yt, .inl (cI, 7, .inl mq2_24))] := hD
    subst hw_r_23
    exact W.iret (v := (-1000000001)) hx hb hr (fun t ht hW => ⟨⟨(-1000000001), (ms, mq2_24, Rn, farn, farp, fak), rfl, ⟨(sp_rd3 (P := P) (R := Rn) (fun h => h_4.elim h.1.1 h.1.2)).2, (sp_rd3 (P := P) (R := Rn) (fun h => h_4.elim h.1.1 h.1.2)).1, (if_neg (fun h => h_4.elim h.1.1.1 h.1.1.2)).symm, (if_neg (fun h => h_4.elim h.1.1.1 h.1.1.2)).symm, (if_neg (fun h => h_4.elim h.1.1.1 h.1.1.2)).symm, hs0, hs1, hs2, hsS, hsM, hsp, hsr, hsw, hsR, hsG⟩, by rw [ht]; exact hP.sub [1, 0, 2] rfl, hD.sub [1, 0, 2] (by decide) rfl⟩, hS.F ht⟩) hS.2.2 dX9_round_26 hlk
set_option maxHeartbeats 4000000 in
set_option maxRecDepth 100000 in
theorem c_X9_over (l : Launch) (D : va_G) (cI cJ cZ cS : ClassId) (ta : Nat) (sa sv : Nat → Nat) (sz : Nat) (h0 : Nat) (ys : Nat) (yk : Nat) (yo : Nat) (yt : Nat) (mk0 : Int32) (yfa : Nat) (yfe : Nat) (mL : Int32) (mS : Int32) (mM : Int32) (yro : Nat) (yhe : Nat) (ygr : Nat) (mF : Int32) (mC : Int32) (mY : Int32) (yta : Nat) (mz : Nat) (mf : Nat) (mt : Nat) (mv : Int32) (mw : Int32) (ywa : Nat) (ybi : Nat) (ysi : Nat) (ynu : Nat) (ymo : Nat) (ms : Nat → Int32) (mq : Nat → Int32) (P : Nat) (Rn : Nat) (Wn : Nat) (fae : Nat → Int32) (fal : Nat → Int32) (fau : Nat → Int32) (fao : Nat → Int32) (farn : Nat → Int32) (farp : Nat → Int32) (fak : Nat → Int32) (fawn : Nat → Int32) (fawp : Nat → Int32) (fat : Nat → Int32) (fas : Nat → Int32) (p0 : Int32) (p1 : Int32) (hs0 : ms 0 = nI P) (hs1 : ms 1 = nI Rn) (hs2 : ms 2 = nI Wn) (hsS : SI ms) (hsM : MI ms) (hsp : P ≤ 10) (hsr : Rn ≤ 8) (hsw : Wn ≤ 8) (hsR : RI Rn ms) (hsG : FR P ms fae fal fau fao farn farp fak fawn fawp fat fas) : Met l yX9_over (Cond.code yX9_over cX9_over 4 (some .int) :: wsU) ({ frames := 2, cells := 0, slots := 0, locals := 46 }) (va_Pc [.ref h0, .int p0, .int p1] (XW D (xT cI cJ cZ cS) ta sa sv [(h0, .inr (9, [.ref ys, .ref yk, .ref yo, .ref yt, .int mk0, .ref yfa, .ref yfe, .int mL, .int mS, .int mM, .ref yro, .ref yhe, .ref ygr, .int mF, .int mC, .int mY, .ref yta, .int (nI (mz)), .int (nI (mf)), .int (nI (mt)), .int mv, .int mw, .ref ywa, .ref ybi, .ref ysi, .ref ynu, .ref ymo])), (ys, .inl (cI, 449, .inl ms)), (yt, .inl (cI, 7, .inl mq))] sz)) (XQi (fun (r : Int32) (u : (Nat → Int32) × (Nat → Int32) × (Nat → Int32) × (Nat → Int32)) => match u with | (ms2, mq2, grn, grp) => ((r = ovr P Rn farn p0 p1)) ∧ (grn = ovL P Rn farn p0 p1) ∧ (grp = ovS P Rn farn p0 p1 farp) ∧ (ms2 0 = nI P) ∧ (ms2 1 = nI Rn) ∧ (ms2 2 = nI Wn) ∧ (SI ms2) ∧ (MI ms2) ∧ (P ≤ 10) ∧ (Rn ≤ 8) ∧ (Wn ≤ 8) ∧ (RI Rn ms2) ∧ (FR P ms2 fae fal fau fao grn grp fak fawn fawp fat fas)) D (fun (u : (Nat → Int32) × (Nat → Int32) × (Nat → Int32) × (Nat → Int32)) => match u with | (ms2, mq2, grn, grp) => [(h0, .inr (9, [.ref ys, .ref yk, .ref yo, .ref yt, .int mk0, .ref yfa, .ref yfe, .int mL, .int mS, .int mM, .ref yro, .ref yhe, .ref ygr, .int mF, .int mC, .int mY, .ref yta, .int (nI (mz)), .int (nI (mf)), .int (nI (mt)), .int mv, .int mw, .ref ywa, .ref ybi, .ref ysi, .ref ynu, .ref ymo])), (ys, .inl (cI, 449, .inl ms2)), (yt, .inl (cI, 7, .inl mq2))]) (va_A [(h0, .inr (9, [.ref ys, .ref yk, .ref yo, .ref yt, .int mk0, .ref yfa, .ref yfe, .int mL, .int mS, .int mM, .ref yro, .ref yhe, .ref ygr, .int mF, .int mC, .int mY, .ref yta, .int (nI (mz)), .int (nI (mf)), .int (nI (mt)), .int mv, .int mw, .ref ywa, .ref ybi, .ref ysi, .ref ynu, .ref ymo])), (ys, .inl (cI, 449, .inl ms)), (yt, .inl (cI, 7, .inl mq))] sz)) 0 0 (va_A [(h0, .inr (9, [.ref ys, .ref yk, .ref yo, .ref yt, .int mk0, .ref yfa, .ref yfe, .int mL, .int mS, .int mM, .ref yro, .ref yhe, .ref ygr, .int mF, .int mC, .int mY, .ref yta, .int (nI (mz)), .int (nI (mf)), .int (nI (mt)), .int mv, .int mw, .ref ywa, .ref ybi, .ref ysi, .ref ynu, .ref ymo])), (ys, .inl (cI, 449, .inl ms)), (yt, .inl (cI, 7, .inl mq))] sz) := by
  refine xh (QA := fun A => XQi (fun (r : Int32) (u : (Nat → Int32) × (Nat → Int32) × (Nat → Int32) × (Nat → Int32)) => match u with | (ms2, mq2, grn, grp) => ((r = ovr P Rn farn p0 p1)) ∧ (grn = ovL P Rn farn p0 p1) ∧ (grp = ovS P Rn farn p0 p1 farp) ∧ (ms2 0 = nI P) ∧ (ms2 1 = nI Rn) ∧ (ms2 2 = nI Wn) ∧ (SI ms2) ∧ (MI ms2) ∧ (P ≤ 10) ∧ (Rn ≤ 8) ∧ (Wn ≤ 8) ∧ (RI Rn ms2) ∧ (FR P ms2 fae fal fau fao grn grp fak fawn fawp fat fas)) D (fun (u : (Nat → Int32) × (Nat → Int32) × (Nat → Int32) × (Nat → Int32)) => match u with | (ms2, mq2, grn, grp) => [(h0, .inr (9, [.ref ys, .ref yk, .ref yo, .ref yt, .int mk0, .ref yfa, .ref yfe, .int mL, .int mS, .int mM, .ref yro, .ref yhe, .ref ygr, .int mF, .int mC, .int mY, .ref yta, .int (nI (mz)), .int (nI (mf)), .int (nI (mt)), .int mv, .int mw, .ref ywa, .ref ybi, .ref ysi, .ref ynu, .ref ymo])), (ys, .inl (cI, 449, .inl ms2)), (yt, .inl (cI, 7, .inl mq2))]) A) (fr := fun A => A) (by decide) (Nat.le_of_ble_eq_true rfl) ?_
  intro p e s m below meth c ls A hF hr hlk hin hsz hP hK hD hN hZ hA hS hl
  have hF : CallFix p m c cX9_over 4 s _ _ RX9 := hF
  have hx := hF.1
  have hb := hF.2.1
  have hml := hF.2.2.1
  have hown := hF.2.2.2.1
  have hu : ∀ w ∈ wsU, w.before _ s = true := fun w h => hF.2.2.2.2 w (List.mem_cons_of_mem _ h)
  have hl : lv_has ls 4 [(0, .ref h0), (1, .int p0), (2, .int p1)] := hl
  refine lv_aload_n hx hb dX9_over_0 rfl (lv_at hl 0 rfl) ?_
  refine lv_iload_n hx hb dX9_over_1 rfl (lv_at hl 1 rfl) ?_
  refine xc_Vr hF (c_X9_isRound l D cI cJ cZ cS ta sa sv s.heap.size h0 ys yk yo yt mk0 yfa yfe mL mS mM yro yhe ygr mF mC mY yta mz mf mt mv mw ywa ybi ysi ynu ymo ms P Rn Wn fae fal fau fao farn farp fak fawn fawp fat fas p0 hs0 hs1 hs2 hsS hsM hsp hsr hsw hsR hsG) kv_X9_123 ⟨rfl, rfl, Nat.le_of_ble_eq_true rfl, Nat.le_of_ble_eq_true rfl⟩ ⟨Nat.le_of_ble_eq_true rfl, Nat.le_of_ble_eq_true rfl⟩ hK hN hZ hP hD hS hA [0, 1] rfl rfl 0 rfl rfl rfl rfl hl.1 rfl (Nat.le_of_ble_eq_true rfl) dX9_over_2 (fun r_1 hw_r_1 => ?_)
  rcases hw_r_1 with ⟨k_2, rfl, rfl, h_4⟩ | ⟨rfl, h_5⟩
  · skip
    refine lv_if_eq (tgt := 16) hx hb dX9_over_5 (by decide) (fun c_6 => absurd c_6 (by decide)) (fun c_6 => ?_)
    refine lv_aload_n hx hb dX9_over_8 rfl (lv_at hl 0 rfl) ?_
    refine lv_iload_n hx hb dX9_over_9 rfl (lv_at hl 2 rfl) ?_
    refine xc_Vr hF (c_X9_isPlace l D cI cJ cZ cS ta sa sv s.heap.size h0 ys yk yo yt mk0 yfa yfe mL mS mM yro yhe ygr mF mC mY yta mz mf mt mv mw ywa ybi ysi ynu ymo ms P Rn Wn fae fal fau fao farn farp fak fawn fawp fat fas p1 hs0 hs1 hs2 hsS hsM hsp hsr hsw hsR hsG) kv_X9_61 ⟨rfl, rfl, Nat.le_of_ble_eq_true rfl, Nat.le_of_ble_eq_true rfl⟩ ⟨Nat.le_of_ble_eq_true rfl, Nat.le_of_ble_eq_true rfl⟩ hK hN hZ hP hD hS hA [0, 1] rfl rfl 0 rfl rfl rfl rfl hl.1 rfl (Nat.le_of_ble_eq_true rfl) dX9_over_10 (fun r_7 hw_r_7 => ?_)
    rcases hw_r_7 with ⟨k_8, rfl, rfl, h_10⟩ | ⟨rfl, h_11⟩
    · skip
      refine lv_if_ne (tgt := 23) hx hb dX9_over_13 (by decide) (fun c_12 => ?_) (fun c_12 => absurd c_12 (by decide))
      refine lv_sipush (v := 313) hx hb dX9_over_23 (by decide) ?_
      refine lv_bipush (v := 8) hx hb dX9_over_26 (by decide) ?_
      refine lv_iload_n hx hb dX9_over_28 rfl (lv_at hl 1 rfl) ?_
      refine lv_imul hx hb dX9_over_29 ?_
      refine xl_i (y := nI (8 * k_2)) (pk_mul 8 k_2) ?_
      refine lv_iadd hx hb dX9_over_30 ?_
      refine xl_i (y := nI (313 + (8 * k_2))) (nI_add 313 (8 * k_2)) ?_
      refine lv_istore_n (lv' := [(3, .int (nI (313 + (8 * k_2)))), (0, .ref h0), (1, .int (nI (k_2))), (2, .int (nI (k_8)))]) hx hb dX9_over_31 rfl hl (by decide) rfl (fun ls hl => ?_)
      refine lv_aload_n hx hb dX9_over_32 rfl (lv_at hl 1 rfl) ?_
      refine xg hF kf_X9_7 hK hP 0 rfl rfl dX9_over_33 ?_
      refine lv_iload_n hx hb dX9_over_36 rfl (lv_at hl 0 rfl) ?_
      refine lv_iconst (v := 1) hx hb dX9_over_37 (by decide) ?_
      refine lv_iadd hx hb dX9_over_38 ?_
      refine xl_i (y := nI (313 + (8 * k_2) + 1)) (nI_add (313 + (8 * k_2)) 1) ?_
      refine va_iald hx hb hK hP 1 0 rfl rfl (vp_in_nI (show 313 + (8 * k_2) + 1 < 449 by omega) (by decide)) dX9_over_39 ?_
      refine xl_i (y := ms (313 + (8 * k_2) + 1)) (congrArg ms (nI_clamp (show 313 + (8 * k_2) + 1 < 2 ^ 31 by omega))) ?_
      obtain ⟨z_13, ez_13, hz_130⟩ := hsS.rl2 k_2 (by omega) (show 313 + (8 * k_2) + 1 = _ by omega)
      have gz_13 : farn (k_2) = nI z_13 := (FR.grn hsG (show k_2 < 8 by omega) (by omega)).symm.trans ez_13
      refine xl_i (y := nI (z_13)) ez_13 ?_
      refine lv_bipush (v := 6) hx hb dX9_over_40 (by decide) ?_
      refine lv_icmp_ne (tgt := 52) hx hb dX9_over_42 (by decide) (fun c_14 => ?_) (fun c_14 => ?_)
      · skip
        have nc_14 : z_13 ≠ 6 := xn_ne (a := z_13) (b := 6) (by omega) (by omega) c_14
        refine lv_aload_n hx hb dX9_over_52 rfl (lv_at hl 1 rfl) ?_
        refine xg hF kf_X9_7 hK hP 0 rfl rfl dX9_over_53 ?_
        refine lv_iload_n hx hb dX9_over_56 rfl (lv_at hl 0 rfl) ?_
        refine lv_iconst (v := 2) hx hb dX9_over_57 (by decide) ?_
        refine lv_iadd hx hb dX9_over_58 ?_
        refine xl_i (y := nI (313 + (8 * k_2) + 2)) (nI_add (313 + (8 * k_2)) 2) ?_
        refine lv_aload_n hx hb dX9_over_59 rfl (lv_at hl 1 rfl) ?_
        refine xg hF kf_X9_7 hK hP 0 rfl rfl dX9_over_60 ?_
        refine lv_iload_n hx hb dX9_over_63 rfl (lv_at hl 0 rfl) ?_
        refine lv_iconst (v := 1) hx hb dX9_over_64 (by decide) ?_
        refine lv_iadd hx hb dX9_over_65 ?_
        refine xl_i (y := nI (313 + (8 * k_2) + 1)) (nI_add (313 + (8 * k_2)) 1) ?_
        refine va_iald hx hb hK hP 1 0 rfl rfl (vp_in_nI (show 313 + (8 * k_2) + 1 < 449 by omega) (by decide)) dX9_over_66 ?_
        refine xl_i (y := ms (313 + (8 * k_2) + 1)) (congrArg ms (nI_clamp (show 313 + (8 * k_2) + 1 < 2 ^ 31 by omega))) ?_
        refine xl_i (y := nI (z_13)) ez_13 ?_
        refine lv_iadd hx hb dX9_over_67 ?_
        refine xl_i (y := nI (313 + (8 * k_2) + 2 + z_13)) (nI_add (313 + (8 * k_2) + 2) z_13) ?_
        refine lv_iload_n hx hb dX9_over_68 rfl (lv_at hl 3 rfl) ?_
        refine va_iast hx hb hK hP hD hS 1 0 rfl rfl (vp_in_nI (show 313 + (8 * k_2) + 2 + z_13 < 449 by omega) (by decide)) dX9_over_69 (fun H locs hP hD hS => ?_)
        rw [nI_clamp (show 313 + (8 * k_2) + 2 + z_13 < 2 ^ 31 by omega)] at hP hD
        obtain ⟨f_15, ef_15⟩ : ∃ g, g = upd ms (313 + (8 * k_2) + 2 + z_13) (nI (k_8)) := ⟨_, rfl⟩
        rw [← ef_15] at hP hD
        have k0_f_15 : f_15 0 = nI P := by rw [ef_15]; exact (pk_un (show 0 ≠ (313 + (8 * k_2) + 2 + z_13) by omega)).trans hs0
        have k1_f_15 : f_15 1 = nI Rn := by rw [ef_15]; exact (pk_un (show 1 ≠ (313 + (8 * k_2) + 2 + z_13) by omega)).trans hs1
        have k2_f_15 : f_15 2 = nI Wn := by rw [ef_15]; exact (pk_un (show 2 ≠ (313 + (8 * k_2) + 2 + z_13) by omega)).trans hs2
        have kS_f_15 : SI f_15 := by rw [ef_15]; exact SI.upd hsS (okS.rs (r := k_2) (i := z_13) (by omega) (by omega) (by omega) (show k_8 < 10 by omega))
        have kM_f_15 : MI f_15 := by rw [ef_15]; exact MI.upd hsM (okM.out (show (313 + (8 * k_2) + 2 + z_13) < 13 ∨ 113 ≤ (313 + (8 * k_2) + 2 + z_13) by omega))
        have kR_f_15 : RI Rn f_15 := by rw [ef_15]; exact RI.upd hsR (fun r9 hr9 e9 => by omega)
        have kG_f_15 : FR P f_15 fae fal fau fao farn (upd farp (k_2 * 6 + z_13) (nI (k_8))) fak fawn fawp fat fas := by rw [ef_15]; exact FR.prp hsG (show k_2 < 8 by omega) (show z_13 < 6 by omega) (by omega)
        have hP : va_P D vwCl [(h0, .inr (9, [.ref ys, .ref yk, .ref yo, .ref yt, .int mk0, .ref yfa, .ref yfe, .int mL, .int mS, .int mM, .ref yro, .ref yhe, .ref ygr, .int mF, .int mC, .int mY, .ref yta, .int (nI (mz)), .int (nI (mf)), .int (nI (mt)), .int mv, .int mw, .ref ywa, .ref ybi, .ref ysi, .ref ynu, .ref ymo])), (ys, .inl (cI, 449, .inl f_15)), (yt, .inl (cI, 7, .inl mq))] H := hP
        have hD : va_D A [(h0, .inr (9, [.ref ys, .ref yk, .ref yo, .ref yt, .int mk0, .ref yfa, .ref yfe, .int mL, .int mS, .int mM, .ref yro, .ref yhe, .ref ygr, .int mF, .int mC, .int mY, .ref yta, .int (nI (mz)), .int (nI (mf)), .int (nI (mt)), .int mv, .int mw, .ref ywa, .ref ybi, .ref ysi, .ref ynu, .ref ymo])), (ys, .inl (cI, 449, .inl f_15)), (yt, .inl (cI, 7, .inl mq))] := hD
        refine lv_aload_n hx hb dX9_over_70 rfl (lv_at hl 1 rfl) ?_
        refine xg hF kf_X9_7 hK hP 0 rfl rfl dX9_over_71 ?_
        refine lv_iload_n hx hb dX9_over_74 rfl (lv_at hl 0 rfl) ?_
        refine lv_iconst (v := 1) hx hb dX9_over_75 (by decide) ?_
        refine lv_iadd hx hb dX9_over_76 ?_
        refine xl_i (y := nI (313 + (8 * k_2) + 1)) (nI_add (313 + (8 * k_2)) 1) ?_
        refine lv_dup2_11 hx hb dX9_over_77 rfl rfl ?_
        refine va_iald hx hb hK hP 1 0 rfl rfl (vp_in_nI (show 313 + (8 * k_2) + 1 < 449 by omega) (by decide)) dX9_over_78 ?_
        refine xl_i (y := f_15 (313 + (8 * k_2) + 1)) (congrArg f_15 (nI_clamp (show 313 + (8 * k_2) + 1 < 2 ^ 31 by omega))) ?_
        refine xl_i (y := nI (z_13)) (by rw [ef_15]; exact (pk_un (by omega)).trans ez_13) ?_
        refine lv_iconst (v := 1) hx hb dX9_over_79 (by decide) ?_
        refine lv_iadd hx hb dX9_over_80 ?_
        refine xl_i (y := nI (z_13 + 1)) (nI_add z_13 1) ?_
        refine va_iast hx hb hK hP hD hS 1 0 rfl rfl (vp_in_nI (show 313 + (8 * k_2) + 1 < 449 by omega) (by decide)) dX9_over_81 (fun H locs hP hD hS => ?_)
        rw [nI_clamp (show 313 + (8 * k_2) + 1 < 2 ^ 31 by omega)] at hP hD
        obtain ⟨f_16, ef_16⟩ : ∃ g, g = upd f_15 (313 + (8 * k_2) + 1) (nI (z_13 + 1)) := ⟨_, rfl⟩
        rw [← ef_16] at hP hD
        have k0_f_16 : f_16 0 = nI P := by rw [ef_16]; exact (pk_un (show 0 ≠ (313 + (8 * k_2) + 1) by omega)).trans k0_f_15
        have k1_f_16 : f_16 1 = nI Rn := by rw [ef_16]; exact (pk_un (show 1 ≠ (313 + (8 * k_2) + 1) by omega)).trans k1_f_15
        have k2_f_16 : f_16 2 = nI Wn := by rw [ef_16]; exact (pk_un (show 2 ≠ (313 + (8 * k_2) + 1) by omega)).trans k2_f_15
        have kS_f_16 : SI f_16 := by rw [ef_16]; exact SI.upd kS_f_15 (okS.rl (r := k_2) (q := z_13 + 1) (by omega) (by omega) (by omega))
        have kM_f_16 : MI f_16 := by rw [ef_16]; exact MI.upd kM_f_15 (okM.out (show (313 + (8 * k_2) + 1) < 13 ∨ 113 ≤ (313 + (8 * k_2) + 1) by omega))
        have kR_f_16 : RI Rn f_16 := by rw [ef_16]; exact RI.upd kR_f_15 (fun _ _ _ => ⟨z_13 + 1, by omega, by omega, rfl⟩)
        have kG_f_16 : FR P f_16 fae fal fau fao (upd farn (k_2) (nI (z_13 + 1))) (upd farp (k_2 * 6 + z_13) (nI (k_8))) fak fawn fawp fat fas := by rw [ef_16]; exact FR.prn kG_f_15 (show k_2 < 8 by omega) (by omega)
        have hP : va_P D vwCl [(h0, .inr (9, [.ref ys, .ref yk, .ref yo, .ref yt, .int mk0, .ref yfa, .ref yfe, .int mL, .int mS, .int mM, .ref yro, .ref yhe, .ref ygr, .int mF, .int mC, .int mY, .ref yta, .int (nI (mz)), .int (nI (mf)), .int (nI (mt)), .int mv, .int mw, .ref ywa, .ref ybi, .ref ysi, .ref ynu, .ref ymo])), (ys, .inl (cI, 449, .inl f_16)), (yt, .inl (cI, 7, .inl mq))] H := hP
        have hD : va_D A [(h0, .inr (9, [.ref ys, .ref yk, .ref yo, .ref yt, .int mk0, .ref yfa, .ref yfe, .int mL, .int mS, .int mM, .ref yro, .ref yhe, .ref ygr, .int mF, .int mC, .int mY, .ref yta, .int (nI (mz)), .int (nI (mf)), .int (nI (mt)), .int mv, .int mw, .ref ywa, .ref ybi, .ref ysi, .ref ynu, .ref ymo])), (ys, .inl (cI, 449, .inl f_16)), (yt, .inl (cI, 7, .inl mq))] := hD
        refine lv_aload_n hx hb dX9_over_82 rfl (lv_at hl 1 rfl) ?_
        refine xg hF kf_X9_7 hK hP 0 rfl rfl dX9_over_83 ?_
        refine lv_iload_n hx hb dX9_over_86 rfl (lv_at hl 0 rfl) ?_
        refine lv_iconst (v := 1) hx hb dX9_over_87 (by decide) ?_
        refine lv_iadd hx hb dX9_over_88 ?_
        refine xl_i (y := nI (313 + (8 * k_2) + 1)) (nI_add (313 + (8 * k_2)) 1) ?_
        refine va_iald hx hb hK hP 1 0 rfl rfl (vp_in_nI (show 313 + (8 * k_2) + 1 < 449 by omega) (by decide)) dX9_over_89 ?_
        refine xl_i (y := f_16 (313 + (8 * k_2) + 1)) (congrArg f_16 (nI_clamp (show 313 + (8 * k_2) + 1 < 2 ^ 31 by omega))) ?_
        refine xl_i (y := nI (z_13 + 1)) (by rw [ef_16]; exact pk_us) ?_
        exact W.iret (v := nI (z_13 + 1)) hx hb hr (fun t ht hW => ⟨⟨nI (z_13 + 1), (f_16, mq, upd farn (k_2) (nI (z_13 + 1)), upd farp (k_2 * 6 + z_13) (nI (k_8))), rfl, ⟨(ov_yes (P := P) (R := Rn) (j := k_8) (by omega) (by omega) (by omega) (by omega) gz_13 (by omega)).1, (ov_yes (P := P) (R := Rn) (j := k_8) (by omega) (by omega) (by omega) (by omega) gz_13 (by omega)).2.1, ((ov_yes (P := P) (R := Rn) (j := k_8) (by omega) (by omega) (by omega) (by omega) gz_13 (by omega)).2.2 _), k0_f_16, k1_f_16, k2_f_16, kS_f_16, kM_f_16, hsp, hsr, hsw, kR_f_16, kG_f_16⟩, by rw [ht]; exact hP.sub [0, 1, 2] rfl, hD.sub [0, 1, 2] (by decide) rfl⟩, hS.F ht⟩) hS.2.2 dX9_over_90 hlk
      · skip
        have nc_14 : z_13 = 6 := xn_eq (a := z_13) (b := 6) (by omega) (by omega) c_14
        refine lv_aload_n hx hb dX9_over_45 rfl (lv_at hl 1 rfl) ?_
        refine lv_ldc (v := (-1000000002)) hx hb hown (hu _ uw676) dX9_over_46 ?_
        refine xc_Vi (wr := [(ys, .inl (cI, 449, .inl ms))]) hF (c_X9_finds_F l D cI cJ cZ cS ta sa sv s.heap.size h0 ys yk yo yt mk0 yfa yfe mL mS mM yro yhe ygr mF mC mY yta mz mf mt mv mw ywa ybi ysi ynu ymo mq ) kv_X9_70 ⟨rfl, rfl, Nat.le_of_ble_eq_true rfl, Nat.le_of_ble_eq_true rfl⟩ ⟨Nat.le_of_ble_eq_true rfl, Nat.le_of_ble_eq_true rfl⟩ hK hN hZ hP hD hS hA [0, 2] [1] rfl rfl rfl rfl (by decide) 0 rfl rfl rfl rfl hl.1 rfl (Nat.le_of_ble_eq_true rfl) dX9_over_48 (fun r_17 u_r_17 H locs hw_r_17 hP hD hS => ?_)
        obtain ⟨mq2_18, rfl⟩ : ∃ z, z = u_r_17 := ⟨_, rfl⟩
        try dsimp only at hw_r_17
        have hP : va_P D vwCl [(ys, .inl (cI, 449, .inl ms)), (h0, .inr (9, [.ref ys, .ref yk, .ref yo, .ref yt, .int mk0, .ref yfa, .ref yfe, .int mL, .int mS, .int mM, .ref yro, .ref yhe, .ref ygr, .int mF, .int mC, .int mY, .ref yta, .int (nI (mz)), .int (nI (mf)), .int (nI (mt)), .int mv, .int mw, .ref ywa, .ref ybi, .ref ysi, .ref ynu, .ref ymo])), (yt, .inl (cI, 7, .inl mq2_18))] H := hP
        have hD : va_D A [(ys, .inl (cI, 449, .inl ms)), (h0, .inr (9, [.ref ys, .ref yk, .ref yo, .ref yt, .int mk0, .ref yfa, .ref yfe, .int mL, .int mS, .int mM, .ref yro, .ref yhe, .ref ygr, .int mF, .int mC, .int mY, .ref yta, .int (nI (mz)), .int (nI (mf)), .int (nI (mt)), .int mv, .int mw, .ref ywa, .ref ybi, .ref ysi, .ref ynu, .ref ymo])), (yt, .inl (cI, 7, .inl mq2_18))] := hD
        subst hw_r_17
        exact W.iret (v := (-1000000002)) hx hb hr (fun t ht hW => ⟨⟨(-1000000002), (ms, mq2_18, farn, farp), rfl, ⟨(ov_full (P := P) (R := Rn) (j := k_8) (by omega) (by omega) (by omega) (by omega) gz_13 (by omega) (by omega)).1, (ov_full (P := P) (R := Rn) (j := k_8) (by omega) (by omega) (by omega) (by omega) gz_13 (by omega) (by omega)).2.1, ((ov_full (P := P) (R := Rn) (j := k_8) (by omega) (by omega) (by omega) (by omega) gz_13 (by omega) (by omega)).2.2 _), hs0, hs1, hs2, hsS, hsM, hsp, hsr, hsw, hsR, hsG⟩, by rw [ht]; exact hP.sub [1, 0, 2] rfl, hD.sub [1, 0, 2] (by decide) rfl⟩, hS.F ht⟩) hS.2.2 dX9_over_51 hlk
    · skip
      refine lv_if_ne (tgt := 23) hx hb dX9_over_13 (by decide) (fun c_19 => absurd (by decide) c_19) (fun c_19 => ?_)
      refine lv_aload_n hx hb dX9_over_16 rfl (lv_at hl 0 rfl) ?_
      refine lv_ldc (v := (-1000000001)) hx hb hown (hu _ uw648) dX9_over_17 ?_
      refine xc_Vi (wr := [(ys, .inl (cI, 449, .inl ms))]) hF (c_X9_finds_B l D cI cJ cZ cS ta sa sv s.heap.size h0 ys yk yo yt mk0 yfa yfe mL mS mM yro yhe ygr mF mC mY yta mz mf mt mv mw ywa ybi ysi ynu ymo mq ) kv_X9_70 ⟨rfl, rfl, Nat.le_of_ble_eq_true rfl, Nat.le_of_ble_eq_true rfl⟩ ⟨Nat.le_of_ble_eq_true rfl, Nat.le_of_ble_eq_true rfl⟩ hK hN hZ hP hD hS hA [0, 2] [1] rfl rfl rfl rfl (by decide) 0 rfl rfl rfl rfl hl.1 rfl (Nat.le_of_ble_eq_true rfl) dX9_over_19 (fun r_20 u_r_20 H locs hw_r_20 hP hD hS => ?_)
      obtain ⟨mq2_21, rfl⟩ : ∃ z, z = u_r_20 := ⟨_, rfl⟩
      try dsimp only at hw_r_20
      have hP : va_P D vwCl [(ys, .inl (cI, 449, .inl ms)), (h0, .inr (9, [.ref ys, .ref yk, .ref yo, .ref yt, .int mk0, .ref yfa, .ref yfe, .int mL, .int mS, .int mM, .ref yro, .ref yhe, .ref ygr, .int mF, .int mC, .int mY, .ref yta, .int (nI (mz)), .int (nI (mf)), .int (nI (mt)), .int mv, .int mw, .ref ywa, .ref ybi, .ref ysi, .ref ynu, .ref ymo])), (yt, .inl (cI, 7, .inl mq2_21))] H := hP
      have hD : va_D A [(ys, .inl (cI, 449, .inl ms)), (h0, .inr (9, [.ref ys, .ref yk, .ref yo, .ref yt, .int mk0, .ref yfa, .ref yfe, .int mL, .int mS, .int mM, .ref yro, .ref yhe, .ref ygr, .int mF, .int mC, .int mY, .ref yta, .int (nI (mz)), .int (nI (mf)), .int (nI (mt)), .int mv, .int mw, .ref ywa, .ref ybi, .ref ysi, .ref ynu, .ref ymo])), (yt, .inl (cI, 7, .inl mq2_21))] := hD
      subst hw_r_20
      exact W.iret (v := (-1000000001)) hx hb hr (fun t ht hW => ⟨⟨(-1000000001), (ms, mq2_21, farn, farp), rfl, ⟨(ov_no (P := P) (R := Rn) (ln := farn) (fun h => h_11 h.2)).1, (ov_no (P := P) (R := Rn) (ln := farn) (fun h => h_11 h.2)).2.1, ((ov_no (P := P) (R := Rn) (ln := farn) (fun h => h_11 h.2)).2.2 _), hs0, hs1, hs2, hsS, hsM, hsp, hsr, hsw, hsR, hsG⟩, by rw [ht]; exact hP.sub [1, 0, 2] rfl, hD.sub [1, 0, 2] (by decide) rfl⟩, hS.F ht⟩) hS.2.2 dX9_over_22 hlk
  · skip
    refine lv_if_eq (tgt := 16) hx hb dX9_over_5 (by decide) (fun c_22 => ?_) (fun c_22 => absurd (by decide) c_22)
    refine lv_aload_n hx hb dX9_over_16 rfl (lv_at hl 0 rfl) ?_
    refine lv_ldc (v := (-1000000001)) hx hb hown (hu _ uw648) dX9_over_17 ?_
    refine xc_Vi (wr := [(ys, .inl (cI, 449, .inl ms))]) hF (c_X9_finds_B l D cI cJ cZ cS ta sa sv s.heap.size h0 ys yk yo yt mk0 yfa yfe mL mS mM yro yhe ygr mF mC mY yta mz mf mt mv mw ywa ybi ysi ynu ymo mq ) kv_X9_70 ⟨rfl, rfl, Nat.le_of_ble_eq_true rfl, Nat.le_of_ble_eq_true rfl⟩ ⟨Nat.le_of_ble_eq_true rfl, Nat.le_of_ble_eq_true rfl⟩ hK hN hZ hP hD hS hA [0, 2] [1] rfl rfl rfl rfl (by decide) 0 rfl rfl rfl rfl hl.1 rfl (Nat.le_of_ble_eq_true rfl) dX9_over_19 (fun r_23 u_r_23 H locs hw_r_23 hP hD hS => ?_)
    obtain ⟨mq2_24, rfl⟩ : ∃ z, z = u_r_23 := ⟨_, rfl⟩
    try dsimp only at hw_r_23
    have hP : va_P D vwCl [(ys, .inl (cI, 449, .inl ms)), (h0, .inr (9, [.ref ys, .ref yk, .ref yo, .ref yt, .int mk0, .ref yfa, .ref yfe, .int mL, .int mS, .int mM, .ref yro, .ref yhe, .ref ygr, .int mF, .int mC, .int mY, .ref yta, .int (nI (mz)), .int (nI (mf)), .int (nI (mt)), .int mv, .int mw, .ref ywa, .ref ybi, .ref ysi, .ref ynu, .ref ymo])), (yt, .inl (cI, 7, .inl mq2_24))] H := hP
    have hD : va_D A [(ys, .inl (cI, 449, .inl ms)), (h0, .inr (9, [.ref ys, .ref yk, .ref yo, .ref yt, .int mk0, .ref yfa, .ref yfe, .int mL, .int mS, .int mM, .ref yro, .ref yhe, .ref ygr, .int mF, .int mC, .int mY, .ref yta, .int (nI (mz)), .int (nI (mf)), .int (nI (mt)), .int mv, .int mw, .ref ywa, .ref ybi, .ref ysi, .ref ynu, .ref ymo])), (yt, .inl (cI, 7, .inl mq2_24))] := hD
    subst hw_r_23
    exact W.iret (v := (-1000000001)) hx hb hr (fun t ht hW => ⟨⟨(-1000000001), (ms, mq2_24, farn, farp), rfl, ⟨(ov_no (P := P) (R := Rn) (ln := farn) (fun h => h_5 h.1)).1, (ov_no (P := P) (R := Rn) (ln := farn) (fun h => h_5 h.1)).2.1, ((ov_no (P := P) (R := Rn) (ln := farn) (fun h => h_5 h.1)).2.2 _), hs0, hs1, hs2, hsS, hsM, hsp, hsr, hsw, hsR, hsG⟩, by rw [ht]; exact hP.sub [1, 0, 2] rfl, hD.sub [1, 0, 2] (by decide) rfl⟩, hS.F ht⟩) hS.2.2 dX9_over_22 hlk
set_option maxHeartbeats 4000000 in
set_option maxRecDepth 100000 in
theorem c_X9_adds (l : Launch) (D : va_G) (cI cJ cZ cS : ClassId) (ta : Nat) (sa sv : Nat → Nat) (sz : Nat) (h0 : Nat) (ys : Nat) (yk : Nat) (yo : Nat) (yt : Nat) (mk0 : Int32) (yfa : Nat) (yfe : Nat) (mL : Int32) (mS : Int32) (mM : Int32) (yro : Nat) (yhe : Nat) (ygr : Nat) (mF : Int32) (mC : Int32) (mY : Int32) (yta : Nat) (mz : Nat) (mf : Nat) (mt : Nat) (mv : Int32) (mw : Int32) (ywa : Nat) (ybi : Nat) (ysi : Nat) (ynu : Nat) (ymo : Nat) (p0 : Int32) : Met l yX9_adds (Cond.code yX9_adds cX9_adds 2 none :: wsU) ({ frames := 0, cells := 0, slots := 0, locals := 0 }) (va_Pc [.ref h0, .int p0] (XW D (xT cI cJ cZ cS) ta sa sv [(h0, .inr (9, [.ref ys, .ref yk, .ref yo, .ref yt, .int mk0, .ref yfa, .ref yfe, .int mL, .int mS, .int mM, .ref yro, .ref yhe, .ref ygr, .int mF, .int mC, .int mY, .ref yta, .int (nI (mz)), .int (nI (mf)), .int (nI (mt)), .int mv, .int mw, .ref ywa, .ref ybi, .ref ysi, .ref ynu, .ref ymo]))] sz)) (XQv (fun (mS2 : Int32) => True) D (fun (mS2 : Int32) => [(h0, .inr (9, [.ref ys, .ref yk, .ref yo, .ref yt, .int mk0, .ref yfa, .ref yfe, .int mL, .int mS2, .int mM, .ref yro, .ref yhe, .ref ygr, .int mF, .int mC, .int mY, .ref yta, .int (nI (mz)), .int (nI (mf)), .int (nI (mt)), .int mv, .int mw, .ref ywa, .ref ybi, .ref ysi, .ref ynu, .ref ymo]))]) (va_A [(h0, .inr (9, [.ref ys, .ref yk, .ref yo, .ref yt, .int mk0, .ref yfa, .ref yfe, .int mL, .int mS, .int mM, .ref yro, .ref yhe, .ref ygr, .int mF, .int mC, .int mY, .ref yta, .int (nI (mz)), .int (nI (mf)), .int (nI (mt)), .int mv, .int mw, .ref ywa, .ref ybi, .ref ysi, .ref ynu, .ref ymo]))] sz)) 0 0 (va_A [(h0, .inr (9, [.ref ys, .ref yk, .ref yo, .ref yt, .int mk0, .ref yfa, .ref yfe, .int mL, .int mS, .int mM, .ref yro, .ref yhe, .ref ygr, .int mF, .int mC, .int mY, .ref yta, .int (nI (mz)), .int (nI (mf)), .int (nI (mt)), .int mv, .int mw, .ref ywa, .ref ybi, .ref ysi, .ref ynu, .ref ymo]))] sz) := by
  refine xh (QA := fun A => XQv (fun (mS2 : Int32) => True) D (fun (mS2 : Int32) => [(h0, .inr (9, [.ref ys, .ref yk, .ref yo, .ref yt, .int mk0, .ref yfa, .ref yfe, .int mL, .int mS2, .int mM, .ref yro, .ref yhe, .ref ygr, .int mF, .int mC, .int mY, .ref yta, .int (nI (mz)), .int (nI (mf)), .int (nI (mt)), .int mv, .int mw, .ref ywa, .ref ybi, .ref ysi, .ref ynu, .ref ymo]))]) A) (fr := fun A => A) (by decide) (Nat.le_of_ble_eq_true rfl) ?_
  intro p e s m below meth c ls A hF hr hlk hin hsz hP hK hD hN hZ hA hS hl
  have hF : CallFix p m c cX9_adds 2 s _ _ RX9 := hF
  have hx := hF.1
  have hb := hF.2.1
  have hml := hF.2.2.1
  have hown := hF.2.2.2.1
  have hu : ∀ w ∈ wsU, w.before _ s = true := fun w h => hF.2.2.2.2 w (List.mem_cons_of_mem _ h)
  have hl : lv_has ls 2 [(0, .ref h0), (1, .int p0)] := hl
  refine lv_aload_n hx hb dX9_adds_0 rfl (lv_at hl 0 rfl) ?_
  refine lv_aload_n hx hb dX9_adds_1 rfl (lv_at hl 0 rfl) ?_
  refine xg hF kf_X9_126 hK hP 0 rfl rfl dX9_adds_2 ?_
  refine lv_ldc (v := 100000000) hx hb hown (hu _ uw701) dX9_adds_5 ?_
  refine lv_icmp_eq (tgt := 16) hx hb dX9_adds_7 (by decide) (fun c_1 => ?_) (fun c_1 => ?_)
  · skip
    refine lv_ldc (v := 100000000) hx hb hown (hu _ uw701) dX9_adds_16 ?_
    refine lv_goto (tgt := 27) hx hb dX9_adds_18 (by decide) ?_
    refine xp hF kf_X9_126 tyX9_ok nmX9 hK hP hD hS 0 rfl rfl rfl rfl (Nat.le_of_ble_eq_true rfl) dX9_adds_27 (fun H locs hP hD hS => ?_)
    have hP : va_P D vwCl [(h0, .inr (9, [.ref ys, .ref yk, .ref yo, .ref yt, .int mk0, .ref yfa, .ref yfe, .int mL, .int 100000000, .int mM, .ref yro, .ref yhe, .ref ygr, .int mF, .int mC, .int mY, .ref yta, .int (nI (mz)), .int (nI (mf)), .int (nI (mt)), .int mv, .int mw, .ref ywa, .ref ybi, .ref ysi, .ref ynu, .ref ymo]))] H := hP
    have hD : va_D A [(h0, .inr (9, [.ref ys, .ref yk, .ref yo, .ref yt, .int mk0, .ref yfa, .ref yfe, .int mL, .int 100000000, .int mM, .ref yro, .ref yhe, .ref ygr, .int mF, .int mC, .int mY, .ref yta, .int (nI (mz)), .int (nI (mf)), .int (nI (mt)), .int mv, .int mw, .ref ywa, .ref ybi, .ref ysi, .ref ynu, .ref ymo]))] := hD
    exact W.vret hx hb hr (fun t ht hW => ⟨⟨100000000, rfl, trivial, by rw [ht]; exact hP.sub [0] rfl, hD.sub [0] (by decide) rfl⟩, hS.F ht⟩) hS.2.2 dX9_adds_30 hlk
  · skip
    refine lv_iload_n hx hb dX9_adds_10 rfl (lv_at hl 1 rfl) ?_
    refine lv_ldc (v := 100000000) hx hb hown (hu _ uw701) dX9_adds_11 ?_
    refine lv_icmp_ne (tgt := 21) hx hb dX9_adds_13 (by decide) (fun c_2 => ?_) (fun c_2 => ?_)
    · skip
      refine lv_aload_n hx hb dX9_adds_21 rfl (lv_at hl 0 rfl) ?_
      refine xg hF kf_X9_126 hK hP 0 rfl rfl dX9_adds_22 ?_
      refine lv_iload_n hx hb dX9_adds_25 rfl (lv_at hl 1 rfl) ?_
      refine lv_iadd hx hb dX9_adds_26 ?_
      refine lv_topi (fun x_3 ex_3 => ?_)
      refine xp hF kf_X9_126 tyX9_ok nmX9 hK hP hD hS 0 rfl rfl rfl rfl (Nat.le_of_ble_eq_true rfl) dX9_adds_27 (fun H locs hP hD hS => ?_)
      have hP : va_P D vwCl [(h0, .inr (9, [.ref ys, .ref yk, .ref yo, .ref yt, .int mk0, .ref yfa, .ref yfe, .int mL, .int x_3, .int mM, .ref yro, .ref yhe, .ref ygr, .int mF, .int mC, .int mY, .ref yta, .int (nI (mz)), .int (nI (mf)), .int (nI (mt)), .int mv, .int mw, .ref ywa, .ref ybi, .ref ysi, .ref ynu, .ref ymo]))] H := hP
      have hD : va_D A [(h0, .inr (9, [.ref ys, .ref yk, .ref yo, .ref yt, .int mk0, .ref yfa, .ref yfe, .int mL, .int x_3, .int mM, .ref yro, .ref yhe, .ref ygr, .int mF, .int mC, .int mY, .ref yta, .int (nI (mz)), .int (nI (mf)), .int (nI (mt)), .int mv, .int mw, .ref ywa, .ref ybi, .ref ysi, .ref ynu, .ref ymo]))] := hD
      exact W.vret hx hb hr (fun t ht hW => ⟨⟨x_3, rfl, trivial, by rw [ht]; exact hP.sub [0] rfl, hD.sub [0] (by decide) rfl⟩, hS.F ht⟩) hS.2.2 dX9_adds_30 hlk
    · skip
      refine lv_ldc (v := 100000000) hx hb hown (hu _ uw701) dX9_adds_16 ?_
      refine lv_goto (tgt := 27) hx hb dX9_adds_18 (by decide) ?_
      refine xp hF kf_X9_126 tyX9_ok nmX9 hK hP hD hS 0 rfl rfl rfl rfl (Nat.le_of_ble_eq_true rfl) dX9_adds_27 (fun H locs hP hD hS => ?_)
      have hP : va_P D vwCl [(h0, .inr (9, [.ref ys, .ref yk, .ref yo, .ref yt, .int mk0, .ref yfa, .ref yfe, .int mL, .int 100000000, .int mM, .ref yro, .ref yhe, .ref ygr, .int mF, .int mC, .int mY, .ref yta, .int (nI (mz)), .int (nI (mf)), .int (nI (mt)), .int mv, .int mw, .ref ywa, .ref ybi, .ref ysi, .ref ynu, .ref ymo]))] H := hP
      have hD : va_D A [(h0, .inr (9, [.ref ys, .ref yk, .ref yo, .ref yt, .int mk0, .ref yfa, .ref yfe, .int mL, .int 100000000, .int mM, .ref yro, .ref yhe, .ref ygr, .int mF, .int mC, .int mY, .ref yta, .int (nI (mz)), .int (nI (mf)), .int (nI (mt)), .int mv, .int mw, .ref ywa, .ref ybi, .ref ysi, .ref ynu, .ref ymo]))] := hD
      exact W.vret hx hb hr (fun t ht hW => ⟨⟨100000000, rfl, trivial, by rw [ht]; exact hP.sub [0] rfl, hD.sub [0] (by decide) rfl⟩, hS.F ht⟩) hS.2.2 dX9_adds_30 hlk
set_option maxHeartbeats 4000000 in
set_option maxRecDepth 100000 in
theorem c_X9_told (l : Launch) (D : va_G) (cI cJ cZ cS : ClassId) (ta : Nat) (sa sv : Nat → Nat) (sz : Nat) (h0 : Nat) (ys : Nat) (yk : Nat) (yo : Nat) (yt : Nat) (mk0 : Int32) (yfa : Nat) (yfe : Nat) (mL : Int32) (mS : Int32) (mM : Int32) (yro : Nat) (yhe : Nat) (ygr : Nat) (mF : Int32) (mC : Int32) (mY : Int32) (yta : Nat) (mz : Nat) (mf : Nat) (mt : Nat) (mv : Int32) (mw : Int32) (ywa : Nat) (ybi : Nat) (ysi : Nat) (ynu : Nat) (ymo : Nat) (ms : Nat → Int32) (P : Nat) (Rn : Nat) (Wn : Nat) (fae : Nat → Int32) (fal : Nat → Int32) (fau : Nat → Int32) (fao : Nat → Int32) (farn : Nat → Int32) (farp : Nat → Int32) (fak : Nat → Int32) (fawn : Nat → Int32) (fawp : Nat → Int32) (fat : Nat → Int32) (fas : Nat → Int32) (j : Nat) (k : Nat) (hj : j < 10) (hk : k < 10) (hs0 : ms 0 = nI P) (hs1 : ms 1 = nI Rn) (hs2 : ms 2 = nI Wn) (hsS : SI ms) (hsM : MI ms) (hsp : P ≤ 10) (hsr : Rn ≤ 8) (hsw : Wn ≤ 8) (hsR : RI Rn ms) (hsG : FR P ms fae fal fau fao farn farp fak fawn fawp fat fas) : Met l yX9_told (Cond.code yX9_told cX9_told 3 (some .int) :: wsU) ({ frames := 1, cells := 0, slots := 0, locals := 22 }) (va_Pc [.ref h0, .int (nI (j)), .int (nI (k))] (XW D (xT cI cJ cZ cS) ta sa sv [(h0, .inr (9, [.ref ys, .ref yk, .ref yo, .ref yt, .int mk0, .ref yfa, .ref yfe, .int mL, .int mS, .int mM, .ref yro, .ref yhe, .ref ygr, .int mF, .int mC, .int mY, .ref yta, .int (nI (mz)), .int (nI (mf)), .int (nI (mt)), .int mv, .int mw, .ref ywa, .ref ybi, .ref ysi, .ref ynu, .ref ymo])), (ys, .inl (cI, 449, .inl ms))] sz)) (vp_Si (fun r : Int32 => True)) 0 0 (fun _ => False) := by
  refine xh (QA := fun _ => vp_Si (fun r : Int32 => True)) (fr := fun _ _ => False) (by decide) (Nat.le_of_ble_eq_true rfl) ?_
  intro p e s m below meth c ls A hF hr hlk hin hsz hP hK hD hN hZ hA hS hl
  have hF : CallFix p m c cX9_told 3 s _ _ RX9 := hF
  have hx := hF.1
  have hb := hF.2.1
  have hml := hF.2.2.1
  have hown := hF.2.2.2.1
  have hu : ∀ w ∈ wsU, w.before _ s = true := fun w h => hF.2.2.2.2 w (List.mem_cons_of_mem _ h)
  have hl : lv_has ls 3 [(0, .ref h0), (1, .int (nI (j))), (2, .int (nI (k)))] := hl
  refine lv_iload_n hx hb dX9_told_0 rfl (lv_at hl 1 rfl) ?_
  refine lv_iload_n hx hb dX9_told_1 rfl (lv_at hl 2 rfl) ?_
  refine lv_icmp_ne (tgt := 9) hx hb dX9_told_2 (by decide) (fun c_1 => ?_) (fun c_1 => ?_)
  · skip
    have nc_1 : j ≠ k := xn_ne (a := j) (b := k) (by omega) (by omega) c_1
    refine lv_aload_n hx hb dX9_told_9 rfl (lv_at hl 0 rfl) ?_
    refine lv_iload_n hx hb dX9_told_10 rfl (lv_at hl 1 rfl) ?_
    refine lv_iload_n hx hb dX9_told_11 rfl (lv_at hl 2 rfl) ?_
    refine xc_Vr hF (c_X9_isOpen l D cI cJ cZ cS ta sa sv s.heap.size h0 ys yk yo yt mk0 yfa yfe mL mS mM yro yhe ygr mF mC mY yta mz mf mt mv mw ywa ybi ysi ynu ymo ms P Rn Wn fae fal fau fao farn farp fak fawn fawp fat fas j k (by omega) (by omega) hs0 hs1 hs2 hsS hsM hsp hsr hsw hsR hsG) kv_X9_97 ⟨rfl, rfl, Nat.le_of_ble_eq_true rfl, Nat.le_of_ble_eq_true rfl⟩ ⟨Nat.le_of_ble_eq_true rfl, Nat.le_of_ble_eq_true rfl⟩ hK hN hZ hP hD hS hA [0, 1] rfl rfl 0 rfl rfl rfl rfl hl.1 rfl (Nat.le_of_ble_eq_true rfl) dX9_told_12 (fun r_2 hw_r_2 => ?_)
    rcases hw_r_2 with ⟨rfl, h_3⟩ | ⟨rfl, h_4⟩
    · skip
      refine lv_if_eq (tgt := 27) hx hb dX9_told_15 (by decide) (fun c_5 => absurd c_5 (by decide)) (fun c_5 => ?_)
      refine lv_aload_n hx hb dX9_told_18 rfl (lv_at hl 0 rfl) ?_
      refine lv_iload_n hx hb dX9_told_19 rfl (lv_at hl 1 rfl) ?_
      refine lv_iload_n hx hb dX9_told_20 rfl (lv_at hl 2 rfl) ?_
      refine xc_Vr hF (c_X9_miles l D cI cJ cZ cS ta sa sv s.heap.size h0 ys yk yo yt mk0 yfa yfe mL mS mM yro yhe ygr mF mC mY yta mz mf mt mv mw ywa ybi ysi ynu ymo ms P Rn Wn fae fal fau fao farn farp fak fawn fawp fat fas j k (by omega) (by omega) hs0 hs1 hs2 hsS hsM hsp hsr hsw hsR hsG) kv_X9_100 ⟨rfl, rfl, Nat.le_of_ble_eq_true rfl, Nat.le_of_ble_eq_true rfl⟩ ⟨Nat.le_of_ble_eq_true rfl, Nat.le_of_ble_eq_true rfl⟩ hK hN hZ hP hD hS hA [0, 1] rfl rfl 0 rfl rfl rfl rfl hl.1 rfl (Nat.le_of_ble_eq_true rfl) dX9_told_21 (fun r_6 hw_r_6 => ?_)
      subst hw_r_6
      refine lv_goto (tgt := 29) hx hb dX9_told_24 (by decide) ?_
      exact W.iret (v := ms (13 + 10 * j + k)) hx hb hr (fun t ht hW => ⟨ms (13 + 10 * j + k), rfl, trivial, ht⟩) (fun q h => by cases h) dX9_told_29 hlk
    · skip
      refine lv_if_eq (tgt := 27) hx hb dX9_told_15 (by decide) (fun c_7 => ?_) (fun c_7 => absurd (by decide) c_7)
      refine lv_ldc (v := 100000000) hx hb hown (hu _ uw701) dX9_told_27 ?_
      exact W.iret (v := 100000000) hx hb hr (fun t ht hW => ⟨100000000, rfl, trivial, ht⟩) (fun q h => by cases h) dX9_told_29 hlk
  · skip
    have nc_1 : j = k := xn_eq (a := j) (b := k) (by omega) (by omega) c_1
    refine lv_iconst (v := 0) hx hb dX9_told_5 (by decide) ?_
    refine lv_goto (tgt := 29) hx hb dX9_told_6 (by decide) ?_
    exact W.iret (v := 0) hx hb hr (fun t ht hW => ⟨0, rfl, trivial, ht⟩) (fun q h => by cases h) dX9_told_29 hlk
set_option maxHeartbeats 4000000 in
set_option maxRecDepth 100000 in
theorem c_X9_offers (l : Launch) (D : va_G) (cI cJ cZ cS : ClassId) (ta : Nat) (sa sv : Nat → Nat) (sz : Nat) (h0 : Nat) (ys : Nat) (yk : Nat) (yo : Nat) (yt : Nat) (mk0 : Int32) (yfa : Nat) (yfe : Nat) (mL : Int32) (mS : Int32) (mM : Int32) (yro : Nat) (yhe : Nat) (ygr : Nat) (mF : Int32) (mC : Int32) (mY : Int32) (yta : Nat) (mz : Nat) (mf : Nat) (mt : Nat) (mv : Int32) (mw : Int32) (ywa : Nat) (ybi : Nat) (ysi : Nat) (ynu : Nat) (ymo : Nat) (fa : Nat → Int32) (ro : Nat → Int32) (k : Nat) (p0 : Int32) (hk1 : 1 ≤ k) (hk : k ≤ 6) (hro : BA 6 10 ro) : Met l yX9_offers (Cond.code yX9_offers cX9_offers 4 none :: wsU) ({ frames := 1, cells := 0, slots := 0, locals := 21 }) (va_Pc [.ref h0, .int (nI (k)), .int p0] (XW D (xT cI cJ cZ cS) ta sa sv [(h0, .inr (9, [.ref ys, .ref yk, .ref yo, .ref yt, .int mk0, .ref yfa, .ref yfe, .int mL, .int mS, .int mM, .ref yro, .ref yhe, .ref ygr, .int mF, .int mC, .int mY, .ref yta, .int (nI (mz)), .int (nI (mf)), .int (nI (mt)), .int mv, .int mw, .ref ywa, .ref ybi, .ref ysi, .ref ynu, .ref ymo])), (yfa, .inl (cI, 100, .inl fa)), (yro, .inl (cI, 6, .inl ro))] sz)) (XQv (fun (u : Int32 × Int32) => match u with | (mS2, mM2) => True) D (fun (u : Int32 × Int32) => match u with | (mS2, mM2) => [(h0, .inr (9, [.ref ys, .ref yk, .ref yo, .ref yt, .int mk0, .ref yfa, .ref yfe, .int mL, .int mS2, .int mM2, .ref yro, .ref yhe, .ref ygr, .int mF, .int mC, .int mY, .ref yta, .int (nI (mz)), .int (nI (mf)), .int (nI (mt)), .int mv, .int mw, .ref ywa, .ref ybi, .ref ysi, .ref ynu, .ref ymo])), (yfa, .inl (cI, 100, .inl fa)), (yro, .inl (cI, 6, .inl ro))]) (va_A [(h0, .inr (9, [.ref ys, .ref yk, .ref yo, .ref yt, .int mk0, .ref yfa, .ref yfe, .int mL, .int mS, .int mM, .ref yro, .ref yhe, .ref ygr, .int mF, .int mC, .int mY, .ref yta, .int (nI (mz)), .int (nI (mf)), .int (nI (mt)), .int mv, .int mw, .ref ywa, .ref ybi, .ref ysi, .ref ynu, .ref ymo])), (yfa, .inl (cI, 100, .inl fa)), (yro, .inl (cI, 6, .inl ro))] sz)) 0 0 (va_A [(h0, .inr (9, [.ref ys, .ref yk, .ref yo, .ref yt, .int mk0, .ref yfa, .ref yfe, .int mL, .int mS, .int mM, .ref yro, .ref yhe, .ref ygr, .int mF, .int mC, .int mY, .ref yta, .int (nI (mz)), .int (nI (mf)), .int (nI (mt)), .int mv, .int mw, .ref ywa, .ref ybi, .ref ysi, .ref ynu, .ref ymo])), (yfa, .inl (cI, 100, .inl fa)), (yro, .inl (cI, 6, .inl ro))] sz) := by
  refine xh (QA := fun A => XQv (fun (u : Int32 × Int32) => match u with | (mS2, mM2) => True) D (fun (u : Int32 × Int32) => match u with | (mS2, mM2) => [(h0, .inr (9, [.ref ys, .ref yk, .ref yo, .ref yt, .int mk0, .ref yfa, .ref yfe, .int mL, .int mS2, .int mM2, .ref yro, .ref yhe, .ref ygr, .int mF, .int mC, .int mY, .ref yta, .int (nI (mz)), .int (nI (mf)), .int (nI (mt)), .int mv, .int mw, .ref ywa, .ref ybi, .ref ysi, .ref ynu, .ref ymo])), (yfa, .inl (cI, 100, .inl fa)), (yro, .inl (cI, 6, .inl ro))]) A) (fr := fun A => A) (by decide) (Nat.le_of_ble_eq_true rfl) ?_
  intro p e s m below meth c ls A hF hr hlk hin hsz hP hK hD hN hZ hA hS hl
  have hF : CallFix p m c cX9_offers 4 s _ _ RX9 := hF
  have hx := hF.1
  have hb := hF.2.1
  have hml := hF.2.2.1
  have hown := hF.2.2.2.1
  have hu : ∀ w ∈ wsU, w.before _ s = true := fun w h => hF.2.2.2.2 w (List.mem_cons_of_mem _ h)
  have hl : lv_has ls 4 [(0, .ref h0), (1, .int (nI (k))), (2, .int p0)] := hl
  refine lv_aload_n hx hb dX9_offers_0 rfl (lv_at hl 0 rfl) ?_
  refine lv_iconst (v := 0) hx hb dX9_offers_1 (by decide) ?_
  refine xp hF kf_X9_126 tyX9_ok nmX9 hK hP hD hS 0 rfl rfl rfl rfl (Nat.le_of_ble_eq_true rfl) dX9_offers_2 (fun H locs hP hD hS => ?_)
  have hP : va_P D vwCl [(h0, .inr (9, [.ref ys, .ref yk, .ref yo, .ref yt, .int mk0, .ref yfa, .ref yfe, .int mL, .int 0, .int mM, .ref yro, .ref yhe, .ref ygr, .int mF, .int mC, .int mY, .ref yta, .int (nI (mz)), .int (nI (mf)), .int (nI (mt)), .int mv, .int mw, .ref ywa, .ref ybi, .ref ysi, .ref ynu, .ref ymo])), (yfa, .inl (cI, 100, .inl fa)), (yro, .inl (cI, 6, .inl ro))] H := hP
  have hD : va_D A [(h0, .inr (9, [.ref ys, .ref yk, .ref yo, .ref yt, .int mk0, .ref yfa, .ref yfe, .int mL, .int 0, .int mM, .ref yro, .ref yhe, .ref ygr, .int mF, .int mC, .int mY, .ref yta, .int (nI (mz)), .int (nI (mf)), .int (nI (mt)), .int mv, .int mw, .ref ywa, .ref ybi, .ref ysi, .ref ynu, .ref ymo])), (yfa, .inl (cI, 100, .inl fa)), (yro, .inl (cI, 6, .inl ro))] := hD
  refine lv_iconst (v := 1) hx hb dX9_offers_5 (by decide) ?_
  refine lv_istore_n (lv' := [(3, .int 1), (0, .ref h0), (1, .int (nI (k))), (2, .int p0)]) hx hb dX9_offers_6 rfl hl (by decide) rfl (fun ls hl => ?_)
  suffices loop_7 : ∀ (n_7 : Nat) (i : Nat) (u8 : Int32) (H : Heap) (locs : List Loc) (ls : Array Slot), k - i < n_7 → (1 ≤ i) → (i ≤ k ∨ i = 1) → va_P D vwCl [(h0, .inr (9, [.ref ys, .ref yk, .ref yo, .ref yt, .int mk0, .ref yfa, .ref yfe, .int mL, .int u8, .int mM, .ref yro, .ref yhe, .ref ygr, .int mF, .int mC, .int mY, .ref yta, .int (nI (mz)), .int (nI (mf)), .int (nI (mt)), .int mv, .int mw, .ref ywa, .ref ybi, .ref ysi, .ref ynu, .ref ymo])), (yfa, .inl (cI, 100, .inl fa)), (yro, .inl (cI, 6, .inl ro))] H → va_D A [(h0, .inr (9, [.ref ys, .ref yk, .ref yo, .ref yt, .int mk0, .ref yfa, .ref yfe, .int mL, .int u8, .int mM, .ref yro, .ref yhe, .ref ygr, .int mF, .int mC, .int mY, .ref yta, .int (nI (mz)), .int (nI (mf)), .int (nI (mt)), .int mv, .int mw, .ref ywa, .ref ybi, .ref ysi, .ref ynu, .ref ymo])), (yfa, .inl (cI, 100, .inl fa)), (yro, .inl (cI, 6, .inl ro))] → va_S A s.heap H locs → lv_has ls 4 [(3, .int (nI (i))), (0, .ref h0), (1, .int (nI (k))), (2, .int p0)] → W p l e ({ frames := 1, cells := 0, slots := 0, locals := 21 }) s m ([.ref h0, .int (nI (k)), .int p0] : List Value).toArray below meth c H locs 0 0 (MQ below (XQv (fun (u : Int32 × Int32) => match u with | (mS2, mM2) => True) D (fun (u : Int32 × Int32) => match u with | (mS2, mM2) => [(h0, .inr (9, [.ref ys, .ref yk, .ref yo, .ref yt, .int mk0, .ref yfa, .ref yfe, .int mL, .int mS2, .int mM2, .ref yro, .ref yhe, .ref ygr, .int mF, .int mC, .int mY, .ref yta, .int (nI (mz)), .int (nI (mf)), .int (nI (mt)), .int mv, .int mw, .ref ywa, .ref ybi, .ref ysi, .ref ynu, .ref ymo])), (yfa, .inl (cI, 100, .inl fa)), (yro, .inl (cI, 6, .inl ro))]) A) ([.ref h0, .int (nI (k)), .int p0] : List Value).toArray s 0 0 A) (F0 m 7 ls []) by
    exact loop_7 _ 1 0 _ _ _ (Nat.lt_succ_self _) (by omega) (by omega) hP hD hS (lv_sub hl [0, 1, 2, 3] rfl)
  intro n_7
  induction n_7 with
  | zero =>
    intro i u8 H locs ls hm_7
    exact absurd hm_7 (Nat.not_lt_zero _)
  | succ n_7 ih_7 =>
    intro i u8 H locs ls hm_7 hi1 hi hP hD hS hl
    refine lv_iload_n hx hb dX9_offers_7 rfl (lv_at hl 0 rfl) ?_
    refine lv_iload_n hx hb dX9_offers_8 rfl (lv_at hl 2 rfl) ?_
    refine lv_icmp_ge (tgt := 45) hx hb dX9_offers_9 (by decide) (fun c_1 => ?_) (fun c_1 => ?_)
    · skip
      have nc_1 : k ≤ i := xn_le (a := k) (b := i) (by omega) (by omega) c_1
      refine lv_iload_n hx hb dX9_offers_45 rfl (lv_at hl 3 rfl) ?_
      refine lv_if_eq (tgt := 76) hx hb dX9_offers_46 (by decide) (fun c_2 => ?_) (fun c_2 => ?_)
      · skip
        refine lv_aload_n hx hb dX9_offers_76 rfl (lv_at hl 1 rfl) ?_
        refine lv_aload_n hx hb dX9_offers_77 rfl (lv_at hl 1 rfl) ?_
        refine xg hF kf_X9_126 hK hP 0 rfl rfl dX9_offers_78 ?_
        refine lv_aload_n hx hb dX9_offers_81 rfl (lv_at hl 1 rfl) ?_
        refine xg hF kf_X9_134 hK hP 0 rfl rfl dX9_offers_82 ?_
        refine lv_icmp_ge (tgt := 95) hx hb dX9_offers_85 (by decide) (fun c_3 => ?_) (fun c_3 => ?_)
        · skip
          refine lv_aload_n hx hb dX9_offers_95 rfl (lv_at hl 1 rfl) ?_
          refine xg hF kf_X9_134 hK hP 0 rfl rfl dX9_offers_96 ?_
          refine xp hF kf_X9_134 tyX9_ok nmX9 hK hP hD hS 0 rfl rfl rfl rfl (Nat.le_of_ble_eq_true rfl) dX9_offers_99 (fun H locs hP hD hS => ?_)
          have hP : va_P D vwCl [(h0, .inr (9, [.ref ys, .ref yk, .ref yo, .ref yt, .int mk0, .ref yfa, .ref yfe, .int mL, .int u8, .int mM, .ref yro, .ref yhe, .ref ygr, .int mF, .int mC, .int mY, .ref yta, .int (nI (mz)), .int (nI (mf)), .int (nI (mt)), .int mv, .int mw, .ref ywa, .ref ybi, .ref ysi, .ref ynu, .ref ymo])), (yfa, .inl (cI, 100, .inl fa)), (yro, .inl (cI, 6, .inl ro))] H := hP
          have hD : va_D A [(h0, .inr (9, [.ref ys, .ref yk, .ref yo, .ref yt, .int mk0, .ref yfa, .ref yfe, .int mL, .int u8, .int mM, .ref yro, .ref yhe, .ref ygr, .int mF, .int mC, .int mY, .ref yta, .int (nI (mz)), .int (nI (mf)), .int (nI (mt)), .int mv, .int mw, .ref ywa, .ref ybi, .ref ysi, .ref ynu, .ref ymo])), (yfa, .inl (cI, 100, .inl fa)), (yro, .inl (cI, 6, .inl ro))] := hD
          exact W.vret hx hb hr (fun t ht hW => ⟨⟨(u8, mM), rfl, trivial, by rw [ht]; exact hP.sub [0, 1, 2] rfl, hD.sub [0, 1, 2] (by decide) rfl⟩, hS.F ht⟩) hS.2.2 dX9_offers_102 hlk
        · skip
          refine lv_aload_n hx hb dX9_offers_88 rfl (lv_at hl 1 rfl) ?_
          refine xg hF kf_X9_126 hK hP 0 rfl rfl dX9_offers_89 ?_
          refine lv_goto (tgt := 99) hx hb dX9_offers_92 (by decide) ?_
          refine xp hF kf_X9_134 tyX9_ok nmX9 hK hP hD hS 0 rfl rfl rfl rfl (Nat.le_of_ble_eq_true rfl) dX9_offers_99 (fun H locs hP hD hS => ?_)
          have hP : va_P D vwCl [(h0, .inr (9, [.ref ys, .ref yk, .ref yo, .ref yt, .int mk0, .ref yfa, .ref yfe, .int mL, .int u8, .int u8, .ref yro, .ref yhe, .ref ygr, .int mF, .int mC, .int mY, .ref yta, .int (nI (mz)), .int (nI (mf)), .int (nI (mt)), .int mv, .int mw, .ref ywa, .ref ybi, .ref ysi, .ref ynu, .ref ymo])), (yfa, .inl (cI, 100, .inl fa)), (yro, .inl (cI, 6, .inl ro))] H := hP
          have hD : va_D A [(h0, .inr (9, [.ref ys, .ref yk, .ref yo, .ref yt, .int mk0, .ref yfa, .ref yfe, .int mL, .int u8, .int u8, .ref yro, .ref yhe, .ref ygr, .int mF, .int mC, .int mY, .ref yta, .int (nI (mz)), .int (nI (mf)), .int (nI (mt)), .int mv, .int mw, .ref ywa, .ref ybi, .ref ysi, .ref ynu, .ref ymo])), (yfa, .inl (cI, 100, .inl fa)), (yro, .inl (cI, 6, .inl ro))] := hD
          exact W.vret hx hb hr (fun t ht hW => ⟨⟨(u8, u8), rfl, trivial, by rw [ht]; exact hP.sub [0, 1, 2] rfl, hD.sub [0, 1, 2] (by decide) rfl⟩, hS.F ht⟩) hS.2.2 dX9_offers_102 hlk
      · skip
        refine lv_aload_n hx hb dX9_offers_49 rfl (lv_at hl 1 rfl) ?_
        refine lv_aload_n hx hb dX9_offers_50 rfl (lv_at hl 1 rfl) ?_
        refine xg hF kf_X9_22 hK hP 0 rfl rfl dX9_offers_51 ?_
        refine lv_bipush (v := 10) hx hb dX9_offers_54 (by decide) ?_
        refine lv_aload_n hx hb dX9_offers_56 rfl (lv_at hl 1 rfl) ?_
        refine xg hF kf_X9_28 hK hP 0 rfl rfl dX9_offers_57 ?_
        refine lv_iload_n hx hb dX9_offers_60 rfl (lv_at hl 2 rfl) ?_
        refine lv_iconst (v := 1) hx hb dX9_offers_61 (by decide) ?_
        refine lv_isub hx hb dX9_offers_62 ?_
        refine xl_i (y := nI (k - 1)) (pk_sub (show 1 ≤ k by omega)) ?_
        refine va_iald hx hb hK hP 2 0 rfl rfl (vp_in_nI (show k - 1 < 6 by omega) (by decide)) dX9_offers_63 ?_
        refine xl_i (y := ro (k - 1)) (congrArg ro (nI_clamp (show k - 1 < 2 ^ 31 by omega))) ?_
        obtain ⟨q_4, hq_4, eq_4⟩ := hro (k - 1) (by omega)
        refine xl_i (y := nI (q_4)) eq_4 ?_
        refine lv_imul hx hb dX9_offers_64 ?_
        refine xl_i (y := nI (10 * q_4)) (pk_mul 10 q_4) ?_
        refine lv_aload_n hx hb dX9_offers_65 rfl (lv_at hl 1 rfl) ?_
        refine xg hF kf_X9_28 hK hP 0 rfl rfl dX9_offers_66 ?_
        refine lv_iconst (v := 0) hx hb dX9_offers_69 (by decide) ?_
        refine va_iald hx hb hK hP 2 0 rfl rfl (xin 0 6 (by decide) (by decide)) dX9_offers_70 ?_
        refine xl_i (y := ro 0) (congrArg ro rfl) ?_
        obtain ⟨q_5, hq_5, eq_5⟩ := hro 0 (by omega)
        refine xl_i (y := nI (q_5)) eq_5 ?_
        refine lv_iadd hx hb dX9_offers_71 ?_
        refine xl_i (y := nI (10 * q_4 + q_5)) (nI_add (10 * q_4) q_5) ?_
        refine va_iald hx hb hK hP 1 0 rfl rfl (vp_in_nI (show 10 * q_4 + q_5 < 100 by omega) (by decide)) dX9_offers_72 ?_
        refine xl_i (y := fa (10 * q_4 + q_5)) (congrArg fa (nI_clamp (show 10 * q_4 + q_5 < 2 ^ 31 by omega))) ?_
        refine xc_Vv (wr := [(yfa, .inl (cI, 100, .inl fa)), (yro, .inl (cI, 6, .inl ro))]) hF (c_X9_adds l D cI cJ cZ cS ta sa sv H.size h0 ys yk yo yt mk0 yfa yfe mL u8 mM yro yhe ygr mF mC mY yta mz mf mt mv mw ywa ybi ysi ynu ymo (fa (10 * q_4 + q_5)) ) kv_X9_130 ⟨rfl, rfl, Nat.le_of_ble_eq_true rfl, Nat.le_of_ble_eq_true rfl⟩ ⟨Nat.le_of_ble_eq_true rfl, Nat.le_of_ble_eq_true rfl⟩ hK hN hZ hP hD hS hA [0] [1, 2] rfl rfl rfl rfl (by decide) 0 rfl rfl rfl rfl hl.1 rfl (Nat.le_of_ble_eq_true rfl) dX9_offers_73 (fun u_r_6 H locs hw_r_6 hP hD hS => ?_)
        obtain ⟨mS2_7, rfl⟩ : ∃ z, z = u_r_6 := ⟨_, rfl⟩
        try dsimp only at hw_r_6
        have hP : va_P D vwCl [(yfa, .inl (cI, 100, .inl fa)), (yro, .inl (cI, 6, .inl ro)), (h0, .inr (9, [.ref ys, .ref yk, .ref yo, .ref yt, .int mk0, .ref yfa, .ref yfe, .int mL, .int mS2_7, .int mM, .ref yro, .ref yhe, .ref ygr, .int mF, .int mC, .int mY, .ref yta, .int (nI (mz)), .int (nI (mf)), .int (nI (mt)), .int mv, .int mw, .ref ywa, .ref ybi, .ref ysi, .ref ynu, .ref ymo]))] H := hP
        have hD : va_D A [(yfa, .inl (cI, 100, .inl fa)), (yro, .inl (cI, 6, .inl ro)), (h0, .inr (9, [.ref ys, .ref yk, .ref yo, .ref yt, .int mk0, .ref yfa, .ref yfe, .int mL, .int mS2_7, .int mM, .ref yro, .ref yhe, .ref ygr, .int mF, .int mC, .int mY, .ref yta, .int (nI (mz)), .int (nI (mf)), .int (nI (mt)), .int mv, .int mw, .ref ywa, .ref ybi, .ref ysi, .ref ynu, .ref ymo]))] := hD
        refine lv_aload_n hx hb dX9_offers_76 rfl (lv_at hl 1 rfl) ?_
        refine lv_aload_n hx hb dX9_offers_77 rfl (lv_at hl 1 rfl) ?_
        refine xg hF kf_X9_126 hK hP 2 rfl rfl dX9_offers_78 ?_
        refine lv_aload_n hx hb dX9_offers_81 rfl (lv_at hl 1 rfl) ?_
        refine xg hF kf_X9_134 hK hP 2 rfl rfl dX9_offers_82 ?_
        refine lv_icmp_ge (tgt := 95) hx hb dX9_offers_85 (by decide) (fun c_8 => ?_) (fun c_8 => ?_)
        · skip
          refine lv_aload_n hx hb dX9_offers_95 rfl (lv_at hl 1 rfl) ?_
          refine xg hF kf_X9_134 hK hP 2 rfl rfl dX9_offers_96 ?_
          refine xp hF kf_X9_134 tyX9_ok nmX9 hK hP hD hS 2 rfl rfl rfl rfl (Nat.le_of_ble_eq_true rfl) dX9_offers_99 (fun H locs hP hD hS => ?_)
          have hP : va_P D vwCl [(yfa, .inl (cI, 100, .inl fa)), (yro, .inl (cI, 6, .inl ro)), (h0, .inr (9, [.ref ys, .ref yk, .ref yo, .ref yt, .int mk0, .ref yfa, .ref yfe, .int mL, .int mS2_7, .int mM, .ref yro, .ref yhe, .ref ygr, .int mF, .int mC, .int mY, .ref yta, .int (nI (mz)), .int (nI (mf)), .int (nI (mt)), .int mv, .int mw, .ref ywa, .ref ybi, .ref ysi, .ref ynu, .ref ymo]))] H := hP
          have hD : va_D A [(yfa, .inl (cI, 100, .inl fa)), (yro, .inl (cI, 6, .inl ro)), (h0, .inr (9, [.ref ys, .ref yk, .ref yo, .ref yt, .int mk0, .ref yfa, .ref yfe, .int mL, .int mS2_7, .int mM, .ref yro, .ref yhe, .ref ygr, .int mF, .int mC, .int mY, .ref yta, .int (nI (mz)), .int (nI (mf)), .int (nI (mt)), .int mv, .int mw, .ref ywa, .ref ybi, .ref ysi, .ref ynu, .ref ymo]))] := hD
          exact W.vret hx hb hr (fun t ht hW => ⟨⟨(mS2_7, mM), rfl, trivial, by rw [ht]; exact hP.sub [2, 0, 1] rfl, hD.sub [2, 0, 1] (by decide) rfl⟩, hS.F ht⟩) hS.2.2 dX9_offers_102 hlk
        · skip
          refine lv_aload_n hx hb dX9_offers_88 rfl (lv_at hl 1 rfl) ?_
          refine xg hF kf_X9_126 hK hP 2 rfl rfl dX9_offers_89 ?_
          refine lv_goto (tgt := 99) hx hb dX9_offers_92 (by decide) ?_
          refine xp hF kf_X9_134 tyX9_ok nmX9 hK hP hD hS 2 rfl rfl rfl rfl (Nat.le_of_ble_eq_true rfl) dX9_offers_99 (fun H locs hP hD hS => ?_)
          have hP : va_P D vwCl [(yfa, .inl (cI, 100, .inl fa)), (yro, .inl (cI, 6, .inl ro)), (h0, .inr (9, [.ref ys, .ref yk, .ref yo, .ref yt, .int mk0, .ref yfa, .ref yfe, .int mL, .int mS2_7, .int mS2_7, .ref yro, .ref yhe, .ref ygr, .int mF, .int mC, .int mY, .ref yta, .int (nI (mz)), .int (nI (mf)), .int (nI (mt)), .int mv, .int mw, .ref ywa, .ref ybi, .ref ysi, .ref ynu, .ref ymo]))] H := hP
          have hD : va_D A [(yfa, .inl (cI, 100, .inl fa)), (yro, .inl (cI, 6, .inl ro)), (h0, .inr (9, [.ref ys, .ref yk, .ref yo, .ref yt, .int mk0, .ref yfa, .ref yfe, .int mL, .int mS2_7, .int mS2_7, .ref yro, .ref yhe, .ref ygr, .int mF, .int mC, .int mY, .ref yta, .int (nI (mz)), .int (nI (mf)), .int (nI (mt)), .int mv, .int mw, .ref ywa, .ref ybi, .ref ysi, .ref ynu, .ref ymo]))] := hD
          exact W.vret hx hb hr (fun t ht hW => ⟨⟨(mS2_7, mS2_7), rfl, trivial, by rw [ht]; exact hP.sub [2, 0, 1] rfl, hD.sub [2, 0, 1] (by decide) rfl⟩, hS.F ht⟩) hS.2.2 dX9_offers_102 hlk
    · skip
      have nc_1 : i < k := xn_nle (a := k) (b := i) (by omega) (by omega) c_1
      refine lv_aload_n hx hb dX9_offers_12 rfl (lv_at hl 1 rfl) ?_
      refine lv_aload_n hx hb dX9_offers_13 rfl (lv_at hl 1 rfl) ?_
      refine xg hF kf_X9_22 hK hP 0 rfl rfl dX9_offers_14 ?_
      refine lv_bipush (v := 10) hx hb dX9_offers_17 (by decide) ?_
      refine lv_aload_n hx hb dX9_offers_19 rfl (lv_at hl 1 rfl) ?_
      refine xg hF kf_X9_28 hK hP 0 rfl rfl dX9_offers_20 ?_
      refine lv_iload_n hx hb dX9_offers_23 rfl (lv_at hl 0 rfl) ?_
      refine lv_iconst (v := 1) hx hb dX9_offers_24 (by decide) ?_
      refine lv_isub hx hb dX9_offers_25 ?_
      refine xl_i (y := nI (i - 1)) (pk_sub (show 1 ≤ i by omega)) ?_
      refine va_iald hx hb hK hP 2 0 rfl rfl (vp_in_nI (show i - 1 < 6 by omega) (by decide)) dX9_offers_26 ?_
      refine xl_i (y := ro (i - 1)) (congrArg ro (nI_clamp (show i - 1 < 2 ^ 31 by omega))) ?_
      obtain ⟨q_9, hq_9, eq_9⟩ := hro (i - 1) (by omega)
      refine xl_i (y := nI (q_9)) eq_9 ?_
      refine lv_imul hx hb dX9_offers_27 ?_
      refine xl_i (y := nI (10 * q_9)) (pk_mul 10 q_9) ?_
      refine lv_aload_n hx hb dX9_offers_28 rfl (lv_at hl 1 rfl) ?_
      refine xg hF kf_X9_28 hK hP 0 rfl rfl dX9_offers_29 ?_
      refine lv_iload_n hx hb dX9_offers_32 rfl (lv_at hl 0 rfl) ?_
      refine va_iald hx hb hK hP 2 0 rfl rfl (vp_in_nI (show i < 6 by omega) (by decide)) dX9_offers_33 ?_
      refine xl_i (y := ro i) (congrArg ro (nI_clamp (show i < 2 ^ 31 by omega))) ?_
      obtain ⟨q_10, hq_10, eq_10⟩ := hro i (by omega)
      refine xl_i (y := nI (q_10)) eq_10 ?_
      refine lv_iadd hx hb dX9_offers_34 ?_
      refine xl_i (y := nI (10 * q_9 + q_10)) (nI_add (10 * q_9) q_10) ?_
      refine va_iald hx hb hK hP 1 0 rfl rfl (vp_in_nI (show 10 * q_9 + q_10 < 100 by omega) (by decide)) dX9_offers_35 ?_
      refine xl_i (y := fa (10 * q_9 + q_10)) (congrArg fa (nI_clamp (show 10 * q_9 + q_10 < 2 ^ 31 by omega))) ?_
      refine xc_Vv (wr := [(yfa, .inl (cI, 100, .inl fa)), (yro, .inl (cI, 6, .inl ro))]) hF (c_X9_adds l D cI cJ cZ cS ta sa sv H.size h0 ys yk yo yt mk0 yfa yfe mL u8 mM yro yhe ygr mF mC mY yta mz mf mt mv mw ywa ybi ysi ynu ymo (fa (10 * q_9 + q_10)) ) kv_X9_130 ⟨rfl, rfl, Nat.le_of_ble_eq_true rfl, Nat.le_of_ble_eq_true rfl⟩ ⟨Nat.le_of_ble_eq_true rfl, Nat.le_of_ble_eq_true rfl⟩ hK hN hZ hP hD hS hA [0] [1, 2] rfl rfl rfl rfl (by decide) 0 rfl rfl rfl rfl hl.1 rfl (Nat.le_of_ble_eq_true rfl) dX9_offers_36 (fun u_r_11 H locs hw_r_11 hP hD hS => ?_)
      obtain ⟨mS2_12, rfl⟩ : ∃ z, z = u_r_11 := ⟨_, rfl⟩
      try dsimp only at hw_r_11
      have hP : va_P D vwCl [(yfa, .inl (cI, 100, .inl fa)), (yro, .inl (cI, 6, .inl ro)), (h0, .inr (9, [.ref ys, .ref yk, .ref yo, .ref yt, .int mk0, .ref yfa, .ref yfe, .int mL, .int mS2_12, .int mM, .ref yro, .ref yhe, .ref ygr, .int mF, .int mC, .int mY, .ref yta, .int (nI (mz)), .int (nI (mf)), .int (nI (mt)), .int mv, .int mw, .ref ywa, .ref ybi, .ref ysi, .ref ynu, .ref ymo]))] H := hP
      have hD : va_D A [(yfa, .inl (cI, 100, .inl fa)), (yro, .inl (cI, 6, .inl ro)), (h0, .inr (9, [.ref ys, .ref yk, .ref yo, .ref yt, .int mk0, .ref yfa, .ref yfe, .int mL, .int mS2_12, .int mM, .ref yro, .ref yhe, .ref ygr, .int mF, .int mC, .int mY, .ref yta, .int (nI (mz)), .int (nI (mf)), .int (nI (mt)), .int mv, .int mw, .ref ywa, .ref ybi, .ref ysi, .ref ynu, .ref ymo]))] := hD
      refine lv_iinc (v := nI (i + 1)) (lv' := [(3, .int (nI (i + 1))), (0, .ref h0), (1, .int (nI (k))), (2, .int p0)]) hx hb dX9_offers_39 hl (k := 0) rfl (nI_1 (i)) (by decide) rfl (fun ls hl => ?_)
      refine lv_goto (tgt := 7) hx hb dX9_offers_42 (by decide) ?_
      exact ih_7 (i + 1) mS2_12 _ _ _ (by omega) (by omega) (by omega) (hP.sub [2, 0, 1] rfl) (hD.sub [2, 0, 1] (by decide) rfl) hS (lv_sub hl [0, 1, 2, 3] rfl)
set_option maxHeartbeats 4000000 in
set_option maxRecDepth 100000 in
theorem c_X9_orders (l : Launch) (D : va_G) (cI cJ cZ cS : ClassId) (ta : Nat) (sa sv : Nat → Nat) (sz : Nat) (h0 : Nat) (ys : Nat) (yk : Nat) (yo : Nat) (yt : Nat) (mk0 : Int32) (yfa : Nat) (yfe : Nat) (mL : Int32) (mS : Int32) (mM : Int32) (yro : Nat) (yhe : Nat) (ygr : Nat) (mF : Int32) (mC : Int32) (mY : Int32) (yta : Nat) (mz : Nat) (mf : Nat) (mt : Nat) (mv : Int32) (mw : Int32) (ywa : Nat) (ybi : Nat) (ysi : Nat) (ynu : Nat) (ymo : Nat) (ms : Nat → Int32) (fa : Nat → Int32) (ro : Nat → Int32) (P : Nat) (Rn : Nat) (Wn : Nat) (fae : Nat → Int32) (fal : Nat → Int32) (fau : Nat → Int32) (fao : Nat → Int32) (farn : Nat → Int32) (farp : Nat → Int32) (fak : Nat → Int32) (fawn : Nat → Int32) (fawp : Nat → Int32) (fat : Nat → Int32) (fas : Nat → Int32) (j : Nat) (p0 : Int32) (hj : j < Rn) (hro : BA 6 10 ro) (hs0 : ms 0 = nI P) (hs1 : ms 1 = nI Rn) (hs2 : ms 2 = nI Wn) (hsS : SI ms) (hsM : MI ms) (hsp : P ≤ 10) (hsr : Rn ≤ 8) (hsw : Wn ≤ 8) (hsR : RI Rn ms) (hsG : FR P ms fae fal fau fao farn farp fak fawn fawp fat fas) : Met l yX9_orders (Cond.code yX9_orders cX9_orders 10 none :: wsU) ({ frames := 2, cells := 0, slots := 0, locals := 44 }) (va_Pc [.ref h0, .int (nI (j)), .int p0] (XW D (xT cI cJ cZ cS) ta sa sv [(h0, .inr (9, [.ref ys, .ref yk, .ref yo, .ref yt, .int mk0, .ref yfa, .ref yfe, .int mL, .int mS, .int mM, .ref yro, .ref yhe, .ref ygr, .int mF, .int mC, .int mY, .ref yta, .int (nI (mz)), .int (nI (mf)), .int (nI (mt)), .int mv, .int mw, .ref ywa, .ref ybi, .ref ysi, .ref ynu, .ref ymo])), (ys, .inl (cI, 449, .inl ms)), (yfa, .inl (cI, 100, .inl fa)), (yro, .inl (cI, 6, .inl ro))] sz)) (XQv (fun (u : Int32 × Int32 × (Nat → Int32)) => match u with | (mS2, mM2, ro2) => (BA 6 10 ro2)) D (fun (u : Int32 × Int32 × (Nat → Int32)) => match u with | (mS2, mM2, ro2) => [(h0, .inr (9, [.ref ys, .ref yk, .ref yo, .ref yt, .int mk0, .ref yfa, .ref yfe, .int mL, .int mS2, .int mM2, .ref yro, .ref yhe, .ref ygr, .int mF, .int mC, .int mY, .ref yta, .int (nI (mz)), .int (nI (mf)), .int (nI (mt)), .int mv, .int mw, .ref ywa, .ref ybi, .ref ysi, .ref ynu, .ref ymo])), (ys, .inl (cI, 449, .inl ms)), (yfa, .inl (cI, 100, .inl fa)), (yro, .inl (cI, 6, .inl ro2))]) (va_A [(h0, .inr (9, [.ref ys, .ref yk, .ref yo, .ref yt, .int mk0, .ref yfa, .ref yfe, .int mL, .int mS, .int mM, .ref yro, .ref yhe, .ref ygr, .int mF, .int mC, .int mY, .ref yta, .int (nI (mz)), .int (nI (mf)), .int (nI (mt)), .int mv, .int mw, .ref ywa, .ref ybi, .ref ysi, .ref ynu, .ref ymo])), (ys, .inl (cI, 449, .inl ms)), (yfa, .inl (cI, 100, .inl fa)), (yro, .inl (cI, 6, .inl ro))] sz)) 0 0 (va_A [(h0, .inr (9, [.ref ys, .ref yk, .ref yo, .ref yt, .int mk0, .ref yfa, .ref yfe, .int mL, .int mS, .int mM, .ref yro, .ref yhe, .ref ygr, .int mF, .int mC, .int mY, .ref yta, .int (nI (mz)), .int (nI (mf)), .int (nI (mt)), .int mv, .int mw, .ref ywa, .ref ybi, .ref ysi, .ref ynu, .ref ymo])), (ys, .inl (cI, 449, .inl ms)), (yfa, .inl (cI, 100, .inl fa)), (yro, .inl (cI, 6, .inl ro))] sz) := by
  refine xh (QA := fun A => XQv (fun (u : Int32 × Int32 × (Nat → Int32)) => match u with | (mS2, mM2, ro2) => (BA 6 10 ro2)) D (fun (u : Int32 × Int32 × (Nat → Int32)) => match u with | (mS2, mM2, ro2) => [(h0, .inr (9, [.ref ys, .ref yk, .ref yo, .ref yt, .int mk0, .ref yfa, .ref yfe, .int mL, .int mS2, .int mM2, .ref yro, .ref yhe, .ref ygr, .int mF, .int mC, .int mY, .ref yta, .int (nI (mz)), .int (nI (mf)), .int (nI (mt)), .int mv, .int mw, .ref ywa, .ref ybi, .ref ysi, .ref ynu, .ref ymo])), (ys, .inl (cI, 449, .inl ms)), (yfa, .inl (cI, 100, .inl fa)), (yro, .inl (cI, 6, .inl ro2))]) A) (fr := fun A => A) (by decide) (Nat.le_of_ble_eq_true rfl) ?_
  intro p e s m below meth c ls A hF hr hlk hin hsz hP hK hD hN hZ hA hS hl
  have hF : CallFix p m c cX9_orders 10 s _ _ RX9 := hF
  have hx := hF.1
  have hb := hF.2.1
  have hml := hF.2.2.1
  have hown := hF.2.2.2.1
  have hu : ∀ w ∈ wsU, w.before _ s = true := fun w h => hF.2.2.2.2 w (List.mem_cons_of_mem _ h)
  have hl : lv_has ls 10 [(0, .ref h0), (1, .int (nI (j))), (2, .int p0)] := hl
  refine lv_aload_n hx hb dX9_orders_0 rfl (lv_at hl 0 rfl) ?_
  refine lv_iload_n hx hb dX9_orders_1 rfl (lv_at hl 1 rfl) ?_
  refine lv_iconst (v := 1) hx hb dX9_orders_2 (by decide) ?_
  refine xc_Vr hF (c_X9_of1 l D cI cJ cZ cS ta sa sv s.heap.size h0 ys yk yo yt mk0 yfa yfe mL mS mM yro yhe ygr mF mC mY yta mz mf mt mv mw ywa ybi ysi ynu ymo ms P Rn Wn fae fal fau fao farn farp fak fawn fawp fat fas j (by omega) hs0 hs1 hs2 hsS hsM hsp hsr hsw hsR hsG) kv_X9_137 ⟨rfl, rfl, Nat.le_of_ble_eq_true rfl, Nat.le_of_ble_eq_true rfl⟩ ⟨Nat.le_of_ble_eq_true rfl, Nat.le_of_ble_eq_true rfl⟩ hK hN hZ hP hD hS hA [0, 1] rfl rfl 0 rfl rfl rfl rfl hl.1 rfl (Nat.le_of_ble_eq_true rfl) dX9_orders_3 (fun r_1 hw_r_1 => ?_)
  obtain ⟨q_2, rfl, h_3, h_4, h_5⟩ := hw_r_1
  refine lv_istore_n (lv' := [(3, .int (nI (q_2))), (0, .ref h0), (1, .int (nI (j))), (2, .int p0)]) hx hb dX9_orders_6 rfl hl (by decide) rfl (fun ls hl => ?_)
  refine lv_iconst (v := 1) hx hb dX9_orders_7 (by decide) ?_
  refine lv_istore (lv' := [(4, .int 1), (3, .int (nI (q_2))), (0, .ref h0), (1, .int (nI (j))), (2, .int p0)]) hx hb dX9_orders_8 hl (by decide) rfl (fun ls hl => ?_)
  refine lv_iconst (v := 2) hx hb dX9_orders_10 (by decide) ?_
  refine lv_istore (lv' := [(5, .int 2), (4, .int 1), (3, .int (nI (q_2))), (0, .ref h0), (1, .int (nI (j))), (2, .int p0)]) hx hb dX9_orders_11 hl (by decide) rfl (fun ls hl => ?_)
  suffices loop_13 : ∀ (n_13 : Nat) (u4 : Nat) (i : Nat) (H : Heap) (locs : List Loc) (ls : Array Slot), q_2 - i < n_13 → (i = 2 ∧ u4 = 1 ∨ i = 3 ∧ u4 = 2 ∨ i = 4 ∧ u4 = 6 ∨ i = 5 ∧ u4 = 24 ∨ i = 6 ∧ u4 = 120) → va_P D vwCl [(h0, .inr (9, [.ref ys, .ref yk, .ref yo, .ref yt, .int mk0, .ref yfa, .ref yfe, .int mL, .int mS, .int mM, .ref yro, .ref yhe, .ref ygr, .int mF, .int mC, .int mY, .ref yta, .int (nI (mz)), .int (nI (mf)), .int (nI (mt)), .int mv, .int mw, .ref ywa, .ref ybi, .ref ysi, .ref ynu, .ref ymo])), (ys, .inl (cI, 449, .inl ms)), (yfa, .inl (cI, 100, .inl fa)), (yro, .inl (cI, 6, .inl ro))] H → va_D A [(h0, .inr (9, [.ref ys, .ref yk, .ref yo, .ref yt, .int mk0, .ref yfa, .ref yfe, .int mL, .int mS, .int mM, .ref yro, .ref yhe, .ref ygr, .int mF, .int mC, .int mY, .ref yta, .int (nI (mz)), .int (nI (mf)), .int (nI (mt)), .int mv, .int mw, .ref ywa, .ref ybi, .ref ysi, .ref ynu, .ref ymo])), (ys, .inl (cI, 449, .inl ms)), (yfa, .inl (cI, 100, .inl fa)), (yro, .inl (cI, 6, .inl ro))] → va_S A s.heap H locs → lv_has ls 10 [(5, .int (nI (i))), (4, .int (nI (u4))), (3, .int (nI (q_2))), (0, .ref h0), (1, .int (nI (j))), (2, .int p0)] → W p l e ({ frames := 2, cells := 0, slots := 0, locals := 44 }) s m ([.ref h0, .int (nI (j)), .int p0] : List Value).toArray below meth c H locs 0 0 (MQ below (XQv (fun (u : Int32 × Int32 × (Nat → Int32)) => match u with | (mS2, mM2, ro2) => (BA 6 10 ro2)) D (fun (u : Int32 × Int32 × (Nat → Int32)) => match u with | (mS2, mM2, ro2) => [(h0, .inr (9, [.ref ys, .ref yk, .ref yo, .ref yt, .int mk0, .ref yfa, .ref yfe, .int mL, .int mS2, .int mM2, .ref yro, .ref yhe, .ref ygr, .int mF, .int mC, .int mY, .ref yta, .int (nI (mz)), .int (nI (mf)), .int (nI (mt)), .int mv, .int mw, .ref ywa, .ref ybi, .ref ysi, .ref ynu, .ref ymo])), (ys, .inl (cI, 449, .inl ms)), (yfa, .inl (cI, 100, .inl fa)), (yro, .inl (cI, 6, .inl ro2))]) A) ([.ref h0, .int (nI (j)), .int p0] : List Value).toArray s 0 0 A) (F0 m 13 ls []) by
    exact loop_13 _ 1 2 _ _ _ (Nat.lt_succ_self _) (Or.inl ⟨rfl, rfl⟩) hP hD hS (lv_sub hl [0, 1, 2, 3, 4, 5] rfl)
  intro n_13
  induction n_13 with
  | zero =>
    intro u4 i H locs ls hm_13
    exact absurd hm_13 (Nat.not_lt_zero _)
  | succ n_13 ih_13 =>
    intro u4 i H locs ls hm_13 hU hP hD hS hl
    refine lv_iload hx hb dX9_orders_13 (lv_at hl 0 rfl) ?_
    refine lv_iload_n hx hb dX9_orders_15 rfl (lv_at hl 2 rfl) ?_
    refine lv_icmp_ge (tgt := 32) hx hb dX9_orders_16 (by decide) (fun c_6 => ?_) (fun c_6 => ?_)
    · skip
      have nc_6 : q_2 ≤ i := xn_le (a := q_2) (b := i) (by omega) (by omega) c_6
      refine lv_aload_n hx hb dX9_orders_32 rfl (lv_at hl 3 rfl) ?_
      refine lv_ldc (v := 100000000) hx hb hown (hu _ uw701) dX9_orders_33 ?_
      refine xp hF kf_X9_134 tyX9_ok nmX9 hK hP hD hS 0 rfl rfl rfl rfl (Nat.le_of_ble_eq_true rfl) dX9_orders_35 (fun H locs hP hD hS => ?_)
      have hP : va_P D vwCl [(h0, .inr (9, [.ref ys, .ref yk, .ref yo, .ref yt, .int mk0, .ref yfa, .ref yfe, .int mL, .int mS, .int 100000000, .ref yro, .ref yhe, .ref ygr, .int mF, .int mC, .int mY, .ref yta, .int (nI (mz)), .int (nI (mf)), .int (nI (mt)), .int mv, .int mw, .ref ywa, .ref ybi, .ref ysi, .ref ynu, .ref ymo])), (ys, .inl (cI, 449, .inl ms)), (yfa, .inl (cI, 100, .inl fa)), (yro, .inl (cI, 6, .inl ro))] H := hP
      have hD : va_D A [(h0, .inr (9, [.ref ys, .ref yk, .ref yo, .ref yt, .int mk0, .ref yfa, .ref yfe, .int mL, .int mS, .int 100000000, .ref yro, .ref yhe, .ref ygr, .int mF, .int mC, .int mY, .ref yta, .int (nI (mz)), .int (nI (mf)), .int (nI (mt)), .int mv, .int mw, .ref ywa, .ref ybi, .ref ysi, .ref ynu, .ref ymo])), (ys, .inl (cI, 449, .inl ms)), (yfa, .inl (cI, 100, .inl fa)), (yro, .inl (cI, 6, .inl ro))] := hD
      refine lv_iconst (v := 0) hx hb dX9_orders_38 (by decide) ?_
      refine lv_istore (lv' := [(5, .int 0), (4, .int (nI (u4))), (3, .int (nI (q_2))), (0, .ref h0), (1, .int (nI (j))), (2, .int p0)]) hx hb dX9_orders_39 hl (by decide) rfl (fun ls hl => ?_)
      suffices loop_41 : ∀ (n_41 : Nat) (i5 : Nat) (v8 : Int32) (v9 : Int32) (r8 : Nat → Int32) (H : Heap) (locs : List Loc) (ls : Array Slot), u4 - i5 < n_41 → (i5 ≤ u4) → (BA 6 10 r8) → va_P D vwCl [(h0, .inr (9, [.ref ys, .ref yk, .ref yo, .ref yt, .int mk0, .ref yfa, .ref yfe, .int mL, .int v8, .int v9, .ref yro, .ref yhe, .ref ygr, .int mF, .int mC, .int mY, .ref yta, .int (nI (mz)), .int (nI (mf)), .int (nI (mt)), .int mv, .int mw, .ref ywa, .ref ybi, .ref ysi, .ref ynu, .ref ymo])), (ys, .inl (cI, 449, .inl ms)), (yfa, .inl (cI, 100, .inl fa)), (yro, .inl (cI, 6, .inl r8))] H → va_D A [(h0, .inr (9, [.ref ys, .ref yk, .ref yo, .ref yt, .int mk0, .ref yfa, .ref yfe, .int mL, .int v8, .int v9, .ref yro, .ref yhe, .ref ygr, .int mF, .int mC, .int mY, .ref yta, .int (nI (mz)), .int (nI (mf)), .int (nI (mt)), .int mv, .int mw, .ref ywa, .ref ybi, .ref ysi, .ref ynu, .ref ymo])), (ys, .inl (cI, 449, .inl ms)), (yfa, .inl (cI, 100, .inl fa)), (yro, .inl (cI, 6, .inl r8))] → va_S A s.heap H locs → lv_has ls 10 [(5, .int (nI (i5))), (4, .int (nI (u4))), (3, .int (nI (q_2))), (0, .ref h0), (1, .int (nI (j))), (2, .int p0)] → W p l e ({ frames := 2, cells := 0, slots := 0, locals := 44 }) s m ([.ref h0, .int (nI (j)), .int p0] : List Value).toArray below meth c H locs 0 0 (MQ below (XQv (fun (u : Int32 × Int32 × (Nat → Int32)) => match u with | (mS2, mM2, ro2) => (BA 6 10 ro2)) D (fun (u : Int32 × Int32 × (Nat → Int32)) => match u with | (mS2, mM2, ro2) => [(h0, .inr (9, [.ref ys, .ref yk, .ref yo, .ref yt, .int mk0, .ref yfa, .ref yfe, .int mL, .int mS2, .int mM2, .ref yro, .ref yhe, .ref ygr, .int mF, .int mC, .int mY, .ref yta, .int (nI (mz)), .int (nI (mf)), .int (nI (mt)), .int mv, .int mw, .ref ywa, .ref ybi, .ref ysi, .ref ynu, .ref ymo])), (ys, .inl (cI, 449, .inl ms)), (yfa, .inl (cI, 100, .inl fa)), (yro, .inl (cI, 6, .inl ro2))]) A) ([.ref h0, .int (nI (j)), .int p0] : List Value).toArray s 0 0 A) (F0 m 41 ls []) by
        exact loop_41 _ 0 mS 100000000 ro _ _ _ (Nat.lt_succ_self _) (by omega) hro hP hD hS (lv_sub hl [0, 1, 2, 3, 4, 5] rfl)
      intro n_41
      induction n_41 with
      | zero =>
        intro i5 v8 v9 r8 H locs ls hm_41
        exact absurd hm_41 (Nat.not_lt_zero _)
      | succ n_41 ih_41 =>
        intro i5 v8 v9 r8 H locs ls hm_41 hi5 hr8 hP hD hS hl
        refine lv_iload hx hb dX9_orders_41 (lv_at hl 0 rfl) ?_
        refine lv_iload hx hb dX9_orders_43 (lv_at hl 1 rfl) ?_
        refine lv_icmp_ge (tgt := 160) hx hb dX9_orders_45 (by decide) (fun c_7 => ?_) (fun c_7 => ?_)
        · skip
          have nc_7 : u4 ≤ i5 := xn_le (a := u4) (b := i5) (by omega) (by omega) c_7
          refine lv_aload_n hx hb dX9_orders_160 rfl (lv_at hl 3 rfl) ?_
          refine lv_aload_n hx hb dX9_orders_161 rfl (lv_at hl 3 rfl) ?_
          refine xg hF kf_X9_134 hK hP 0 rfl rfl dX9_orders_162 ?_
          refine xp hF kf_X9_126 tyX9_ok nmX9 hK hP hD hS 0 rfl rfl rfl rfl (Nat.le_of_ble_eq_true rfl) dX9_orders_165 (fun H locs hP hD hS => ?_)
          have hP : va_P D vwCl [(h0, .inr (9, [.ref ys, .ref yk, .ref yo, .ref yt, .int mk0, .ref yfa, .ref yfe, .int mL, .int v9, .int v9, .ref yro, .ref yhe, .ref ygr, .int mF, .int mC, .int mY, .ref yta, .int (nI (mz)), .int (nI (mf)), .int (nI (mt)), .int mv, .int mw, .ref ywa, .ref ybi, .ref ysi, .ref ynu, .ref ymo])), (ys, .inl (cI, 449, .inl ms)), (yfa, .inl (cI, 100, .inl fa)), (yro, .inl (cI, 6, .inl r8))] H := hP
          have hD : va_D A [(h0, .inr (9, [.ref ys, .ref yk, .ref yo, .ref yt, .int mk0, .ref yfa, .ref yfe, .int mL, .int v9, .int v9, .ref yro, .ref yhe, .ref ygr, .int mF, .int mC, .int mY, .ref yta, .int (nI (mz)), .int (nI (mf)), .int (nI (mt)), .int mv, .int mw, .ref ywa, .ref ybi, .ref ysi, .ref ynu, .ref ymo])), (ys, .inl (cI, 449, .inl ms)), (yfa, .inl (cI, 100, .inl fa)), (yro, .inl (cI, 6, .inl r8))] := hD
          exact W.vret hx hb hr (fun t ht hW => ⟨⟨(v9, v9, r8), rfl, hr8, by rw [ht]; exact hP.sub [0, 1, 2, 3] rfl, hD.sub [0, 1, 2, 3] (by decide) rfl⟩, hS.F ht⟩) hS.2.2 dX9_orders_168 hlk
        · skip
          have nc_7 : i5 < u4 := xn_nle (a := u4) (b := i5) (by omega) (by omega) c_7
          refine lv_iconst (v := 0) hx hb dX9_orders_48 (by decide) ?_
          refine lv_istore (lv' := [(6, .int 0), (5, .int (nI (i5))), (4, .int (nI (u4))), (3, .int (nI (q_2))), (0, .ref h0), (1, .int (nI (j))), (2, .int p0)]) hx hb dX9_orders_49 hl (by decide) rfl (fun ls hl => ?_)
          suffices loop_51 : ∀ (n_51 : Nat) (i6 : Nat) (r7 : Nat → Int32) (H : Heap) (locs : List Loc) (ls : Array Slot), q_2 - i6 < n_51 → (i6 ≤ q_2) → (BA 6 10 r7) → va_P D vwCl [(h0, .inr (9, [.ref ys, .ref yk, .ref yo, .ref yt, .int mk0, .ref yfa, .ref yfe, .int mL, .int v8, .int v9, .ref yro, .ref yhe, .ref ygr, .int mF, .int mC, .int mY, .ref yta, .int (nI (mz)), .int (nI (mf)), .int (nI (mt)), .int mv, .int mw, .ref ywa, .ref ybi, .ref ysi, .ref ynu, .ref ymo])), (ys, .inl (cI, 449, .inl ms)), (yfa, .inl (cI, 100, .inl fa)), (yro, .inl (cI, 6, .inl r7))] H → va_D A [(h0, .inr (9, [.ref ys, .ref yk, .ref yo, .ref yt, .int mk0, .ref yfa, .ref yfe, .int mL, .int v8, .int v9, .ref yro, .ref yhe, .ref ygr, .int mF, .int mC, .int mY, .ref yta, .int (nI (mz)), .int (nI (mf)), .int (nI (mt)), .int mv, .int mw, .ref ywa, .ref ybi, .ref ysi, .ref ynu, .ref ymo])), (ys, .inl (cI, 449, .inl ms)), (yfa, .inl (cI, 100, .inl fa)), (yro, .inl (cI, 6, .inl r7))] → va_S A s.heap H locs → lv_has ls 10 [(6, .int (nI (i6))), (5, .int (nI (i5))), (4, .int (nI (u4))), (3, .int (nI (q_2))), (0, .ref h0), (1, .int (nI (j))), (2, .int p0)] → W p l e ({ frames := 2, cells := 0, slots := 0, locals := 44 }) s m ([.ref h0, .int (nI (j)), .int p0] : List Value).toArray below meth c H locs 0 0 (MQ below (XQv (fun (u : Int32 × Int32 × (Nat → Int32)) => match u with | (mS2, mM2, ro2) => (BA 6 10 ro2)) D (fun (u : Int32 × Int32 × (Nat → Int32)) => match u with | (mS2, mM2, ro2) => [(h0, .inr (9, [.ref ys, .ref yk, .ref yo, .ref yt, .int mk0, .ref yfa, .ref yfe, .int mL, .int mS2, .int mM2, .ref yro, .ref yhe, .ref ygr, .int mF, .int mC, .int mY, .ref yta, .int (nI (mz)), .int (nI (mf)), .int (nI (mt)), .int mv, .int mw, .ref ywa, .ref ybi, .ref ysi, .ref ynu, .ref ymo])), (ys, .inl (cI, 449, .inl ms)), (yfa, .inl (cI, 100, .inl fa)), (yro, .inl (cI, 6, .inl ro2))]) A) ([.ref h0, .int (nI (j)), .int p0] : List Value).toArray s 0 0 A) (F0 m 51 ls []) by
            exact loop_51 _ 0 r8 _ _ _ (Nat.lt_succ_self _) (by omega) hr8 hP hD hS (lv_sub hl [0, 1, 2, 3, 4, 5, 6] rfl)
          intro n_51
          induction n_51 with
          | zero =>
            intro i6 r7 H locs ls hm_51
            exact absurd hm_51 (Nat.not_lt_zero _)
          | succ n_51 ih_51 =>
            intro i6 r7 H locs ls hm_51 hi6 hr7 hP hD hS hl
            refine lv_iload hx hb dX9_orders_51 (lv_at hl 0 rfl) ?_
            refine lv_iload_n hx hb dX9_orders_53 rfl (lv_at hl 3 rfl) ?_
            refine lv_icmp_ge (tgt := 79) hx hb dX9_orders_54 (by decide) (fun c_8 => ?_) (fun c_8 => ?_)
            · skip
              have nc_8 : q_2 ≤ i6 := xn_le (a := q_2) (b := i6) (by omega) (by omega) c_8
              refine lv_iload hx hb dX9_orders_79 (lv_at hl 1 rfl) ?_
              refine lv_istore (lv' := [(6, .int (nI (i5))), (5, .int (nI (i5))), (4, .int (nI (u4))), (3, .int (nI (q_2))), (0, .ref h0), (1, .int (nI (j))), (2, .int p0)]) hx hb dX9_orders_81 hl (by decide) rfl (fun ls hl => ?_)
              refine lv_iload_n hx hb dX9_orders_83 rfl (lv_at hl 3 rfl) ?_
              refine lv_iconst (v := 1) hx hb dX9_orders_84 (by decide) ?_
              refine lv_isub hx hb dX9_orders_85 ?_
              refine xl_i (y := nI (q_2 - 1)) (pk_sub (show 1 ≤ q_2 by omega)) ?_
              refine lv_istore (lv' := [(7, .int (nI (q_2 - 1))), (6, .int (nI (i5))), (5, .int (nI (i5))), (4, .int (nI (u4))), (3, .int (nI (q_2))), (0, .ref h0), (1, .int (nI (j))), (2, .int p0)]) hx hb dX9_orders_86 hl (by decide) rfl (fun ls hl => ?_)
              suffices loop_88 : ∀ (n_88 : Nat) (l6 : Nat) (i7 : Nat) (r6 : Nat → Int32) (H : Heap) (locs : List Loc) (ls : Array Slot), i7 < n_88 → (l6 ≤ 120) → (i7 < q_2) → (BA 6 10 r6) → va_P D vwCl [(h0, .inr (9, [.ref ys, .ref yk, .ref yo, .ref yt, .int mk0, .ref yfa, .ref yfe, .int mL, .int v8, .int v9, .ref yro, .ref yhe, .ref ygr, .int mF, .int mC, .int mY, .ref yta, .int (nI (mz)), .int (nI (mf)), .int (nI (mt)), .int mv, .int mw, .ref ywa, .ref ybi, .ref ysi, .ref ynu, .ref ymo])), (ys, .inl (cI, 449, .inl ms)), (yfa, .inl (cI, 100, .inl fa)), (yro, .inl (cI, 6, .inl r6))] H → va_D A [(h0, .inr (9, [.ref ys, .ref yk, .ref yo, .ref yt, .int mk0, .ref yfa, .ref yfe, .int mL, .int v8, .int v9, .ref yro, .ref yhe, .ref ygr, .int mF, .int mC, .int mY, .ref yta, .int (nI (mz)), .int (nI (mf)), .int (nI (mt)), .int mv, .int mw, .ref ywa, .ref ybi, .ref ysi, .ref ynu, .ref ymo])), (ys, .inl (cI, 449, .inl ms)), (yfa, .inl (cI, 100, .inl fa)), (yro, .inl (cI, 6, .inl r6))] → va_S A s.heap H locs → lv_has ls 10 [(7, .int (nI (i7))), (6, .int (nI (l6))), (5, .int (nI (i5))), (4, .int (nI (u4))), (3, .int (nI (q_2))), (0, .ref h0), (1, .int (nI (j))), (2, .int p0)] → W p l e ({ frames := 2, cells := 0, slots := 0, locals := 44 }) s m ([.ref h0, .int (nI (j)), .int p0] : List Value).toArray below meth c H locs 0 0 (MQ below (XQv (fun (u : Int32 × Int32 × (Nat → Int32)) => match u with | (mS2, mM2, ro2) => (BA 6 10 ro2)) D (fun (u : Int32 × Int32 × (Nat → Int32)) => match u with | (mS2, mM2, ro2) => [(h0, .inr (9, [.ref ys, .ref yk, .ref yo, .ref yt, .int mk0, .ref yfa, .ref yfe, .int mL, .int mS2, .int mM2, .ref yro, .ref yhe, .ref ygr, .int mF, .int mC, .int mY, .ref yta, .int (nI (mz)), .int (nI (mf)), .int (nI (mt)), .int mv, .int mw, .ref ywa, .ref ybi, .ref ysi, .ref ynu, .ref ymo])), (ys, .inl (cI, 449, .inl ms)), (yfa, .inl (cI, 100, .inl fa)), (yro, .inl (cI, 6, .inl ro2))]) A) ([.ref h0, .int (nI (j)), .int p0] : List Value).toArray s 0 0 A) (F0 m 88 ls []) by
                exact loop_88 _ i5 (q_2 - 1) r7 _ _ _ (Nat.lt_succ_self _) (by omega) (by omega) hr7 hP hD hS (lv_sub hl [0, 1, 2, 3, 4, 5, 6, 7] rfl)
              intro n_88
              induction n_88 with
              | zero =>
                intro l6 i7 r6 H locs ls hm_88
                exact absurd hm_88 (Nat.not_lt_zero _)
              | succ n_88 ih_88 =>
                intro l6 i7 r6 H locs ls hm_88 hl6 hi7 hr6 hP hD hS hl
                refine lv_iload hx hb dX9_orders_88 (lv_at hl 0 rfl) ?_
                refine lv_iconst (v := 1) hx hb dX9_orders_90 (by decide) ?_
                refine lv_icmp_le (tgt := 148) hx hb dX9_orders_91 (by decide) (fun c_9 => ?_) (fun c_9 => ?_)
                · skip
                  have nc_9 : i7 ≤ 1 := xn_le (a := i7) (b := 1) (by omega) (by omega) c_9
                  refine lv_aload_n hx hb dX9_orders_148 rfl (lv_at hl 5 rfl) ?_
                  refine lv_iload_n hx hb dX9_orders_149 rfl (lv_at hl 4 rfl) ?_
                  refine lv_iload_n hx hb dX9_orders_150 rfl (lv_at hl 7 rfl) ?_
                  refine xc_Vv (wr := [(ys, .inl (cI, 449, .inl ms))]) hF (c_X9_offers l D cI cJ cZ cS ta sa sv H.size h0 ys yk yo yt mk0 yfa yfe mL v8 v9 yro yhe ygr mF mC mY yta mz mf mt mv mw ywa ybi ysi ynu ymo fa r6 q_2 p0 (by omega) (by omega) hr6) kv_X9_140 ⟨rfl, rfl, Nat.le_of_ble_eq_true rfl, Nat.le_of_ble_eq_true rfl⟩ ⟨Nat.le_of_ble_eq_true rfl, Nat.le_of_ble_eq_true rfl⟩ hK hN hZ hP hD hS hA [0, 2, 3] [1] rfl rfl rfl rfl (by decide) 0 rfl rfl rfl rfl hl.1 rfl (Nat.le_of_ble_eq_true rfl) dX9_orders_151 (fun u_r_10 H locs hw_r_10 hP hD hS => ?_)
                  obtain ⟨mS2_11, mM2_12⟩ := u_r_10
                  try dsimp only at hw_r_10
                  have hP : va_P D vwCl [(ys, .inl (cI, 449, .inl ms)), (h0, .inr (9, [.ref ys, .ref yk, .ref yo, .ref yt, .int mk0, .ref yfa, .ref yfe, .int mL, .int mS2_11, .int mM2_12, .ref yro, .ref yhe, .ref ygr, .int mF, .int mC, .int mY, .ref yta, .int (nI (mz)), .int (nI (mf)), .int (nI (mt)), .int mv, .int mw, .ref ywa, .ref ybi, .ref ysi, .ref ynu, .ref ymo])), (yfa, .inl (cI, 100, .inl fa)), (yro, .inl (cI, 6, .inl r6))] H := hP
                  have hD : va_D A [(ys, .inl (cI, 449, .inl ms)), (h0, .inr (9, [.ref ys, .ref yk, .ref yo, .ref yt, .int mk0, .ref yfa, .ref yfe, .int mL, .int mS2_11, .int mM2_12, .ref yro, .ref yhe, .ref ygr, .int mF, .int mC, .int mY, .ref yta, .int (nI (mz)), .int (nI (mf)), .int (nI (mt)), .int mv, .int mw, .ref ywa, .ref ybi, .ref ysi, .ref ynu, .ref ymo])), (yfa, .inl (cI, 100, .inl fa)), (yro, .inl (cI, 6, .inl r6))] := hD
                  refine lv_iinc (v := nI (i5 + 1)) (lv' := [(5, .int (nI (i5 + 1))), (7, .int (nI (i7))), (6, .int (nI (l6))), (4, .int (nI (u4))), (3, .int (nI (q_2))), (0, .ref h0), (1, .int (nI (j))), (2, .int p0)]) hx hb dX9_orders_154 hl (k := 2) rfl (nI_1 (i5)) (by decide) rfl (fun ls hl => ?_)
                  refine lv_goto (tgt := 41) hx hb dX9_orders_157 (by decide) ?_
                  exact ih_41 (i5 + 1) mS2_11 mM2_12 r6 _ _ _ (by omega) (by omega) hr6 (hP.sub [1, 0, 2, 3] rfl) (hD.sub [1, 0, 2, 3] (by decide) rfl) hS (lv_sub hl [0, 3, 4, 5, 6, 7] rfl)
                · skip
                  have nc_9 : 1 < i7 := xn_nle (a := i7) (b := 1) (by omega) (by omega) c_9
                  refine lv_iconst (v := 1) hx hb dX9_orders_94 (by decide) ?_
                  refine lv_iload hx hb dX9_orders_95 (lv_at hl 1 rfl) ?_
                  refine lv_iload hx hb dX9_orders_97 (lv_at hl 0 rfl) ?_
                  have hq9 := Nat.mod_lt l6 (show 0 < i7 by omega)
                  have hq8 := Nat.div_le_self l6 i7
                  refine lv_irem hx hb dX9_orders_99 (nI_ne0 (show 0 < i7 by omega) (by omega)) ?_
                  refine xl_i (y := nI (l6 % i7)) (pk_rem (by omega) (by omega) (by omega)) ?_
                  refine lv_iadd hx hb dX9_orders_100 ?_
                  refine xl_i (y := nI (1 + (l6 % i7))) (nI_add 1 (l6 % i7)) ?_
                  refine lv_istore (lv' := [(8, .int (nI (1 + (l6 % i7)))), (7, .int (nI (i7))), (6, .int (nI (l6))), (5, .int (nI (i5))), (4, .int (nI (u4))), (3, .int (nI (q_2))), (0, .ref h0), (1, .int (nI (j))), (2, .int p0)]) hx hb dX9_orders_101 hl (by decide) rfl (fun ls hl => ?_)
                  refine lv_iload hx hb dX9_orders_103 (lv_at hl 2 rfl) ?_
                  refine lv_iload hx hb dX9_orders_105 (lv_at hl 1 rfl) ?_
                  refine lv_idiv hx hb dX9_orders_107 (nI_ne0 (show 0 < i7 by omega) (by omega)) ?_
                  refine xl_i (y := nI (l6 / i7)) (pk_div (by omega) (by omega) (by omega)) ?_
                  refine lv_istore (lv' := [(6, .int (nI (l6 / i7))), (8, .int (nI (1 + (l6 % i7)))), (7, .int (nI (i7))), (5, .int (nI (i5))), (4, .int (nI (u4))), (3, .int (nI (q_2))), (0, .ref h0), (1, .int (nI (j))), (2, .int p0)]) hx hb dX9_orders_108 hl (by decide) rfl (fun ls hl => ?_)
                  refine lv_aload_n hx hb dX9_orders_110 rfl (lv_at hl 6 rfl) ?_
                  refine xg hF kf_X9_28 hK hP 0 rfl rfl dX9_orders_111 ?_
                  refine lv_iload hx hb dX9_orders_114 (lv_at hl 1 rfl) ?_
                  refine va_iald hx hb hK hP 3 0 rfl rfl (vp_in_nI (show 1 + (l6 % i7) < 6 by omega) (by decide)) dX9_orders_116 ?_
                  refine xl_i (y := r6 (1 + (l6 % i7))) (congrArg r6 (nI_clamp (show 1 + (l6 % i7) < 2 ^ 31 by omega))) ?_
                  obtain ⟨q_13, hq_13, eq_13⟩ := hr6 (1 + (l6 % i7)) (by omega)
                  refine xl_i (y := nI (q_13)) eq_13 ?_
                  refine lv_istore (lv' := [(9, .int (nI (q_13))), (6, .int (nI (l6 / i7))), (8, .int (nI (1 + (l6 % i7)))), (7, .int (nI (i7))), (5, .int (nI (i5))), (4, .int (nI (u4))), (3, .int (nI (q_2))), (0, .ref h0), (1, .int (nI (j))), (2, .int p0)]) hx hb dX9_orders_117 hl (by decide) rfl (fun ls hl => ?_)
                  refine lv_aload_n hx hb dX9_orders_119 rfl (lv_at hl 7 rfl) ?_
                  refine xg hF kf_X9_28 hK hP 0 rfl rfl dX9_orders_120 ?_
                  refine lv_iload hx hb dX9_orders_123 (lv_at hl 2 rfl) ?_
                  refine lv_aload_n hx hb dX9_orders_125 rfl (lv_at hl 7 rfl) ?_
                  refine xg hF kf_X9_28 hK hP 0 rfl rfl dX9_orders_126 ?_
                  refine lv_iload hx hb dX9_orders_129 (lv_at hl 3 rfl) ?_
                  refine va_iald hx hb hK hP 3 0 rfl rfl (vp_in_nI (show i7 < 6 by omega) (by decide)) dX9_orders_131 ?_
                  refine xl_i (y := r6 i7) (congrArg r6 (nI_clamp (show i7 < 2 ^ 31 by omega))) ?_
                  obtain ⟨q_14, hq_14, eq_14⟩ := hr6 i7 (by omega)
                  refine xl_i (y := nI (q_14)) eq_14 ?_
                  refine va_iast hx hb hK hP hD hS 3 0 rfl rfl (vp_in_nI (show 1 + (l6 % i7) < 6 by omega) (by decide)) dX9_orders_132 (fun H locs hP hD hS => ?_)
                  rw [nI_clamp (show 1 + (l6 % i7) < 2 ^ 31 by omega)] at hP hD
                  obtain ⟨f_15, ef_15⟩ : ∃ g, g = upd r6 (1 + (l6 % i7)) (nI (q_14)) := ⟨_, rfl⟩
                  rw [← ef_15] at hP hD
                  have hf_15 : BA 6 10 f_15 := by rw [ef_15]; exact BA.upd hr6 (show q_14 < 10 by omega)
                  have hP : va_P D vwCl [(h0, .inr (9, [.ref ys, .ref yk, .ref yo, .ref yt, .int mk0, .ref yfa, .ref yfe, .int mL, .int v8, .int v9, .ref yro, .ref yhe, .ref ygr, .int mF, .int mC, .int mY, .ref yta, .int (nI (mz)), .int (nI (mf)), .int (nI (mt)), .int mv, .int mw, .ref ywa, .ref ybi, .ref ysi, .ref ynu, .ref ymo])), (ys, .inl (cI, 449, .inl ms)), (yfa, .inl (cI, 100, .inl fa)), (yro, .inl (cI, 6, .inl f_15))] H := hP
                  have hD : va_D A [(h0, .inr (9, [.ref ys, .ref yk, .ref yo, .ref yt, .int mk0, .ref yfa, .ref yfe, .int mL, .int v8, .int v9, .ref yro, .ref yhe, .ref ygr, .int mF, .int mC, .int mY, .ref yta, .int (nI (mz)), .int (nI (mf)), .int (nI (mt)), .int mv, .int mw, .ref ywa, .ref ybi, .ref ysi, .ref ynu, .ref ymo])), (ys, .inl (cI, 449, .inl ms)), (yfa, .inl (cI, 100, .inl fa)), (yro, .inl (cI, 6, .inl f_15))] := hD
                  refine lv_aload_n hx hb dX9_orders_133 rfl (lv_at hl 7 rfl) ?_
                  refine xg hF kf_X9_28 hK hP 0 rfl rfl dX9_orders_134 ?_
                  refine lv_iload hx hb dX9_orders_137 (lv_at hl 3 rfl) ?_
                  refine lv_iload hx hb dX9_orders_139 (lv_at hl 0 rfl) ?_
                  refine va_iast hx hb hK hP hD hS 3 0 rfl rfl (vp_in_nI (show i7 < 6 by omega) (by decide)) dX9_orders_141 (fun H locs hP hD hS => ?_)
                  rw [nI_clamp (show i7 < 2 ^ 31 by omega)] at hP hD
                  obtain ⟨f_16, ef_16⟩ : ∃ g, g = upd f_15 i7 (nI (q_13)) := ⟨_, rfl⟩
                  rw [← ef_16] at hP hD
                  have hf_16 : BA 6 10 f_16 := by rw [ef_16]; exact BA.upd hf_15 (show q_13 < 10 by omega)
                  have hP : va_P D vwCl [(h0, .inr (9, [.ref ys, .ref yk, .ref yo, .ref yt, .int mk0, .ref yfa, .ref yfe, .int mL, .int v8, .int v9, .ref yro, .ref yhe, .ref ygr, .int mF, .int mC, .int mY, .ref yta, .int (nI (mz)), .int (nI (mf)), .int (nI (mt)), .int mv, .int mw, .ref ywa, .ref ybi, .ref ysi, .ref ynu, .ref ymo])), (ys, .inl (cI, 449, .inl ms)), (yfa, .inl (cI, 100, .inl fa)), (yro, .inl (cI, 6, .inl f_16))] H := hP
                  have hD : va_D A [(h0, .inr (9, [.ref ys, .ref yk, .ref yo, .ref yt, .int mk0, .ref yfa, .ref yfe, .int mL, .int v8, .int v9, .ref yro, .ref yhe, .ref ygr, .int mF, .int mC, .int mY, .ref yta, .int (nI (mz)), .int (nI (mf)), .int (nI (mt)), .int mv, .int mw, .ref ywa, .ref ybi, .ref ysi, .ref ynu, .ref ymo])), (ys, .inl (cI, 449, .inl ms)), (yfa, .inl (cI, 100, .inl fa)), (yro, .inl (cI, 6, .inl f_16))] := hD
                  refine lv_iinc (v := nI (i7 - 1)) (lv' := [(7, .int (nI (i7 - 1))), (9, .int (nI (q_13))), (6, .int (nI (l6 / i7))), (8, .int (nI (1 + (l6 % i7)))), (5, .int (nI (i5))), (4, .int (nI (u4))), (3, .int (nI (q_2))), (0, .ref h0), (1, .int (nI (j))), (2, .int p0)]) hx hb dX9_orders_142 hl (k := 3) rfl (show nI (i7) + (-1) = nI (i7 - 1) from xdec (by omega)) (by decide) rfl (fun ls hl => ?_)
                  refine lv_goto (tgt := 88) hx hb dX9_orders_145 (by decide) ?_
                  exact ih_88 (l6 / i7) (i7 - 1) f_16 _ _ _ (by omega) (by omega) (by omega) hf_16 (hP.sub [0, 1, 2, 3] rfl) (hD.sub [0, 1, 2, 3] (by decide) rfl) hS (lv_sub hl [0, 2, 4, 5, 6, 7, 8, 9] rfl)
            · skip
              have nc_8 : i6 < q_2 := xn_nle (a := q_2) (b := i6) (by omega) (by omega) c_8
              refine lv_aload_n hx hb dX9_orders_57 rfl (lv_at hl 4 rfl) ?_
              refine xg hF kf_X9_28 hK hP 0 rfl rfl dX9_orders_58 ?_
              refine lv_iload hx hb dX9_orders_61 (lv_at hl 0 rfl) ?_
              refine lv_aload_n hx hb dX9_orders_63 rfl (lv_at hl 4 rfl) ?_
              refine lv_iload_n hx hb dX9_orders_64 rfl (lv_at hl 5 rfl) ?_
              refine lv_iconst (v := 2) hx hb dX9_orders_65 (by decide) ?_
              refine lv_iload hx hb dX9_orders_66 (lv_at hl 0 rfl) ?_
              refine lv_iadd hx hb dX9_orders_68 ?_
              refine xl_i (y := nI (2 + i6)) (nI_add 2 i6) ?_
              refine xc_Vr hF (c_X9_ofs l D cI cJ cZ cS ta sa sv H.size h0 ys yk yo yt mk0 yfa yfe mL v8 v9 yro yhe ygr mF mC mY yta mz mf mt mv mw ywa ybi ysi ynu ymo ms P Rn Wn fae fal fau fao farn farp fak fawn fawp fat fas j (2 + i6) (by omega) (by omega) (by omega) hs0 hs1 hs2 hsS hsM hsp hsr hsw hsR hsG) kv_X9_137 ⟨rfl, rfl, Nat.le_of_ble_eq_true rfl, Nat.le_of_ble_eq_true rfl⟩ ⟨Nat.le_of_ble_eq_true rfl, Nat.le_of_ble_eq_true rfl⟩ hK hN hZ hP hD hS hA [0, 1] rfl rfl 0 rfl rfl rfl rfl hl.1 rfl (Nat.le_of_ble_eq_true rfl) dX9_orders_69 (fun r_17 hw_r_17 => ?_)
              obtain ⟨y_18, rfl, h_19, h_20⟩ := hw_r_17
              refine va_iast hx hb hK hP hD hS 3 0 rfl rfl (vp_in_nI (show i6 < 6 by omega) (by decide)) dX9_orders_72 (fun H locs hP hD hS => ?_)
              rw [nI_clamp (show i6 < 2 ^ 31 by omega)] at hP hD
              obtain ⟨f_21, ef_21⟩ : ∃ g, g = upd r7 i6 (nI (y_18)) := ⟨_, rfl⟩
              rw [← ef_21] at hP hD
              have hf_21 : BA 6 10 f_21 := by rw [ef_21]; exact BA.upd hr7 (show y_18 < 10 by omega)
              have hP : va_P D vwCl [(h0, .inr (9, [.ref ys, .ref yk, .ref yo, .ref yt, .int mk0, .ref yfa, .ref yfe, .int mL, .int v8, .int v9, .ref yro, .ref yhe, .ref ygr, .int mF, .int mC, .int mY, .ref yta, .int (nI (mz)), .int (nI (mf)), .int (nI (mt)), .int mv, .int mw, .ref ywa, .ref ybi, .ref ysi, .ref ynu, .ref ymo])), (ys, .inl (cI, 449, .inl ms)), (yfa, .inl (cI, 100, .inl fa)), (yro, .inl (cI, 6, .inl f_21))] H := hP
              have hD : va_D A [(h0, .inr (9, [.ref ys, .ref yk, .ref yo, .ref yt, .int mk0, .ref yfa, .ref yfe, .int mL, .int v8, .int v9, .ref yro, .ref yhe, .ref ygr, .int mF, .int mC, .int mY, .ref yta, .int (nI (mz)), .int (nI (mf)), .int (nI (mt)), .int mv, .int mw, .ref ywa, .ref ybi, .ref ysi, .ref ynu, .ref ymo])), (ys, .inl (cI, 449, .inl ms)), (yfa, .inl (cI, 100, .inl fa)), (yro, .inl (cI, 6, .inl f_21))] := hD
              refine lv_iinc (v := nI (i6 + 1)) (lv' := [(6, .int (nI (i6 + 1))), (5, .int (nI (i5))), (4, .int (nI (u4))), (3, .int (nI (q_2))), (0, .ref h0), (1, .int (nI (j))), (2, .int p0)]) hx hb dX9_orders_73 hl (k := 0) rfl (nI_1 (i6)) (by decide) rfl (fun ls hl => ?_)
              refine lv_goto (tgt := 51) hx hb dX9_orders_76 (by decide) ?_
              exact ih_51 (i6 + 1) f_21 _ _ _ (by omega) (by omega) hf_21 (hP.sub [0, 1, 2, 3] rfl) (hD.sub [0, 1, 2, 3] (by decide) rfl) hS (lv_sub hl [0, 1, 2, 3, 4, 5, 6] rfl)
    · skip
      have nc_6 : i < q_2 := xn_nle (a := q_2) (b := i) (by omega) (by omega) c_6
      refine lv_iload hx hb dX9_orders_19 (lv_at hl 1 rfl) ?_
      refine lv_iload hx hb dX9_orders_21 (lv_at hl 0 rfl) ?_
      refine lv_imul hx hb dX9_orders_23 ?_
      refine xl_i (y := nI (u4 * i)) (pk_mul u4 i) ?_
      refine lv_istore (lv' := [(4, .int (nI (u4 * i))), (5, .int (nI (i))), (3, .int (nI (q_2))), (0, .ref h0), (1, .int (nI (j))), (2, .int p0)]) hx hb dX9_orders_24 hl (by decide) rfl (fun ls hl => ?_)
      refine lv_iinc (v := nI (i + 1)) (lv' := [(5, .int (nI (i + 1))), (4, .int (nI (u4 * i))), (3, .int (nI (q_2))), (0, .ref h0), (1, .int (nI (j))), (2, .int p0)]) hx hb dX9_orders_26 hl (k := 1) rfl (nI_1 (i)) (by decide) rfl (fun ls hl => ?_)
      refine lv_goto (tgt := 13) hx hb dX9_orders_29 (by decide) ?_
      exact ih_13 (u4 * i) (i + 1) _ _ _ (by omega) (by rcases hU with ⟨rfl, rfl⟩ | ⟨rfl, rfl⟩ | ⟨rfl, rfl⟩ | ⟨rfl, rfl⟩ | ⟨rfl, rfl⟩ <;> omega) (hP.sub [0, 1, 2, 3] rfl) (hD.sub [0, 1, 2, 3] (by decide) rfl) hS (lv_sub hl [0, 1, 2, 3, 4, 5] rfl)
set_option maxHeartbeats 4000000 in
set_option maxRecDepth 100000 in
theorem c_X9_meets (l : Launch) (D : va_G) (cI cJ cZ cS : ClassId) (ta : Nat) (sa sv : Nat → Nat) (sz : Nat) (h0 : Nat) (ys : Nat) (yk : Nat) (yo : Nat) (yt : Nat) (mk0 : Int32) (yfa : Nat) (yfe : Nat) (mL : Int32) (mS : Int32) (mM : Int32) (yro : Nat) (yhe : Nat) (ygr : Nat) (mF : Int32) (mC : Int32) (mY : Int32) (yta : Nat) (mz : Nat) (mf : Nat) (mt : Nat) (mv : Int32) (mw : Int32) (ywa : Nat) (ybi : Nat) (ysi : Nat) (ynu : Nat) (ymo : Nat) (ms : Nat → Int32) (fa : Nat → Int32) (P : Nat) (Rn : Nat) (Wn : Nat) (fae : Nat → Int32) (fal : Nat → Int32) (fau : Nat → Int32) (fao : Nat → Int32) (farn : Nat → Int32) (farp : Nat → Int32) (fak : Nat → Int32) (fawn : Nat → Int32) (fawp : Nat → Int32) (fat : Nat → Int32) (fas : Nat → Int32) (j : Nat) (k : Nat) (hj : j < 10) (hk : k < 10) (hs0 : ms 0 = nI P) (hs1 : ms 1 = nI Rn) (hs2 : ms 2 = nI Wn) (hsS : SI ms) (hsM : MI ms) (hsp : P ≤ 10) (hsr : Rn ≤ 8) (hsw : Wn ≤ 8) (hsR : RI Rn ms) (hsG : FR P ms fae fal fau fao farn farp fak fawn fawp fat fas) : Met l yX9_meets (Cond.code yX9_meets cX9_meets 7 none :: wsU) ({ frames := 0, cells := 0, slots := 0, locals := 0 }) (va_Pc [.ref h0, .int (nI (j)), .int (nI (k))] (XW D (xT cI cJ cZ cS) ta sa sv [(h0, .inr (9, [.ref ys, .ref yk, .ref yo, .ref yt, .int mk0, .ref yfa, .ref yfe, .int mL, .int mS, .int mM, .ref yro, .ref yhe, .ref ygr, .int mF, .int mC, .int mY, .ref yta, .int (nI (mz)), .int (nI (mf)), .int (nI (mt)), .int mv, .int mw, .ref ywa, .ref ybi, .ref ysi, .ref ynu, .ref ymo])), (ys, .inl (cI, 449, .inl ms)), (yfa, .inl (cI, 100, .inl fa))] sz)) (XQv (fun (u : Int32 × Int32) => match u with | (mS2, mM2) => True) D (fun (u : Int32 × Int32) => match u with | (mS2, mM2) => [(h0, .inr (9, [.ref ys, .ref yk, .ref yo, .ref yt, .int mk0, .ref yfa, .ref yfe, .int mL, .int mS2, .int mM2, .ref yro, .ref yhe, .ref ygr, .int mF, .int mC, .int mY, .ref yta, .int (nI (mz)), .int (nI (mf)), .int (nI (mt)), .int mv, .int mw, .ref ywa, .ref ybi, .ref ysi, .ref ynu, .ref ymo])), (ys, .inl (cI, 449, .inl ms)), (yfa, .inl (cI, 100, .inl fa))]) (va_A [(h0, .inr (9, [.ref ys, .ref yk, .ref yo, .ref yt, .int mk0, .ref yfa, .ref yfe, .int mL, .int mS, .int mM, .ref yro, .ref yhe, .ref ygr, .int mF, .int mC, .int mY, .ref yta, .int (nI (mz)), .int (nI (mf)), .int (nI (mt)), .int mv, .int mw, .ref ywa, .ref ybi, .ref ysi, .ref ynu, .ref ymo])), (ys, .inl (cI, 449, .inl ms)), (yfa, .inl (cI, 100, .inl fa))] sz)) 0 0 (va_A [(h0, .inr (9, [.ref ys, .ref yk, .ref yo, .ref yt, .int mk0, .ref yfa, .ref yfe, .int mL, .int mS, .int mM, .ref yro, .ref yhe, .ref ygr, .int mF, .int mC, .int mY, .ref yta, .int (nI (mz)), .int (nI (mf)), .int (nI (mt)), .int mv, .int mw, .ref ywa, .ref ybi, .ref ysi, .ref ynu, .ref ymo])), (ys, .inl (cI, 449, .inl ms)), (yfa, .inl (cI, 100, .inl fa))] sz) := by
  refine xh (QA := fun A => XQv (fun (u : Int32 × Int32) => match u with | (mS2, mM2) => True) D (fun (u : Int32 × Int32) => match u with | (mS2, mM2) => [(h0, .inr (9, [.ref ys, .ref yk, .ref yo, .ref yt, .int mk0, .ref yfa, .ref yfe, .int mL, .int mS2, .int mM2, .ref yro, .ref yhe, .ref ygr, .int mF, .int mC, .int mY, .ref yta, .int (nI (mz)), .int (nI (mf)), .int (nI (mt)), .int mv, .int mw, .ref ywa, .ref ybi, .ref ysi, .ref ynu, .ref ymo])), (ys, .inl (cI, 449, .inl ms)), (yfa, .inl (cI, 100, .inl fa))]) A) (fr := fun A => A) (by decide) (Nat.le_of_ble_eq_true rfl) ?_
  intro p e s m below meth c ls A hF hr hlk hin hsz hP hK hD hN hZ hA hS hl
  have hF : CallFix p m c cX9_meets 7 s _ _ RX9 := hF
  have hx := hF.1
  have hb := hF.2.1
  have hml := hF.2.2.1
  have hown := hF.2.2.2.1
  have hu : ∀ w ∈ wsU, w.before _ s = true := fun w h => hF.2.2.2.2 w (List.mem_cons_of_mem _ h)
  have hl : lv_has ls 7 [(0, .ref h0), (1, .int (nI (j))), (2, .int (nI (k)))] := hl
  refine lv_aload_n hx hb dX9_meets_0 rfl (lv_at hl 0 rfl) ?_
  refine lv_ldc (v := 100000000) hx hb hown (hu _ uw701) dX9_meets_1 ?_
  refine xp hF kf_X9_134 tyX9_ok nmX9 hK hP hD hS 0 rfl rfl rfl rfl (Nat.le_of_ble_eq_true rfl) dX9_meets_3 (fun H locs hP hD hS => ?_)
  have hP : va_P D vwCl [(h0, .inr (9, [.ref ys, .ref yk, .ref yo, .ref yt, .int mk0, .ref yfa, .ref yfe, .int mL, .int mS, .int 100000000, .ref yro, .ref yhe, .ref ygr, .int mF, .int mC, .int mY, .ref yta, .int (nI (mz)), .int (nI (mf)), .int (nI (mt)), .int mv, .int mw, .ref ywa, .ref ybi, .ref ysi, .ref ynu, .ref ymo])), (ys, .inl (cI, 449, .inl ms)), (yfa, .inl (cI, 100, .inl fa))] H := hP
  have hD : va_D A [(h0, .inr (9, [.ref ys, .ref yk, .ref yo, .ref yt, .int mk0, .ref yfa, .ref yfe, .int mL, .int mS, .int 100000000, .ref yro, .ref yhe, .ref ygr, .int mF, .int mC, .int mY, .ref yta, .int (nI (mz)), .int (nI (mf)), .int (nI (mt)), .int mv, .int mw, .ref ywa, .ref ybi, .ref ysi, .ref ynu, .ref ymo])), (ys, .inl (cI, 449, .inl ms)), (yfa, .inl (cI, 100, .inl fa))] := hD
  refine lv_iconst (v := 0) hx hb dX9_meets_6 (by decide) ?_
  refine lv_istore_n (lv' := [(3, .int 0), (0, .ref h0), (1, .int (nI (j))), (2, .int (nI (k)))]) hx hb dX9_meets_7 rfl hl (by decide) rfl (fun ls hl => ?_)
  suffices loop_8 : ∀ (n_8 : Nat) (i : Nat) (u8 : Int32) (H : Heap) (locs : List Loc) (ls : Array Slot), P - i < n_8 → (i ≤ P) → va_P D vwCl [(h0, .inr (9, [.ref ys, .ref yk, .ref yo, .ref yt, .int mk0, .ref yfa, .ref yfe, .int mL, .int mS, .int u8, .ref yro, .ref yhe, .ref ygr, .int mF, .int mC, .int mY, .ref yta, .int (nI (mz)), .int (nI (mf)), .int (nI (mt)), .int mv, .int mw, .ref ywa, .ref ybi, .ref ysi, .ref ynu, .ref ymo])), (ys, .inl (cI, 449, .inl ms)), (yfa, .inl (cI, 100, .inl fa))] H → va_D A [(h0, .inr (9, [.ref ys, .ref yk, .ref yo, .ref yt, .int mk0, .ref yfa, .ref yfe, .int mL, .int mS, .int u8, .ref yro, .ref yhe, .ref ygr, .int mF, .int mC, .int mY, .ref yta, .int (nI (mz)), .int (nI (mf)), .int (nI (mt)), .int mv, .int mw, .ref ywa, .ref ybi, .ref ysi, .ref ynu, .ref ymo])), (ys, .inl (cI, 449, .inl ms)), (yfa, .inl (cI, 100, .inl fa))] → va_S A s.heap H locs → lv_has ls 7 [(3, .int (nI (i))), (0, .ref h0), (1, .int (nI (j))), (2, .int (nI (k)))] → W p l e ({ frames := 0, cells := 0, slots := 0, locals := 0 }) s m ([.ref h0, .int (nI (j)), .int (nI (k))] : List Value).toArray below meth c H locs 0 0 (MQ below (XQv (fun (u : Int32 × Int32) => match u with | (mS2, mM2) => True) D (fun (u : Int32 × Int32) => match u with | (mS2, mM2) => [(h0, .inr (9, [.ref ys, .ref yk, .ref yo, .ref yt, .int mk0, .ref yfa, .ref yfe, .int mL, .int mS2, .int mM2, .ref yro, .ref yhe, .ref ygr, .int mF, .int mC, .int mY, .ref yta, .int (nI (mz)), .int (nI (mf)), .int (nI (mt)), .int mv, .int mw, .ref ywa, .ref ybi, .ref ysi, .ref ynu, .ref ymo])), (ys, .inl (cI, 449, .inl ms)), (yfa, .inl (cI, 100, .inl fa))]) A) ([.ref h0, .int (nI (j)), .int (nI (k))] : List Value).toArray s 0 0 A) (F0 m 8 ls []) by
    exact loop_8 _ 0 100000000 _ _ _ (Nat.lt_succ_self _) (by omega) hP hD hS (lv_sub hl [0, 1, 2, 3] rfl)
  intro n_8
  induction n_8 with
  | zero =>
    intro i u8 H locs ls hm_8
    exact absurd hm_8 (Nat.not_lt_zero _)
  | succ n_8 ih_8 =>
    intro i u8 H locs ls hm_8 hi hP hD hS hl
    refine lv_iload_n hx hb dX9_meets_8 rfl (lv_at hl 0 rfl) ?_
    refine lv_aload_n hx hb dX9_meets_9 rfl (lv_at hl 1 rfl) ?_
    refine xg hF kf_X9_7 hK hP 0 rfl rfl dX9_meets_10 ?_
    refine lv_iconst (v := 0) hx hb dX9_meets_13 (by decide) ?_
    refine va_iald hx hb hK hP 1 0 rfl rfl (xin 0 449 (by decide) (by decide)) dX9_meets_14 ?_
    refine xl_i (y := nI (P)) hs0 ?_
    refine lv_icmp_ge (tgt := 88) hx hb dX9_meets_15 (by decide) (fun c_1 => ?_) (fun c_1 => ?_)
    · skip
      have nc_1 : P ≤ i := xn_le (a := P) (b := i) (by omega) (by omega) c_1
      refine lv_aload_n hx hb dX9_meets_88 rfl (lv_at hl 1 rfl) ?_
      refine lv_aload_n hx hb dX9_meets_89 rfl (lv_at hl 1 rfl) ?_
      refine xg hF kf_X9_134 hK hP 0 rfl rfl dX9_meets_90 ?_
      refine xp hF kf_X9_126 tyX9_ok nmX9 hK hP hD hS 0 rfl rfl rfl rfl (Nat.le_of_ble_eq_true rfl) dX9_meets_93 (fun H locs hP hD hS => ?_)
      have hP : va_P D vwCl [(h0, .inr (9, [.ref ys, .ref yk, .ref yo, .ref yt, .int mk0, .ref yfa, .ref yfe, .int mL, .int u8, .int u8, .ref yro, .ref yhe, .ref ygr, .int mF, .int mC, .int mY, .ref yta, .int (nI (mz)), .int (nI (mf)), .int (nI (mt)), .int mv, .int mw, .ref ywa, .ref ybi, .ref ysi, .ref ynu, .ref ymo])), (ys, .inl (cI, 449, .inl ms)), (yfa, .inl (cI, 100, .inl fa))] H := hP
      have hD : va_D A [(h0, .inr (9, [.ref ys, .ref yk, .ref yo, .ref yt, .int mk0, .ref yfa, .ref yfe, .int mL, .int u8, .int u8, .ref yro, .ref yhe, .ref ygr, .int mF, .int mC, .int mY, .ref yta, .int (nI (mz)), .int (nI (mf)), .int (nI (mt)), .int mv, .int mw, .ref ywa, .ref ybi, .ref ysi, .ref ynu, .ref ymo])), (ys, .inl (cI, 449, .inl ms)), (yfa, .inl (cI, 100, .inl fa))] := hD
      exact W.vret hx hb hr (fun t ht hW => ⟨⟨(u8, u8), rfl, trivial, by rw [ht]; exact hP.sub [0, 1, 2] rfl, hD.sub [0, 1, 2] (by decide) rfl⟩, hS.F ht⟩) hS.2.2 dX9_meets_96 hlk
    · skip
      have nc_1 : i < P := xn_nle (a := P) (b := i) (by omega) (by omega) c_1
      refine lv_aload_n hx hb dX9_meets_18 rfl (lv_at hl 1 rfl) ?_
      refine xg hF kf_X9_22 hK hP 0 rfl rfl dX9_meets_19 ?_
      refine lv_bipush (v := 10) hx hb dX9_meets_22 (by decide) ?_
      refine lv_iload_n hx hb dX9_meets_24 rfl (lv_at hl 2 rfl) ?_
      refine lv_imul hx hb dX9_meets_25 ?_
      refine xl_i (y := nI (10 * j)) (pk_mul 10 j) ?_
      refine lv_iload_n hx hb dX9_meets_26 rfl (lv_at hl 0 rfl) ?_
      refine lv_iadd hx hb dX9_meets_27 ?_
      refine xl_i (y := nI (10 * j + i)) (nI_add (10 * j) i) ?_
      refine va_iald hx hb hK hP 2 0 rfl rfl (vp_in_nI (show 10 * j + i < 100 by omega) (by decide)) dX9_meets_28 ?_
      refine xl_i (y := fa (10 * j + i)) (congrArg fa (nI_clamp (show 10 * j + i < 2 ^ 31 by omega))) ?_
      refine lv_istore (lv' := [(4, .int (fa (10 * j + i))), (3, .int (nI (i))), (0, .ref h0), (1, .int (nI (j))), (2, .int (nI (k)))]) hx hb dX9_meets_29 hl (by decide) rfl (fun ls hl => ?_)
      refine lv_aload_n hx hb dX9_meets_31 rfl (lv_at hl 2 rfl) ?_
      refine xg hF kf_X9_22 hK hP 0 rfl rfl dX9_meets_32 ?_
      refine lv_bipush (v := 10) hx hb dX9_meets_35 (by decide) ?_
      refine lv_iload_n hx hb dX9_meets_37 rfl (lv_at hl 4 rfl) ?_
      refine lv_imul hx hb dX9_meets_38 ?_
      refine xl_i (y := nI (10 * k)) (pk_mul 10 k) ?_
      refine lv_iload_n hx hb dX9_meets_39 rfl (lv_at hl 1 rfl) ?_
      refine lv_iadd hx hb dX9_meets_40 ?_
      refine xl_i (y := nI (10 * k + i)) (nI_add (10 * k) i) ?_
      refine va_iald hx hb hK hP 2 0 rfl rfl (vp_in_nI (show 10 * k + i < 100 by omega) (by decide)) dX9_meets_41 ?_
      refine xl_i (y := fa (10 * k + i)) (congrArg fa (nI_clamp (show 10 * k + i < 2 ^ 31 by omega))) ?_
      refine lv_istore (lv' := [(5, .int (fa (10 * k + i))), (4, .int (fa (10 * j + i))), (3, .int (nI (i))), (0, .ref h0), (1, .int (nI (j))), (2, .int (nI (k)))]) hx hb dX9_meets_42 hl (by decide) rfl (fun ls hl => ?_)
      refine lv_iload hx hb dX9_meets_44 (lv_at hl 1 rfl) ?_
      refine lv_iload hx hb dX9_meets_46 (lv_at hl 0 rfl) ?_
      refine lv_icmp_le (tgt := 56) hx hb dX9_meets_48 (by decide) (fun c_2 => ?_) (fun c_2 => ?_)
      · skip
        refine lv_iload hx hb dX9_meets_56 (lv_at hl 0 rfl) ?_
        refine lv_istore (lv' := [(6, .int (fa (10 * k + i))), (5, .int (fa (10 * k + i))), (4, .int (fa (10 * j + i))), (3, .int (nI (i))), (0, .ref h0), (1, .int (nI (j))), (2, .int (nI (k)))]) hx hb dX9_meets_58 hl (by decide) rfl (fun ls hl => ?_)
        refine lv_aload_n hx hb dX9_meets_60 rfl (lv_at hl 4 rfl) ?_
        refine lv_iload hx hb dX9_meets_61 (lv_at hl 0 rfl) ?_
        refine lv_aload_n hx hb dX9_meets_63 rfl (lv_at hl 4 rfl) ?_
        refine xg hF kf_X9_134 hK hP 0 rfl rfl dX9_meets_64 ?_
        refine lv_icmp_ge (tgt := 75) hx hb dX9_meets_67 (by decide) (fun c_3 => ?_) (fun c_3 => ?_)
        · skip
          refine lv_aload_n hx hb dX9_meets_75 rfl (lv_at hl 4 rfl) ?_
          refine xg hF kf_X9_134 hK hP 0 rfl rfl dX9_meets_76 ?_
          refine xp hF kf_X9_134 tyX9_ok nmX9 hK hP hD hS 0 rfl rfl rfl rfl (Nat.le_of_ble_eq_true rfl) dX9_meets_79 (fun H locs hP hD hS => ?_)
          have hP : va_P D vwCl [(h0, .inr (9, [.ref ys, .ref yk, .ref yo, .ref yt, .int mk0, .ref yfa, .ref yfe, .int mL, .int mS, .int u8, .ref yro, .ref yhe, .ref ygr, .int mF, .int mC, .int mY, .ref yta, .int (nI (mz)), .int (nI (mf)), .int (nI (mt)), .int mv, .int mw, .ref ywa, .ref ybi, .ref ysi, .ref ynu, .ref ymo])), (ys, .inl (cI, 449, .inl ms)), (yfa, .inl (cI, 100, .inl fa))] H := hP
          have hD : va_D A [(h0, .inr (9, [.ref ys, .ref yk, .ref yo, .ref yt, .int mk0, .ref yfa, .ref yfe, .int mL, .int mS, .int u8, .ref yro, .ref yhe, .ref ygr, .int mF, .int mC, .int mY, .ref yta, .int (nI (mz)), .int (nI (mf)), .int (nI (mt)), .int mv, .int mw, .ref ywa, .ref ybi, .ref ysi, .ref ynu, .ref ymo])), (ys, .inl (cI, 449, .inl ms)), (yfa, .inl (cI, 100, .inl fa))] := hD
          refine lv_iinc (v := nI (i + 1)) (lv' := [(3, .int (nI (i + 1))), (6, .int (fa (10 * k + i))), (5, .int (fa (10 * k + i))), (4, .int (fa (10 * j + i))), (0, .ref h0), (1, .int (nI (j))), (2, .int (nI (k)))]) hx hb dX9_meets_82 hl (k := 3) rfl (nI_1 (i)) (by decide) rfl (fun ls hl => ?_)
          refine lv_goto (tgt := 8) hx hb dX9_meets_85 (by decide) ?_
          exact ih_8 (i + 1) u8 _ _ _ (by omega) (by omega) (hP.sub [0, 1, 2] rfl) (hD.sub [0, 1, 2] (by decide) rfl) hS (lv_sub hl [0, 4, 5, 6] rfl)
        · skip
          refine lv_iload hx hb dX9_meets_70 (lv_at hl 0 rfl) ?_
          refine lv_goto (tgt := 79) hx hb dX9_meets_72 (by decide) ?_
          refine xp hF kf_X9_134 tyX9_ok nmX9 hK hP hD hS 0 rfl rfl rfl rfl (Nat.le_of_ble_eq_true rfl) dX9_meets_79 (fun H locs hP hD hS => ?_)
          have hP : va_P D vwCl [(h0, .inr (9, [.ref ys, .ref yk, .ref yo, .ref yt, .int mk0, .ref yfa, .ref yfe, .int mL, .int mS, .int (fa (10 * k + i)), .ref yro, .ref yhe, .ref ygr, .int mF, .int mC, .int mY, .ref yta, .int (nI (mz)), .int (nI (mf)), .int (nI (mt)), .int mv, .int mw, .ref ywa, .ref ybi, .ref ysi, .ref ynu, .ref ymo])), (ys, .inl (cI, 449, .inl ms)), (yfa, .inl (cI, 100, .inl fa))] H := hP
          have hD : va_D A [(h0, .inr (9, [.ref ys, .ref yk, .ref yo, .ref yt, .int mk0, .ref yfa, .ref yfe, .int mL, .int mS, .int (fa (10 * k + i)), .ref yro, .ref yhe, .ref ygr, .int mF, .int mC, .int mY, .ref yta, .int (nI (mz)), .int (nI (mf)), .int (nI (mt)), .int mv, .int mw, .ref ywa, .ref ybi, .ref ysi, .ref ynu, .ref ymo])), (ys, .inl (cI, 449, .inl ms)), (yfa, .inl (cI, 100, .inl fa))] := hD
          refine lv_iinc (v := nI (i + 1)) (lv' := [(3, .int (nI (i + 1))), (6, .int (fa (10 * k + i))), (5, .int (fa (10 * k + i))), (4, .int (fa (10 * j + i))), (0, .ref h0), (1, .int (nI (j))), (2, .int (nI (k)))]) hx hb dX9_meets_82 hl (k := 3) rfl (nI_1 (i)) (by decide) rfl (fun ls hl => ?_)
          refine lv_goto (tgt := 8) hx hb dX9_meets_85 (by decide) ?_
          exact ih_8 (i + 1) (fa (10 * k + i)) _ _ _ (by omega) (by omega) (hP.sub [0, 1, 2] rfl) (hD.sub [0, 1, 2] (by decide) rfl) hS (lv_sub hl [0, 4, 5, 6] rfl)
      · skip
        refine lv_iload hx hb dX9_meets_51 (lv_at hl 1 rfl) ?_
        refine lv_goto (tgt := 58) hx hb dX9_meets_53 (by decide) ?_
        refine lv_istore (lv' := [(6, .int (fa (10 * j + i))), (5, .int (fa (10 * k + i))), (4, .int (fa (10 * j + i))), (3, .int (nI (i))), (0, .ref h0), (1, .int (nI (j))), (2, .int (nI (k)))]) hx hb dX9_meets_58 hl (by decide) rfl (fun ls hl => ?_)
        refine lv_aload_n hx hb dX9_meets_60 rfl (lv_at hl 4 rfl) ?_
        refine lv_iload hx hb dX9_meets_61 (lv_at hl 0 rfl) ?_
        refine lv_aload_n hx hb dX9_meets_63 rfl (lv_at hl 4 rfl) ?_
        refine xg hF kf_X9_134 hK hP 0 rfl rfl dX9_meets_64 ?_
        refine lv_icmp_ge (tgt := 75) hx hb dX9_meets_67 (by decide) (fun c_4 => ?_) (fun c_4 => ?_)
        · skip
          refine lv_aload_n hx hb dX9_meets_75 rfl (lv_at hl 4 rfl) ?_
          refine xg hF kf_X9_134 hK hP 0 rfl rfl dX9_meets_76 ?_
          refine xp hF kf_X9_134 tyX9_ok nmX9 hK hP hD hS 0 rfl rfl rfl rfl (Nat.le_of_ble_eq_true rfl) dX9_meets_79 (fun H locs hP hD hS => ?_)
          have hP : va_P D vwCl [(h0, .inr (9, [.ref ys, .ref yk, .ref yo, .ref yt, .int mk0, .ref yfa, .ref yfe, .int mL, .int mS, .int u8, .ref yro, .ref yhe, .ref ygr, .int mF, .int mC, .int mY, .ref yta, .int (nI (mz)), .int (nI (mf)), .int (nI (mt)), .int mv, .int mw, .ref ywa, .ref ybi, .ref ysi, .ref ynu, .ref ymo])), (ys, .inl (cI, 449, .inl ms)), (yfa, .inl (cI, 100, .inl fa))] H := hP
          have hD : va_D A [(h0, .inr (9, [.ref ys, .ref yk, .ref yo, .ref yt, .int mk0, .ref yfa, .ref yfe, .int mL, .int mS, .int u8, .ref yro, .ref yhe, .ref ygr, .int mF, .int mC, .int mY, .ref yta, .int (nI (mz)), .int (nI (mf)), .int (nI (mt)), .int mv, .int mw, .ref ywa, .ref ybi, .ref ysi, .ref ynu, .ref ymo])), (ys, .inl (cI, 449, .inl ms)), (yfa, .inl (cI, 100, .inl fa))] := hD
          refine lv_iinc (v := nI (i + 1)) (lv' := [(3, .int (nI (i + 1))), (6, .int (fa (10 * j + i))), (5, .int (fa (10 * k + i))), (4, .int (fa (10 * j + i))), (0, .ref h0), (1, .int (nI (j))), (2, .int (nI (k)))]) hx hb dX9_meets_82 hl (k := 3) rfl (nI_1 (i)) (by decide) rfl (fun ls hl => ?_)
          refine lv_goto (tgt := 8) hx hb dX9_meets_85 (by decide) ?_
          exact ih_8 (i + 1) u8 _ _ _ (by omega) (by omega) (hP.sub [0, 1, 2] rfl) (hD.sub [0, 1, 2] (by decide) rfl) hS (lv_sub hl [0, 4, 5, 6] rfl)
        · skip
          refine lv_iload hx hb dX9_meets_70 (lv_at hl 0 rfl) ?_
          refine lv_goto (tgt := 79) hx hb dX9_meets_72 (by decide) ?_
          refine xp hF kf_X9_134 tyX9_ok nmX9 hK hP hD hS 0 rfl rfl rfl rfl (Nat.le_of_ble_eq_true rfl) dX9_meets_79 (fun H locs hP hD hS => ?_)
          have hP : va_P D vwCl [(h0, .inr (9, [.ref ys, .ref yk, .ref yo, .ref yt, .int mk0, .ref yfa, .ref yfe, .int mL, .int mS, .int (fa (10 * j + i)), .ref yro, .ref yhe, .ref ygr, .int mF, .int mC, .int mY, .ref yta, .int (nI (mz)), .int (nI (mf)), .int (nI (mt)), .int mv, .int mw, .ref ywa, .ref ybi, .ref ysi, .ref ynu, .ref ymo])), (ys, .inl (cI, 449, .inl ms)), (yfa, .inl (cI, 100, .inl fa))] H := hP
          have hD : va_D A [(h0, .inr (9, [.ref ys, .ref yk, .ref yo, .ref yt, .int mk0, .ref yfa, .ref yfe, .int mL, .int mS, .int (fa (10 * j + i)), .ref yro, .ref yhe, .ref ygr, .int mF, .int mC, .int mY, .ref yta, .int (nI (mz)), .int (nI (mf)), .int (nI (mt)), .int mv, .int mw, .ref ywa, .ref ybi, .ref ysi, .ref ynu, .ref ymo])), (ys, .inl (cI, 449, .inl ms)), (yfa, .inl (cI, 100, .inl fa))] := hD
          refine lv_iinc (v := nI (i + 1)) (lv' := [(3, .int (nI (i + 1))), (6, .int (fa (10 * j + i))), (5, .int (fa (10 * k + i))), (4, .int (fa (10 * j + i))), (0, .ref h0), (1, .int (nI (j))), (2, .int (nI (k)))]) hx hb dX9_meets_82 hl (k := 3) rfl (nI_1 (i)) (by decide) rfl (fun ls hl => ?_)
          refine lv_goto (tgt := 8) hx hb dX9_meets_85 (by decide) ?_
          exact ih_8 (i + 1) (fa (10 * j + i)) _ _ _ (by omega) (by omega) (hP.sub [0, 1, 2] rfl) (hD.sub [0, 1, 2] (by decide) rfl) hS (lv_sub hl [0, 4, 5, 6] rfl)
set_option maxHeartbeats 4000000 in
set_option maxRecDepth 100000 in
theorem c_X9_pairs (l : Launch) (D : va_G) (cI cJ cZ cS : ClassId) (ta : Nat) (sa sv : Nat → Nat) (sz : Nat) (h0 : Nat) (ys : Nat) (yk : Nat) (yo : Nat) (yt : Nat) (mk0 : Int32) (yfa : Nat) (yfe : Nat) (mL : Int32) (mS : Int32) (mM : Int32) (yro : Nat) (yhe : Nat) (ygr : Nat) (mF : Int32) (mC : Int32) (mY : Int32) (yta : Nat) (mz : Nat) (mf : Nat) (mt : Nat) (mv : Int32) (mw : Int32) (ywa : Nat) (ybi : Nat) (ysi : Nat) (ynu : Nat) (ymo : Nat) (ms : Nat → Int32) (fa : Nat → Int32) (P : Nat) (Rn : Nat) (Wn : Nat) (fae : Nat → Int32) (fal : Nat → Int32) (fau : Nat → Int32) (fao : Nat → Int32) (farn : Nat → Int32) (farp : Nat → Int32) (fak : Nat → Int32) (fawn : Nat → Int32) (fawp : Nat → Int32) (fat : Nat → Int32) (fas : Nat → Int32) (p0 : Int32) (j : Nat) (k : Nat) (hj : j < 10) (hk : k < 10) (hs0 : ms 0 = nI P) (hs1 : ms 1 = nI Rn) (hs2 : ms 2 = nI Wn) (hsS : SI ms) (hsM : MI ms) (hsp : P ≤ 10) (hsr : Rn ≤ 8) (hsw : Wn ≤ 8) (hsR : RI Rn ms) (hsG : FR P ms fae fal fau fao farn farp fak fawn fawp fat fas) : Met l yX9_pairs (Cond.code yX9_pairs cX9_pairs 4 none :: wsU) ({ frames := 2, cells := 0, slots := 0, locals := 44 }) (va_Pc [.ref h0, .int p0, .int (nI (j)), .int (nI (k))] (XW D (xT cI cJ cZ cS) ta sa sv [(h0, .inr (9, [.ref ys, .ref yk, .ref yo, .ref yt, .int mk0, .ref yfa, .ref yfe, .int mL, .int mS, .int mM, .ref yro, .ref yhe, .ref ygr, .int mF, .int mC, .int mY, .ref yta, .int (nI (mz)), .int (nI (mf)), .int (nI (mt)), .int mv, .int mw, .ref ywa, .ref ybi, .ref ysi, .ref ynu, .ref ymo])), (ys, .inl (cI, 449, .inl ms)), (yfa, .inl (cI, 100, .inl fa))] sz)) (XQv (fun (mS2 : Int32) => True) D (fun (mS2 : Int32) => [(h0, .inr (9, [.ref ys, .ref yk, .ref yo, .ref yt, .int mk0, .ref yfa, .ref yfe, .int mL, .int mS2, .int mM, .ref yro, .ref yhe, .ref ygr, .int mF, .int mC, .int mY, .ref yta, .int (nI (mz)), .int (nI (mf)), .int (nI (mt)), .int mv, .int mw, .ref ywa, .ref ybi, .ref ysi, .ref ynu, .ref ymo])), (ys, .inl (cI, 449, .inl ms)), (yfa, .inl (cI, 100, .inl fa))]) (va_A [(h0, .inr (9, [.ref ys, .ref yk, .ref yo, .ref yt, .int mk0, .ref yfa, .ref yfe, .int mL, .int mS, .int mM, .ref yro, .ref yhe, .ref ygr, .int mF, .int mC, .int mY, .ref yta, .int (nI (mz)), .int (nI (mf)), .int (nI (mt)), .int mv, .int mw, .ref ywa, .ref ybi, .ref ysi, .ref ynu, .ref ymo])), (ys, .inl (cI, 449, .inl ms)), (yfa, .inl (cI, 100, .inl fa))] sz)) 0 0 (va_A [(h0, .inr (9, [.ref ys, .ref yk, .ref yo, .ref yt, .int mk0, .ref yfa, .ref yfe, .int mL, .int mS, .int mM, .ref yro, .ref yhe, .ref ygr, .int mF, .int mC, .int mY, .ref yta, .int (nI (mz)), .int (nI (mf)), .int (nI (mt)), .int mv, .int mw, .ref ywa, .ref ybi, .ref ysi, .ref ynu, .ref ymo])), (ys, .inl (cI, 449, .inl ms)), (yfa, .inl (cI, 100, .inl fa))] sz) := by
  refine xh (QA := fun A => XQv (fun (mS2 : Int32) => True) D (fun (mS2 : Int32) => [(h0, .inr (9, [.ref ys, .ref yk, .ref yo, .ref yt, .int mk0, .ref yfa, .ref yfe, .int mL, .int mS2, .int mM, .ref yro, .ref yhe, .ref ygr, .int mF, .int mC, .int mY, .ref yta, .int (nI (mz)), .int (nI (mf)), .int (nI (mt)), .int mv, .int mw, .ref ywa, .ref ybi, .ref ysi, .ref ynu, .ref ymo])), (ys, .inl (cI, 449, .inl ms)), (yfa, .inl (cI, 100, .inl fa))]) A) (fr := fun A => A) (by decide) (Nat.le_of_ble_eq_true rfl) ?_
  intro p e s m below meth c ls A hF hr hlk hin hsz hP hK hD hN hZ hA hS hl
  have hF : CallFix p m c cX9_pairs 4 s _ _ RX9 := hF
  have hx := hF.1
  have hb := hF.2.1
  have hml := hF.2.2.1
  have hown := hF.2.2.2.1
  have hu : ∀ w ∈ wsU, w.before _ s = true := fun w h => hF.2.2.2.2 w (List.mem_cons_of_mem _ h)
  have hl : lv_has ls 4 [(0, .ref h0), (1, .int p0), (2, .int (nI (j))), (3, .int (nI (k)))] := hl
  refine lv_iload_n hx hb dX9_pairs_0 rfl (lv_at hl 1 rfl) ?_
  refine lv_iconst (v := 1) hx hb dX9_pairs_1 (by decide) ?_
  refine lv_icmp_eq (tgt := 10) hx hb dX9_pairs_2 (by decide) (fun c_1 => ?_) (fun c_1 => ?_)
  · skip
    refine lv_aload_n hx hb dX9_pairs_10 rfl (lv_at hl 0 rfl) ?_
    refine lv_iload_n hx hb dX9_pairs_11 rfl (lv_at hl 1 rfl) ?_
    refine lv_iconst (v := 1) hx hb dX9_pairs_12 (by decide) ?_
    refine lv_icmp_ne (tgt := 25) hx hb dX9_pairs_13 (by decide) (fun c_2 => ?_) (fun c_2 => ?_)
    · skip
      refine lv_aload_n hx hb dX9_pairs_25 rfl (lv_at hl 0 rfl) ?_
      refine lv_iload_n hx hb dX9_pairs_26 rfl (lv_at hl 3 rfl) ?_
      refine lv_iload_n hx hb dX9_pairs_27 rfl (lv_at hl 2 rfl) ?_
      refine xc_Vr hF (c_X9_told l D cI cJ cZ cS ta sa sv s.heap.size h0 ys yk yo yt mk0 yfa yfe mL mS mM yro yhe ygr mF mC mY yta mz mf mt mv mw ywa ybi ysi ynu ymo ms P Rn Wn fae fal fau fao farn farp fak fawn fawp fat fas k j (by omega) (by omega) hs0 hs1 hs2 hsS hsM hsp hsr hsw hsR hsG) kv_X9_157 ⟨rfl, rfl, Nat.le_of_ble_eq_true rfl, Nat.le_of_ble_eq_true rfl⟩ ⟨Nat.le_of_ble_eq_true rfl, Nat.le_of_ble_eq_true rfl⟩ hK hN hZ hP hD hS hA [0, 1] rfl rfl 0 rfl rfl rfl rfl hl.1 rfl (Nat.le_of_ble_eq_true rfl) dX9_pairs_28 (fun r_3 hw_r_3 => ?_)
      refine xc_Vv (wr := [(ys, .inl (cI, 449, .inl ms)), (yfa, .inl (cI, 100, .inl fa))]) hF (c_X9_adds l D cI cJ cZ cS ta sa sv s.heap.size h0 ys yk yo yt mk0 yfa yfe mL mS mM yro yhe ygr mF mC mY yta mz mf mt mv mw ywa ybi ysi ynu ymo r_3 ) kv_X9_130 ⟨rfl, rfl, Nat.le_of_ble_eq_true rfl, Nat.le_of_ble_eq_true rfl⟩ ⟨Nat.le_of_ble_eq_true rfl, Nat.le_of_ble_eq_true rfl⟩ hK hN hZ hP hD hS hA [0] [1, 2] rfl rfl rfl rfl (by decide) 0 rfl rfl rfl rfl hl.1 rfl (Nat.le_of_ble_eq_true rfl) dX9_pairs_31 (fun u_r_4 H locs hw_r_4 hP hD hS => ?_)
      obtain ⟨mS2_5, rfl⟩ : ∃ z, z = u_r_4 := ⟨_, rfl⟩
      try dsimp only at hw_r_4
      have hP : va_P D vwCl [(ys, .inl (cI, 449, .inl ms)), (yfa, .inl (cI, 100, .inl fa)), (h0, .inr (9, [.ref ys, .ref yk, .ref yo, .ref yt, .int mk0, .ref yfa, .ref yfe, .int mL, .int mS2_5, .int mM, .ref yro, .ref yhe, .ref ygr, .int mF, .int mC, .int mY, .ref yta, .int (nI (mz)), .int (nI (mf)), .int (nI (mt)), .int mv, .int mw, .ref ywa, .ref ybi, .ref ysi, .ref ynu, .ref ymo]))] H := hP
      have hD : va_D A [(ys, .inl (cI, 449, .inl ms)), (yfa, .inl (cI, 100, .inl fa)), (h0, .inr (9, [.ref ys, .ref yk, .ref yo, .ref yt, .int mk0, .ref yfa, .ref yfe, .int mL, .int mS2_5, .int mM, .ref yro, .ref yhe, .ref ygr, .int mF, .int mC, .int mY, .ref yta, .int (nI (mz)), .int (nI (mf)), .int (nI (mt)), .int mv, .int mw, .ref ywa, .ref ybi, .ref ysi, .ref ynu, .ref ymo]))] := hD
      exact W.vret hx hb hr (fun t ht hW => ⟨⟨mS2_5, rfl, trivial, by rw [ht]; exact hP.sub [2, 0, 1] rfl, hD.sub [2, 0, 1] (by decide) rfl⟩, hS.F ht⟩) hS.2.2 dX9_pairs_34 hlk
    · skip
      refine lv_aload_n hx hb dX9_pairs_16 rfl (lv_at hl 0 rfl) ?_
      refine lv_iload_n hx hb dX9_pairs_17 rfl (lv_at hl 2 rfl) ?_
      refine lv_iload_n hx hb dX9_pairs_18 rfl (lv_at hl 3 rfl) ?_
      refine xc_Vr hF (c_X9_told l D cI cJ cZ cS ta sa sv s.heap.size h0 ys yk yo yt mk0 yfa yfe mL mS mM yro yhe ygr mF mC mY yta mz mf mt mv mw ywa ybi ysi ynu ymo ms P Rn Wn fae fal fau fao farn farp fak fawn fawp fat fas j k (by omega) (by omega) hs0 hs1 hs2 hsS hsM hsp hsr hsw hsR hsG) kv_X9_157 ⟨rfl, rfl, Nat.le_of_ble_eq_true rfl, Nat.le_of_ble_eq_true rfl⟩ ⟨Nat.le_of_ble_eq_true rfl, Nat.le_of_ble_eq_true rfl⟩ hK hN hZ hP hD hS hA [0, 1] rfl rfl 0 rfl rfl rfl rfl hl.1 rfl (Nat.le_of_ble_eq_true rfl) dX9_pairs_19 (fun r_6 hw_r_6 => ?_)
      refine lv_goto (tgt := 31) hx hb dX9_pairs_22 (by decide) ?_
      refine xc_Vv (wr := [(ys, .inl (cI, 449, .inl ms)), (yfa, .inl (cI, 100, .inl fa))]) hF (c_X9_adds l D cI cJ cZ cS ta sa sv s.heap.size h0 ys yk yo yt mk0 yfa yfe mL mS mM yro yhe ygr mF mC mY yta mz mf mt mv mw ywa ybi ysi ynu ymo r_6 ) kv_X9_130 ⟨rfl, rfl, Nat.le_of_ble_eq_true rfl, Nat.le_of_ble_eq_true rfl⟩ ⟨Nat.le_of_ble_eq_true rfl, Nat.le_of_ble_eq_true rfl⟩ hK hN hZ hP hD hS hA [0] [1, 2] rfl rfl rfl rfl (by decide) 0 rfl rfl rfl rfl hl.1 rfl (Nat.le_of_ble_eq_true rfl) dX9_pairs_31 (fun u_r_7 H locs hw_r_7 hP hD hS => ?_)
      obtain ⟨mS2_8, rfl⟩ : ∃ z, z = u_r_7 := ⟨_, rfl⟩
      try dsimp only at hw_r_7
      have hP : va_P D vwCl [(ys, .inl (cI, 449, .inl ms)), (yfa, .inl (cI, 100, .inl fa)), (h0, .inr (9, [.ref ys, .ref yk, .ref yo, .ref yt, .int mk0, .ref yfa, .ref yfe, .int mL, .int mS2_8, .int mM, .ref yro, .ref yhe, .ref ygr, .int mF, .int mC, .int mY, .ref yta, .int (nI (mz)), .int (nI (mf)), .int (nI (mt)), .int mv, .int mw, .ref ywa, .ref ybi, .ref ysi, .ref ynu, .ref ymo]))] H := hP
      have hD : va_D A [(ys, .inl (cI, 449, .inl ms)), (yfa, .inl (cI, 100, .inl fa)), (h0, .inr (9, [.ref ys, .ref yk, .ref yo, .ref yt, .int mk0, .ref yfa, .ref yfe, .int mL, .int mS2_8, .int mM, .ref yro, .ref yhe, .ref ygr, .int mF, .int mC, .int mY, .ref yta, .int (nI (mz)), .int (nI (mf)), .int (nI (mt)), .int mv, .int mw, .ref ywa, .ref ybi, .ref ysi, .ref ynu, .ref ymo]))] := hD
      exact W.vret hx hb hr (fun t ht hW => ⟨⟨mS2_8, rfl, trivial, by rw [ht]; exact hP.sub [2, 0, 1] rfl, hD.sub [2, 0, 1] (by decide) rfl⟩, hS.F ht⟩) hS.2.2 dX9_pairs_34 hlk
  · skip
    refine lv_iload_n hx hb dX9_pairs_5 rfl (lv_at hl 1 rfl) ?_
    refine lv_iconst (v := 4) hx hb dX9_pairs_6 (by decide) ?_
    refine lv_icmp_ne (tgt := 35) hx hb dX9_pairs_7 (by decide) (fun c_9 => ?_) (fun c_9 => ?_)
    · skip
      refine lv_aload_n hx hb dX9_pairs_35 rfl (lv_at hl 0 rfl) ?_
      refine lv_aload_n hx hb dX9_pairs_36 rfl (lv_at hl 0 rfl) ?_
      refine xg hF kf_X9_22 hK hP 0 rfl rfl dX9_pairs_37 ?_
      refine lv_bipush (v := 10) hx hb dX9_pairs_40 (by decide) ?_
      refine lv_iload_n hx hb dX9_pairs_42 rfl (lv_at hl 2 rfl) ?_
      refine lv_imul hx hb dX9_pairs_43 ?_
      refine xl_i (y := nI (10 * j)) (pk_mul 10 j) ?_
      refine lv_iload_n hx hb dX9_pairs_44 rfl (lv_at hl 3 rfl) ?_
      refine lv_iadd hx hb dX9_pairs_45 ?_
      refine xl_i (y := nI (10 * j + k)) (nI_add (10 * j) k) ?_
      refine va_iald hx hb hK hP 2 0 rfl rfl (vp_in_nI (show 10 * j + k < 100 by omega) (by decide)) dX9_pairs_46 ?_
      refine xl_i (y := fa (10 * j + k)) (congrArg fa (nI_clamp (show 10 * j + k < 2 ^ 31 by omega))) ?_
      refine xc_Vv (wr := [(ys, .inl (cI, 449, .inl ms)), (yfa, .inl (cI, 100, .inl fa))]) hF (c_X9_adds l D cI cJ cZ cS ta sa sv s.heap.size h0 ys yk yo yt mk0 yfa yfe mL mS mM yro yhe ygr mF mC mY yta mz mf mt mv mw ywa ybi ysi ynu ymo (fa (10 * j + k)) ) kv_X9_130 ⟨rfl, rfl, Nat.le_of_ble_eq_true rfl, Nat.le_of_ble_eq_true rfl⟩ ⟨Nat.le_of_ble_eq_true rfl, Nat.le_of_ble_eq_true rfl⟩ hK hN hZ hP hD hS hA [0] [1, 2] rfl rfl rfl rfl (by decide) 0 rfl rfl rfl rfl hl.1 rfl (Nat.le_of_ble_eq_true rfl) dX9_pairs_47 (fun u_r_10 H locs hw_r_10 hP hD hS => ?_)
      obtain ⟨mS2_11, rfl⟩ : ∃ z, z = u_r_10 := ⟨_, rfl⟩
      try dsimp only at hw_r_10
      have hP : va_P D vwCl [(ys, .inl (cI, 449, .inl ms)), (yfa, .inl (cI, 100, .inl fa)), (h0, .inr (9, [.ref ys, .ref yk, .ref yo, .ref yt, .int mk0, .ref yfa, .ref yfe, .int mL, .int mS2_11, .int mM, .ref yro, .ref yhe, .ref ygr, .int mF, .int mC, .int mY, .ref yta, .int (nI (mz)), .int (nI (mf)), .int (nI (mt)), .int mv, .int mw, .ref ywa, .ref ybi, .ref ysi, .ref ynu, .ref ymo]))] H := hP
      have hD : va_D A [(ys, .inl (cI, 449, .inl ms)), (yfa, .inl (cI, 100, .inl fa)), (h0, .inr (9, [.ref ys, .ref yk, .ref yo, .ref yt, .int mk0, .ref yfa, .ref yfe, .int mL, .int mS2_11, .int mM, .ref yro, .ref yhe, .ref ygr, .int mF, .int mC, .int mY, .ref yta, .int (nI (mz)), .int (nI (mf)), .int (nI (mt)), .int mv, .int mw, .ref ywa, .ref ybi, .ref ysi, .ref ynu, .ref ymo]))] := hD
      refine lv_iload_n hx hb dX9_pairs_50 rfl (lv_at hl 1 rfl) ?_
      refine lv_iconst (v := 5) hx hb dX9_pairs_51 (by decide) ?_
      refine lv_icmp_ne (tgt := 70) hx hb dX9_pairs_52 (by decide) (fun c_12 => ?_) (fun c_12 => ?_)
      · skip
        exact W.vret hx hb hr (fun t ht hW => ⟨⟨mS2_11, rfl, trivial, by rw [ht]; exact hP.sub [2, 0, 1] rfl, hD.sub [2, 0, 1] (by decide) rfl⟩, hS.F ht⟩) hS.2.2 dX9_pairs_70 hlk
      · skip
        refine lv_aload_n hx hb dX9_pairs_55 rfl (lv_at hl 0 rfl) ?_
        refine lv_aload_n hx hb dX9_pairs_56 rfl (lv_at hl 0 rfl) ?_
        refine xg hF kf_X9_22 hK hP 2 rfl rfl dX9_pairs_57 ?_
        refine lv_bipush (v := 10) hx hb dX9_pairs_60 (by decide) ?_
        refine lv_iload_n hx hb dX9_pairs_62 rfl (lv_at hl 3 rfl) ?_
        refine lv_imul hx hb dX9_pairs_63 ?_
        refine xl_i (y := nI (10 * k)) (pk_mul 10 k) ?_
        refine lv_iload_n hx hb dX9_pairs_64 rfl (lv_at hl 2 rfl) ?_
        refine lv_iadd hx hb dX9_pairs_65 ?_
        refine xl_i (y := nI (10 * k + j)) (nI_add (10 * k) j) ?_
        refine va_iald hx hb hK hP 1 0 rfl rfl (vp_in_nI (show 10 * k + j < 100 by omega) (by decide)) dX9_pairs_66 ?_
        refine xl_i (y := fa (10 * k + j)) (congrArg fa (nI_clamp (show 10 * k + j < 2 ^ 31 by omega))) ?_
        refine xc_Vv (wr := [(ys, .inl (cI, 449, .inl ms)), (yfa, .inl (cI, 100, .inl fa))]) hF (c_X9_adds l D cI cJ cZ cS ta sa sv H.size h0 ys yk yo yt mk0 yfa yfe mL mS2_11 mM yro yhe ygr mF mC mY yta mz mf mt mv mw ywa ybi ysi ynu ymo (fa (10 * k + j)) ) kv_X9_130 ⟨rfl, rfl, Nat.le_of_ble_eq_true rfl, Nat.le_of_ble_eq_true rfl⟩ ⟨Nat.le_of_ble_eq_true rfl, Nat.le_of_ble_eq_true rfl⟩ hK hN hZ hP hD hS hA [2] [0, 1] rfl rfl rfl rfl (by decide) 0 rfl rfl rfl rfl hl.1 rfl (Nat.le_of_ble_eq_true rfl) dX9_pairs_67 (fun u_r_13 H locs hw_r_13 hP hD hS => ?_)
        obtain ⟨mS2_14, rfl⟩ : ∃ z, z = u_r_13 := ⟨_, rfl⟩
        try dsimp only at hw_r_13
        have hP : va_P D vwCl [(ys, .inl (cI, 449, .inl ms)), (yfa, .inl (cI, 100, .inl fa)), (h0, .inr (9, [.ref ys, .ref yk, .ref yo, .ref yt, .int mk0, .ref yfa, .ref yfe, .int mL, .int mS2_14, .int mM, .ref yro, .ref yhe, .ref ygr, .int mF, .int mC, .int mY, .ref yta, .int (nI (mz)), .int (nI (mf)), .int (nI (mt)), .int mv, .int mw, .ref ywa, .ref ybi, .ref ysi, .ref ynu, .ref ymo]))] H := hP
        have hD : va_D A [(ys, .inl (cI, 449, .inl ms)), (yfa, .inl (cI, 100, .inl fa)), (h0, .inr (9, [.ref ys, .ref yk, .ref yo, .ref yt, .int mk0, .ref yfa, .ref yfe, .int mL, .int mS2_14, .int mM, .ref yro, .ref yhe, .ref ygr, .int mF, .int mC, .int mY, .ref yta, .int (nI (mz)), .int (nI (mf)), .int (nI (mt)), .int mv, .int mw, .ref ywa, .ref ybi, .ref ysi, .ref ynu, .ref ymo]))] := hD
        exact W.vret hx hb hr (fun t ht hW => ⟨⟨mS2_14, rfl, trivial, by rw [ht]; exact hP.sub [2, 0, 1] rfl, hD.sub [2, 0, 1] (by decide) rfl⟩, hS.F ht⟩) hS.2.2 dX9_pairs_70 hlk
    · skip
      refine lv_aload_n hx hb dX9_pairs_10 rfl (lv_at hl 0 rfl) ?_
      refine lv_iload_n hx hb dX9_pairs_11 rfl (lv_at hl 1 rfl) ?_
      refine lv_iconst (v := 1) hx hb dX9_pairs_12 (by decide) ?_
      refine lv_icmp_ne (tgt := 25) hx hb dX9_pairs_13 (by decide) (fun c_15 => ?_) (fun c_15 => ?_)
      · skip
        refine lv_aload_n hx hb dX9_pairs_25 rfl (lv_at hl 0 rfl) ?_
        refine lv_iload_n hx hb dX9_pairs_26 rfl (lv_at hl 3 rfl) ?_
        refine lv_iload_n hx hb dX9_pairs_27 rfl (lv_at hl 2 rfl) ?_
        refine xc_Vr hF (c_X9_told l D cI cJ cZ cS ta sa sv s.heap.size h0 ys yk yo yt mk0 yfa yfe mL mS mM yro yhe ygr mF mC mY yta mz mf mt mv mw ywa ybi ysi ynu ymo ms P Rn Wn fae fal fau fao farn farp fak fawn fawp fat fas k j (by omega) (by omega) hs0 hs1 hs2 hsS hsM hsp hsr hsw hsR hsG) kv_X9_157 ⟨rfl, rfl, Nat.le_of_ble_eq_true rfl, Nat.le_of_ble_eq_true rfl⟩ ⟨Nat.le_of_ble_eq_true rfl, Nat.le_of_ble_eq_true rfl⟩ hK hN hZ hP hD hS hA [0, 1] rfl rfl 0 rfl rfl rfl rfl hl.1 rfl (Nat.le_of_ble_eq_true rfl) dX9_pairs_28 (fun r_16 hw_r_16 => ?_)
        refine xc_Vv (wr := [(ys, .inl (cI, 449, .inl ms)), (yfa, .inl (cI, 100, .inl fa))]) hF (c_X9_adds l D cI cJ cZ cS ta sa sv s.heap.size h0 ys yk yo yt mk0 yfa yfe mL mS mM yro yhe ygr mF mC mY yta mz mf mt mv mw ywa ybi ysi ynu ymo r_16 ) kv_X9_130 ⟨rfl, rfl, Nat.le_of_ble_eq_true rfl, Nat.le_of_ble_eq_true rfl⟩ ⟨Nat.le_of_ble_eq_true rfl, Nat.le_of_ble_eq_true rfl⟩ hK hN hZ hP hD hS hA [0] [1, 2] rfl rfl rfl rfl (by decide) 0 rfl rfl rfl rfl hl.1 rfl (Nat.le_of_ble_eq_true rfl) dX9_pairs_31 (fun u_r_17 H locs hw_r_17 hP hD hS => ?_)
        obtain ⟨mS2_18, rfl⟩ : ∃ z, z = u_r_17 := ⟨_, rfl⟩
        try dsimp only at hw_r_17
        have hP : va_P D vwCl [(ys, .inl (cI, 449, .inl ms)), (yfa, .inl (cI, 100, .inl fa)), (h0, .inr (9, [.ref ys, .ref yk, .ref yo, .ref yt, .int mk0, .ref yfa, .ref yfe, .int mL, .int mS2_18, .int mM, .ref yro, .ref yhe, .ref ygr, .int mF, .int mC, .int mY, .ref yta, .int (nI (mz)), .int (nI (mf)), .int (nI (mt)), .int mv, .int mw, .ref ywa, .ref ybi, .ref ysi, .ref ynu, .ref ymo]))] H := hP
        have hD : va_D A [(ys, .inl (cI, 449, .inl ms)), (yfa, .inl (cI, 100, .inl fa)), (h0, .inr (9, [.ref ys, .ref yk, .ref yo, .ref yt, .int mk0, .ref yfa, .ref yfe, .int mL, .int mS2_18, .int mM, .ref yro, .ref yhe, .ref ygr, .int mF, .int mC, .int mY, .ref yta, .int (nI (mz)), .int (nI (mf)), .int (nI (mt)), .int mv, .int mw, .ref ywa, .ref ybi, .ref ysi, .ref ynu, .ref ymo]))] := hD
        exact W.vret hx hb hr (fun t ht hW => ⟨⟨mS2_18, rfl, trivial, by rw [ht]; exact hP.sub [2, 0, 1] rfl, hD.sub [2, 0, 1] (by decide) rfl⟩, hS.F ht⟩) hS.2.2 dX9_pairs_34 hlk
      · skip
        refine lv_aload_n hx hb dX9_pairs_16 rfl (lv_at hl 0 rfl) ?_
        refine lv_iload_n hx hb dX9_pairs_17 rfl (lv_at hl 2 rfl) ?_
        refine lv_iload_n hx hb dX9_pairs_18 rfl (lv_at hl 3 rfl) ?_
        refine xc_Vr hF (c_X9_told l D cI cJ cZ cS ta sa sv s.heap.size h0 ys yk yo yt mk0 yfa yfe mL mS mM yro yhe ygr mF mC mY yta mz mf mt mv mw ywa ybi ysi ynu ymo ms P Rn Wn fae fal fau fao farn farp fak fawn fawp fat fas j k (by omega) (by omega) hs0 hs1 hs2 hsS hsM hsp hsr hsw hsR hsG) kv_X9_157 ⟨rfl, rfl, Nat.le_of_ble_eq_true rfl, Nat.le_of_ble_eq_true rfl⟩ ⟨Nat.le_of_ble_eq_true rfl, Nat.le_of_ble_eq_true rfl⟩ hK hN hZ hP hD hS hA [0, 1] rfl rfl 0 rfl rfl rfl rfl hl.1 rfl (Nat.le_of_ble_eq_true rfl) dX9_pairs_19 (fun r_19 hw_r_19 => ?_)
        refine lv_goto (tgt := 31) hx hb dX9_pairs_22 (by decide) ?_
        refine xc_Vv (wr := [(ys, .inl (cI, 449, .inl ms)), (yfa, .inl (cI, 100, .inl fa))]) hF (c_X9_adds l D cI cJ cZ cS ta sa sv s.heap.size h0 ys yk yo yt mk0 yfa yfe mL mS mM yro yhe ygr mF mC mY yta mz mf mt mv mw ywa ybi ysi ynu ymo r_19 ) kv_X9_130 ⟨rfl, rfl, Nat.le_of_ble_eq_true rfl, Nat.le_of_ble_eq_true rfl⟩ ⟨Nat.le_of_ble_eq_true rfl, Nat.le_of_ble_eq_true rfl⟩ hK hN hZ hP hD hS hA [0] [1, 2] rfl rfl rfl rfl (by decide) 0 rfl rfl rfl rfl hl.1 rfl (Nat.le_of_ble_eq_true rfl) dX9_pairs_31 (fun u_r_20 H locs hw_r_20 hP hD hS => ?_)
        obtain ⟨mS2_21, rfl⟩ : ∃ z, z = u_r_20 := ⟨_, rfl⟩
        try dsimp only at hw_r_20
        have hP : va_P D vwCl [(ys, .inl (cI, 449, .inl ms)), (yfa, .inl (cI, 100, .inl fa)), (h0, .inr (9, [.ref ys, .ref yk, .ref yo, .ref yt, .int mk0, .ref yfa, .ref yfe, .int mL, .int mS2_21, .int mM, .ref yro, .ref yhe, .ref ygr, .int mF, .int mC, .int mY, .ref yta, .int (nI (mz)), .int (nI (mf)), .int (nI (mt)), .int mv, .int mw, .ref ywa, .ref ybi, .ref ysi, .ref ynu, .ref ymo]))] H := hP
        have hD : va_D A [(ys, .inl (cI, 449, .inl ms)), (yfa, .inl (cI, 100, .inl fa)), (h0, .inr (9, [.ref ys, .ref yk, .ref yo, .ref yt, .int mk0, .ref yfa, .ref yfe, .int mL, .int mS2_21, .int mM, .ref yro, .ref yhe, .ref ygr, .int mF, .int mC, .int mY, .ref yta, .int (nI (mz)), .int (nI (mf)), .int (nI (mt)), .int mv, .int mw, .ref ywa, .ref ybi, .ref ysi, .ref ynu, .ref ymo]))] := hD
        exact W.vret hx hb hr (fun t ht hW => ⟨⟨mS2_21, rfl, trivial, by rw [ht]; exact hP.sub [2, 0, 1] rfl, hD.sub [2, 0, 1] (by decide) rfl⟩, hS.F ht⟩) hS.2.2 dX9_pairs_34 hlk
set_option maxHeartbeats 4000000 in
set_option maxRecDepth 100000 in
theorem c_X9_closes (l : Launch) (D : va_G) (cI cJ cZ cS : ClassId) (ta : Nat) (sa sv : Nat → Nat) (sz : Nat) (h0 : Nat) (ys : Nat) (yk : Nat) (yo : Nat) (yt : Nat) (mk0 : Int32) (yfa : Nat) (yfe : Nat) (mL : Int32) (mS : Int32) (mM : Int32) (yro : Nat) (yhe : Nat) (ygr : Nat) (mF : Int32) (mC : Int32) (mY : Int32) (yta : Nat) (mz : Nat) (mf : Nat) (mt : Nat) (mv : Int32) (mw : Int32) (ywa : Nat) (ybi : Nat) (ysi : Nat) (ynu : Nat) (ymo : Nat) (ms : Nat → Int32) (fa : Nat → Int32) (P : Nat) (Rn : Nat) (Wn : Nat) (fae : Nat → Int32) (fal : Nat → Int32) (fau : Nat → Int32) (fao : Nat → Int32) (farn : Nat → Int32) (farp : Nat → Int32) (fak : Nat → Int32) (fawn : Nat → Int32) (fawp : Nat → Int32) (fat : Nat → Int32) (fas : Nat → Int32) (p0 : Int32) (j : Nat) (k : Nat) (hj : j < 10) (hk : k < 10) (hs0 : ms 0 = nI P) (hs1 : ms 1 = nI Rn) (hs2 : ms 2 = nI Wn) (hsS : SI ms) (hsM : MI ms) (hsp : P ≤ 10) (hsr : Rn ≤ 8) (hsw : Wn ≤ 8) (hsR : RI Rn ms) (hsG : FR P ms fae fal fau fao farn farp fak fawn fawp fat fas) : Met l yX9_closes (Cond.code yX9_closes cX9_closes 4 none :: wsU) ({ frames := 2, cells := 0, slots := 0, locals := 44 }) (va_Pc [.ref h0, .int p0, .int (nI (j)), .int (nI (k))] (XW D (xT cI cJ cZ cS) ta sa sv [(h0, .inr (9, [.ref ys, .ref yk, .ref yo, .ref yt, .int mk0, .ref yfa, .ref yfe, .int mL, .int mS, .int mM, .ref yro, .ref yhe, .ref ygr, .int mF, .int mC, .int mY, .ref yta, .int (nI (mz)), .int (nI (mf)), .int (nI (mt)), .int mv, .int mw, .ref ywa, .ref ybi, .ref ysi, .ref ynu, .ref ymo])), (ys, .inl (cI, 449, .inl ms)), (yfa, .inl (cI, 100, .inl fa))] sz)) (XQv (fun (mS2 : Int32) => True) D (fun (mS2 : Int32) => [(h0, .inr (9, [.ref ys, .ref yk, .ref yo, .ref yt, .int mk0, .ref yfa, .ref yfe, .int mL, .int mS2, .int mM, .ref yro, .ref yhe, .ref ygr, .int mF, .int mC, .int mY, .ref yta, .int (nI (mz)), .int (nI (mf)), .int (nI (mt)), .int mv, .int mw, .ref ywa, .ref ybi, .ref ysi, .ref ynu, .ref ymo])), (ys, .inl (cI, 449, .inl ms)), (yfa, .inl (cI, 100, .inl fa))]) (va_A [(h0, .inr (9, [.ref ys, .ref yk, .ref yo, .ref yt, .int mk0, .ref yfa, .ref yfe, .int mL, .int mS, .int mM, .ref yro, .ref yhe, .ref ygr, .int mF, .int mC, .int mY, .ref yta, .int (nI (mz)), .int (nI (mf)), .int (nI (mt)), .int mv, .int mw, .ref ywa, .ref ybi, .ref ysi, .ref ynu, .ref ymo])), (ys, .inl (cI, 449, .inl ms)), (yfa, .inl (cI, 100, .inl fa))] sz)) 0 0 (va_A [(h0, .inr (9, [.ref ys, .ref yk, .ref yo, .ref yt, .int mk0, .ref yfa, .ref yfe, .int mL, .int mS, .int mM, .ref yro, .ref yhe, .ref ygr, .int mF, .int mC, .int mY, .ref yta, .int (nI (mz)), .int (nI (mf)), .int (nI (mt)), .int mv, .int mw, .ref ywa, .ref ybi, .ref ysi, .ref ynu, .ref ymo])), (ys, .inl (cI, 449, .inl ms)), (yfa, .inl (cI, 100, .inl fa))] sz) := by
  refine xh (QA := fun A => XQv (fun (mS2 : Int32) => True) D (fun (mS2 : Int32) => [(h0, .inr (9, [.ref ys, .ref yk, .ref yo, .ref yt, .int mk0, .ref yfa, .ref yfe, .int mL, .int mS2, .int mM, .ref yro, .ref yhe, .ref ygr, .int mF, .int mC, .int mY, .ref yta, .int (nI (mz)), .int (nI (mf)), .int (nI (mt)), .int mv, .int mw, .ref ywa, .ref ybi, .ref ysi, .ref ynu, .ref ymo])), (ys, .inl (cI, 449, .inl ms)), (yfa, .inl (cI, 100, .inl fa))]) A) (fr := fun A => A) (by decide) (Nat.le_of_ble_eq_true rfl) ?_
  intro p e s m below meth c ls A hF hr hlk hin hsz hP hK hD hN hZ hA hS hl
  have hF : CallFix p m c cX9_closes 4 s _ _ RX9 := hF
  have hx := hF.1
  have hb := hF.2.1
  have hml := hF.2.2.1
  have hown := hF.2.2.2.1
  have hu : ∀ w ∈ wsU, w.before _ s = true := fun w h => hF.2.2.2.2 w (List.mem_cons_of_mem _ h)
  have hl : lv_has ls 4 [(0, .ref h0), (1, .int p0), (2, .int (nI (j))), (3, .int (nI (k)))] := hl
  refine lv_iload_n hx hb dX9_closes_0 rfl (lv_at hl 1 rfl) ?_
  refine lv_if_ne (tgt := 22) hx hb dX9_closes_1 (by decide) (fun c_1 => ?_) (fun c_1 => ?_)
  · skip
    refine lv_iload_n hx hb dX9_closes_22 rfl (lv_at hl 1 rfl) ?_
    refine lv_iconst (v := 1) hx hb dX9_closes_23 (by decide) ?_
    refine lv_icmp_ne (tgt := 40) hx hb dX9_closes_24 (by decide) (fun c_2 => ?_) (fun c_2 => ?_)
    · skip
      refine lv_iload_n hx hb dX9_closes_40 rfl (lv_at hl 1 rfl) ?_
      refine lv_iconst (v := 4) hx hb dX9_closes_41 (by decide) ?_
      refine lv_icmp_ne (tgt := 55) hx hb dX9_closes_42 (by decide) (fun c_3 => ?_) (fun c_3 => ?_)
      · skip
        exact W.vret hx hb hr (fun t ht hW => ⟨⟨mS, rfl, trivial, by rw [ht]; exact hP.sub [0, 1, 2] rfl, hD.sub [0, 1, 2] (by decide) rfl⟩, hS.F ht⟩) hS.2.2 dX9_closes_55 hlk
      · skip
        refine lv_aload_n hx hb dX9_closes_45 rfl (lv_at hl 0 rfl) ?_
        refine lv_aload_n hx hb dX9_closes_46 rfl (lv_at hl 0 rfl) ?_
        refine lv_iload_n hx hb dX9_closes_47 rfl (lv_at hl 2 rfl) ?_
        refine lv_iload_n hx hb dX9_closes_48 rfl (lv_at hl 3 rfl) ?_
        refine xc_Vr hF (c_X9_told l D cI cJ cZ cS ta sa sv s.heap.size h0 ys yk yo yt mk0 yfa yfe mL mS mM yro yhe ygr mF mC mY yta mz mf mt mv mw ywa ybi ysi ynu ymo ms P Rn Wn fae fal fau fao farn farp fak fawn fawp fat fas j k (by omega) (by omega) hs0 hs1 hs2 hsS hsM hsp hsr hsw hsR hsG) kv_X9_157 ⟨rfl, rfl, Nat.le_of_ble_eq_true rfl, Nat.le_of_ble_eq_true rfl⟩ ⟨Nat.le_of_ble_eq_true rfl, Nat.le_of_ble_eq_true rfl⟩ hK hN hZ hP hD hS hA [0, 1] rfl rfl 0 rfl rfl rfl rfl hl.1 rfl (Nat.le_of_ble_eq_true rfl) dX9_closes_49 (fun r_4 hw_r_4 => ?_)
        refine xc_Vv (wr := [(ys, .inl (cI, 449, .inl ms)), (yfa, .inl (cI, 100, .inl fa))]) hF (c_X9_adds l D cI cJ cZ cS ta sa sv s.heap.size h0 ys yk yo yt mk0 yfa yfe mL mS mM yro yhe ygr mF mC mY yta mz mf mt mv mw ywa ybi ysi ynu ymo r_4 ) kv_X9_130 ⟨rfl, rfl, Nat.le_of_ble_eq_true rfl, Nat.le_of_ble_eq_true rfl⟩ ⟨Nat.le_of_ble_eq_true rfl, Nat.le_of_ble_eq_true rfl⟩ hK hN hZ hP hD hS hA [0] [1, 2] rfl rfl rfl rfl (by decide) 0 rfl rfl rfl rfl hl.1 rfl (Nat.le_of_ble_eq_true rfl) dX9_closes_52 (fun u_r_5 H locs hw_r_5 hP hD hS => ?_)
        obtain ⟨mS2_6, rfl⟩ : ∃ z, z = u_r_5 := ⟨_, rfl⟩
        try dsimp only at hw_r_5
        have hP : va_P D vwCl [(ys, .inl (cI, 449, .inl ms)), (yfa, .inl (cI, 100, .inl fa)), (h0, .inr (9, [.ref ys, .ref yk, .ref yo, .ref yt, .int mk0, .ref yfa, .ref yfe, .int mL, .int mS2_6, .int mM, .ref yro, .ref yhe, .ref ygr, .int mF, .int mC, .int mY, .ref yta, .int (nI (mz)), .int (nI (mf)), .int (nI (mt)), .int mv, .int mw, .ref ywa, .ref ybi, .ref ysi, .ref ynu, .ref ymo]))] H := hP
        have hD : va_D A [(ys, .inl (cI, 449, .inl ms)), (yfa, .inl (cI, 100, .inl fa)), (h0, .inr (9, [.ref ys, .ref yk, .ref yo, .ref yt, .int mk0, .ref yfa, .ref yfe, .int mL, .int mS2_6, .int mM, .ref yro, .ref yhe, .ref ygr, .int mF, .int mC, .int mY, .ref yta, .int (nI (mz)), .int (nI (mf)), .int (nI (mt)), .int mv, .int mw, .ref ywa, .ref ybi, .ref ysi, .ref ynu, .ref ymo]))] := hD
        exact W.vret hx hb hr (fun t ht hW => ⟨⟨mS2_6, rfl, trivial, by rw [ht]; exact hP.sub [2, 0, 1] rfl, hD.sub [2, 0, 1] (by decide) rfl⟩, hS.F ht⟩) hS.2.2 dX9_closes_55 hlk
    · skip
      refine lv_aload_n hx hb dX9_closes_27 rfl (lv_at hl 0 rfl) ?_
      refine lv_aload_n hx hb dX9_closes_28 rfl (lv_at hl 0 rfl) ?_
      refine lv_iload_n hx hb dX9_closes_29 rfl (lv_at hl 3 rfl) ?_
      refine lv_iload_n hx hb dX9_closes_30 rfl (lv_at hl 2 rfl) ?_
      refine xc_Vr hF (c_X9_told l D cI cJ cZ cS ta sa sv s.heap.size h0 ys yk yo yt mk0 yfa yfe mL mS mM yro yhe ygr mF mC mY yta mz mf mt mv mw ywa ybi ysi ynu ymo ms P Rn Wn fae fal fau fao farn farp fak fawn fawp fat fas k j (by omega) (by omega) hs0 hs1 hs2 hsS hsM hsp hsr hsw hsR hsG) kv_X9_157 ⟨rfl, rfl, Nat.le_of_ble_eq_true rfl, Nat.le_of_ble_eq_true rfl⟩ ⟨Nat.le_of_ble_eq_true rfl, Nat.le_of_ble_eq_true rfl⟩ hK hN hZ hP hD hS hA [0, 1] rfl rfl 0 rfl rfl rfl rfl hl.1 rfl (Nat.le_of_ble_eq_true rfl) dX9_closes_31 (fun r_7 hw_r_7 => ?_)
      refine xc_Vv (wr := [(ys, .inl (cI, 449, .inl ms)), (yfa, .inl (cI, 100, .inl fa))]) hF (c_X9_adds l D cI cJ cZ cS ta sa sv s.heap.size h0 ys yk yo yt mk0 yfa yfe mL mS mM yro yhe ygr mF mC mY yta mz mf mt mv mw ywa ybi ysi ynu ymo r_7 ) kv_X9_130 ⟨rfl, rfl, Nat.le_of_ble_eq_true rfl, Nat.le_of_ble_eq_true rfl⟩ ⟨Nat.le_of_ble_eq_true rfl, Nat.le_of_ble_eq_true rfl⟩ hK hN hZ hP hD hS hA [0] [1, 2] rfl rfl rfl rfl (by decide) 0 rfl rfl rfl rfl hl.1 rfl (Nat.le_of_ble_eq_true rfl) dX9_closes_34 (fun u_r_8 H locs hw_r_8 hP hD hS => ?_)
      obtain ⟨mS2_9, rfl⟩ : ∃ z, z = u_r_8 := ⟨_, rfl⟩
      try dsimp only at hw_r_8
      have hP : va_P D vwCl [(ys, .inl (cI, 449, .inl ms)), (yfa, .inl (cI, 100, .inl fa)), (h0, .inr (9, [.ref ys, .ref yk, .ref yo, .ref yt, .int mk0, .ref yfa, .ref yfe, .int mL, .int mS2_9, .int mM, .ref yro, .ref yhe, .ref ygr, .int mF, .int mC, .int mY, .ref yta, .int (nI (mz)), .int (nI (mf)), .int (nI (mt)), .int mv, .int mw, .ref ywa, .ref ybi, .ref ysi, .ref ynu, .ref ymo]))] H := hP
      have hD : va_D A [(ys, .inl (cI, 449, .inl ms)), (yfa, .inl (cI, 100, .inl fa)), (h0, .inr (9, [.ref ys, .ref yk, .ref yo, .ref yt, .int mk0, .ref yfa, .ref yfe, .int mL, .int mS2_9, .int mM, .ref yro, .ref yhe, .ref ygr, .int mF, .int mC, .int mY, .ref yta, .int (nI (mz)), .int (nI (mf)), .int (nI (mt)), .int mv, .int mw, .ref ywa, .ref ybi, .ref ysi, .ref ynu, .ref ymo]))] := hD
      refine lv_goto (tgt := 55) hx hb dX9_closes_37 (by decide) ?_
      exact W.vret hx hb hr (fun t ht hW => ⟨⟨mS2_9, rfl, trivial, by rw [ht]; exact hP.sub [2, 0, 1] rfl, hD.sub [2, 0, 1] (by decide) rfl⟩, hS.F ht⟩) hS.2.2 dX9_closes_55 hlk
  · skip
    refine lv_aload_n hx hb dX9_closes_4 rfl (lv_at hl 0 rfl) ?_
    refine lv_aload_n hx hb dX9_closes_5 rfl (lv_at hl 0 rfl) ?_
    refine xg hF kf_X9_22 hK hP 0 rfl rfl dX9_closes_6 ?_
    refine lv_bipush (v := 10) hx hb dX9_closes_9 (by decide) ?_
    refine lv_iload_n hx hb dX9_closes_11 rfl (lv_at hl 3 rfl) ?_
    refine lv_imul hx hb dX9_closes_12 ?_
    refine xl_i (y := nI (10 * k)) (pk_mul 10 k) ?_
    refine lv_iload_n hx hb dX9_closes_13 rfl (lv_at hl 2 rfl) ?_
    refine lv_iadd hx hb dX9_closes_14 ?_
    refine xl_i (y := nI (10 * k + j)) (nI_add (10 * k) j) ?_
    refine va_iald hx hb hK hP 2 0 rfl rfl (vp_in_nI (show 10 * k + j < 100 by omega) (by decide)) dX9_closes_15 ?_
    refine xl_i (y := fa (10 * k + j)) (congrArg fa (nI_clamp (show 10 * k + j < 2 ^ 31 by omega))) ?_
    refine xc_Vv (wr := [(ys, .inl (cI, 449, .inl ms)), (yfa, .inl (cI, 100, .inl fa))]) hF (c_X9_adds l D cI cJ cZ cS ta sa sv s.heap.size h0 ys yk yo yt mk0 yfa yfe mL mS mM yro yhe ygr mF mC mY yta mz mf mt mv mw ywa ybi ysi ynu ymo (fa (10 * k + j)) ) kv_X9_130 ⟨rfl, rfl, Nat.le_of_ble_eq_true rfl, Nat.le_of_ble_eq_true rfl⟩ ⟨Nat.le_of_ble_eq_true rfl, Nat.le_of_ble_eq_true rfl⟩ hK hN hZ hP hD hS hA [0] [1, 2] rfl rfl rfl rfl (by decide) 0 rfl rfl rfl rfl hl.1 rfl (Nat.le_of_ble_eq_true rfl) dX9_closes_16 (fun u_r_10 H locs hw_r_10 hP hD hS => ?_)
    obtain ⟨mS2_11, rfl⟩ : ∃ z, z = u_r_10 := ⟨_, rfl⟩
    try dsimp only at hw_r_10
    have hP : va_P D vwCl [(ys, .inl (cI, 449, .inl ms)), (yfa, .inl (cI, 100, .inl fa)), (h0, .inr (9, [.ref ys, .ref yk, .ref yo, .ref yt, .int mk0, .ref yfa, .ref yfe, .int mL, .int mS2_11, .int mM, .ref yro, .ref yhe, .ref ygr, .int mF, .int mC, .int mY, .ref yta, .int (nI (mz)), .int (nI (mf)), .int (nI (mt)), .int mv, .int mw, .ref ywa, .ref ybi, .ref ysi, .ref ynu, .ref ymo]))] H := hP
    have hD : va_D A [(ys, .inl (cI, 449, .inl ms)), (yfa, .inl (cI, 100, .inl fa)), (h0, .inr (9, [.ref ys, .ref yk, .ref yo, .ref yt, .int mk0, .ref yfa, .ref yfe, .int mL, .int mS2_11, .int mM, .ref yro, .ref yhe, .ref ygr, .int mF, .int mC, .int mY, .ref yta, .int (nI (mz)), .int (nI (mf)), .int (nI (mt)), .int mv, .int mw, .ref ywa, .ref ybi, .ref ysi, .ref ynu, .ref ymo]))] := hD
    refine lv_goto (tgt := 55) hx hb dX9_closes_19 (by decide) ?_
    exact W.vret hx hb hr (fun t ht hW => ⟨⟨mS2_11, rfl, trivial, by rw [ht]; exact hP.sub [2, 0, 1] rfl, hD.sub [2, 0, 1] (by decide) rfl⟩, hS.F ht⟩) hS.2.2 dX9_closes_55 hlk
set_option maxHeartbeats 4000000 in
set_option maxRecDepth 100000 in
theorem c_X9_comesTo (l : Launch) (D : va_G) (cI cJ cZ cS : ClassId) (ta : Nat) (sa sv : Nat → Nat) (sz : Nat) (h0 : Nat) (ys : Nat) (yk : Nat) (yo : Nat) (yt : Nat) (mk0 : Int32) (yfa : Nat) (yfe : Nat) (mL : Int32) (mS : Int32) (mM : Int32) (yro : Nat) (yhe : Nat) (ygr : Nat) (mF : Int32) (mC : Int32) (mY : Int32) (yta : Nat) (mz : Nat) (mf : Nat) (mt : Nat) (mv : Int32) (mw : Int32) (ywa : Nat) (ybi : Nat) (ysi : Nat) (ynu : Nat) (ymo : Nat) (ms : Nat → Int32) (fa : Nat → Int32) (ro : Nat → Int32) (P : Nat) (Rn : Nat) (Wn : Nat) (fae : Nat → Int32) (fal : Nat → Int32) (fau : Nat → Int32) (fao : Nat → Int32) (farn : Nat → Int32) (farp : Nat → Int32) (fak : Nat → Int32) (fawn : Nat → Int32) (fawp : Nat → Int32) (fat : Nat → Int32) (fas : Nat → Int32) (j : Nat) (hj : j < Rn) (hro : BA 6 10 ro) (hs0 : ms 0 = nI P) (hs1 : ms 1 = nI Rn) (hs2 : ms 2 = nI Wn) (hsS : SI ms) (hsM : MI ms) (hsp : P ≤ 10) (hsr : Rn ≤ 8) (hsw : Wn ≤ 8) (hsR : RI Rn ms) (hsG : FR P ms fae fal fau fao farn farp fak fawn fawp fat fas) : Met l yX9_comesTo (Cond.code yX9_comesTo cX9_comesTo 6 (some .int) :: wsU) ({ frames := 3, cells := 0, slots := 0, locals := 73 }) (va_Pc [.ref h0, .int (nI (j))] (XW D (xT cI cJ cZ cS) ta sa sv [(h0, .inr (9, [.ref ys, .ref yk, .ref yo, .ref yt, .int mk0, .ref yfa, .ref yfe, .int mL, .int mS, .int mM, .ref yro, .ref yhe, .ref ygr, .int mF, .int mC, .int mY, .ref yta, .int (nI (mz)), .int (nI (mf)), .int (nI (mt)), .int mv, .int mw, .ref ywa, .ref ybi, .ref ysi, .ref ynu, .ref ymo])), (ys, .inl (cI, 449, .inl ms)), (yfa, .inl (cI, 100, .inl fa)), (yro, .inl (cI, 6, .inl ro))] sz)) (XQi (fun (r : Int32) (u : Int32 × Int32 × (Nat → Int32)) => match u with | (mS2, mM2, ro2) => (True) ∧ (BA 6 10 ro2)) D (fun (u : Int32 × Int32 × (Nat → Int32)) => match u with | (mS2, mM2, ro2) => [(h0, .inr (9, [.ref ys, .ref yk, .ref yo, .ref yt, .int mk0, .ref yfa, .ref yfe, .int mL, .int mS2, .int mM2, .ref yro, .ref yhe, .ref ygr, .int mF, .int mC, .int mY, .ref yta, .int (nI (mz)), .int (nI (mf)), .int (nI (mt)), .int mv, .int mw, .ref ywa, .ref ybi, .ref ysi, .ref ynu, .ref ymo])), (ys, .inl (cI, 449, .inl ms)), (yfa, .inl (cI, 100, .inl fa)), (yro, .inl (cI, 6, .inl ro2))]) (va_A [(h0, .inr (9, [.ref ys, .ref yk, .ref yo, .ref yt, .int mk0, .ref yfa, .ref yfe, .int mL, .int mS, .int mM, .ref yro, .ref yhe, .ref ygr, .int mF, .int mC, .int mY, .ref yta, .int (nI (mz)), .int (nI (mf)), .int (nI (mt)), .int mv, .int mw, .ref ywa, .ref ybi, .ref ysi, .ref ynu, .ref ymo])), (ys, .inl (cI, 449, .inl ms)), (yfa, .inl (cI, 100, .inl fa)), (yro, .inl (cI, 6, .inl ro))] sz)) 0 0 (va_A [(h0, .inr (9, [.ref ys, .ref yk, .ref yo, .ref yt, .int mk0, .ref yfa, .ref yfe, .int mL, .int mS, .int mM, .ref yro, .ref yhe, .ref ygr, .int mF, .int mC, .int mY, .ref yta, .int (nI (mz)), .int (nI (mf)), .int (nI (mt)), .int mv, .int mw, .ref ywa, .ref ybi, .ref ysi, .ref ynu, .ref ymo])), (ys, .inl (cI, 449, .inl ms)), (yfa, .inl (cI, 100, .inl fa)), (yro, .inl (cI, 6, .inl ro))] sz) := by
  refine xh (QA := fun A => XQi (fun (r : Int32) (u : Int32 × Int32 × (Nat → Int32)) => match u with | (mS2, mM2, ro2) => (True) ∧ (BA 6 10 ro2)) D (fun (u : Int32 × Int32 × (Nat → Int32)) => match u with | (mS2, mM2, ro2) => [(h0, .inr (9, [.ref ys, .ref yk, .ref yo, .ref yt, .int mk0, .ref yfa, .ref yfe, .int mL, .int mS2, .int mM2, .ref yro, .ref yhe, .ref ygr, .int mF, .int mC, .int mY, .ref yta, .int (nI (mz)), .int (nI (mf)), .int (nI (mt)), .int mv, .int mw, .ref ywa, .ref ybi, .ref ysi, .ref ynu, .ref ymo])), (ys, .inl (cI, 449, .inl ms)), (yfa, .inl (cI, 100, .inl fa)), (yro, .inl (cI, 6, .inl ro2))]) A) (fr := fun A => A) (by decide) (Nat.le_of_ble_eq_true rfl) ?_
  intro p e s m below meth c ls A hF hr hlk hin hsz hP hK hD hN hZ hA hS hl
  have hF : CallFix p m c cX9_comesTo 6 s _ _ RX9 := hF
  have hx := hF.1
  have hb := hF.2.1
  have hml := hF.2.2.1
  have hown := hF.2.2.2.1
  have hu : ∀ w ∈ wsU, w.before _ s = true := fun w h => hF.2.2.2.2 w (List.mem_cons_of_mem _ h)
  have hl : lv_has ls 6 [(0, .ref h0), (1, .int (nI (j)))] := hl
  refine lv_aload_n hx hb dX9_comesTo_0 rfl (lv_at hl 0 rfl) ?_
  refine lv_iload_n hx hb dX9_comesTo_1 rfl (lv_at hl 1 rfl) ?_
  refine lv_iconst (v := 1) hx hb dX9_comesTo_2 (by decide) ?_
  refine xc_Vr hF (c_X9_of1 l D cI cJ cZ cS ta sa sv s.heap.size h0 ys yk yo yt mk0 yfa yfe mL mS mM yro yhe ygr mF mC mY yta mz mf mt mv mw ywa ybi ysi ynu ymo ms P Rn Wn fae fal fau fao farn farp fak fawn fawp fat fas j (by omega) hs0 hs1 hs2 hsS hsM hsp hsr hsw hsR hsG) kv_X9_137 ⟨rfl, rfl, Nat.le_of_ble_eq_true rfl, Nat.le_of_ble_eq_true rfl⟩ ⟨Nat.le_of_ble_eq_true rfl, Nat.le_of_ble_eq_true rfl⟩ hK hN hZ hP hD hS hA [0, 1] rfl rfl 0 rfl rfl rfl rfl hl.1 rfl (Nat.le_of_ble_eq_true rfl) dX9_comesTo_3 (fun r_1 hw_r_1 => ?_)
  obtain ⟨q_2, rfl, h_3, h_4, h_5⟩ := hw_r_1
  refine lv_istore_n (lv' := [(2, .int (nI (q_2))), (0, .ref h0), (1, .int (nI (j)))]) hx hb dX9_comesTo_6 rfl hl (by decide) rfl (fun ls hl => ?_)
  refine lv_aload_n hx hb dX9_comesTo_7 rfl (lv_at hl 1 rfl) ?_
  refine lv_iload_n hx hb dX9_comesTo_8 rfl (lv_at hl 2 rfl) ?_
  refine lv_iconst (v := 2) hx hb dX9_comesTo_9 (by decide) ?_
  refine xc_Vr hF (c_X9_ofs l D cI cJ cZ cS ta sa sv s.heap.size h0 ys yk yo yt mk0 yfa yfe mL mS mM yro yhe ygr mF mC mY yta mz mf mt mv mw ywa ybi ysi ynu ymo ms P Rn Wn fae fal fau fao farn farp fak fawn fawp fat fas j 2 (by omega) (by omega) (by omega) hs0 hs1 hs2 hsS hsM hsp hsr hsw hsR hsG) kv_X9_137 ⟨rfl, rfl, Nat.le_of_ble_eq_true rfl, Nat.le_of_ble_eq_true rfl⟩ ⟨Nat.le_of_ble_eq_true rfl, Nat.le_of_ble_eq_true rfl⟩ hK hN hZ hP hD hS hA [0, 1] rfl rfl 0 rfl rfl rfl rfl hl.1 rfl (Nat.le_of_ble_eq_true rfl) dX9_comesTo_10 (fun r_6 hw_r_6 => ?_)
  obtain ⟨y_7, rfl, h_8, h_9⟩ := hw_r_6
  refine lv_istore_n (lv' := [(3, .int (nI (y_7))), (2, .int (nI (q_2))), (0, .ref h0), (1, .int (nI (j)))]) hx hb dX9_comesTo_13 rfl hl (by decide) rfl (fun ls hl => ?_)
  refine lv_aload_n hx hb dX9_comesTo_14 rfl (lv_at hl 2 rfl) ?_
  refine lv_iload_n hx hb dX9_comesTo_15 rfl (lv_at hl 3 rfl) ?_
  refine lv_iconst (v := 1) hx hb dX9_comesTo_16 (by decide) ?_
  refine lv_iload_n hx hb dX9_comesTo_17 rfl (lv_at hl 1 rfl) ?_
  refine lv_iadd hx hb dX9_comesTo_18 ?_
  refine xl_i (y := nI (1 + q_2)) (nI_add 1 q_2) ?_
  refine xc_Vr hF (c_X9_ofs l D cI cJ cZ cS ta sa sv s.heap.size h0 ys yk yo yt mk0 yfa yfe mL mS mM yro yhe ygr mF mC mY yta mz mf mt mv mw ywa ybi ysi ynu ymo ms P Rn Wn fae fal fau fao farn farp fak fawn fawp fat fas j (1 + q_2) (by omega) (by omega) (by omega) hs0 hs1 hs2 hsS hsM hsp hsr hsw hsR hsG) kv_X9_137 ⟨rfl, rfl, Nat.le_of_ble_eq_true rfl, Nat.le_of_ble_eq_true rfl⟩ ⟨Nat.le_of_ble_eq_true rfl, Nat.le_of_ble_eq_true rfl⟩ hK hN hZ hP hD hS hA [0, 1] rfl rfl 0 rfl rfl rfl rfl hl.1 rfl (Nat.le_of_ble_eq_true rfl) dX9_comesTo_19 (fun r_10 hw_r_10 => ?_)
  obtain ⟨y_11, rfl, h_12, h_13⟩ := hw_r_10
  refine lv_istore (lv' := [(4, .int (nI (y_11))), (3, .int (nI (y_7))), (2, .int (nI (q_2))), (0, .ref h0), (1, .int (nI (j)))]) hx hb dX9_comesTo_22 hl (by decide) rfl (fun ls hl => ?_)
  refine lv_aload_n hx hb dX9_comesTo_24 rfl (lv_at hl 3 rfl) ?_
  refine lv_iconst (v := 0) hx hb dX9_comesTo_25 (by decide) ?_
  refine xp hF kf_X9_126 tyX9_ok nmX9 hK hP hD hS 0 rfl rfl rfl rfl (Nat.le_of_ble_eq_true rfl) dX9_comesTo_26 (fun H locs hP hD hS => ?_)
  have hP : va_P D vwCl [(h0, .inr (9, [.ref ys, .ref yk, .ref yo, .ref yt, .int mk0, .ref yfa, .ref yfe, .int mL, .int 0, .int mM, .ref yro, .ref yhe, .ref ygr, .int mF, .int mC, .int mY, .ref yta, .int (nI (mz)), .int (nI (mf)), .int (nI (mt)), .int mv, .int mw, .ref ywa, .ref ybi, .ref ysi, .ref ynu, .ref ymo])), (ys, .inl (cI, 449, .inl ms)), (yfa, .inl (cI, 100, .inl fa)), (yro, .inl (cI, 6, .inl ro))] H := hP
  have hD : va_D A [(h0, .inr (9, [.ref ys, .ref yk, .ref yo, .ref yt, .int mk0, .ref yfa, .ref yfe, .int mL, .int 0, .int mM, .ref yro, .ref yhe, .ref ygr, .int mF, .int mC, .int mY, .ref yta, .int (nI (mz)), .int (nI (mf)), .int (nI (mt)), .int mv, .int mw, .ref ywa, .ref ybi, .ref ysi, .ref ynu, .ref ymo])), (ys, .inl (cI, 449, .inl ms)), (yfa, .inl (cI, 100, .inl fa)), (yro, .inl (cI, 6, .inl ro))] := hD
  refine lv_aload_n hx hb dX9_comesTo_29 rfl (lv_at hl 3 rfl) ?_
  refine lv_iload_n hx hb dX9_comesTo_30 rfl (lv_at hl 4 rfl) ?_
  refine lv_iconst (v := 0) hx hb dX9_comesTo_31 (by decide) ?_
  refine xc_Vr hF (c_X9_of l D cI cJ cZ cS ta sa sv H.size h0 ys yk yo yt mk0 yfa yfe mL 0 mM yro yhe ygr mF mC mY yta mz mf mt mv mw ywa ybi ysi ynu ymo ms P Rn Wn fae fal fau fao farn farp fak fawn fawp fat fas j 0 (by omega) (by omega) hs0 hs1 hs2 hsS hsM hsp hsr hsw hsR hsG) kv_X9_137 ⟨rfl, rfl, Nat.le_of_ble_eq_true rfl, Nat.le_of_ble_eq_true rfl⟩ ⟨Nat.le_of_ble_eq_true rfl, Nat.le_of_ble_eq_true rfl⟩ hK hN hZ hP hD hS hA [0, 1] rfl rfl 0 rfl rfl rfl rfl hl.1 rfl (Nat.le_of_ble_eq_true rfl) dX9_comesTo_32 (fun r_14 hw_r_14 => ?_)
  subst hw_r_14
  rcases x_s26 (ms (313 + 8 * j + 0)) with h_15 | e_16 | e_16 | e_16 | e_16 | e_16
  · refine lv_tableOut (tgt := 96) hx hb dX9_comesTo_35 h_15 (by decide) ?_
    refine lv_iconst (v := 1) hx hb dX9_comesTo_96 (by decide) ?_
    refine lv_istore (lv' := [(5, .int 1), (4, .int (nI (y_11))), (3, .int (nI (y_7))), (2, .int (nI (q_2))), (0, .ref h0), (1, .int (nI (j)))]) hx hb dX9_comesTo_97 hl (by decide) rfl (fun ls hl => ?_)
    suffices loop_99 : ∀ (n_99 : Nat) (i : Nat) (u8 : Int32) (H : Heap) (locs : List Loc) (ls : Array Slot), q_2 - i < n_99 → (1 ≤ i) → (i ≤ q_2) → va_P D vwCl [(h0, .inr (9, [.ref ys, .ref yk, .ref yo, .ref yt, .int mk0, .ref yfa, .ref yfe, .int mL, .int u8, .int mM, .ref yro, .ref yhe, .ref ygr, .int mF, .int mC, .int mY, .ref yta, .int (nI (mz)), .int (nI (mf)), .int (nI (mt)), .int mv, .int mw, .ref ywa, .ref ybi, .ref ysi, .ref ynu, .ref ymo])), (ys, .inl (cI, 449, .inl ms)), (yfa, .inl (cI, 100, .inl fa)), (yro, .inl (cI, 6, .inl ro))] H → va_D A [(h0, .inr (9, [.ref ys, .ref yk, .ref yo, .ref yt, .int mk0, .ref yfa, .ref yfe, .int mL, .int u8, .int mM, .ref yro, .ref yhe, .ref ygr, .int mF, .int mC, .int mY, .ref yta, .int (nI (mz)), .int (nI (mf)), .int (nI (mt)), .int mv, .int mw, .ref ywa, .ref ybi, .ref ysi, .ref ynu, .ref ymo])), (ys, .inl (cI, 449, .inl ms)), (yfa, .inl (cI, 100, .inl fa)), (yro, .inl (cI, 6, .inl ro))] → va_S A s.heap H locs → lv_has ls 6 [(5, .int (nI (i))), (4, .int (nI (y_11))), (3, .int (nI (y_7))), (2, .int (nI (q_2))), (0, .ref h0), (1, .int (nI (j)))] → W p l e ({ frames := 3, cells := 0, slots := 0, locals := 73 }) s m ([.ref h0, .int (nI (j))] : List Value).toArray below meth c H locs 0 0 (MQ below (XQi (fun (r : Int32) (u : Int32 × Int32 × (Nat → Int32)) => match u with | (mS2, mM2, ro2) => (True) ∧ (BA 6 10 ro2)) D (fun (u : Int32 × Int32 × (Nat → Int32)) => match u with | (mS2, mM2, ro2) => [(h0, .inr (9, [.ref ys, .ref yk, .ref yo, .ref yt, .int mk0, .ref yfa, .ref yfe, .int mL, .int mS2, .int mM2, .ref yro, .ref yhe, .ref ygr, .int mF, .int mC, .int mY, .ref yta, .int (nI (mz)), .int (nI (mf)), .int (nI (mt)), .int mv, .int mw, .ref ywa, .ref ybi, .ref ysi, .ref ynu, .ref ymo])), (ys, .inl (cI, 449, .inl ms)), (yfa, .inl (cI, 100, .inl fa)), (yro, .inl (cI, 6, .inl ro2))]) A) ([.ref h0, .int (nI (j))] : List Value).toArray s 0 0 A) (F0 m 99 ls []) by
      exact loop_99 _ 1 0 _ _ _ (Nat.lt_succ_self _) (by omega) (by omega) hP hD hS (lv_sub hl [0, 1, 2, 3, 4, 5] rfl)
    intro n_99
    induction n_99 with
    | zero =>
      intro i u8 H locs ls hm_99
      exact absurd hm_99 (Nat.not_lt_zero _)
    | succ n_99 ih_99 =>
      intro i u8 H locs ls hm_99 hi1 hi hP hD hS hl
      refine lv_iload hx hb dX9_comesTo_99 (lv_at hl 0 rfl) ?_
      refine lv_iload_n hx hb dX9_comesTo_101 rfl (lv_at hl 3 rfl) ?_
      refine lv_icmp_ge (tgt := 139) hx hb dX9_comesTo_102 (by decide) (fun c_17 => ?_) (fun c_17 => ?_)
      · skip
        have nc_17 : q_2 ≤ i := xn_le (a := q_2) (b := i) (by omega) (by omega) c_17
        refine lv_aload_n hx hb dX9_comesTo_139 rfl (lv_at hl 4 rfl) ?_
        refine lv_aload_n hx hb dX9_comesTo_140 rfl (lv_at hl 4 rfl) ?_
        refine lv_iload_n hx hb dX9_comesTo_141 rfl (lv_at hl 5 rfl) ?_
        refine lv_iconst (v := 0) hx hb dX9_comesTo_142 (by decide) ?_
        refine xc_Vr hF (c_X9_of l D cI cJ cZ cS ta sa sv H.size h0 ys yk yo yt mk0 yfa yfe mL u8 mM yro yhe ygr mF mC mY yta mz mf mt mv mw ywa ybi ysi ynu ymo ms P Rn Wn fae fal fau fao farn farp fak fawn fawp fat fas j 0 (by omega) (by omega) hs0 hs1 hs2 hsS hsM hsp hsr hsw hsR hsG) kv_X9_137 ⟨rfl, rfl, Nat.le_of_ble_eq_true rfl, Nat.le_of_ble_eq_true rfl⟩ ⟨Nat.le_of_ble_eq_true rfl, Nat.le_of_ble_eq_true rfl⟩ hK hN hZ hP hD hS hA [0, 1] rfl rfl 0 rfl rfl rfl rfl hl.1 rfl (Nat.le_of_ble_eq_true rfl) dX9_comesTo_143 (fun r_18 hw_r_18 => ?_)
        subst hw_r_18
        refine lv_iload_n hx hb dX9_comesTo_146 rfl (lv_at hl 2 rfl) ?_
        refine lv_iload hx hb dX9_comesTo_147 (lv_at hl 1 rfl) ?_
        refine xc_Vv (wr := [(yro, .inl (cI, 6, .inl ro))]) hF (c_X9_closes l D cI cJ cZ cS ta sa sv H.size h0 ys yk yo yt mk0 yfa yfe mL u8 mM yro yhe ygr mF mC mY yta mz mf mt mv mw ywa ybi ysi ynu ymo ms fa P Rn Wn fae fal fau fao farn farp fak fawn fawp fat fas (ms (313 + 8 * j + 0)) y_7 y_11 (by omega) (by omega) hs0 hs1 hs2 hsS hsM hsp hsr hsw hsR hsG) kv_X9_154 ⟨rfl, rfl, Nat.le_of_ble_eq_true rfl, Nat.le_of_ble_eq_true rfl⟩ ⟨Nat.le_of_ble_eq_true rfl, Nat.le_of_ble_eq_true rfl⟩ hK hN hZ hP hD hS hA [0, 1, 2] [3] rfl rfl rfl rfl (by decide) 0 rfl rfl rfl rfl hl.1 rfl (Nat.le_of_ble_eq_true rfl) dX9_comesTo_149 (fun u_r_19 H locs hw_r_19 hP hD hS => ?_)
        obtain ⟨mS2_20, rfl⟩ : ∃ z, z = u_r_19 := ⟨_, rfl⟩
        try dsimp only at hw_r_19
        have hP : va_P D vwCl [(yro, .inl (cI, 6, .inl ro)), (h0, .inr (9, [.ref ys, .ref yk, .ref yo, .ref yt, .int mk0, .ref yfa, .ref yfe, .int mL, .int mS2_20, .int mM, .ref yro, .ref yhe, .ref ygr, .int mF, .int mC, .int mY, .ref yta, .int (nI (mz)), .int (nI (mf)), .int (nI (mt)), .int mv, .int mw, .ref ywa, .ref ybi, .ref ysi, .ref ynu, .ref ymo])), (ys, .inl (cI, 449, .inl ms)), (yfa, .inl (cI, 100, .inl fa))] H := hP
        have hD : va_D A [(yro, .inl (cI, 6, .inl ro)), (h0, .inr (9, [.ref ys, .ref yk, .ref yo, .ref yt, .int mk0, .ref yfa, .ref yfe, .int mL, .int mS2_20, .int mM, .ref yro, .ref yhe, .ref ygr, .int mF, .int mC, .int mY, .ref yta, .int (nI (mz)), .int (nI (mf)), .int (nI (mt)), .int mv, .int mw, .ref ywa, .ref ybi, .ref ysi, .ref ynu, .ref ymo])), (ys, .inl (cI, 449, .inl ms)), (yfa, .inl (cI, 100, .inl fa))] := hD
        refine lv_aload_n hx hb dX9_comesTo_152 rfl (lv_at hl 4 rfl) ?_
        refine xg hF kf_X9_126 hK hP 1 rfl rfl dX9_comesTo_153 ?_
        exact W.iret (v := mS2_20) hx hb hr (fun t ht hW => ⟨⟨mS2_20, (mS2_20, mM, ro), rfl, ⟨trivial, hro⟩, by rw [ht]; exact hP.sub [1, 2, 3, 0] rfl, hD.sub [1, 2, 3, 0] (by decide) rfl⟩, hS.F ht⟩) hS.2.2 dX9_comesTo_156 hlk
      · skip
        have nc_17 : i < q_2 := xn_nle (a := q_2) (b := i) (by omega) (by omega) c_17
        refine lv_aload_n hx hb dX9_comesTo_105 rfl (lv_at hl 4 rfl) ?_
        refine lv_aload_n hx hb dX9_comesTo_106 rfl (lv_at hl 4 rfl) ?_
        refine lv_iload_n hx hb dX9_comesTo_107 rfl (lv_at hl 5 rfl) ?_
        refine lv_iconst (v := 0) hx hb dX9_comesTo_108 (by decide) ?_
        refine xc_Vr hF (c_X9_of l D cI cJ cZ cS ta sa sv H.size h0 ys yk yo yt mk0 yfa yfe mL u8 mM yro yhe ygr mF mC mY yta mz mf mt mv mw ywa ybi ysi ynu ymo ms P Rn Wn fae fal fau fao farn farp fak fawn fawp fat fas j 0 (by omega) (by omega) hs0 hs1 hs2 hsS hsM hsp hsr hsw hsR hsG) kv_X9_137 ⟨rfl, rfl, Nat.le_of_ble_eq_true rfl, Nat.le_of_ble_eq_true rfl⟩ ⟨Nat.le_of_ble_eq_true rfl, Nat.le_of_ble_eq_true rfl⟩ hK hN hZ hP hD hS hA [0, 1] rfl rfl 0 rfl rfl rfl rfl hl.1 rfl (Nat.le_of_ble_eq_true rfl) dX9_comesTo_109 (fun r_21 hw_r_21 => ?_)
        subst hw_r_21
        refine lv_aload_n hx hb dX9_comesTo_112 rfl (lv_at hl 4 rfl) ?_
        refine lv_iload_n hx hb dX9_comesTo_113 rfl (lv_at hl 5 rfl) ?_
        refine lv_iconst (v := 1) hx hb dX9_comesTo_114 (by decide) ?_
        refine lv_iload hx hb dX9_comesTo_115 (lv_at hl 0 rfl) ?_
        refine lv_iadd hx hb dX9_comesTo_117 ?_
        refine xl_i (y := nI (1 + i)) (nI_add 1 i) ?_
        refine xc_Vr hF (c_X9_ofs l D cI cJ cZ cS ta sa sv H.size h0 ys yk yo yt mk0 yfa yfe mL u8 mM yro yhe ygr mF mC mY yta mz mf mt mv mw ywa ybi ysi ynu ymo ms P Rn Wn fae fal fau fao farn farp fak fawn fawp fat fas j (1 + i) (by omega) (by omega) (by omega) hs0 hs1 hs2 hsS hsM hsp hsr hsw hsR hsG) kv_X9_137 ⟨rfl, rfl, Nat.le_of_ble_eq_true rfl, Nat.le_of_ble_eq_true rfl⟩ ⟨Nat.le_of_ble_eq_true rfl, Nat.le_of_ble_eq_true rfl⟩ hK hN hZ hP hD hS hA [0, 1] rfl rfl 0 rfl rfl rfl rfl hl.1 rfl (Nat.le_of_ble_eq_true rfl) dX9_comesTo_118 (fun r_22 hw_r_22 => ?_)
        obtain ⟨y_23, rfl, h_24, h_25⟩ := hw_r_22
        refine lv_aload_n hx hb dX9_comesTo_121 rfl (lv_at hl 4 rfl) ?_
        refine lv_iload_n hx hb dX9_comesTo_122 rfl (lv_at hl 5 rfl) ?_
        refine lv_iconst (v := 2) hx hb dX9_comesTo_123 (by decide) ?_
        refine lv_iload hx hb dX9_comesTo_124 (lv_at hl 0 rfl) ?_
        refine lv_iadd hx hb dX9_comesTo_126 ?_
        refine xl_i (y := nI (2 + i)) (nI_add 2 i) ?_
        refine xc_Vr hF (c_X9_ofs l D cI cJ cZ cS ta sa sv H.size h0 ys yk yo yt mk0 yfa yfe mL u8 mM yro yhe ygr mF mC mY yta mz mf mt mv mw ywa ybi ysi ynu ymo ms P Rn Wn fae fal fau fao farn farp fak fawn fawp fat fas j (2 + i) (by omega) (by omega) (by omega) hs0 hs1 hs2 hsS hsM hsp hsr hsw hsR hsG) kv_X9_137 ⟨rfl, rfl, Nat.le_of_ble_eq_true rfl, Nat.le_of_ble_eq_true rfl⟩ ⟨Nat.le_of_ble_eq_true rfl, Nat.le_of_ble_eq_true rfl⟩ hK hN hZ hP hD hS hA [0, 1] rfl rfl 0 rfl rfl rfl rfl hl.1 rfl (Nat.le_of_ble_eq_true rfl) dX9_comesTo_127 (fun r_26 hw_r_26 => ?_)
        obtain ⟨y_27, rfl, h_28, h_29⟩ := hw_r_26
        refine xc_Vv (wr := [(yro, .inl (cI, 6, .inl ro))]) hF (c_X9_pairs l D cI cJ cZ cS ta sa sv H.size h0 ys yk yo yt mk0 yfa yfe mL u8 mM yro yhe ygr mF mC mY yta mz mf mt mv mw ywa ybi ysi ynu ymo ms fa P Rn Wn fae fal fau fao farn farp fak fawn fawp fat fas (ms (313 + 8 * j + 0)) y_23 y_27 (by omega) (by omega) hs0 hs1 hs2 hsS hsM hsp hsr hsw hsR hsG) kv_X9_151 ⟨rfl, rfl, Nat.le_of_ble_eq_true rfl, Nat.le_of_ble_eq_true rfl⟩ ⟨Nat.le_of_ble_eq_true rfl, Nat.le_of_ble_eq_true rfl⟩ hK hN hZ hP hD hS hA [0, 1, 2] [3] rfl rfl rfl rfl (by decide) 0 rfl rfl rfl rfl hl.1 rfl (Nat.le_of_ble_eq_true rfl) dX9_comesTo_130 (fun u_r_30 H locs hw_r_30 hP hD hS => ?_)
        obtain ⟨mS2_31, rfl⟩ : ∃ z, z = u_r_30 := ⟨_, rfl⟩
        try dsimp only at hw_r_30
        have hP : va_P D vwCl [(yro, .inl (cI, 6, .inl ro)), (h0, .inr (9, [.ref ys, .ref yk, .ref yo, .ref yt, .int mk0, .ref yfa, .ref yfe, .int mL, .int mS2_31, .int mM, .ref yro, .ref yhe, .ref ygr, .int mF, .int mC, .int mY, .ref yta, .int (nI (mz)), .int (nI (mf)), .int (nI (mt)), .int mv, .int mw, .ref ywa, .ref ybi, .ref ysi, .ref ynu, .ref ymo])), (ys, .inl (cI, 449, .inl ms)), (yfa, .inl (cI, 100, .inl fa))] H := hP
        have hD : va_D A [(yro, .inl (cI, 6, .inl ro)), (h0, .inr (9, [.ref ys, .ref yk, .ref yo, .ref yt, .int mk0, .ref yfa, .ref yfe, .int mL, .int mS2_31, .int mM, .ref yro, .ref yhe, .ref ygr, .int mF, .int mC, .int mY, .ref yta, .int (nI (mz)), .int (nI (mf)), .int (nI (mt)), .int mv, .int mw, .ref ywa, .ref ybi, .ref ysi, .ref ynu, .ref ymo])), (ys, .inl (cI, 449, .inl ms)), (yfa, .inl (cI, 100, .inl fa))] := hD
        refine lv_iinc (v := nI (i + 1)) (lv' := [(5, .int (nI (i + 1))), (4, .int (nI (y_11))), (3, .int (nI (y_7))), (2, .int (nI (q_2))), (0, .ref h0), (1, .int (nI (j)))]) hx hb dX9_comesTo_133 hl (k := 0) rfl (nI_1 (i)) (by decide) rfl (fun ls hl => ?_)
        refine lv_goto (tgt := 99) hx hb dX9_comesTo_136 (by decide) ?_
        exact ih_99 (i + 1) mS2_31 _ _ _ (by omega) (by omega) (by omega) (hP.sub [1, 2, 3, 0] rfl) (hD.sub [1, 2, 3, 0] (by decide) rfl) hS (lv_sub hl [0, 1, 2, 3, 4, 5] rfl)
  · refine xl_i (y := 2) e_16 ?_
    refine lv_tableIn (tgt := 68) hx hb dX9_comesTo_35 (by decide) (by decide) rfl (by decide) ?_
    refine lv_aload_n hx hb dX9_comesTo_68 rfl (lv_at hl 3 rfl) ?_
    refine lv_iload_n hx hb dX9_comesTo_69 rfl (lv_at hl 4 rfl) ?_
    refine lv_iconst (v := 1) hx hb dX9_comesTo_70 (by decide) ?_
    refine xc_Vv (wr := []) hF (c_X9_orders l D cI cJ cZ cS ta sa sv H.size h0 ys yk yo yt mk0 yfa yfe mL 0 mM yro yhe ygr mF mC mY yta mz mf mt mv mw ywa ybi ysi ynu ymo ms fa ro P Rn Wn fae fal fau fao farn farp fak fawn fawp fat fas j 1 (by omega) hro hs0 hs1 hs2 hsS hsM hsp hsr hsw hsR hsG) kv_X9_144 ⟨rfl, rfl, Nat.le_of_ble_eq_true rfl, Nat.le_of_ble_eq_true rfl⟩ ⟨Nat.le_of_ble_eq_true rfl, Nat.le_of_ble_eq_true rfl⟩ hK hN hZ hP hD hS hA [0, 1, 2, 3] [] rfl rfl rfl rfl (by decide) 0 rfl rfl rfl rfl hl.1 rfl (Nat.le_of_ble_eq_true rfl) dX9_comesTo_71 (fun u_r_32 H locs hw_r_32 hP hD hS => ?_)
    obtain ⟨mS2_33, mM2_34, ro2_35⟩ := u_r_32
    try dsimp only at hw_r_32
    have i_36 := hw_r_32
    have hP : va_P D vwCl [(h0, .inr (9, [.ref ys, .ref yk, .ref yo, .ref yt, .int mk0, .ref yfa, .ref yfe, .int mL, .int mS2_33, .int mM2_34, .ref yro, .ref yhe, .ref ygr, .int mF, .int mC, .int mY, .ref yta, .int (nI (mz)), .int (nI (mf)), .int (nI (mt)), .int mv, .int mw, .ref ywa, .ref ybi, .ref ysi, .ref ynu, .ref ymo])), (ys, .inl (cI, 449, .inl ms)), (yfa, .inl (cI, 100, .inl fa)), (yro, .inl (cI, 6, .inl ro2_35))] H := hP
    have hD : va_D A [(h0, .inr (9, [.ref ys, .ref yk, .ref yo, .ref yt, .int mk0, .ref yfa, .ref yfe, .int mL, .int mS2_33, .int mM2_34, .ref yro, .ref yhe, .ref ygr, .int mF, .int mC, .int mY, .ref yta, .int (nI (mz)), .int (nI (mf)), .int (nI (mt)), .int mv, .int mw, .ref ywa, .ref ybi, .ref ysi, .ref ynu, .ref ymo])), (ys, .inl (cI, 449, .inl ms)), (yfa, .inl (cI, 100, .inl fa)), (yro, .inl (cI, 6, .inl ro2_35))] := hD
    refine lv_goto (tgt := 152) hx hb dX9_comesTo_74 (by decide) ?_
    refine lv_aload_n hx hb dX9_comesTo_152 rfl (lv_at hl 3 rfl) ?_
    refine xg hF kf_X9_126 hK hP 0 rfl rfl dX9_comesTo_153 ?_
    exact W.iret (v := mS2_33) hx hb hr (fun t ht hW => ⟨⟨mS2_33, (mS2_33, mM2_34, ro2_35), rfl, ⟨trivial, i_36⟩, by rw [ht]; exact hP.sub [0, 1, 2, 3] rfl, hD.sub [0, 1, 2, 3] (by decide) rfl⟩, hS.F ht⟩) hS.2.2 dX9_comesTo_156 hlk
  · refine xl_i (y := 3) e_16 ?_
    refine lv_tableIn (tgt := 86) hx hb dX9_comesTo_35 (by decide) (by decide) rfl (by decide) ?_
    refine lv_aload_n hx hb dX9_comesTo_86 rfl (lv_at hl 3 rfl) ?_
    refine lv_iload_n hx hb dX9_comesTo_87 rfl (lv_at hl 1 rfl) ?_
    refine lv_iload hx hb dX9_comesTo_88 (lv_at hl 0 rfl) ?_
    refine xc_Vv (wr := [(yro, .inl (cI, 6, .inl ro))]) hF (c_X9_meets l D cI cJ cZ cS ta sa sv H.size h0 ys yk yo yt mk0 yfa yfe mL 0 mM yro yhe ygr mF mC mY yta mz mf mt mv mw ywa ybi ysi ynu ymo ms fa P Rn Wn fae fal fau fao farn farp fak fawn fawp fat fas y_7 y_11 (by omega) (by omega) hs0 hs1 hs2 hsS hsM hsp hsr hsw hsR hsG) kv_X9_147 ⟨rfl, rfl, Nat.le_of_ble_eq_true rfl, Nat.le_of_ble_eq_true rfl⟩ ⟨Nat.le_of_ble_eq_true rfl, Nat.le_of_ble_eq_true rfl⟩ hK hN hZ hP hD hS hA [0, 1, 2] [3] rfl rfl rfl rfl (by decide) 0 rfl rfl rfl rfl hl.1 rfl (Nat.le_of_ble_eq_true rfl) dX9_comesTo_90 (fun u_r_37 H locs hw_r_37 hP hD hS => ?_)
    obtain ⟨mS2_38, mM2_39⟩ := u_r_37
    try dsimp only at hw_r_37
    have hP : va_P D vwCl [(yro, .inl (cI, 6, .inl ro)), (h0, .inr (9, [.ref ys, .ref yk, .ref yo, .ref yt, .int mk0, .ref yfa, .ref yfe, .int mL, .int mS2_38, .int mM2_39, .ref yro, .ref yhe, .ref ygr, .int mF, .int mC, .int mY, .ref yta, .int (nI (mz)), .int (nI (mf)), .int (nI (mt)), .int mv, .int mw, .ref ywa, .ref ybi, .ref ysi, .ref ynu, .ref ymo])), (ys, .inl (cI, 449, .inl ms)), (yfa, .inl (cI, 100, .inl fa))] H := hP
    have hD : va_D A [(yro, .inl (cI, 6, .inl ro)), (h0, .inr (9, [.ref ys, .ref yk, .ref yo, .ref yt, .int mk0, .ref yfa, .ref yfe, .int mL, .int mS2_38, .int mM2_39, .ref yro, .ref yhe, .ref ygr, .int mF, .int mC, .int mY, .ref yta, .int (nI (mz)), .int (nI (mf)), .int (nI (mt)), .int mv, .int mw, .ref ywa, .ref ybi, .ref ysi, .ref ynu, .ref ymo])), (ys, .inl (cI, 449, .inl ms)), (yfa, .inl (cI, 100, .inl fa))] := hD
    refine lv_goto (tgt := 152) hx hb dX9_comesTo_93 (by decide) ?_
    refine lv_aload_n hx hb dX9_comesTo_152 rfl (lv_at hl 3 rfl) ?_
    refine xg hF kf_X9_126 hK hP 1 rfl rfl dX9_comesTo_153 ?_
    exact W.iret (v := mS2_38) hx hb hr (fun t ht hW => ⟨⟨mS2_38, (mS2_38, mM2_39, ro), rfl, ⟨trivial, hro⟩, by rw [ht]; exact hP.sub [1, 2, 3, 0] rfl, hD.sub [1, 2, 3, 0] (by decide) rfl⟩, hS.F ht⟩) hS.2.2 dX9_comesTo_156 hlk
  · refine xl_i (y := 4) e_16 ?_
    refine lv_tableIn (tgt := 96) hx hb dX9_comesTo_35 (by decide) (by decide) rfl (by decide) ?_
    refine lv_iconst (v := 1) hx hb dX9_comesTo_96 (by decide) ?_
    refine lv_istore (lv' := [(5, .int 1), (4, .int (nI (y_11))), (3, .int (nI (y_7))), (2, .int (nI (q_2))), (0, .ref h0), (1, .int (nI (j)))]) hx hb dX9_comesTo_97 hl (by decide) rfl (fun ls hl => ?_)
    suffices loop_99 : ∀ (n_99 : Nat) (i : Nat) (u8 : Int32) (H : Heap) (locs : List Loc) (ls : Array Slot), q_2 - i < n_99 → (1 ≤ i) → (i ≤ q_2) → va_P D vwCl [(h0, .inr (9, [.ref ys, .ref yk, .ref yo, .ref yt, .int mk0, .ref yfa, .ref yfe, .int mL, .int u8, .int mM, .ref yro, .ref yhe, .ref ygr, .int mF, .int mC, .int mY, .ref yta, .int (nI (mz)), .int (nI (mf)), .int (nI (mt)), .int mv, .int mw, .ref ywa, .ref ybi, .ref ysi, .ref ynu, .ref ymo])), (ys, .inl (cI, 449, .inl ms)), (yfa, .inl (cI, 100, .inl fa)), (yro, .inl (cI, 6, .inl ro))] H → va_D A [(h0, .inr (9, [.ref ys, .ref yk, .ref yo, .ref yt, .int mk0, .ref yfa, .ref yfe, .int mL, .int u8, .int mM, .ref yro, .ref yhe, .ref ygr, .int mF, .int mC, .int mY, .ref yta, .int (nI (mz)), .int (nI (mf)), .int (nI (mt)), .int mv, .int mw, .ref ywa, .ref ybi, .ref ysi, .ref ynu, .ref ymo])), (ys, .inl (cI, 449, .inl ms)), (yfa, .inl (cI, 100, .inl fa)), (yro, .inl (cI, 6, .inl ro))] → va_S A s.heap H locs → lv_has ls 6 [(5, .int (nI (i))), (4, .int (nI (y_11))), (3, .int (nI (y_7))), (2, .int (nI (q_2))), (0, .ref h0), (1, .int (nI (j)))] → W p l e ({ frames := 3, cells := 0, slots := 0, locals := 73 }) s m ([.ref h0, .int (nI (j))] : List Value).toArray below meth c H locs 0 0 (MQ below (XQi (fun (r : Int32) (u : Int32 × Int32 × (Nat → Int32)) => match u with | (mS2, mM2, ro2) => (True) ∧ (BA 6 10 ro2)) D (fun (u : Int32 × Int32 × (Nat → Int32)) => match u with | (mS2, mM2, ro2) => [(h0, .inr (9, [.ref ys, .ref yk, .ref yo, .ref yt, .int mk0, .ref yfa, .ref yfe, .int mL, .int mS2, .int mM2, .ref yro, .ref yhe, .ref ygr, .int mF, .int mC, .int mY, .ref yta, .int (nI (mz)), .int (nI (mf)), .int (nI (mt)), .int mv, .int mw, .ref ywa, .ref ybi, .ref ysi, .ref ynu, .ref ymo])), (ys, .inl (cI, 449, .inl ms)), (yfa, .inl (cI, 100, .inl fa)), (yro, .inl (cI, 6, .inl ro2))]) A) ([.ref h0, .int (nI (j))] : List Value).toArray s 0 0 A) (F0 m 99 ls []) by
      exact loop_99 _ 1 0 _ _ _ (Nat.lt_succ_self _) (by omega) (by omega) hP hD hS (lv_sub hl [0, 1, 2, 3, 4, 5] rfl)
    intro n_99
    induction n_99 with
    | zero =>
      intro i u8 H locs ls hm_99
      exact absurd hm_99 (Nat.not_lt_zero _)
    | succ n_99 ih_99 =>
      intro i u8 H locs ls hm_99 hi1 hi hP hD hS hl
      refine lv_iload hx hb dX9_comesTo_99 (lv_at hl 0 rfl) ?_
      refine lv_iload_n hx hb dX9_comesTo_101 rfl (lv_at hl 3 rfl) ?_
      refine lv_icmp_ge (tgt := 139) hx hb dX9_comesTo_102 (by decide) (fun c_40 => ?_) (fun c_40 => ?_)
      · skip
        have nc_40 : q_2 ≤ i := xn_le (a := q_2) (b := i) (by omega) (by omega) c_40
        refine lv_aload_n hx hb dX9_comesTo_139 rfl (lv_at hl 4 rfl) ?_
        refine lv_aload_n hx hb dX9_comesTo_140 rfl (lv_at hl 4 rfl) ?_
        refine lv_iload_n hx hb dX9_comesTo_141 rfl (lv_at hl 5 rfl) ?_
        refine lv_iconst (v := 0) hx hb dX9_comesTo_142 (by decide) ?_
        refine xc_Vr hF (c_X9_of l D cI cJ cZ cS ta sa sv H.size h0 ys yk yo yt mk0 yfa yfe mL u8 mM yro yhe ygr mF mC mY yta mz mf mt mv mw ywa ybi ysi ynu ymo ms P Rn Wn fae fal fau fao farn farp fak fawn fawp fat fas j 0 (by omega) (by omega) hs0 hs1 hs2 hsS hsM hsp hsr hsw hsR hsG) kv_X9_137 ⟨rfl, rfl, Nat.le_of_ble_eq_true rfl, Nat.le_of_ble_eq_true rfl⟩ ⟨Nat.le_of_ble_eq_true rfl, Nat.le_of_ble_eq_true rfl⟩ hK hN hZ hP hD hS hA [0, 1] rfl rfl 0 rfl rfl rfl rfl hl.1 rfl (Nat.le_of_ble_eq_true rfl) dX9_comesTo_143 (fun r_41 hw_r_41 => ?_)
        subst hw_r_41
        refine lv_iload_n hx hb dX9_comesTo_146 rfl (lv_at hl 2 rfl) ?_
        refine lv_iload hx hb dX9_comesTo_147 (lv_at hl 1 rfl) ?_
        refine xc_Vv (wr := [(yro, .inl (cI, 6, .inl ro))]) hF (c_X9_closes l D cI cJ cZ cS ta sa sv H.size h0 ys yk yo yt mk0 yfa yfe mL u8 mM yro yhe ygr mF mC mY yta mz mf mt mv mw ywa ybi ysi ynu ymo ms fa P Rn Wn fae fal fau fao farn farp fak fawn fawp fat fas (ms (313 + 8 * j + 0)) y_7 y_11 (by omega) (by omega) hs0 hs1 hs2 hsS hsM hsp hsr hsw hsR hsG) kv_X9_154 ⟨rfl, rfl, Nat.le_of_ble_eq_true rfl, Nat.le_of_ble_eq_true rfl⟩ ⟨Nat.le_of_ble_eq_true rfl, Nat.le_of_ble_eq_true rfl⟩ hK hN hZ hP hD hS hA [0, 1, 2] [3] rfl rfl rfl rfl (by decide) 0 rfl rfl rfl rfl hl.1 rfl (Nat.le_of_ble_eq_true rfl) dX9_comesTo_149 (fun u_r_42 H locs hw_r_42 hP hD hS => ?_)
        obtain ⟨mS2_43, rfl⟩ : ∃ z, z = u_r_42 := ⟨_, rfl⟩
        try dsimp only at hw_r_42
        have hP : va_P D vwCl [(yro, .inl (cI, 6, .inl ro)), (h0, .inr (9, [.ref ys, .ref yk, .ref yo, .ref yt, .int mk0, .ref yfa, .ref yfe, .int mL, .int mS2_43, .int mM, .ref yro, .ref yhe, .ref ygr, .int mF, .int mC, .int mY, .ref yta, .int (nI (mz)), .int (nI (mf)), .int (nI (mt)), .int mv, .int mw, .ref ywa, .ref ybi, .ref ysi, .ref ynu, .ref ymo])), (ys, .inl (cI, 449, .inl ms)), (yfa, .inl (cI, 100, .inl fa))] H := hP
        have hD : va_D A [(yro, .inl (cI, 6, .inl ro)), (h0, .inr (9, [.ref ys, .ref yk, .ref yo, .ref yt, .int mk0, .ref yfa, .ref yfe, .int mL, .int mS2_43, .int mM, .ref yro, .ref yhe, .ref ygr, .int mF, .int mC, .int mY, .ref yta, .int (nI (mz)), .int (nI (mf)), .int (nI (mt)), .int mv, .int mw, .ref ywa, .ref ybi, .ref ysi, .ref ynu, .ref ymo])), (ys, .inl (cI, 449, .inl ms)), (yfa, .inl (cI, 100, .inl fa))] := hD
        refine lv_aload_n hx hb dX9_comesTo_152 rfl (lv_at hl 4 rfl) ?_
        refine xg hF kf_X9_126 hK hP 1 rfl rfl dX9_comesTo_153 ?_
        exact W.iret (v := mS2_43) hx hb hr (fun t ht hW => ⟨⟨mS2_43, (mS2_43, mM, ro), rfl, ⟨trivial, hro⟩, by rw [ht]; exact hP.sub [1, 2, 3, 0] rfl, hD.sub [1, 2, 3, 0] (by decide) rfl⟩, hS.F ht⟩) hS.2.2 dX9_comesTo_156 hlk
      · skip
        have nc_40 : i < q_2 := xn_nle (a := q_2) (b := i) (by omega) (by omega) c_40
        refine lv_aload_n hx hb dX9_comesTo_105 rfl (lv_at hl 4 rfl) ?_
        refine lv_aload_n hx hb dX9_comesTo_106 rfl (lv_at hl 4 rfl) ?_
        refine lv_iload_n hx hb dX9_comesTo_107 rfl (lv_at hl 5 rfl) ?_
        refine lv_iconst (v := 0) hx hb dX9_comesTo_108 (by decide) ?_
        refine xc_Vr hF (c_X9_of l D cI cJ cZ cS ta sa sv H.size h0 ys yk yo yt mk0 yfa yfe mL u8 mM yro yhe ygr mF mC mY yta mz mf mt mv mw ywa ybi ysi ynu ymo ms P Rn Wn fae fal fau fao farn farp fak fawn fawp fat fas j 0 (by omega) (by omega) hs0 hs1 hs2 hsS hsM hsp hsr hsw hsR hsG) kv_X9_137 ⟨rfl, rfl, Nat.le_of_ble_eq_true rfl, Nat.le_of_ble_eq_true rfl⟩ ⟨Nat.le_of_ble_eq_true rfl, Nat.le_of_ble_eq_true rfl⟩ hK hN hZ hP hD hS hA [0, 1] rfl rfl 0 rfl rfl rfl rfl hl.1 rfl (Nat.le_of_ble_eq_true rfl) dX9_comesTo_109 (fun r_44 hw_r_44 => ?_)
        subst hw_r_44
        refine lv_aload_n hx hb dX9_comesTo_112 rfl (lv_at hl 4 rfl) ?_
        refine lv_iload_n hx hb dX9_comesTo_113 rfl (lv_at hl 5 rfl) ?_
        refine lv_iconst (v := 1) hx hb dX9_comesTo_114 (by decide) ?_
        refine lv_iload hx hb dX9_comesTo_115 (lv_at hl 0 rfl) ?_
        refine lv_iadd hx hb dX9_comesTo_117 ?_
        refine xl_i (y := nI (1 + i)) (nI_add 1 i) ?_
        refine xc_Vr hF (c_X9_ofs l D cI cJ cZ cS ta sa sv H.size h0 ys yk yo yt mk0 yfa yfe mL u8 mM yro yhe ygr mF mC mY yta mz mf mt mv mw ywa ybi ysi ynu ymo ms P Rn Wn fae fal fau fao farn farp fak fawn fawp fat fas j (1 + i) (by omega) (by omega) (by omega) hs0 hs1 hs2 hsS hsM hsp hsr hsw hsR hsG) kv_X9_137 ⟨rfl, rfl, Nat.le_of_ble_eq_true rfl, Nat.le_of_ble_eq_true rfl⟩ ⟨Nat.le_of_ble_eq_true rfl, Nat.le_of_ble_eq_true rfl⟩ hK hN hZ hP hD hS hA [0, 1] rfl rfl 0 rfl rfl rfl rfl hl.1 rfl (Nat.le_of_ble_eq_true rfl) dX9_comesTo_118 (fun r_45 hw_r_45 => ?_)
        obtain ⟨y_46, rfl, h_47, h_48⟩ := hw_r_45
        refine lv_aload_n hx hb dX9_comesTo_121 rfl (lv_at hl 4 rfl) ?_
        refine lv_iload_n hx hb dX9_comesTo_122 rfl (lv_at hl 5 rfl) ?_
        refine lv_iconst (v := 2) hx hb dX9_comesTo_123 (by decide) ?_
        refine lv_iload hx hb dX9_comesTo_124 (lv_at hl 0 rfl) ?_
        refine lv_iadd hx hb dX9_comesTo_126 ?_
        refine xl_i (y := nI (2 + i)) (nI_add 2 i) ?_
        refine xc_Vr hF (c_X9_ofs l D cI cJ cZ cS ta sa sv H.size h0 ys yk yo yt mk0 yfa yfe mL u8 mM yro yhe ygr mF mC mY yta mz mf mt mv mw ywa ybi ysi ynu ymo ms P Rn Wn fae fal fau fao farn farp fak fawn fawp fat fas j (2 + i) (by omega) (by omega) (by omega) hs0 hs1 hs2 hsS hsM hsp hsr hsw hsR hsG) kv_X9_137 ⟨rfl, rfl, Nat.le_of_ble_eq_true rfl, Nat.le_of_ble_eq_true rfl⟩ ⟨Nat.le_of_ble_eq_true rfl, Nat.le_of_ble_eq_true rfl⟩ hK hN hZ hP hD hS hA [0, 1] rfl rfl 0 rfl rfl rfl rfl hl.1 rfl (Nat.le_of_ble_eq_true rfl) dX9_comesTo_127 (fun r_49 hw_r_49 => ?_)
        obtain ⟨y_50, rfl, h_51, h_52⟩ := hw_r_49
        refine xc_Vv (wr := [(yro, .inl (cI, 6, .inl ro))]) hF (c_X9_pairs l D cI cJ cZ cS ta sa sv H.size h0 ys yk yo yt mk0 yfa yfe mL u8 mM yro yhe ygr mF mC mY yta mz mf mt mv mw ywa ybi ysi ynu ymo ms fa P Rn Wn fae fal fau fao farn farp fak fawn fawp fat fas (ms (313 + 8 * j + 0)) y_46 y_50 (by omega) (by omega) hs0 hs1 hs2 hsS hsM hsp hsr hsw hsR hsG) kv_X9_151 ⟨rfl, rfl, Nat.le_of_ble_eq_true rfl, Nat.le_of_ble_eq_true rfl⟩ ⟨Nat.le_of_ble_eq_true rfl, Nat.le_of_ble_eq_true rfl⟩ hK hN hZ hP hD hS hA [0, 1, 2] [3] rfl rfl rfl rfl (by decide) 0 rfl rfl rfl rfl hl.1 rfl (Nat.le_of_ble_eq_true rfl) dX9_comesTo_130 (fun u_r_53 H locs hw_r_53 hP hD hS => ?_)
        obtain ⟨mS2_54, rfl⟩ : ∃ z, z = u_r_53 := ⟨_, rfl⟩
        try dsimp only at hw_r_53
        have hP : va_P D vwCl [(yro, .inl (cI, 6, .inl ro)), (h0, .inr (9, [.ref ys, .ref yk, .ref yo, .ref yt, .int mk0, .ref yfa, .ref yfe, .int mL, .int mS2_54, .int mM, .ref yro, .ref yhe, .ref ygr, .int mF, .int mC, .int mY, .ref yta, .int (nI (mz)), .int (nI (mf)), .int (nI (mt)), .int mv, .int mw, .ref ywa, .ref ybi, .ref ysi, .ref ynu, .ref ymo])), (ys, .inl (cI, 449, .inl ms)), (yfa, .inl (cI, 100, .inl fa))] H := hP
        have hD : va_D A [(yro, .inl (cI, 6, .inl ro)), (h0, .inr (9, [.ref ys, .ref yk, .ref yo, .ref yt, .int mk0, .ref yfa, .ref yfe, .int mL, .int mS2_54, .int mM, .ref yro, .ref yhe, .ref ygr, .int mF, .int mC, .int mY, .ref yta, .int (nI (mz)), .int (nI (mf)), .int (nI (mt)), .int mv, .int mw, .ref ywa, .ref ybi, .ref ysi, .ref ynu, .ref ymo])), (ys, .inl (cI, 449, .inl ms)), (yfa, .inl (cI, 100, .inl fa))] := hD
        refine lv_iinc (v := nI (i + 1)) (lv' := [(5, .int (nI (i + 1))), (4, .int (nI (y_11))), (3, .int (nI (y_7))), (2, .int (nI (q_2))), (0, .ref h0), (1, .int (nI (j)))]) hx hb dX9_comesTo_133 hl (k := 0) rfl (nI_1 (i)) (by decide) rfl (fun ls hl => ?_)
        refine lv_goto (tgt := 99) hx hb dX9_comesTo_136 (by decide) ?_
        exact ih_99 (i + 1) mS2_54 _ _ _ (by omega) (by omega) (by omega) (hP.sub [1, 2, 3, 0] rfl) (hD.sub [1, 2, 3, 0] (by decide) rfl) hS (lv_sub hl [0, 1, 2, 3, 4, 5] rfl)
  · refine xl_i (y := 5) e_16 ?_
    refine lv_tableIn (tgt := 96) hx hb dX9_comesTo_35 (by decide) (by decide) rfl (by decide) ?_
    refine lv_iconst (v := 1) hx hb dX9_comesTo_96 (by decide) ?_
    refine lv_istore (lv' := [(5, .int 1), (4, .int (nI (y_11))), (3, .int (nI (y_7))), (2, .int (nI (q_2))), (0, .ref h0), (1, .int (nI (j)))]) hx hb dX9_comesTo_97 hl (by decide) rfl (fun ls hl => ?_)
    suffices loop_99 : ∀ (n_99 : Nat) (i : Nat) (u8 : Int32) (H : Heap) (locs : List Loc) (ls : Array Slot), q_2 - i < n_99 → (1 ≤ i) → (i ≤ q_2) → va_P D vwCl [(h0, .inr (9, [.ref ys, .ref yk, .ref yo, .ref yt, .int mk0, .ref yfa, .ref yfe, .int mL, .int u8, .int mM, .ref yro, .ref yhe, .ref ygr, .int mF, .int mC, .int mY, .ref yta, .int (nI (mz)), .int (nI (mf)), .int (nI (mt)), .int mv, .int mw, .ref ywa, .ref ybi, .ref ysi, .ref ynu, .ref ymo])), (ys, .inl (cI, 449, .inl ms)), (yfa, .inl (cI, 100, .inl fa)), (yro, .inl (cI, 6, .inl ro))] H → va_D A [(h0, .inr (9, [.ref ys, .ref yk, .ref yo, .ref yt, .int mk0, .ref yfa, .ref yfe, .int mL, .int u8, .int mM, .ref yro, .ref yhe, .ref ygr, .int mF, .int mC, .int mY, .ref yta, .int (nI (mz)), .int (nI (mf)), .int (nI (mt)), .int mv, .int mw, .ref ywa, .ref ybi, .ref ysi, .ref ynu, .ref ymo])), (ys, .inl (cI, 449, .inl ms)), (yfa, .inl (cI, 100, .inl fa)), (yro, .inl (cI, 6, .inl ro))] → va_S A s.heap H locs → lv_has ls 6 [(5, .int (nI (i))), (4, .int (nI (y_11))), (3, .int (nI (y_7))), (2, .int (nI (q_2))), (0, .ref h0), (1, .int (nI (j)))] → W p l e ({ frames := 3, cells := 0, slots := 0, locals := 73 }) s m ([.ref h0, .int (nI (j))] : List Value).toArray below meth c H locs 0 0 (MQ below (XQi (fun (r : Int32) (u : Int32 × Int32 × (Nat → Int32)) => match u with | (mS2, mM2, ro2) => (True) ∧ (BA 6 10 ro2)) D (fun (u : Int32 × Int32 × (Nat → Int32)) => match u with | (mS2, mM2, ro2) => [(h0, .inr (9, [.ref ys, .ref yk, .ref yo, .ref yt, .int mk0, .ref yfa, .ref yfe, .int mL, .int mS2, .int mM2, .ref yro, .ref yhe, .ref ygr, .int mF, .int mC, .int mY, .ref yta, .int (nI (mz)), .int (nI (mf)), .int (nI (mt)), .int mv, .int mw, .ref ywa, .ref ybi, .ref ysi, .ref ynu, .ref ymo])), (ys, .inl (cI, 449, .inl ms)), (yfa, .inl (cI, 100, .inl fa)), (yro, .inl (cI, 6, .inl ro2))]) A) ([.ref h0, .int (nI (j))] : List Value).toArray s 0 0 A) (F0 m 99 ls []) by
      exact loop_99 _ 1 0 _ _ _ (Nat.lt_succ_self _) (by omega) (by omega) hP hD hS (lv_sub hl [0, 1, 2, 3, 4, 5] rfl)
    intro n_99
    induction n_99 with
    | zero =>
      intro i u8 H locs ls hm_99
      exact absurd hm_99 (Nat.not_lt_zero _)
    | succ n_99 ih_99 =>
      intro i u8 H locs ls hm_99 hi1 hi hP hD hS hl
      refine lv_iload hx hb dX9_comesTo_99 (lv_at hl 0 rfl) ?_
      refine lv_iload_n hx hb dX9_comesTo_101 rfl (lv_at hl 3 rfl) ?_
      refine lv_icmp_ge (tgt := 139) hx hb dX9_comesTo_102 (by decide) (fun c_55 => ?_) (fun c_55 => ?_)
      · skip
        have nc_55 : q_2 ≤ i := xn_le (a := q_2) (b := i) (by omega) (by omega) c_55
        refine lv_aload_n hx hb dX9_comesTo_139 rfl (lv_at hl 4 rfl) ?_
        refine lv_aload_n hx hb dX9_comesTo_140 rfl (lv_at hl 4 rfl) ?_
        refine lv_iload_n hx hb dX9_comesTo_141 rfl (lv_at hl 5 rfl) ?_
        refine lv_iconst (v := 0) hx hb dX9_comesTo_142 (by decide) ?_
        refine xc_Vr hF (c_X9_of l D cI cJ cZ cS ta sa sv H.size h0 ys yk yo yt mk0 yfa yfe mL u8 mM yro yhe ygr mF mC mY yta mz mf mt mv mw ywa ybi ysi ynu ymo ms P Rn Wn fae fal fau fao farn farp fak fawn fawp fat fas j 0 (by omega) (by omega) hs0 hs1 hs2 hsS hsM hsp hsr hsw hsR hsG) kv_X9_137 ⟨rfl, rfl, Nat.le_of_ble_eq_true rfl, Nat.le_of_ble_eq_true rfl⟩ ⟨Nat.le_of_ble_eq_true rfl, Nat.le_of_ble_eq_true rfl⟩ hK hN hZ hP hD hS hA [0, 1] rfl rfl 0 rfl rfl rfl rfl hl.1 rfl (Nat.le_of_ble_eq_true rfl) dX9_comesTo_143 (fun r_56 hw_r_56 => ?_)
        subst hw_r_56
        refine lv_iload_n hx hb dX9_comesTo_146 rfl (lv_at hl 2 rfl) ?_
        refine lv_iload hx hb dX9_comesTo_147 (lv_at hl 1 rfl) ?_
        refine xc_Vv (wr := [(yro, .inl (cI, 6, .inl ro))]) hF (c_X9_closes l D cI cJ cZ cS ta sa sv H.size h0 ys yk yo yt mk0 yfa yfe mL u8 mM yro yhe ygr mF mC mY yta mz mf mt mv mw ywa ybi ysi ynu ymo ms fa P Rn Wn fae fal fau fao farn farp fak fawn fawp fat fas (ms (313 + 8 * j + 0)) y_7 y_11 (by omega) (by omega) hs0 hs1 hs2 hsS hsM hsp hsr hsw hsR hsG) kv_X9_154 ⟨rfl, rfl, Nat.le_of_ble_eq_true rfl, Nat.le_of_ble_eq_true rfl⟩ ⟨Nat.le_of_ble_eq_true rfl, Nat.le_of_ble_eq_true rfl⟩ hK hN hZ hP hD hS hA [0, 1, 2] [3] rfl rfl rfl rfl (by decide) 0 rfl rfl rfl rfl hl.1 rfl (Nat.le_of_ble_eq_true rfl) dX9_comesTo_149 (fun u_r_57 H locs hw_r_57 hP hD hS => ?_)
        obtain ⟨mS2_58, rfl⟩ : ∃ z, z = u_r_57 := ⟨_, rfl⟩
        try dsimp only at hw_r_57
        have hP : va_P D vwCl [(yro, .inl (cI, 6, .inl ro)), (h0, .inr (9, [.ref ys, .ref yk, .ref yo, .ref yt, .int mk0, .ref yfa, .ref yfe, .int mL, .int mS2_58, .int mM, .ref yro, .ref yhe, .ref ygr, .int mF, .int mC, .int mY, .ref yta, .int (nI (mz)), .int (nI (mf)), .int (nI (mt)), .int mv, .int mw, .ref ywa, .ref ybi, .ref ysi, .ref ynu, .ref ymo])), (ys, .inl (cI, 449, .inl ms)), (yfa, .inl (cI, 100, .inl fa))] H := hP
        have hD : va_D A [(yro, .inl (cI, 6, .inl ro)), (h0, .inr (9, [.ref ys, .ref yk, .ref yo, .ref yt, .int mk0, .ref yfa, .ref yfe, .int mL, .int mS2_58, .int mM, .ref yro, .ref yhe, .ref ygr, .int mF, .int mC, .int mY, .ref yta, .int (nI (mz)), .int (nI (mf)), .int (nI (mt)), .int mv, .int mw, .ref ywa, .ref ybi, .ref ysi, .ref ynu, .ref ymo])), (ys, .inl (cI, 449, .inl ms)), (yfa, .inl (cI, 100, .inl fa))] := hD
        refine lv_aload_n hx hb dX9_comesTo_152 rfl (lv_at hl 4 rfl) ?_
        refine xg hF kf_X9_126 hK hP 1 rfl rfl dX9_comesTo_153 ?_
        exact W.iret (v := mS2_58) hx hb hr (fun t ht hW => ⟨⟨mS2_58, (mS2_58, mM, ro), rfl, ⟨trivial, hro⟩, by rw [ht]; exact hP.sub [1, 2, 3, 0] rfl, hD.sub [1, 2, 3, 0] (by decide) rfl⟩, hS.F ht⟩) hS.2.2 dX9_comesTo_156 hlk
      · skip
        have nc_55 : i < q_2 := xn_nle (a := q_2) (b := i) (by omega) (by omega) c_55
        refine lv_aload_n hx hb dX9_comesTo_105 rfl (lv_at hl 4 rfl) ?_
        refine lv_aload_n hx hb dX9_comesTo_106 rfl (lv_at hl 4 rfl) ?_
        refine lv_iload_n hx hb dX9_comesTo_107 rfl (lv_at hl 5 rfl) ?_
        refine lv_iconst (v := 0) hx hb dX9_comesTo_108 (by decide) ?_
        refine xc_Vr hF (c_X9_of l D cI cJ cZ cS ta sa sv H.size h0 ys yk yo yt mk0 yfa yfe mL u8 mM yro yhe ygr mF mC mY yta mz mf mt mv mw ywa ybi ysi ynu ymo ms P Rn Wn fae fal fau fao farn farp fak fawn fawp fat fas j 0 (by omega) (by omega) hs0 hs1 hs2 hsS hsM hsp hsr hsw hsR hsG) kv_X9_137 ⟨rfl, rfl, Nat.le_of_ble_eq_true rfl, Nat.le_of_ble_eq_true rfl⟩ ⟨Nat.le_of_ble_eq_true rfl, Nat.le_of_ble_eq_true rfl⟩ hK hN hZ hP hD hS hA [0, 1] rfl rfl 0 rfl rfl rfl rfl hl.1 rfl (Nat.le_of_ble_eq_true rfl) dX9_comesTo_109 (fun r_59 hw_r_59 => ?_)
        subst hw_r_59
        refine lv_aload_n hx hb dX9_comesTo_112 rfl (lv_at hl 4 rfl) ?_
        refine lv_iload_n hx hb dX9_comesTo_113 rfl (lv_at hl 5 rfl) ?_
        refine lv_iconst (v := 1) hx hb dX9_comesTo_114 (by decide) ?_
        refine lv_iload hx hb dX9_comesTo_115 (lv_at hl 0 rfl) ?_
        refine lv_iadd hx hb dX9_comesTo_117 ?_
        refine xl_i (y := nI (1 + i)) (nI_add 1 i) ?_
        refine xc_Vr hF (c_X9_ofs l D cI cJ cZ cS ta sa sv H.size h0 ys yk yo yt mk0 yfa yfe mL u8 mM yro yhe ygr mF mC mY yta mz mf mt mv mw ywa ybi ysi ynu ymo ms P Rn Wn fae fal fau fao farn farp fak fawn fawp fat fas j (1 + i) (by omega) (by omega) (by omega) hs0 hs1 hs2 hsS hsM hsp hsr hsw hsR hsG) kv_X9_137 ⟨rfl, rfl, Nat.le_of_ble_eq_true rfl, Nat.le_of_ble_eq_true rfl⟩ ⟨Nat.le_of_ble_eq_true rfl, Nat.le_of_ble_eq_true rfl⟩ hK hN hZ hP hD hS hA [0, 1] rfl rfl 0 rfl rfl rfl rfl hl.1 rfl (Nat.le_of_ble_eq_true rfl) dX9_comesTo_118 (fun r_60 hw_r_60 => ?_)
        obtain ⟨y_61, rfl, h_62, h_63⟩ := hw_r_60
        refine lv_aload_n hx hb dX9_comesTo_121 rfl (lv_at hl 4 rfl) ?_
        refine lv_iload_n hx hb dX9_comesTo_122 rfl (lv_at hl 5 rfl) ?_
        refine lv_iconst (v := 2) hx hb dX9_comesTo_123 (by decide) ?_
        refine lv_iload hx hb dX9_comesTo_124 (lv_at hl 0 rfl) ?_
        refine lv_iadd hx hb dX9_comesTo_126 ?_
        refine xl_i (y := nI (2 + i)) (nI_add 2 i) ?_
        refine xc_Vr hF (c_X9_ofs l D cI cJ cZ cS ta sa sv H.size h0 ys yk yo yt mk0 yfa yfe mL u8 mM yro yhe ygr mF mC mY yta mz mf mt mv mw ywa ybi ysi ynu ymo ms P Rn Wn fae fal fau fao farn farp fak fawn fawp fat fas j (2 + i) (by omega) (by omega) (by omega) hs0 hs1 hs2 hsS hsM hsp hsr hsw hsR hsG) kv_X9_137 ⟨rfl, rfl, Nat.le_of_ble_eq_true rfl, Nat.le_of_ble_eq_true rfl⟩ ⟨Nat.le_of_ble_eq_true rfl, Nat.le_of_ble_eq_true rfl⟩ hK hN hZ hP hD hS hA [0, 1] rfl rfl 0 rfl rfl rfl rfl hl.1 rfl (Nat.le_of_ble_eq_true rfl) dX9_comesTo_127 (fun r_64 hw_r_64 => ?_)
        obtain ⟨y_65, rfl, h_66, h_67⟩ := hw_r_64
        refine xc_Vv (wr := [(yro, .inl (cI, 6, .inl ro))]) hF (c_X9_pairs l D cI cJ cZ cS ta sa sv H.size h0 ys yk yo yt mk0 yfa yfe mL u8 mM yro yhe ygr mF mC mY yta mz mf mt mv mw ywa ybi ysi ynu ymo ms fa P Rn Wn fae fal fau fao farn farp fak fawn fawp fat fas (ms (313 + 8 * j + 0)) y_61 y_65 (by omega) (by omega) hs0 hs1 hs2 hsS hsM hsp hsr hsw hsR hsG) kv_X9_151 ⟨rfl, rfl, Nat.le_of_ble_eq_true rfl, Nat.le_of_ble_eq_true rfl⟩ ⟨Nat.le_of_ble_eq_true rfl, Nat.le_of_ble_eq_true rfl⟩ hK hN hZ hP hD hS hA [0, 1, 2] [3] rfl rfl rfl rfl (by decide) 0 rfl rfl rfl rfl hl.1 rfl (Nat.le_of_ble_eq_true rfl) dX9_comesTo_130 (fun u_r_68 H locs hw_r_68 hP hD hS => ?_)
        obtain ⟨mS2_69, rfl⟩ : ∃ z, z = u_r_68 := ⟨_, rfl⟩
        try dsimp only at hw_r_68
        have hP : va_P D vwCl [(yro, .inl (cI, 6, .inl ro)), (h0, .inr (9, [.ref ys, .ref yk, .ref yo, .ref yt, .int mk0, .ref yfa, .ref yfe, .int mL, .int mS2_69, .int mM, .ref yro, .ref yhe, .ref ygr, .int mF, .int mC, .int mY, .ref yta, .int (nI (mz)), .int (nI (mf)), .int (nI (mt)), .int mv, .int mw, .ref ywa, .ref ybi, .ref ysi, .ref ynu, .ref ymo])), (ys, .inl (cI, 449, .inl ms)), (yfa, .inl (cI, 100, .inl fa))] H := hP
        have hD : va_D A [(yro, .inl (cI, 6, .inl ro)), (h0, .inr (9, [.ref ys, .ref yk, .ref yo, .ref yt, .int mk0, .ref yfa, .ref yfe, .int mL, .int mS2_69, .int mM, .ref yro, .ref yhe, .ref ygr, .int mF, .int mC, .int mY, .ref yta, .int (nI (mz)), .int (nI (mf)), .int (nI (mt)), .int mv, .int mw, .ref ywa, .ref ybi, .ref ysi, .ref ynu, .ref ymo])), (ys, .inl (cI, 449, .inl ms)), (yfa, .inl (cI, 100, .inl fa))] := hD
        refine lv_iinc (v := nI (i + 1)) (lv' := [(5, .int (nI (i + 1))), (4, .int (nI (y_11))), (3, .int (nI (y_7))), (2, .int (nI (q_2))), (0, .ref h0), (1, .int (nI (j)))]) hx hb dX9_comesTo_133 hl (k := 0) rfl (nI_1 (i)) (by decide) rfl (fun ls hl => ?_)
        refine lv_goto (tgt := 99) hx hb dX9_comesTo_136 (by decide) ?_
        exact ih_99 (i + 1) mS2_69 _ _ _ (by omega) (by omega) (by omega) (hP.sub [1, 2, 3, 0] rfl) (hD.sub [1, 2, 3, 0] (by decide) rfl) hS (lv_sub hl [0, 1, 2, 3, 4, 5] rfl)
  · refine xl_i (y := 6) e_16 ?_
    refine lv_tableIn (tgt := 77) hx hb dX9_comesTo_35 (by decide) (by decide) rfl (by decide) ?_
    refine lv_aload_n hx hb dX9_comesTo_77 rfl (lv_at hl 3 rfl) ?_
    refine lv_iload_n hx hb dX9_comesTo_78 rfl (lv_at hl 4 rfl) ?_
    refine lv_iconst (v := 0) hx hb dX9_comesTo_79 (by decide) ?_
    refine xc_Vv (wr := []) hF (c_X9_orders l D cI cJ cZ cS ta sa sv H.size h0 ys yk yo yt mk0 yfa yfe mL 0 mM yro yhe ygr mF mC mY yta mz mf mt mv mw ywa ybi ysi ynu ymo ms fa ro P Rn Wn fae fal fau fao farn farp fak fawn fawp fat fas j 0 (by omega) hro hs0 hs1 hs2 hsS hsM hsp hsr hsw hsR hsG) kv_X9_144 ⟨rfl, rfl, Nat.le_of_ble_eq_true rfl, Nat.le_of_ble_eq_true rfl⟩ ⟨Nat.le_of_ble_eq_true rfl, Nat.le_of_ble_eq_true rfl⟩ hK hN hZ hP hD hS hA [0, 1, 2, 3] [] rfl rfl rfl rfl (by decide) 0 rfl rfl rfl rfl hl.1 rfl (Nat.le_of_ble_eq_true rfl) dX9_comesTo_80 (fun u_r_70 H locs hw_r_70 hP hD hS => ?_)
    obtain ⟨mS2_71, mM2_72, ro2_73⟩ := u_r_70
    try dsimp only at hw_r_70
    have i_74 := hw_r_70
    have hP : va_P D vwCl [(h0, .inr (9, [.ref ys, .ref yk, .ref yo, .ref yt, .int mk0, .ref yfa, .ref yfe, .int mL, .int mS2_71, .int mM2_72, .ref yro, .ref yhe, .ref ygr, .int mF, .int mC, .int mY, .ref yta, .int (nI (mz)), .int (nI (mf)), .int (nI (mt)), .int mv, .int mw, .ref ywa, .ref ybi, .ref ysi, .ref ynu, .ref ymo])), (ys, .inl (cI, 449, .inl ms)), (yfa, .inl (cI, 100, .inl fa)), (yro, .inl (cI, 6, .inl ro2_73))] H := hP
    have hD : va_D A [(h0, .inr (9, [.ref ys, .ref yk, .ref yo, .ref yt, .int mk0, .ref yfa, .ref yfe, .int mL, .int mS2_71, .int mM2_72, .ref yro, .ref yhe, .ref ygr, .int mF, .int mC, .int mY, .ref yta, .int (nI (mz)), .int (nI (mf)), .int (nI (mt)), .int mv, .int mw, .ref ywa, .ref ybi, .ref ysi, .ref ynu, .ref ymo])), (ys, .inl (cI, 449, .inl ms)), (yfa, .inl (cI, 100, .inl fa)), (yro, .inl (cI, 6, .inl ro2_73))] := hD
    refine lv_goto (tgt := 152) hx hb dX9_comesTo_83 (by decide) ?_
    refine lv_aload_n hx hb dX9_comesTo_152 rfl (lv_at hl 3 rfl) ?_
    refine xg hF kf_X9_126 hK hP 0 rfl rfl dX9_comesTo_153 ?_
    exact W.iret (v := mS2_71) hx hb hr (fun t ht hW => ⟨⟨mS2_71, (mS2_71, mM2_72, ro2_73), rfl, ⟨trivial, i_74⟩, by rw [ht]; exact hP.sub [0, 1, 2, 3] rfl, hD.sub [0, 1, 2, 3] (by decide) rfl⟩, hS.F ht⟩) hS.2.2 dX9_comesTo_156 hlk
set_option maxHeartbeats 4000000 in
set_option maxRecDepth 100000 in
theorem c_X9_sum (l : Launch) (D : va_G) (cI cJ cZ cS : ClassId) (ta : Nat) (sa sv : Nat → Nat) (sz : Nat) (h0 : Nat) (ys : Nat) (yk : Nat) (yo : Nat) (yt : Nat) (mk0 : Int32) (yfa : Nat) (yfe : Nat) (mL : Int32) (mS : Int32) (mM : Int32) (yro : Nat) (yhe : Nat) (ygr : Nat) (mF : Int32) (mC : Int32) (mY : Int32) (yta : Nat) (mz : Nat) (mf : Nat) (mt : Nat) (mv : Int32) (mw : Int32) (ywa : Nat) (ybi : Nat) (ysi : Nat) (ynu : Nat) (ymo : Nat) (ms : Nat → Int32) (fa : Nat → Int32) (fe : Nat → Int32) (ro : Nat → Int32) (mq : Nat → Int32) (P : Nat) (Rn : Nat) (Wn : Nat) (fae : Nat → Int32) (fal : Nat → Int32) (fau : Nat → Int32) (fao : Nat → Int32) (farn : Nat → Int32) (farp : Nat → Int32) (fak : Nat → Int32) (fawn : Nat → Int32) (fawp : Nat → Int32) (fat : Nat → Int32) (fas : Nat → Int32) (p0 : Int32) (hro : BA 6 10 ro) (hs0 : ms 0 = nI P) (hs1 : ms 1 = nI Rn) (hs2 : ms 2 = nI Wn) (hsS : SI ms) (hsM : MI ms) (hsp : P ≤ 10) (hsr : Rn ≤ 8) (hsw : Wn ≤ 8) (hsR : RI Rn ms) (hsG : FR P ms fae fal fau fao farn farp fak fawn fawp fat fas) : Met l yX9_sum (Cond.code yX9_sum cX9_sum 3 (some .int) :: wsU) ({ frames := 4, cells := 0, slots := 0, locals := 98 }) (va_Pc [.ref h0, .int p0] (XW D (xT cI cJ cZ cS) ta sa sv [(h0, .inr (9, [.ref ys, .ref yk, .ref yo, .ref yt, .int mk0, .ref yfa, .ref yfe, .int mL, .int mS, .int mM, .ref yro, .ref yhe, .ref ygr, .int mF, .int mC, .int mY, .ref yta, .int (nI (mz)), .int (nI (mf)), .int (nI (mt)), .int mv, .int mw, .ref ywa, .ref ybi, .ref ysi, .ref ynu, .ref ymo])), (ys, .inl (cI, 449, .inl ms)), (yfa, .inl (cI, 100, .inl fa)), (yfe, .inl (cI, 100, .inl fe)), (yro, .inl (cI, 6, .inl ro)), (yt, .inl (cI, 7, .inl mq))] sz)) (XQi (fun (r : Int32) (u : Int32 × Int32 × Int32 × (Nat → Int32) × (Nat → Int32) × (Nat → Int32) × (Nat → Int32)) => match u with | (mL2, mS2, mM2, fa2, fe2, ro2, mq2) => (True) ∧ (BA 6 10 ro2)) D (fun (u : Int32 × Int32 × Int32 × (Nat → Int32) × (Nat → Int32) × (Nat → Int32) × (Nat → Int32)) => match u with | (mL2, mS2, mM2, fa2, fe2, ro2, mq2) => [(h0, .inr (9, [.ref ys, .ref yk, .ref yo, .ref yt, .int mk0, .ref yfa, .ref yfe, .int mL2, .int mS2, .int mM2, .ref yro, .ref yhe, .ref ygr, .int mF, .int mC, .int mY, .ref yta, .int (nI (mz)), .int (nI (mf)), .int (nI (mt)), .int mv, .int mw, .ref ywa, .ref ybi, .ref ysi, .ref ynu, .ref ymo])), (ys, .inl (cI, 449, .inl ms)), (yfa, .inl (cI, 100, .inl fa2)), (yfe, .inl (cI, 100, .inl fe2)), (yro, .inl (cI, 6, .inl ro2)), (yt, .inl (cI, 7, .inl mq2))]) (va_A [(h0, .inr (9, [.ref ys, .ref yk, .ref yo, .ref yt, .int mk0, .ref yfa, .ref yfe, .int mL, .int mS, .int mM, .ref yro, .ref yhe, .ref ygr, .int mF, .int mC, .int mY, .ref yta, .int (nI (mz)), .int (nI (mf)), .int (nI (mt)), .int mv, .int mw, .ref ywa, .ref ybi, .ref ysi, .ref ynu, .ref ymo])), (ys, .inl (cI, 449, .inl ms)), (yfa, .inl (cI, 100, .inl fa)), (yfe, .inl (cI, 100, .inl fe)), (yro, .inl (cI, 6, .inl ro)), (yt, .inl (cI, 7, .inl mq))] sz)) 0 0 (va_A [(h0, .inr (9, [.ref ys, .ref yk, .ref yo, .ref yt, .int mk0, .ref yfa, .ref yfe, .int mL, .int mS, .int mM, .ref yro, .ref yhe, .ref ygr, .int mF, .int mC, .int mY, .ref yta, .int (nI (mz)), .int (nI (mf)), .int (nI (mt)), .int mv, .int mw, .ref ywa, .ref ybi, .ref ysi, .ref ynu, .ref ymo])), (ys, .inl (cI, 449, .inl ms)), (yfa, .inl (cI, 100, .inl fa)), (yfe, .inl (cI, 100, .inl fe)), (yro, .inl (cI, 6, .inl ro)), (yt, .inl (cI, 7, .inl mq))] sz) := by
  refine xh (QA := fun A => XQi (fun (r : Int32) (u : Int32 × Int32 × Int32 × (Nat → Int32) × (Nat → Int32) × (Nat → Int32) × (Nat → Int32)) => match u with | (mL2, mS2, mM2, fa2, fe2, ro2, mq2) => (True) ∧ (BA 6 10 ro2)) D (fun (u : Int32 × Int32 × Int32 × (Nat → Int32) × (Nat → Int32) × (Nat → Int32) × (Nat → Int32)) => match u with | (mL2, mS2, mM2, fa2, fe2, ro2, mq2) => [(h0, .inr (9, [.ref ys, .ref yk, .ref yo, .ref yt, .int mk0, .ref yfa, .ref yfe, .int mL2, .int mS2, .int mM2, .ref yro, .ref yhe, .ref ygr, .int mF, .int mC, .int mY, .ref yta, .int (nI (mz)), .int (nI (mf)), .int (nI (mt)), .int mv, .int mw, .ref ywa, .ref ybi, .ref ysi, .ref ynu, .ref ymo])), (ys, .inl (cI, 449, .inl ms)), (yfa, .inl (cI, 100, .inl fa2)), (yfe, .inl (cI, 100, .inl fe2)), (yro, .inl (cI, 6, .inl ro2)), (yt, .inl (cI, 7, .inl mq2))]) A) (fr := fun A => A) (by decide) (Nat.le_of_ble_eq_true rfl) ?_
  intro p e s m below meth c ls A hF hr hlk hin hsz hP hK hD hN hZ hA hS hl
  have hF : CallFix p m c cX9_sum 3 s _ _ RX9 := hF
  have hx := hF.1
  have hb := hF.2.1
  have hml := hF.2.2.1
  have hown := hF.2.2.2.1
  have hu : ∀ w ∈ wsU, w.before _ s = true := fun w h => hF.2.2.2.2 w (List.mem_cons_of_mem _ h)
  have hl : lv_has ls 3 [(0, .ref h0), (1, .int p0)] := hl
  refine lv_aload_n hx hb dX9_sum_0 rfl (lv_at hl 0 rfl) ?_
  refine lv_iload_n hx hb dX9_sum_1 rfl (lv_at hl 1 rfl) ?_
  refine xc_Vr hF (c_X9_isRound l D cI cJ cZ cS ta sa sv s.heap.size h0 ys yk yo yt mk0 yfa yfe mL mS mM yro yhe ygr mF mC mY yta mz mf mt mv mw ywa ybi ysi ynu ymo ms P Rn Wn fae fal fau fao farn farp fak fawn fawp fat fas p0 hs0 hs1 hs2 hsS hsM hsp hsr hsw hsR hsG) kv_X9_123 ⟨rfl, rfl, Nat.le_of_ble_eq_true rfl, Nat.le_of_ble_eq_true rfl⟩ ⟨Nat.le_of_ble_eq_true rfl, Nat.le_of_ble_eq_true rfl⟩ hK hN hZ hP hD hS hA [0, 1] rfl rfl 0 rfl rfl rfl rfl hl.1 rfl (Nat.le_of_ble_eq_true rfl) dX9_sum_2 (fun r_1 hw_r_1 => ?_)
  rcases hw_r_1 with ⟨k_2, rfl, rfl, h_4⟩ | ⟨rfl, h_5⟩
  · skip
    refine lv_if_ne (tgt := 15) hx hb dX9_sum_5 (by decide) (fun c_6 => ?_) (fun c_6 => absurd c_6 (by decide))
    refine lv_aload_n hx hb dX9_sum_15 rfl (lv_at hl 0 rfl) ?_
    refine xc_Vv (wr := [(yro, .inl (cI, 6, .inl ro)), (yt, .inl (cI, 7, .inl mq))]) hF (c_X9_findFar l D cI cJ cZ cS ta sa sv s.heap.size h0 ys yk yo yt mk0 yfa yfe mL mS mM yro yhe ygr mF mC mY yta mz mf mt mv mw ywa ybi ysi ynu ymo ms fa fe P Rn Wn fae fal fau fao farn farp fak fawn fawp fat fas hs0 hs1 hs2 hsS hsM hsp hsr hsw hsR hsG) kv_X9_113 ⟨rfl, rfl, Nat.le_of_ble_eq_true rfl, Nat.le_of_ble_eq_true rfl⟩ ⟨Nat.le_of_ble_eq_true rfl, Nat.le_of_ble_eq_true rfl⟩ hK hN hZ hP hD hS hA [0, 1, 2, 3] [4, 5] rfl rfl rfl rfl (by decide) 0 rfl rfl rfl rfl hl.1 rfl (Nat.le_of_ble_eq_true rfl) dX9_sum_16 (fun u_r_7 H locs hw_r_7 hP hD hS => ?_)
    obtain ⟨mL2_8, fa2_9, fe2_10⟩ := u_r_7
    try dsimp only at hw_r_7
    have i_11 := hw_r_7
    have hP : va_P D vwCl [(yro, .inl (cI, 6, .inl ro)), (yt, .inl (cI, 7, .inl mq)), (h0, .inr (9, [.ref ys, .ref yk, .ref yo, .ref yt, .int mk0, .ref yfa, .ref yfe, .int mL2_8, .int mS, .int mM, .ref yro, .ref yhe, .ref ygr, .int mF, .int mC, .int mY, .ref yta, .int (nI (mz)), .int (nI (mf)), .int (nI (mt)), .int mv, .int mw, .ref ywa, .ref ybi, .ref ysi, .ref ynu, .ref ymo])), (ys, .inl (cI, 449, .inl ms)), (yfa, .inl (cI, 100, .inl fa2_9)), (yfe, .inl (cI, 100, .inl fe2_10))] H := hP
    have hD : va_D A [(yro, .inl (cI, 6, .inl ro)), (yt, .inl (cI, 7, .inl mq)), (h0, .inr (9, [.ref ys, .ref yk, .ref yo, .ref yt, .int mk0, .ref yfa, .ref yfe, .int mL2_8, .int mS, .int mM, .ref yro, .ref yhe, .ref ygr, .int mF, .int mC, .int mY, .ref yta, .int (nI (mz)), .int (nI (mf)), .int (nI (mt)), .int mv, .int mw, .ref ywa, .ref ybi, .ref ysi, .ref ynu, .ref ymo])), (ys, .inl (cI, 449, .inl ms)), (yfa, .inl (cI, 100, .inl fa2_9)), (yfe, .inl (cI, 100, .inl fe2_10))] := hD
    refine lv_aload_n hx hb dX9_sum_19 rfl (lv_at hl 0 rfl) ?_
    refine xg hF kf_X9_109 hK hP 2 rfl rfl dX9_sum_20 ?_
    refine lv_if_eq (tgt := 33) hx hb dX9_sum_23 (by decide) (fun c_12 => ?_) (fun c_12 => ?_)
    · skip
      refine lv_aload_n hx hb dX9_sum_33 rfl (lv_at hl 0 rfl) ?_
      refine lv_iload_n hx hb dX9_sum_34 rfl (lv_at hl 1 rfl) ?_
      refine xc_Vi (wr := [(yt, .inl (cI, 7, .inl mq)), (yfe, .inl (cI, 100, .inl fe2_10))]) hF (c_X9_comesTo l D cI cJ cZ cS ta sa sv H.size h0 ys yk yo yt mk0 yfa yfe mL2_8 mS mM yro yhe ygr mF mC mY yta mz mf mt mv mw ywa ybi ysi ynu ymo ms fa2_9 ro P Rn Wn fae fal fau fao farn farp fak fawn fawp fat fas k_2 (by omega) hro hs0 hs1 hs2 hsS hsM hsp hsr hsw hsR hsG) kv_X9_160 ⟨rfl, rfl, Nat.le_of_ble_eq_true rfl, Nat.le_of_ble_eq_true rfl⟩ ⟨Nat.le_of_ble_eq_true rfl, Nat.le_of_ble_eq_true rfl⟩ hK hN hZ hP hD hS hA [2, 3, 4, 0] [1, 5] rfl rfl rfl rfl (by decide) 0 rfl rfl rfl rfl hl.1 rfl (Nat.le_of_ble_eq_true rfl) dX9_sum_35 (fun r_13 u_r_13 H locs hw_r_13 hP hD hS => ?_)
      obtain ⟨mS2_14, mM2_15, ro2_16⟩ := u_r_13
      try dsimp only at hw_r_13
      obtain ⟨hw_r_13, i_17⟩ := hw_r_13
      have hP : va_P D vwCl [(yt, .inl (cI, 7, .inl mq)), (yfe, .inl (cI, 100, .inl fe2_10)), (h0, .inr (9, [.ref ys, .ref yk, .ref yo, .ref yt, .int mk0, .ref yfa, .ref yfe, .int mL2_8, .int mS2_14, .int mM2_15, .ref yro, .ref yhe, .ref ygr, .int mF, .int mC, .int mY, .ref yta, .int (nI (mz)), .int (nI (mf)), .int (nI (mt)), .int mv, .int mw, .ref ywa, .ref ybi, .ref ysi, .ref ynu, .ref ymo])), (ys, .inl (cI, 449, .inl ms)), (yfa, .inl (cI, 100, .inl fa2_9)), (yro, .inl (cI, 6, .inl ro2_16))] H := hP
      have hD : va_D A [(yt, .inl (cI, 7, .inl mq)), (yfe, .inl (cI, 100, .inl fe2_10)), (h0, .inr (9, [.ref ys, .ref yk, .ref yo, .ref yt, .int mk0, .ref yfa, .ref yfe, .int mL2_8, .int mS2_14, .int mM2_15, .ref yro, .ref yhe, .ref ygr, .int mF, .int mC, .int mY, .ref yta, .int (nI (mz)), .int (nI (mf)), .int (nI (mt)), .int mv, .int mw, .ref ywa, .ref ybi, .ref ysi, .ref ynu, .ref ymo])), (ys, .inl (cI, 449, .inl ms)), (yfa, .inl (cI, 100, .inl fa2_9)), (yro, .inl (cI, 6, .inl ro2_16))] := hD
      refine lv_istore_n (lv' := [(2, .int r_13), (0, .ref h0), (1, .int (nI (k_2)))]) hx hb dX9_sum_38 rfl hl (by decide) rfl (fun ls hl => ?_)
      refine lv_iload_n hx hb dX9_sum_39 rfl (lv_at hl 0 rfl) ?_
      refine lv_ldc (v := 100000000) hx hb hown (hu _ uw701) dX9_sum_40 ?_
      refine lv_icmp_ne (tgt := 54) hx hb dX9_sum_42 (by decide) (fun c_18 => ?_) (fun c_18 => ?_)
      · skip
        refine lv_iload_n hx hb dX9_sum_54 rfl (lv_at hl 0 rfl) ?_
        exact W.iret (v := r_13) hx hb hr (fun t ht hW => ⟨⟨r_13, (mL2_8, mS2_14, mM2_15, fa2_9, fe2_10, ro2_16, mq), rfl, ⟨trivial, i_17⟩, by rw [ht]; exact hP.sub [2, 3, 4, 1, 5, 0] rfl, hD.sub [2, 3, 4, 1, 5, 0] (by decide +kernel) rfl⟩, hS.F ht⟩) hS.2.2 dX9_sum_55 hlk
      · skip
        refine lv_aload_n hx hb dX9_sum_45 rfl (lv_at hl 1 rfl) ?_
        refine lv_ldc (v := (-1000000004)) hx hb hown (hu _ uw699) dX9_sum_46 ?_
        refine xc_Vi (wr := [(yfe, .inl (cI, 100, .inl fe2_10)), (ys, .inl (cI, 449, .inl ms)), (yfa, .inl (cI, 100, .inl fa2_9)), (yro, .inl (cI, 6, .inl ro2_16))]) hF (c_X9_finds_N l D cI cJ cZ cS ta sa sv H.size h0 ys yk yo yt mk0 yfa yfe mL2_8 mS2_14 mM2_15 yro yhe ygr mF mC mY yta mz mf mt mv mw ywa ybi ysi ynu ymo mq ) kv_X9_70 ⟨rfl, rfl, Nat.le_of_ble_eq_true rfl, Nat.le_of_ble_eq_true rfl⟩ ⟨Nat.le_of_ble_eq_true rfl, Nat.le_of_ble_eq_true rfl⟩ hK hN hZ hP hD hS hA [2, 0] [1, 3, 4, 5] rfl rfl rfl rfl (by decide) 0 rfl rfl rfl rfl hl.1 rfl (Nat.le_of_ble_eq_true rfl) dX9_sum_48 (fun r_19 u_r_19 H locs hw_r_19 hP hD hS => ?_)
        obtain ⟨mq2_20, rfl⟩ : ∃ z, z = u_r_19 := ⟨_, rfl⟩
        try dsimp only at hw_r_19
        have hP : va_P D vwCl [(yfe, .inl (cI, 100, .inl fe2_10)), (ys, .inl (cI, 449, .inl ms)), (yfa, .inl (cI, 100, .inl fa2_9)), (yro, .inl (cI, 6, .inl ro2_16)), (h0, .inr (9, [.ref ys, .ref yk, .ref yo, .ref yt, .int mk0, .ref yfa, .ref yfe, .int mL2_8, .int mS2_14, .int mM2_15, .ref yro, .ref yhe, .ref ygr, .int mF, .int mC, .int mY, .ref yta, .int (nI (mz)), .int (nI (mf)), .int (nI (mt)), .int mv, .int mw, .ref ywa, .ref ybi, .ref ysi, .ref ynu, .ref ymo])), (yt, .inl (cI, 7, .inl mq2_20))] H := hP
        have hD : va_D A [(yfe, .inl (cI, 100, .inl fe2_10)), (ys, .inl (cI, 449, .inl ms)), (yfa, .inl (cI, 100, .inl fa2_9)), (yro, .inl (cI, 6, .inl ro2_16)), (h0, .inr (9, [.ref ys, .ref yk, .ref yo, .ref yt, .int mk0, .ref yfa, .ref yfe, .int mL2_8, .int mS2_14, .int mM2_15, .ref yro, .ref yhe, .ref ygr, .int mF, .int mC, .int mY, .ref yta, .int (nI (mz)), .int (nI (mf)), .int (nI (mt)), .int mv, .int mw, .ref ywa, .ref ybi, .ref ysi, .ref ynu, .ref ymo])), (yt, .inl (cI, 7, .inl mq2_20))] := hD
        subst hw_r_19
        refine lv_goto (tgt := 55) hx hb dX9_sum_51 (by decide) ?_
        exact W.iret (v := (-1000000004)) hx hb hr (fun t ht hW => ⟨⟨(-1000000004), (mL2_8, mS2_14, mM2_15, fa2_9, fe2_10, ro2_16, mq2_20), rfl, ⟨trivial, i_17⟩, by rw [ht]; exact hP.sub [4, 1, 2, 0, 3, 5] rfl, hD.sub [4, 1, 2, 0, 3, 5] (by decide +kernel) rfl⟩, hS.F ht⟩) hS.2.2 dX9_sum_55 hlk
    · skip
      refine lv_aload_n hx hb dX9_sum_26 rfl (lv_at hl 0 rfl) ?_
      refine lv_ldc (v := (-1000000005)) hx hb hown (hu _ uw716) dX9_sum_27 ?_
      refine xc_Vi (wr := [(yro, .inl (cI, 6, .inl ro)), (ys, .inl (cI, 449, .inl ms)), (yfa, .inl (cI, 100, .inl fa2_9)), (yfe, .inl (cI, 100, .inl fe2_10))]) hF (c_X9_finds_T l D cI cJ cZ cS ta sa sv H.size h0 ys yk yo yt mk0 yfa yfe mL2_8 mS mM yro yhe ygr mF mC mY yta mz mf mt mv mw ywa ybi ysi ynu ymo mq ) kv_X9_70 ⟨rfl, rfl, Nat.le_of_ble_eq_true rfl, Nat.le_of_ble_eq_true rfl⟩ ⟨Nat.le_of_ble_eq_true rfl, Nat.le_of_ble_eq_true rfl⟩ hK hN hZ hP hD hS hA [2, 1] [0, 3, 4, 5] rfl rfl rfl rfl (by decide) 0 rfl rfl rfl rfl hl.1 rfl (Nat.le_of_ble_eq_true rfl) dX9_sum_29 (fun r_21 u_r_21 H locs hw_r_21 hP hD hS => ?_)
      obtain ⟨mq2_22, rfl⟩ : ∃ z, z = u_r_21 := ⟨_, rfl⟩
      try dsimp only at hw_r_21
      have hP : va_P D vwCl [(yro, .inl (cI, 6, .inl ro)), (ys, .inl (cI, 449, .inl ms)), (yfa, .inl (cI, 100, .inl fa2_9)), (yfe, .inl (cI, 100, .inl fe2_10)), (h0, .inr (9, [.ref ys, .ref yk, .ref yo, .ref yt, .int mk0, .ref yfa, .ref yfe, .int mL2_8, .int mS, .int mM, .ref yro, .ref yhe, .ref ygr, .int mF, .int mC, .int mY, .ref yta, .int (nI (mz)), .int (nI (mf)), .int (nI (mt)), .int mv, .int mw, .ref ywa, .ref ybi, .ref ysi, .ref ynu, .ref ymo])), (yt, .inl (cI, 7, .inl mq2_22))] H := hP
      have hD : va_D A [(yro, .inl (cI, 6, .inl ro)), (ys, .inl (cI, 449, .inl ms)), (yfa, .inl (cI, 100, .inl fa2_9)), (yfe, .inl (cI, 100, .inl fe2_10)), (h0, .inr (9, [.ref ys, .ref yk, .ref yo, .ref yt, .int mk0, .ref yfa, .ref yfe, .int mL2_8, .int mS, .int mM, .ref yro, .ref yhe, .ref ygr, .int mF, .int mC, .int mY, .ref yta, .int (nI (mz)), .int (nI (mf)), .int (nI (mt)), .int mv, .int mw, .ref ywa, .ref ybi, .ref ysi, .ref ynu, .ref ymo])), (yt, .inl (cI, 7, .inl mq2_22))] := hD
      subst hw_r_21
      exact W.iret (v := (-1000000005)) hx hb hr (fun t ht hW => ⟨⟨(-1000000005), (mL2_8, mS, mM, fa2_9, fe2_10, ro, mq2_22), rfl, ⟨trivial, hro⟩, by rw [ht]; exact hP.sub [4, 1, 2, 3, 0, 5] rfl, hD.sub [4, 1, 2, 3, 0, 5] (by decide +kernel) rfl⟩, hS.F ht⟩) hS.2.2 dX9_sum_32 hlk
  · skip
    refine lv_if_ne (tgt := 15) hx hb dX9_sum_5 (by decide) (fun c_23 => absurd (by decide) c_23) (fun c_23 => ?_)
    refine lv_aload_n hx hb dX9_sum_8 rfl (lv_at hl 0 rfl) ?_
    refine lv_ldc (v := (-1000000001)) hx hb hown (hu _ uw648) dX9_sum_9 ?_
    refine xc_Vi (wr := [(ys, .inl (cI, 449, .inl ms)), (yfa, .inl (cI, 100, .inl fa)), (yfe, .inl (cI, 100, .inl fe)), (yro, .inl (cI, 6, .inl ro))]) hF (c_X9_finds_B l D cI cJ cZ cS ta sa sv s.heap.size h0 ys yk yo yt mk0 yfa yfe mL mS mM yro yhe ygr mF mC mY yta mz mf mt mv mw ywa ybi ysi ynu ymo mq ) kv_X9_70 ⟨rfl, rfl, Nat.le_of_ble_eq_true rfl, Nat.le_of_ble_eq_true rfl⟩ ⟨Nat.le_of_ble_eq_true rfl, Nat.le_of_ble_eq_true rfl⟩ hK hN hZ hP hD hS hA [0, 5] [1, 2, 3, 4] rfl rfl rfl rfl (by decide) 0 rfl rfl rfl rfl hl.1 rfl (Nat.le_of_ble_eq_true rfl) dX9_sum_11 (fun r_24 u_r_24 H locs hw_r_24 hP hD hS => ?_)
    obtain ⟨mq2_25, rfl⟩ : ∃ z, z = u_r_24 := ⟨_, rfl⟩
    try dsimp only at hw_r_24
    have hP : va_P D vwCl [(ys, .inl (cI, 449, .inl ms)), (yfa, .inl (cI, 100, .inl fa)), (yfe, .inl (cI, 100, .inl fe)), (yro, .inl (cI, 6, .inl ro)), (h0, .inr (9, [.ref ys, .ref yk, .ref yo, .ref yt, .int mk0, .ref yfa, .ref yfe, .int mL, .int mS, .int mM, .ref yro, .ref yhe, .ref ygr, .int mF, .int mC, .int mY, .ref yta, .int (nI (mz)), .int (nI (mf)), .int (nI (mt)), .int mv, .int mw, .ref ywa, .ref ybi, .ref ysi, .ref ynu, .ref ymo])), (yt, .inl (cI, 7, .inl mq2_25))] H := hP
    have hD : va_D A [(ys, .inl (cI, 449, .inl ms)), (yfa, .inl (cI, 100, .inl fa)), (yfe, .inl (cI, 100, .inl fe)), (yro, .inl (cI, 6, .inl ro)), (h0, .inr (9, [.ref ys, .ref yk, .ref yo, .ref yt, .int mk0, .ref yfa, .ref yfe, .int mL, .int mS, .int mM, .ref yro, .ref yhe, .ref ygr, .int mF, .int mC, .int mY, .ref yta, .int (nI (mz)), .int (nI (mf)), .int (nI (mt)), .int mv, .int mw, .ref ywa, .ref ybi, .ref ysi, .ref ynu, .ref ymo])), (yt, .inl (cI, 7, .inl mq2_25))] := hD
    subst hw_r_24
    exact W.iret (v := (-1000000001)) hx hb hr (fun t ht hW => ⟨⟨(-1000000001), (mL, mS, mM, fa, fe, ro, mq2_25), rfl, ⟨trivial, hro⟩, by rw [ht]; exact hP.sub [4, 0, 1, 2, 3, 5] rfl, hD.sub [4, 0, 1, 2, 3, 5] (by decide +kernel) rfl⟩, hS.F ht⟩) hS.2.2 dX9_sum_14 hlk
set_option maxHeartbeats 4000000 in
set_option maxRecDepth 100000 in
theorem c_X9_roundOf (l : Launch) (D : va_G) (cI cJ cZ cS : ClassId) (ta : Nat) (sa sv : Nat → Nat) (sz : Nat) (h0 : Nat) (ys : Nat) (yk : Nat) (yo : Nat) (yt : Nat) (mk0 : Int32) (yfa : Nat) (yfe : Nat) (mL : Int32) (mS : Int32) (mM : Int32) (yro : Nat) (yhe : Nat) (ygr : Nat) (mF : Int32) (mC : Int32) (mY : Int32) (yta : Nat) (mz : Nat) (mf : Nat) (mt : Nat) (mv : Int32) (mw : Int32) (ywa : Nat) (ybi : Nat) (ysi : Nat) (ynu : Nat) (ymo : Nat) (ms : Nat → Int32) (mq : Nat → Int32) (P : Nat) (Rn : Nat) (Wn : Nat) (fae : Nat → Int32) (fal : Nat → Int32) (fau : Nat → Int32) (fao : Nat → Int32) (farn : Nat → Int32) (farp : Nat → Int32) (fak : Nat → Int32) (fawn : Nat → Int32) (fawp : Nat → Int32) (fat : Nat → Int32) (fas : Nat → Int32) (p0 : Int32) (p1 : Int32) (hs0 : ms 0 = nI P) (hs1 : ms 1 = nI Rn) (hs2 : ms 2 = nI Wn) (hsS : SI ms) (hsM : MI ms) (hsp : P ≤ 10) (hsr : Rn ≤ 8) (hsw : Wn ≤ 8) (hsR : RI Rn ms) (hsG : FR P ms fae fal fau fao farn farp fak fawn fawp fat fas) : Met l yX9_roundOf (Cond.code yX9_roundOf cX9_roundOf 3 (some .int) :: wsU) ({ frames := 2, cells := 0, slots := 0, locals := 46 }) (va_Pc [.ref h0, .int p0, .int p1] (XW D (xT cI cJ cZ cS) ta sa sv [(h0, .inr (9, [.ref ys, .ref yk, .ref yo, .ref yt, .int mk0, .ref yfa, .ref yfe, .int mL, .int mS, .int mM, .ref yro, .ref yhe, .ref ygr, .int mF, .int mC, .int mY, .ref yta, .int (nI (mz)), .int (nI (mf)), .int (nI (mt)), .int mv, .int mw, .ref ywa, .ref ybi, .ref ysi, .ref ynu, .ref ymo])), (ys, .inl (cI, 449, .inl ms)), (yt, .inl (cI, 7, .inl mq))] sz)) (XQi (fun (r : Int32) (mq2 : (Nat → Int32)) => (True)) D (fun (mq2 : Nat → Int32) => [(h0, .inr (9, [.ref ys, .ref yk, .ref yo, .ref yt, .int mk0, .ref yfa, .ref yfe, .int mL, .int mS, .int mM, .ref yro, .ref yhe, .ref ygr, .int mF, .int mC, .int mY, .ref yta, .int (nI (mz)), .int (nI (mf)), .int (nI (mt)), .int mv, .int mw, .ref ywa, .ref ybi, .ref ysi, .ref ynu, .ref ymo])), (ys, .inl (cI, 449, .inl ms)), (yt, .inl (cI, 7, .inl mq2))]) (va_A [(h0, .inr (9, [.ref ys, .ref yk, .ref yo, .ref yt, .int mk0, .ref yfa, .ref yfe, .int mL, .int mS, .int mM, .ref yro, .ref yhe, .ref ygr, .int mF, .int mC, .int mY, .ref yta, .int (nI (mz)), .int (nI (mf)), .int (nI (mt)), .int mv, .int mw, .ref ywa, .ref ybi, .ref ysi, .ref ynu, .ref ymo])), (ys, .inl (cI, 449, .inl ms)), (yt, .inl (cI, 7, .inl mq))] sz)) 0 0 (va_A [(h0, .inr (9, [.ref ys, .ref yk, .ref yo, .ref yt, .int mk0, .ref yfa, .ref yfe, .int mL, .int mS, .int mM, .ref yro, .ref yhe, .ref ygr, .int mF, .int mC, .int mY, .ref yta, .int (nI (mz)), .int (nI (mf)), .int (nI (mt)), .int mv, .int mw, .ref ywa, .ref ybi, .ref ysi, .ref ynu, .ref ymo])), (ys, .inl (cI, 449, .inl ms)), (yt, .inl (cI, 7, .inl mq))] sz) := by
  refine xh (QA := fun A => XQi (fun (r : Int32) (mq2 : (Nat → Int32)) => (True)) D (fun (mq2 : Nat → Int32) => [(h0, .inr (9, [.ref ys, .ref yk, .ref yo, .ref yt, .int mk0, .ref yfa, .ref yfe, .int mL, .int mS, .int mM, .ref yro, .ref yhe, .ref ygr, .int mF, .int mC, .int mY, .ref yta, .int (nI (mz)), .int (nI (mf)), .int (nI (mt)), .int mv, .int mw, .ref ywa, .ref ybi, .ref ysi, .ref ynu, .ref ymo])), (ys, .inl (cI, 449, .inl ms)), (yt, .inl (cI, 7, .inl mq2))]) A) (fr := fun A => A) (by decide) (Nat.le_of_ble_eq_true rfl) ?_
  intro p e s m below meth c ls A hF hr hlk hin hsz hP hK hD hN hZ hA hS hl
  have hF : CallFix p m c cX9_roundOf 3 s _ _ RX9 := hF
  have hx := hF.1
  have hb := hF.2.1
  have hml := hF.2.2.1
  have hown := hF.2.2.2.1
  have hu : ∀ w ∈ wsU, w.before _ s = true := fun w h => hF.2.2.2.2 w (List.mem_cons_of_mem _ h)
  have hl : lv_has ls 3 [(0, .ref h0), (1, .int p0), (2, .int p1)] := hl
  refine lv_aload_n hx hb dX9_roundOf_0 rfl (lv_at hl 0 rfl) ?_
  refine lv_iload_n hx hb dX9_roundOf_1 rfl (lv_at hl 1 rfl) ?_
  refine xc_Vr hF (c_X9_isRound l D cI cJ cZ cS ta sa sv s.heap.size h0 ys yk yo yt mk0 yfa yfe mL mS mM yro yhe ygr mF mC mY yta mz mf mt mv mw ywa ybi ysi ynu ymo ms P Rn Wn fae fal fau fao farn farp fak fawn fawp fat fas p0 hs0 hs1 hs2 hsS hsM hsp hsr hsw hsR hsG) kv_X9_123 ⟨rfl, rfl, Nat.le_of_ble_eq_true rfl, Nat.le_of_ble_eq_true rfl⟩ ⟨Nat.le_of_ble_eq_true rfl, Nat.le_of_ble_eq_true rfl⟩ hK hN hZ hP hD hS hA [0, 1] rfl rfl 0 rfl rfl rfl rfl hl.1 rfl (Nat.le_of_ble_eq_true rfl) dX9_roundOf_2 (fun r_1 hw_r_1 => ?_)
  rcases hw_r_1 with ⟨k_2, rfl, rfl, h_4⟩ | ⟨rfl, h_5⟩
  · skip
    refine lv_if_eq (tgt := 22) hx hb dX9_roundOf_5 (by decide) (fun c_6 => absurd c_6 (by decide)) (fun c_6 => ?_)
    refine lv_iload_n hx hb dX9_roundOf_8 rfl (lv_at hl 2 rfl) ?_
    refine lv_i2l (v := p1.toInt64) hx hb dX9_roundOf_9 rfl ?_
    refine lv_ldc2 (v := (-2)) hx hb hown (hu _ uw763) dX9_roundOf_10 ?_
    refine xl_l (y := (-2 : Int32).toInt64) (by decide) ?_
    refine lv_ldc2 (v := 5) hx hb hown (hu _ uw764) dX9_roundOf_13 ?_
    refine xl_l (y := (5 : Int32).toInt64) (by decide) ?_
    refine xc_Sr hF (c_X9_in l D cI cJ cZ cS ta sa sv s.heap.size p1 (-2) 5 ) ks_X9_57 ⟨rfl, rfl, Nat.le_of_ble_eq_true rfl, Nat.le_of_ble_eq_true rfl⟩ ⟨Nat.le_of_ble_eq_true rfl, Nat.le_of_ble_eq_true rfl⟩ hK hN hZ hP hD hS hA [] rfl rfl rfl hl.1 rfl (Nat.le_of_ble_eq_true rfl) dX9_roundOf_16 (fun r_7 hw_r_7 => ?_)
    rcases hw_r_7 with ⟨rfl, h_8, h_9⟩ | ⟨rfl, h_10⟩
    · skip
      refine lv_if_ne (tgt := 29) hx hb dX9_roundOf_19 (by decide) (fun c_11 => ?_) (fun c_11 => absurd c_11 (by decide))
      refine lv_iload_n hx hb dX9_roundOf_29 rfl (lv_at hl 2 rfl) ?_
      refine lv_if_ge (tgt := 49) hx hb dX9_roundOf_30 (by decide) (fun c_12 => ?_) (fun c_12 => ?_)
      · skip
        obtain ⟨y_13, hy_13, rfl⟩ := x_ro h_8 (fun h => absurd c_12 (by rw [h]; decide)) (fun h => absurd c_12 (by rw [h]; decide)) h_9
        refine lv_iload_n hx hb dX9_roundOf_49 rfl (lv_at hl 2 rfl) ?_
        refine lv_aload_n hx hb dX9_roundOf_50 rfl (lv_at hl 0 rfl) ?_
        refine lv_iload_n hx hb dX9_roundOf_51 rfl (lv_at hl 1 rfl) ?_
        refine lv_iconst (v := 1) hx hb dX9_roundOf_52 (by decide) ?_
        refine xc_Vr hF (c_X9_of1 l D cI cJ cZ cS ta sa sv s.heap.size h0 ys yk yo yt mk0 yfa yfe mL mS mM yro yhe ygr mF mC mY yta mz mf mt mv mw ywa ybi ysi ynu ymo ms P Rn Wn fae fal fau fao farn farp fak fawn fawp fat fas k_2 (by omega) hs0 hs1 hs2 hsS hsM hsp hsr hsw hsR hsG) kv_X9_137 ⟨rfl, rfl, Nat.le_of_ble_eq_true rfl, Nat.le_of_ble_eq_true rfl⟩ ⟨Nat.le_of_ble_eq_true rfl, Nat.le_of_ble_eq_true rfl⟩ hK hN hZ hP hD hS hA [0, 1] rfl rfl 0 rfl rfl rfl rfl hl.1 rfl (Nat.le_of_ble_eq_true rfl) dX9_roundOf_53 (fun r_14 hw_r_14 => ?_)
        obtain ⟨q_15, rfl, h_16, h_17, h_18⟩ := hw_r_14
        refine lv_icmp_ge (tgt := 70) hx hb dX9_roundOf_56 (by decide) (fun c_19 => ?_) (fun c_19 => ?_)
        · skip
          have nc_19 : q_15 ≤ y_13 := xn_le (a := q_15) (b := y_13) (by omega) (by omega) c_19
          refine lv_aload_n hx hb dX9_roundOf_70 rfl (lv_at hl 0 rfl) ?_
          refine lv_ldc (v := (-1000000004)) hx hb hown (hu _ uw699) dX9_roundOf_71 ?_
          refine xc_Vi (wr := [(ys, .inl (cI, 449, .inl ms))]) hF (c_X9_finds_N l D cI cJ cZ cS ta sa sv s.heap.size h0 ys yk yo yt mk0 yfa yfe mL mS mM yro yhe ygr mF mC mY yta mz mf mt mv mw ywa ybi ysi ynu ymo mq ) kv_X9_70 ⟨rfl, rfl, Nat.le_of_ble_eq_true rfl, Nat.le_of_ble_eq_true rfl⟩ ⟨Nat.le_of_ble_eq_true rfl, Nat.le_of_ble_eq_true rfl⟩ hK hN hZ hP hD hS hA [0, 2] [1] rfl rfl rfl rfl (by decide) 0 rfl rfl rfl rfl hl.1 rfl (Nat.le_of_ble_eq_true rfl) dX9_roundOf_73 (fun r_20 u_r_20 H locs hw_r_20 hP hD hS => ?_)
          obtain ⟨mq2_21, rfl⟩ : ∃ z, z = u_r_20 := ⟨_, rfl⟩
          try dsimp only at hw_r_20
          have hP : va_P D vwCl [(ys, .inl (cI, 449, .inl ms)), (h0, .inr (9, [.ref ys, .ref yk, .ref yo, .ref yt, .int mk0, .ref yfa, .ref yfe, .int mL, .int mS, .int mM, .ref yro, .ref yhe, .ref ygr, .int mF, .int mC, .int mY, .ref yta, .int (nI (mz)), .int (nI (mf)), .int (nI (mt)), .int mv, .int mw, .ref ywa, .ref ybi, .ref ysi, .ref ynu, .ref ymo])), (yt, .inl (cI, 7, .inl mq2_21))] H := hP
          have hD : va_D A [(ys, .inl (cI, 449, .inl ms)), (h0, .inr (9, [.ref ys, .ref yk, .ref yo, .ref yt, .int mk0, .ref yfa, .ref yfe, .int mL, .int mS, .int mM, .ref yro, .ref yhe, .ref ygr, .int mF, .int mC, .int mY, .ref yta, .int (nI (mz)), .int (nI (mf)), .int (nI (mt)), .int mv, .int mw, .ref ywa, .ref ybi, .ref ysi, .ref ynu, .ref ymo])), (yt, .inl (cI, 7, .inl mq2_21))] := hD
          subst hw_r_20
          exact W.iret (v := (-1000000004)) hx hb hr (fun t ht hW => ⟨⟨(-1000000004), mq2_21, rfl, trivial, by rw [ht]; exact hP.sub [1, 0, 2] rfl, hD.sub [1, 0, 2] (by decide) rfl⟩, hS.F ht⟩) hS.2.2 dX9_roundOf_76 hlk
        · skip
          have nc_19 : y_13 < q_15 := xn_nle (a := q_15) (b := y_13) (by omega) (by omega) c_19
          refine lv_aload_n hx hb dX9_roundOf_59 rfl (lv_at hl 0 rfl) ?_
          refine lv_iload_n hx hb dX9_roundOf_60 rfl (lv_at hl 1 rfl) ?_
          refine lv_iconst (v := 2) hx hb dX9_roundOf_61 (by decide) ?_
          refine lv_iload_n hx hb dX9_roundOf_62 rfl (lv_at hl 2 rfl) ?_
          refine lv_iadd hx hb dX9_roundOf_63 ?_
          refine xl_i (y := nI (2 + y_13)) (nI_add 2 y_13) ?_
          refine xc_Vr hF (c_X9_ofs l D cI cJ cZ cS ta sa sv s.heap.size h0 ys yk yo yt mk0 yfa yfe mL mS mM yro yhe ygr mF mC mY yta mz mf mt mv mw ywa ybi ysi ynu ymo ms P Rn Wn fae fal fau fao farn farp fak fawn fawp fat fas k_2 (2 + y_13) (by omega) (by omega) (by omega) hs0 hs1 hs2 hsS hsM hsp hsr hsw hsR hsG) kv_X9_137 ⟨rfl, rfl, Nat.le_of_ble_eq_true rfl, Nat.le_of_ble_eq_true rfl⟩ ⟨Nat.le_of_ble_eq_true rfl, Nat.le_of_ble_eq_true rfl⟩ hK hN hZ hP hD hS hA [0, 1] rfl rfl 0 rfl rfl rfl rfl hl.1 rfl (Nat.le_of_ble_eq_true rfl) dX9_roundOf_64 (fun r_22 hw_r_22 => ?_)
          obtain ⟨y_23, rfl, h_24, h_25⟩ := hw_r_22
          refine lv_goto (tgt := 76) hx hb dX9_roundOf_67 (by decide) ?_
          exact W.iret (v := nI (y_23)) hx hb hr (fun t ht hW => ⟨⟨nI (y_23), mq, rfl, trivial, by rw [ht]; exact hP.sub [0, 1, 2] rfl, hD.sub [0, 1, 2] (by decide) rfl⟩, hS.F ht⟩) hS.2.2 dX9_roundOf_76 hlk
      · skip
        refine lv_aload_n hx hb dX9_roundOf_33 rfl (lv_at hl 0 rfl) ?_
        refine lv_iload_n hx hb dX9_roundOf_34 rfl (lv_at hl 1 rfl) ?_
        refine lv_iload_n hx hb dX9_roundOf_35 rfl (lv_at hl 2 rfl) ?_
        refine lv_iconst (v := (-1)) hx hb dX9_roundOf_36 (by decide) ?_
        refine lv_icmp_ne (tgt := 44) hx hb dX9_roundOf_37 (by decide) (fun c_26 => ?_) (fun c_26 => ?_)
        · skip
          refine lv_iconst (v := 1) hx hb dX9_roundOf_44 (by decide) ?_
          refine xc_Vr hF (c_X9_of l D cI cJ cZ cS ta sa sv s.heap.size h0 ys yk yo yt mk0 yfa yfe mL mS mM yro yhe ygr mF mC mY yta mz mf mt mv mw ywa ybi ysi ynu ymo ms P Rn Wn fae fal fau fao farn farp fak fawn fawp fat fas k_2 1 (by omega) (by omega) hs0 hs1 hs2 hsS hsM hsp hsr hsw hsR hsG) kv_X9_137 ⟨rfl, rfl, Nat.le_of_ble_eq_true rfl, Nat.le_of_ble_eq_true rfl⟩ ⟨Nat.le_of_ble_eq_true rfl, Nat.le_of_ble_eq_true rfl⟩ hK hN hZ hP hD hS hA [0, 1] rfl rfl 0 rfl rfl rfl rfl hl.1 rfl (Nat.le_of_ble_eq_true rfl) dX9_roundOf_45 (fun r_27 hw_r_27 => ?_)
          subst hw_r_27
          exact W.iret (v := ms (313 + 8 * k_2 + 1)) hx hb hr (fun t ht hW => ⟨⟨ms (313 + 8 * k_2 + 1), mq, rfl, trivial, by rw [ht]; exact hP.sub [0, 1, 2] rfl, hD.sub [0, 1, 2] (by decide) rfl⟩, hS.F ht⟩) hS.2.2 dX9_roundOf_48 hlk
        · skip
          refine lv_iconst (v := 0) hx hb dX9_roundOf_40 (by decide) ?_
          refine lv_goto (tgt := 45) hx hb dX9_roundOf_41 (by decide) ?_
          refine xc_Vr hF (c_X9_of l D cI cJ cZ cS ta sa sv s.heap.size h0 ys yk yo yt mk0 yfa yfe mL mS mM yro yhe ygr mF mC mY yta mz mf mt mv mw ywa ybi ysi ynu ymo ms P Rn Wn fae fal fau fao farn farp fak fawn fawp fat fas k_2 0 (by omega) (by omega) hs0 hs1 hs2 hsS hsM hsp hsr hsw hsR hsG) kv_X9_137 ⟨rfl, rfl, Nat.le_of_ble_eq_true rfl, Nat.le_of_ble_eq_true rfl⟩ ⟨Nat.le_of_ble_eq_true rfl, Nat.le_of_ble_eq_true rfl⟩ hK hN hZ hP hD hS hA [0, 1] rfl rfl 0 rfl rfl rfl rfl hl.1 rfl (Nat.le_of_ble_eq_true rfl) dX9_roundOf_45 (fun r_28 hw_r_28 => ?_)
          subst hw_r_28
          exact W.iret (v := ms (313 + 8 * k_2 + 0)) hx hb hr (fun t ht hW => ⟨⟨ms (313 + 8 * k_2 + 0), mq, rfl, trivial, by rw [ht]; exact hP.sub [0, 1, 2] rfl, hD.sub [0, 1, 2] (by decide) rfl⟩, hS.F ht⟩) hS.2.2 dX9_roundOf_48 hlk
    · skip
      refine lv_if_ne (tgt := 29) hx hb dX9_roundOf_19 (by decide) (fun c_29 => absurd (by decide) c_29) (fun c_29 => ?_)
      refine lv_aload_n hx hb dX9_roundOf_22 rfl (lv_at hl 0 rfl) ?_
      refine lv_ldc (v := (-1000000001)) hx hb hown (hu _ uw648) dX9_roundOf_23 ?_
      refine xc_Vi (wr := [(ys, .inl (cI, 449, .inl ms))]) hF (c_X9_finds_B l D cI cJ cZ cS ta sa sv s.heap.size h0 ys yk yo yt mk0 yfa yfe mL mS mM yro yhe ygr mF mC mY yta mz mf mt mv mw ywa ybi ysi ynu ymo mq ) kv_X9_70 ⟨rfl, rfl, Nat.le_of_ble_eq_true rfl, Nat.le_of_ble_eq_true rfl⟩ ⟨Nat.le_of_ble_eq_true rfl, Nat.le_of_ble_eq_true rfl⟩ hK hN hZ hP hD hS hA [0, 2] [1] rfl rfl rfl rfl (by decide) 0 rfl rfl rfl rfl hl.1 rfl (Nat.le_of_ble_eq_true rfl) dX9_roundOf_25 (fun r_30 u_r_30 H locs hw_r_30 hP hD hS => ?_)
      obtain ⟨mq2_31, rfl⟩ : ∃ z, z = u_r_30 := ⟨_, rfl⟩
      try dsimp only at hw_r_30
      have hP : va_P D vwCl [(ys, .inl (cI, 449, .inl ms)), (h0, .inr (9, [.ref ys, .ref yk, .ref yo, .ref yt, .int mk0, .ref yfa, .ref yfe, .int mL, .int mS, .int mM, .ref yro, .ref yhe, .ref ygr, .int mF, .int mC, .int mY, .ref yta, .int (nI (mz)), .int (nI (mf)), .int (nI (mt)), .int mv, .int mw, .ref ywa, .ref ybi, .ref ysi, .ref ynu, .ref ymo])), (yt, .inl (cI, 7, .inl mq2_31))] H := hP
      have hD : va_D A [(ys, .inl (cI, 449, .inl ms)), (h0, .inr (9, [.ref ys, .ref yk, .ref yo, .ref yt, .int mk0, .ref yfa, .ref yfe, .int mL, .int mS, .int mM, .ref yro, .ref yhe, .ref ygr, .int mF, .int mC, .int mY, .ref yta, .int (nI (mz)), .int (nI (mf)), .int (nI (mt)), .int mv, .int mw, .ref ywa, .ref ybi, .ref ysi, .ref ynu, .ref ymo])), (yt, .inl (cI, 7, .inl mq2_31))] := hD
      subst hw_r_30
      exact W.iret (v := (-1000000001)) hx hb hr (fun t ht hW => ⟨⟨(-1000000001), mq2_31, rfl, trivial, by rw [ht]; exact hP.sub [1, 0, 2] rfl, hD.sub [1, 0, 2] (by decide) rfl⟩, hS.F ht⟩) hS.2.2 dX9_roundOf_28 hlk
  · skip
    refine lv_if_eq (tgt := 22) hx hb dX9_roundOf_5 (by decide) (fun c_32 => ?_) (fun c_32 => absurd (by decide) c_32)
    refine lv_aload_n hx hb dX9_roundOf_22 rfl (lv_at hl 0 rfl) ?_
    refine lv_ldc (v := (-1000000001)) hx hb hown (hu _ uw648) dX9_roundOf_23 ?_
    refine xc_Vi (wr := [(ys, .inl (cI, 449, .inl ms))]) hF (c_X9_finds_B l D cI cJ cZ cS ta sa sv s.heap.size h0 ys yk yo yt mk0 yfa yfe mL mS mM yro yhe ygr mF mC mY yta mz mf mt mv mw ywa ybi ysi ynu ymo mq ) kv_X9_70 ⟨rfl, rfl, Nat.le_of_ble_eq_true rfl, Nat.le_of_ble_eq_true rfl⟩ ⟨Nat.le_of_ble_eq_true rfl, Nat.le_of_ble_eq_true rfl⟩ hK hN hZ hP hD hS hA [0, 2] [1] rfl rfl rfl rfl (by decide) 0 rfl rfl rfl rfl hl.1 rfl (Nat.le_of_ble_eq_true rfl) dX9_roundOf_25 (fun r_33 u_r_33 H locs hw_r_33 hP hD hS => ?_)
    obtain ⟨mq2_34, rfl⟩ : ∃ z, z = u_r_33 := ⟨_, rfl⟩
    try dsimp only at hw_r_33
    have hP : va_P D vwCl [(ys, .inl (cI, 449, .inl ms)), (h0, .inr (9, [.ref ys, .ref yk, .ref yo, .ref yt, .int mk0, .ref yfa, .ref yfe, .int mL, .int mS, .int mM, .ref yro, .ref yhe, .ref ygr, .int mF, .int mC, .int mY, .ref yta, .int (nI (mz)), .int (nI (mf)), .int (nI (mt)), .int mv, .int mw, .ref ywa, .ref ybi, .ref ysi, .ref ynu, .ref ymo])), (yt, .inl (cI, 7, .inl mq2_34))] H := hP
    have hD : va_D A [(ys, .inl (cI, 449, .inl ms)), (h0, .inr (9, [.ref ys, .ref yk, .ref yo, .ref yt, .int mk0, .ref yfa, .ref yfe, .int mL, .int mS, .int mM, .ref yro, .ref yhe, .ref ygr, .int mF, .int mC, .int mY, .ref yta, .int (nI (mz)), .int (nI (mf)), .int (nI (mt)), .int mv, .int mw, .ref ywa, .ref ybi, .ref ysi, .ref ynu, .ref ymo])), (yt, .inl (cI, 7, .inl mq2_34))] := hD
    subst hw_r_33
    exact W.iret (v := (-1000000001)) hx hb hr (fun t ht hW => ⟨⟨(-1000000001), mq2_34, rfl, trivial, by rw [ht]; exact hP.sub [1, 0, 2] rfl, hD.sub [1, 0, 2] (by decide) rfl⟩, hS.F ht⟩) hS.2.2 dX9_roundOf_28 hlk
set_option maxHeartbeats 4000000 in
set_option maxRecDepth 100000 in
theorem c_X9_as (l : Launch) (D : va_G) (cI cJ cZ cS : ClassId) (ta : Nat) (sa sv : Nat → Nat) (sz : Nat) (h0 : Nat) (ys : Nat) (yk : Nat) (yo : Nat) (yt : Nat) (mk0 : Int32) (yfa : Nat) (yfe : Nat) (mL : Int32) (mS : Int32) (mM : Int32) (yro : Nat) (yhe : Nat) (ygr : Nat) (mF : Int32) (mC : Int32) (mY : Int32) (yta : Nat) (mz : Nat) (mf : Nat) (mt : Nat) (mv : Int32) (mw : Int32) (ywa : Nat) (ybi : Nat) (ysi : Nat) (ynu : Nat) (ymo : Nat) (ms : Nat → Int32) (mq : Nat → Int32) (P : Nat) (Rn : Nat) (Wn : Nat) (fae : Nat → Int32) (fal : Nat → Int32) (fau : Nat → Int32) (fao : Nat → Int32) (farn : Nat → Int32) (farp : Nat → Int32) (fak : Nat → Int32) (fawn : Nat → Int32) (fawp : Nat → Int32) (fat : Nat → Int32) (fas : Nat → Int32) (p0 : Int32) (p1 : Int32) (hs0 : ms 0 = nI P) (hs1 : ms 1 = nI Rn) (hs2 : ms 2 = nI Wn) (hsS : SI ms) (hsM : MI ms) (hsp : P ≤ 10) (hsr : Rn ≤ 8) (hsw : Wn ≤ 8) (hsR : RI Rn ms) (hsG : FR P ms fae fal fau fao farn farp fak fawn fawp fat fas) : Met l yX9_as (Cond.code yX9_as cX9_as 5 (some .int) :: wsU) ({ frames := 2, cells := 0, slots := 0, locals := 46 }) (va_Pc [.ref h0, .int p0, .int p1] (XW D (xT cI cJ cZ cS) ta sa sv [(h0, .inr (9, [.ref ys, .ref yk, .ref yo, .ref yt, .int mk0, .ref yfa, .ref yfe, .int mL, .int mS, .int mM, .ref yro, .ref yhe, .ref ygr, .int mF, .int mC, .int mY, .ref yta, .int (nI (mz)), .int (nI (mf)), .int (nI (mt)), .int mv, .int mw, .ref ywa, .ref ybi, .ref ysi, .ref ynu, .ref ymo])), (ys, .inl (cI, 449, .inl ms)), (yt, .inl (cI, 7, .inl mq))] sz)) (XQi (fun (r : Int32) (mq2 : (Nat → Int32)) => (True)) D (fun (mq2 : Nat → Int32) => [(h0, .inr (9, [.ref ys, .ref yk, .ref yo, .ref yt, .int mk0, .ref yfa, .ref yfe, .int mL, .int mS, .int mM, .ref yro, .ref yhe, .ref ygr, .int mF, .int mC, .int mY, .ref yta, .int (nI (mz)), .int (nI (mf)), .int (nI (mt)), .int mv, .int mw, .ref ywa, .ref ybi, .ref ysi, .ref ynu, .ref ymo])), (ys, .inl (cI, 449, .inl ms)), (yt, .inl (cI, 7, .inl mq2))]) (va_A [(h0, .inr (9, [.ref ys, .ref yk, .ref yo, .ref yt, .int mk0, .ref yfa, .ref yfe, .int mL, .int mS, .int mM, .ref yro, .ref yhe, .ref ygr, .int mF, .int mC, .int mY, .ref yta, .int (nI (mz)), .int (nI (mf)), .int (nI (mt)), .int mv, .int mw, .ref ywa, .ref ybi, .ref ysi, .ref ynu, .ref ymo])), (ys, .inl (cI, 449, .inl ms)), (yt, .inl (cI, 7, .inl mq))] sz)) 0 0 (va_A [(h0, .inr (9, [.ref ys, .ref yk, .ref yo, .ref yt, .int mk0, .ref yfa, .ref yfe, .int mL, .int mS, .int mM, .ref yro, .ref yhe, .ref ygr, .int mF, .int mC, .int mY, .ref yta, .int (nI (mz)), .int (nI (mf)), .int (nI (mt)), .int mv, .int mw, .ref ywa, .ref ybi, .ref ysi, .ref ynu, .ref ymo])), (ys, .inl (cI, 449, .inl ms)), (yt, .inl (cI, 7, .inl mq))] sz) := by
  refine xh (QA := fun A => XQi (fun (r : Int32) (mq2 : (Nat → Int32)) => (True)) D (fun (mq2 : Nat → Int32) => [(h0, .inr (9, [.ref ys, .ref yk, .ref yo, .ref yt, .int mk0, .ref yfa, .ref yfe, .int mL, .int mS, .int mM, .ref yro, .ref yhe, .ref ygr, .int mF, .int mC, .int mY, .ref yta, .int (nI (mz)), .int (nI (mf)), .int (nI (mt)), .int mv, .int mw, .ref ywa, .ref ybi, .ref ysi, .ref ynu, .ref ymo])), (ys, .inl (cI, 449, .inl ms)), (yt, .inl (cI, 7, .inl mq2))]) A) (fr := fun A => A) (by decide) (Nat.le_of_ble_eq_true rfl) ?_
  intro p e s m below meth c ls A hF hr hlk hin hsz hP hK hD hN hZ hA hS hl
  have hF : CallFix p m c cX9_as 5 s _ _ RX9 := hF
  have hx := hF.1
  have hb := hF.2.1
  have hml := hF.2.2.1
  have hown := hF.2.2.2.1
  have hu : ∀ w ∈ wsU, w.before _ s = true := fun w h => hF.2.2.2.2 w (List.mem_cons_of_mem _ h)
  have hl : lv_has ls 5 [(0, .ref h0), (1, .int p0), (2, .int p1)] := hl
  refine lv_aload_n hx hb dX9_as_0 rfl (lv_at hl 0 rfl) ?_
  refine lv_iload_n hx hb dX9_as_1 rfl (lv_at hl 1 rfl) ?_
  refine xc_Vr hF (c_X9_isRound l D cI cJ cZ cS ta sa sv s.heap.size h0 ys yk yo yt mk0 yfa yfe mL mS mM yro yhe ygr mF mC mY yta mz mf mt mv mw ywa ybi ysi ynu ymo ms P Rn Wn fae fal fau fao farn farp fak fawn fawp fat fas p0 hs0 hs1 hs2 hsS hsM hsp hsr hsw hsR hsG) kv_X9_123 ⟨rfl, rfl, Nat.le_of_ble_eq_true rfl, Nat.le_of_ble_eq_true rfl⟩ ⟨Nat.le_of_ble_eq_true rfl, Nat.le_of_ble_eq_true rfl⟩ hK hN hZ hP hD hS hA [0, 1] rfl rfl 0 rfl rfl rfl rfl hl.1 rfl (Nat.le_of_ble_eq_true rfl) dX9_as_2 (fun r_1 hw_r_1 => ?_)
  rcases hw_r_1 with ⟨k_2, rfl, rfl, h_4⟩ | ⟨rfl, h_5⟩
  · skip
    refine lv_if_eq (tgt := 20) hx hb dX9_as_5 (by decide) (fun c_6 => absurd c_6 (by decide)) (fun c_6 => ?_)
    refine lv_iload_n hx hb dX9_as_8 rfl (lv_at hl 2 rfl) ?_
    refine lv_i2l (v := p1.toInt64) hx hb dX9_as_9 rfl ?_
    refine lv_lconst (v := 0) hx hb dX9_as_10 (by decide) ?_
    refine xl_l (y := (0 : Int32).toInt64) (by decide) ?_
    refine lv_ldc2 (v := 6) hx hb hown (hu _ uw719) dX9_as_11 ?_
    refine xl_l (y := (6 : Int32).toInt64) (by decide) ?_
    refine xc_Sr hF (c_X9_in l D cI cJ cZ cS ta sa sv s.heap.size p1 0 6 ) ks_X9_57 ⟨rfl, rfl, Nat.le_of_ble_eq_true rfl, Nat.le_of_ble_eq_true rfl⟩ ⟨Nat.le_of_ble_eq_true rfl, Nat.le_of_ble_eq_true rfl⟩ hK hN hZ hP hD hS hA [] rfl rfl rfl hl.1 rfl (Nat.le_of_ble_eq_true rfl) dX9_as_14 (fun r_7 hw_r_7 => ?_)
    rcases hw_r_7 with ⟨rfl, h_8, h_9⟩ | ⟨rfl, h_10⟩
    · skip
      refine lv_if_ne (tgt := 27) hx hb dX9_as_17 (by decide) (fun c_11 => ?_) (fun c_11 => absurd c_11 (by decide))
      refine lv_aload_n hx hb dX9_as_27 rfl (lv_at hl 0 rfl) ?_
      refine lv_iload_n hx hb dX9_as_28 rfl (lv_at hl 1 rfl) ?_
      refine lv_iconst (v := 0) hx hb dX9_as_29 (by decide) ?_
      refine xc_Vr hF (c_X9_of l D cI cJ cZ cS ta sa sv s.heap.size h0 ys yk yo yt mk0 yfa yfe mL mS mM yro yhe ygr mF mC mY yta mz mf mt mv mw ywa ybi ysi ynu ymo ms P Rn Wn fae fal fau fao farn farp fak fawn fawp fat fas k_2 0 (by omega) (by omega) hs0 hs1 hs2 hsS hsM hsp hsr hsw hsR hsG) kv_X9_137 ⟨rfl, rfl, Nat.le_of_ble_eq_true rfl, Nat.le_of_ble_eq_true rfl⟩ ⟨Nat.le_of_ble_eq_true rfl, Nat.le_of_ble_eq_true rfl⟩ hK hN hZ hP hD hS hA [0, 1] rfl rfl 0 rfl rfl rfl rfl hl.1 rfl (Nat.le_of_ble_eq_true rfl) dX9_as_30 (fun r_12 hw_r_12 => ?_)
      subst hw_r_12
      refine lv_istore_n (lv' := [(3, .int (ms (313 + 8 * k_2 + 0))), (0, .ref h0), (1, .int (nI (k_2))), (2, .int p1)]) hx hb dX9_as_33 rfl hl (by decide) rfl (fun ls hl => ?_)
      refine lv_iload_n hx hb dX9_as_34 rfl (lv_at hl 3 rfl) ?_
      refine lv_if_eq (tgt := 64) hx hb dX9_as_35 (by decide) (fun c_13 => ?_) (fun c_13 => ?_)
      · skip
        refine lv_iconst (v := 1) hx hb dX9_as_64 (by decide) ?_
        refine lv_goto (tgt := 69) hx hb dX9_as_65 (by decide) ?_
        refine lv_istore (lv' := [(4, .int 1), (3, .int (ms (313 + 8 * k_2 + 0))), (0, .ref h0), (1, .int (nI (k_2))), (2, .int p1)]) hx hb dX9_as_69 hl (by decide) rfl (fun ls hl => ?_)
        refine lv_iload hx hb dX9_as_71 (lv_at hl 0 rfl) ?_
        refine lv_if_eq (tgt := 85) hx hb dX9_as_73 (by decide) (fun c_14 => absurd c_14 (by decide)) (fun c_14 => ?_)
        refine lv_aload_n hx hb dX9_as_76 rfl (lv_at hl 2 rfl) ?_
        refine lv_iload_n hx hb dX9_as_77 rfl (lv_at hl 3 rfl) ?_
        refine lv_iconst (v := 1) hx hb dX9_as_78 (by decide) ?_
        refine xc_Vr hF (c_X9_of1 l D cI cJ cZ cS ta sa sv s.heap.size h0 ys yk yo yt mk0 yfa yfe mL mS mM yro yhe ygr mF mC mY yta mz mf mt mv mw ywa ybi ysi ynu ymo ms P Rn Wn fae fal fau fao farn farp fak fawn fawp fat fas k_2 (by omega) hs0 hs1 hs2 hsS hsM hsp hsr hsw hsR hsG) kv_X9_137 ⟨rfl, rfl, Nat.le_of_ble_eq_true rfl, Nat.le_of_ble_eq_true rfl⟩ ⟨Nat.le_of_ble_eq_true rfl, Nat.le_of_ble_eq_true rfl⟩ hK hN hZ hP hD hS hA [0, 1] rfl rfl 0 rfl rfl rfl rfl hl.1 rfl (Nat.le_of_ble_eq_true rfl) dX9_as_79 (fun r_15 hw_r_15 => ?_)
        obtain ⟨q_16, rfl, h_17, h_18, h_19⟩ := hw_r_15
        refine lv_goto (tgt := 91) hx hb dX9_as_82 (by decide) ?_
        exact W.iret (v := nI (q_16)) hx hb hr (fun t ht hW => ⟨⟨nI (q_16), mq, rfl, trivial, by rw [ht]; exact hP.sub [0, 1, 2] rfl, hD.sub [0, 1, 2] (by decide) rfl⟩, hS.F ht⟩) hS.2.2 dX9_as_91 hlk
      · skip
        refine lv_iload_n hx hb dX9_as_38 rfl (lv_at hl 0 rfl) ?_
        refine lv_iload_n hx hb dX9_as_39 rfl (lv_at hl 3 rfl) ?_
        refine lv_icmp_eq (tgt := 64) hx hb dX9_as_40 (by decide) (fun c_20 => ?_) (fun c_20 => ?_)
        · skip
          refine lv_iconst (v := 1) hx hb dX9_as_64 (by decide) ?_
          refine lv_goto (tgt := 69) hx hb dX9_as_65 (by decide) ?_
          refine lv_istore (lv' := [(4, .int 1), (3, .int (ms (313 + 8 * k_2 + 0))), (0, .ref h0), (1, .int (nI (k_2))), (2, .int p1)]) hx hb dX9_as_69 hl (by decide) rfl (fun ls hl => ?_)
          refine lv_iload hx hb dX9_as_71 (lv_at hl 0 rfl) ?_
          refine lv_if_eq (tgt := 85) hx hb dX9_as_73 (by decide) (fun c_21 => absurd c_21 (by decide)) (fun c_21 => ?_)
          refine lv_aload_n hx hb dX9_as_76 rfl (lv_at hl 2 rfl) ?_
          refine lv_iload_n hx hb dX9_as_77 rfl (lv_at hl 3 rfl) ?_
          refine lv_iconst (v := 1) hx hb dX9_as_78 (by decide) ?_
          refine xc_Vr hF (c_X9_of1 l D cI cJ cZ cS ta sa sv s.heap.size h0 ys yk yo yt mk0 yfa yfe mL mS mM yro yhe ygr mF mC mY yta mz mf mt mv mw ywa ybi ysi ynu ymo ms P Rn Wn fae fal fau fao farn farp fak fawn fawp fat fas k_2 (by omega) hs0 hs1 hs2 hsS hsM hsp hsr hsw hsR hsG) kv_X9_137 ⟨rfl, rfl, Nat.le_of_ble_eq_true rfl, Nat.le_of_ble_eq_true rfl⟩ ⟨Nat.le_of_ble_eq_true rfl, Nat.le_of_ble_eq_true rfl⟩ hK hN hZ hP hD hS hA [0, 1] rfl rfl 0 rfl rfl rfl rfl hl.1 rfl (Nat.le_of_ble_eq_true rfl) dX9_as_79 (fun r_22 hw_r_22 => ?_)
          obtain ⟨q_23, rfl, h_24, h_25, h_26⟩ := hw_r_22
          refine lv_goto (tgt := 91) hx hb dX9_as_82 (by decide) ?_
          exact W.iret (v := nI (q_23)) hx hb hr (fun t ht hW => ⟨⟨nI (q_23), mq, rfl, trivial, by rw [ht]; exact hP.sub [0, 1, 2] rfl, hD.sub [0, 1, 2] (by decide) rfl⟩, hS.F ht⟩) hS.2.2 dX9_as_91 hlk
        · skip
          refine lv_iload_n hx hb dX9_as_43 rfl (lv_at hl 3 rfl) ?_
          refine lv_iconst (v := 1) hx hb dX9_as_44 (by decide) ?_
          refine lv_icmp_ne (tgt := 53) hx hb dX9_as_45 (by decide) (fun c_27 => ?_) (fun c_27 => ?_)
          · skip
            refine lv_iload_n hx hb dX9_as_53 rfl (lv_at hl 3 rfl) ?_
            refine lv_iconst (v := 2) hx hb dX9_as_54 (by decide) ?_
            refine lv_icmp_ne (tgt := 68) hx hb dX9_as_55 (by decide) (fun c_28 => ?_) (fun c_28 => ?_)
            · skip
              refine lv_iconst (v := 0) hx hb dX9_as_68 (by decide) ?_
              refine lv_istore (lv' := [(4, .int 0), (3, .int (ms (313 + 8 * k_2 + 0))), (0, .ref h0), (1, .int (nI (k_2))), (2, .int p1)]) hx hb dX9_as_69 hl (by decide) rfl (fun ls hl => ?_)
              refine lv_iload hx hb dX9_as_71 (lv_at hl 0 rfl) ?_
              refine lv_if_eq (tgt := 85) hx hb dX9_as_73 (by decide) (fun c_29 => ?_) (fun c_29 => absurd (by decide) c_29)
              refine lv_aload_n hx hb dX9_as_85 rfl (lv_at hl 2 rfl) ?_
              refine lv_ldc (v := (-1000000003)) hx hb hown (hu _ uw765) dX9_as_86 ?_
              refine xc_Vi (wr := [(ys, .inl (cI, 449, .inl ms))]) hF (c_X9_finds_K l D cI cJ cZ cS ta sa sv s.heap.size h0 ys yk yo yt mk0 yfa yfe mL mS mM yro yhe ygr mF mC mY yta mz mf mt mv mw ywa ybi ysi ynu ymo mq ) kv_X9_70 ⟨rfl, rfl, Nat.le_of_ble_eq_true rfl, Nat.le_of_ble_eq_true rfl⟩ ⟨Nat.le_of_ble_eq_true rfl, Nat.le_of_ble_eq_true rfl⟩ hK hN hZ hP hD hS hA [0, 2] [1] rfl rfl rfl rfl (by decide) 0 rfl rfl rfl rfl hl.1 rfl (Nat.le_of_ble_eq_true rfl) dX9_as_88 (fun r_30 u_r_30 H locs hw_r_30 hP hD hS => ?_)
              obtain ⟨mq2_31, rfl⟩ : ∃ z, z = u_r_30 := ⟨_, rfl⟩
              try dsimp only at hw_r_30
              have hP : va_P D vwCl [(ys, .inl (cI, 449, .inl ms)), (h0, .inr (9, [.ref ys, .ref yk, .ref yo, .ref yt, .int mk0, .ref yfa, .ref yfe, .int mL, .int mS, .int mM, .ref yro, .ref yhe, .ref ygr, .int mF, .int mC, .int mY, .ref yta, .int (nI (mz)), .int (nI (mf)), .int (nI (mt)), .int mv, .int mw, .ref ywa, .ref ybi, .ref ysi, .ref ynu, .ref ymo])), (yt, .inl (cI, 7, .inl mq2_31))] H := hP
              have hD : va_D A [(ys, .inl (cI, 449, .inl ms)), (h0, .inr (9, [.ref ys, .ref yk, .ref yo, .ref yt, .int mk0, .ref yfa, .ref yfe, .int mL, .int mS, .int mM, .ref yro, .ref yhe, .ref ygr, .int mF, .int mC, .int mY, .ref yta, .int (nI (mz)), .int (nI (mf)), .int (nI (mt)), .int mv, .int mw, .ref ywa, .ref ybi, .ref ysi, .ref ynu, .ref ymo])), (yt, .inl (cI, 7, .inl mq2_31))] := hD
              subst hw_r_30
              exact W.iret (v := (-1000000003)) hx hb hr (fun t ht hW => ⟨⟨(-1000000003), mq2_31, rfl, trivial, by rw [ht]; exact hP.sub [1, 0, 2] rfl, hD.sub [1, 0, 2] (by decide) rfl⟩, hS.F ht⟩) hS.2.2 dX9_as_91 hlk
            · skip
              refine lv_iload_n hx hb dX9_as_58 rfl (lv_at hl 0 rfl) ?_
              refine lv_bipush (v := 6) hx hb dX9_as_59 (by decide) ?_
              refine lv_icmp_ne (tgt := 68) hx hb dX9_as_61 (by decide) (fun c_32 => ?_) (fun c_32 => ?_)
              · skip
                refine lv_iconst (v := 0) hx hb dX9_as_68 (by decide) ?_
                refine lv_istore (lv' := [(4, .int 0), (3, .int (ms (313 + 8 * k_2 + 0))), (0, .ref h0), (1, .int (nI (k_2))), (2, .int p1)]) hx hb dX9_as_69 hl (by decide) rfl (fun ls hl => ?_)
                refine lv_iload hx hb dX9_as_71 (lv_at hl 0 rfl) ?_
                refine lv_if_eq (tgt := 85) hx hb dX9_as_73 (by decide) (fun c_33 => ?_) (fun c_33 => absurd (by decide) c_33)
                refine lv_aload_n hx hb dX9_as_85 rfl (lv_at hl 2 rfl) ?_
                refine lv_ldc (v := (-1000000003)) hx hb hown (hu _ uw765) dX9_as_86 ?_
                refine xc_Vi (wr := [(ys, .inl (cI, 449, .inl ms))]) hF (c_X9_finds_K l D cI cJ cZ cS ta sa sv s.heap.size h0 ys yk yo yt mk0 yfa yfe mL mS mM yro yhe ygr mF mC mY yta mz mf mt mv mw ywa ybi ysi ynu ymo mq ) kv_X9_70 ⟨rfl, rfl, Nat.le_of_ble_eq_true rfl, Nat.le_of_ble_eq_true rfl⟩ ⟨Nat.le_of_ble_eq_true rfl, Nat.le_of_ble_eq_true rfl⟩ hK hN hZ hP hD hS hA [0, 2] [1] rfl rfl rfl rfl (by decide) 0 rfl rfl rfl rfl hl.1 rfl (Nat.le_of_ble_eq_true rfl) dX9_as_88 (fun r_34 u_r_34 H locs hw_r_34 hP hD hS => ?_)
                obtain ⟨mq2_35, rfl⟩ : ∃ z, z = u_r_34 := ⟨_, rfl⟩
                try dsimp only at hw_r_34
                have hP : va_P D vwCl [(ys, .inl (cI, 449, .inl ms)), (h0, .inr (9, [.ref ys, .ref yk, .ref yo, .ref yt, .int mk0, .ref yfa, .ref yfe, .int mL, .int mS, .int mM, .ref yro, .ref yhe, .ref ygr, .int mF, .int mC, .int mY, .ref yta, .int (nI (mz)), .int (nI (mf)), .int (nI (mt)), .int mv, .int mw, .ref ywa, .ref ybi, .ref ysi, .ref ynu, .ref ymo])), (yt, .inl (cI, 7, .inl mq2_35))] H := hP
                have hD : va_D A [(ys, .inl (cI, 449, .inl ms)), (h0, .inr (9, [.ref ys, .ref yk, .ref yo, .ref yt, .int mk0, .ref yfa, .ref yfe, .int mL, .int mS, .int mM, .ref yro, .ref yhe, .ref ygr, .int mF, .int mC, .int mY, .ref yta, .int (nI (mz)), .int (nI (mf)), .int (nI (mt)), .int mv, .int mw, .ref ywa, .ref ybi, .ref ysi, .ref ynu, .ref ymo])), (yt, .inl (cI, 7, .inl mq2_35))] := hD
                subst hw_r_34
                exact W.iret (v := (-1000000003)) hx hb hr (fun t ht hW => ⟨⟨(-1000000003), mq2_35, rfl, trivial, by rw [ht]; exact hP.sub [1, 0, 2] rfl, hD.sub [1, 0, 2] (by decide) rfl⟩, hS.F ht⟩) hS.2.2 dX9_as_91 hlk
              · skip
                refine lv_iconst (v := 1) hx hb dX9_as_64 (by decide) ?_
                refine lv_goto (tgt := 69) hx hb dX9_as_65 (by decide) ?_
                refine lv_istore (lv' := [(4, .int 1), (3, .int (ms (313 + 8 * k_2 + 0))), (0, .ref h0), (1, .int (nI (k_2))), (2, .int p1)]) hx hb dX9_as_69 hl (by decide) rfl (fun ls hl => ?_)
                refine lv_iload hx hb dX9_as_71 (lv_at hl 0 rfl) ?_
                refine lv_if_eq (tgt := 85) hx hb dX9_as_73 (by decide) (fun c_36 => absurd c_36 (by decide)) (fun c_36 => ?_)
                refine lv_aload_n hx hb dX9_as_76 rfl (lv_at hl 2 rfl) ?_
                refine lv_iload_n hx hb dX9_as_77 rfl (lv_at hl 3 rfl) ?_
                refine lv_iconst (v := 1) hx hb dX9_as_78 (by decide) ?_
                refine xc_Vr hF (c_X9_of1 l D cI cJ cZ cS ta sa sv s.heap.size h0 ys yk yo yt mk0 yfa yfe mL mS mM yro yhe ygr mF mC mY yta mz mf mt mv mw ywa ybi ysi ynu ymo ms P Rn Wn fae fal fau fao farn farp fak fawn fawp fat fas k_2 (by omega) hs0 hs1 hs2 hsS hsM hsp hsr hsw hsR hsG) kv_X9_137 ⟨rfl, rfl, Nat.le_of_ble_eq_true rfl, Nat.le_of_ble_eq_true rfl⟩ ⟨Nat.le_of_ble_eq_true rfl, Nat.le_of_ble_eq_true rfl⟩ hK hN hZ hP hD hS hA [0, 1] rfl rfl 0 rfl rfl rfl rfl hl.1 rfl (Nat.le_of_ble_eq_true rfl) dX9_as_79 (fun r_37 hw_r_37 => ?_)
                obtain ⟨q_38, rfl, h_39, h_40, h_41⟩ := hw_r_37
                refine lv_goto (tgt := 91) hx hb dX9_as_82 (by decide) ?_
                exact W.iret (v := nI (q_38)) hx hb hr (fun t ht hW => ⟨⟨nI (q_38), mq, rfl, trivial, by rw [ht]; exact hP.sub [0, 1, 2] rfl, hD.sub [0, 1, 2] (by decide) rfl⟩, hS.F ht⟩) hS.2.2 dX9_as_91 hlk
          · skip
            refine lv_iload_n hx hb dX9_as_48 rfl (lv_at hl 0 rfl) ?_
            refine lv_iconst (v := 4) hx hb dX9_as_49 (by decide) ?_
            refine lv_icmp_eq (tgt := 64) hx hb dX9_as_50 (by decide) (fun c_42 => ?_) (fun c_42 => ?_)
            · skip
              refine lv_iconst (v := 1) hx hb dX9_as_64 (by decide) ?_
              refine lv_goto (tgt := 69) hx hb dX9_as_65 (by decide) ?_
              refine lv_istore (lv' := [(4, .int 1), (3, .int (ms (313 + 8 * k_2 + 0))), (0, .ref h0), (1, .int (nI (k_2))), (2, .int p1)]) hx hb dX9_as_69 hl (by decide) rfl (fun ls hl => ?_)
              refine lv_iload hx hb dX9_as_71 (lv_at hl 0 rfl) ?_
              refine lv_if_eq (tgt := 85) hx hb dX9_as_73 (by decide) (fun c_43 => absurd c_43 (by decide)) (fun c_43 => ?_)
              refine lv_aload_n hx hb dX9_as_76 rfl (lv_at hl 2 rfl) ?_
              refine lv_iload_n hx hb dX9_as_77 rfl (lv_at hl 3 rfl) ?_
              refine lv_iconst (v := 1) hx hb dX9_as_78 (by decide) ?_
              refine xc_Vr hF (c_X9_of1 l D cI cJ cZ cS ta sa sv s.heap.size h0 ys yk yo yt mk0 yfa yfe mL mS mM yro yhe ygr mF mC mY yta mz mf mt mv mw ywa ybi ysi ynu ymo ms P Rn Wn fae fal fau fao farn farp fak fawn fawp fat fas k_2 (by omega) hs0 hs1 hs2 hsS hsM hsp hsr hsw hsR hsG) kv_X9_137 ⟨rfl, rfl, Nat.le_of_ble_eq_true rfl, Nat.le_of_ble_eq_true rfl⟩ ⟨Nat.le_of_ble_eq_true rfl, Nat.le_of_ble_eq_true rfl⟩ hK hN hZ hP hD hS hA [0, 1] rfl rfl 0 rfl rfl rfl rfl hl.1 rfl (Nat.le_of_ble_eq_true rfl) dX9_as_79 (fun r_44 hw_r_44 => ?_)
              obtain ⟨q_45, rfl, h_46, h_47, h_48⟩ := hw_r_44
              refine lv_goto (tgt := 91) hx hb dX9_as_82 (by decide) ?_
              exact W.iret (v := nI (q_45)) hx hb hr (fun t ht hW => ⟨⟨nI (q_45), mq, rfl, trivial, by rw [ht]; exact hP.sub [0, 1, 2] rfl, hD.sub [0, 1, 2] (by decide) rfl⟩, hS.F ht⟩) hS.2.2 dX9_as_91 hlk
            · skip
              refine lv_iload_n hx hb dX9_as_53 rfl (lv_at hl 3 rfl) ?_
              refine lv_iconst (v := 2) hx hb dX9_as_54 (by decide) ?_
              refine lv_icmp_ne (tgt := 68) hx hb dX9_as_55 (by decide) (fun c_49 => ?_) (fun c_49 => ?_)
              · skip
                refine lv_iconst (v := 0) hx hb dX9_as_68 (by decide) ?_
                refine lv_istore (lv' := [(4, .int 0), (3, .int (ms (313 + 8 * k_2 + 0))), (0, .ref h0), (1, .int (nI (k_2))), (2, .int p1)]) hx hb dX9_as_69 hl (by decide) rfl (fun ls hl => ?_)
                refine lv_iload hx hb dX9_as_71 (lv_at hl 0 rfl) ?_
                refine lv_if_eq (tgt := 85) hx hb dX9_as_73 (by decide) (fun c_50 => ?_) (fun c_50 => absurd (by decide) c_50)
                refine lv_aload_n hx hb dX9_as_85 rfl (lv_at hl 2 rfl) ?_
                refine lv_ldc (v := (-1000000003)) hx hb hown (hu _ uw765) dX9_as_86 ?_
                refine xc_Vi (wr := [(ys, .inl (cI, 449, .inl ms))]) hF (c_X9_finds_K l D cI cJ cZ cS ta sa sv s.heap.size h0 ys yk yo yt mk0 yfa yfe mL mS mM yro yhe ygr mF mC mY yta mz mf mt mv mw ywa ybi ysi ynu ymo mq ) kv_X9_70 ⟨rfl, rfl, Nat.le_of_ble_eq_true rfl, Nat.le_of_ble_eq_true rfl⟩ ⟨Nat.le_of_ble_eq_true rfl, Nat.le_of_ble_eq_true rfl⟩ hK hN hZ hP hD hS hA [0, 2] [1] rfl rfl rfl rfl (by decide) 0 rfl rfl rfl rfl hl.1 rfl (Nat.le_of_ble_eq_true rfl) dX9_as_88 (fun r_51 u_r_51 H locs hw_r_51 hP hD hS => ?_)
                obtain ⟨mq2_52, rfl⟩ : ∃ z, z = u_r_51 := ⟨_, rfl⟩
                try dsimp only at hw_r_51
                have hP : va_P D vwCl [(ys, .inl (cI, 449, .inl ms)), (h0, .inr (9, [.ref ys, .ref yk, .ref yo, .ref yt, .int mk0, .ref yfa, .ref yfe, .int mL, .int mS, .int mM, .ref yro, .ref yhe, .ref ygr, .int mF, .int mC, .int mY, .ref yta, .int (nI (mz)), .int (nI (mf)), .int (nI (mt)), .int mv, .int mw, .ref ywa, .ref ybi, .ref ysi, .ref ynu, .ref ymo])), (yt, .inl (cI, 7, .inl mq2_52))] H := hP
                have hD : va_D A [(ys, .inl (cI, 449, .inl ms)), (h0, .inr (9, [.ref ys, .ref yk, .ref yo, .ref yt, .int mk0, .ref yfa, .ref yfe, .int mL, .int mS, .int mM, .ref yro, .ref yhe, .ref ygr, .int mF, .int mC, .int mY, .ref yta, .int (nI (mz)), .int (nI (mf)), .int (nI (mt)), .int mv, .int mw, .ref ywa, .ref ybi, .ref ysi, .ref ynu, .ref ymo])), (yt, .inl (cI, 7, .inl mq2_52))] := hD
                subst hw_r_51
                exact W.iret (v := (-1000000003)) hx hb hr (fun t ht hW => ⟨⟨(-1000000003), mq2_52, rfl, trivial, by rw [ht]; exact hP.sub [1, 0, 2] rfl, hD.sub [1, 0, 2] (by decide) rfl⟩, hS.F ht⟩) hS.2.2 dX9_as_91 hlk
              · skip
                refine lv_iload_n hx hb dX9_as_58 rfl (lv_at hl 0 rfl) ?_
                refine lv_bipush (v := 6) hx hb dX9_as_59 (by decide) ?_
                refine lv_icmp_ne (tgt := 68) hx hb dX9_as_61 (by decide) (fun c_53 => ?_) (fun c_53 => ?_)
                · skip
                  refine lv_iconst (v := 0) hx hb dX9_as_68 (by decide) ?_
                  refine lv_istore (lv' := [(4, .int 0), (3, .int (ms (313 + 8 * k_2 + 0))), (0, .ref h0), (1, .int (nI (k_2))), (2, .int p1)]) hx hb dX9_as_69 hl (by decide) rfl (fun ls hl => ?_)
                  refine lv_iload hx hb dX9_as_71 (lv_at hl 0 rfl) ?_
                  refine lv_if_eq (tgt := 85) hx hb dX9_as_73 (by decide) (fun c_54 => ?_) (fun c_54 => absurd (by decide) c_54)
                  refine lv_aload_n hx hb dX9_as_85 rfl (lv_at hl 2 rfl) ?_
                  refine lv_ldc (v := (-1000000003)) hx hb hown (hu _ uw765) dX9_as_86 ?_
                  refine xc_Vi (wr := [(ys, .inl (cI, 449, .inl ms))]) hF (c_X9_finds_K l D cI cJ cZ cS ta sa sv s.heap.size h0 ys yk yo yt mk0 yfa yfe mL mS mM yro yhe ygr mF mC mY yta mz mf mt mv mw ywa ybi ysi ynu ymo mq ) kv_X9_70 ⟨rfl, rfl, Nat.le_of_ble_eq_true rfl, Nat.le_of_ble_eq_true rfl⟩ ⟨Nat.le_of_ble_eq_true rfl, Nat.le_of_ble_eq_true rfl⟩ hK hN hZ hP hD hS hA [0, 2] [1] rfl rfl rfl rfl (by decide) 0 rfl rfl rfl rfl hl.1 rfl (Nat.le_of_ble_eq_true rfl) dX9_as_88 (fun r_55 u_r_55 H locs hw_r_55 hP hD hS => ?_)
                  obtain ⟨mq2_56, rfl⟩ : ∃ z, z = u_r_55 := ⟨_, rfl⟩
                  try dsimp only at hw_r_55
                  have hP : va_P D vwCl [(ys, .inl (cI, 449, .inl ms)), (h0, .inr (9, [.ref ys, .ref yk, .ref yo, .ref yt, .int mk0, .ref yfa, .ref yfe, .int mL, .int mS, .int mM, .ref yro, .ref yhe, .ref ygr, .int mF, .int mC, .int mY, .ref yta, .int (nI (mz)), .int (nI (mf)), .int (nI (mt)), .int mv, .int mw, .ref ywa, .ref ybi, .ref ysi, .ref ynu, .ref ymo])), (yt, .inl (cI, 7, .inl mq2_56))] H := hP
                  have hD : va_D A [(ys, .inl (cI, 449, .inl ms)), (h0, .inr (9, [.ref ys, .ref yk, .ref yo, .ref yt, .int mk0, .ref yfa, .ref yfe, .int mL, .int mS, .int mM, .ref yro, .ref yhe, .ref ygr, .int mF, .int mC, .int mY, .ref yta, .int (nI (mz)), .int (nI (mf)), .int (nI (mt)), .int mv, .int mw, .ref ywa, .ref ybi, .ref ysi, .ref ynu, .ref ymo])), (yt, .inl (cI, 7, .inl mq2_56))] := hD
                  subst hw_r_55
                  exact W.iret (v := (-1000000003)) hx hb hr (fun t ht hW => ⟨⟨(-1000000003), mq2_56, rfl, trivial, by rw [ht]; exact hP.sub [1, 0, 2] rfl, hD.sub [1, 0, 2] (by decide) rfl⟩, hS.F ht⟩) hS.2.2 dX9_as_91 hlk
                · skip
                  refine lv_iconst (v := 1) hx hb dX9_as_64 (by decide) ?_
                  refine lv_goto (tgt := 69) hx hb dX9_as_65 (by decide) ?_
                  refine lv_istore (lv' := [(4, .int 1), (3, .int (ms (313 + 8 * k_2 + 0))), (0, .ref h0), (1, .int (nI (k_2))), (2, .int p1)]) hx hb dX9_as_69 hl (by decide) rfl (fun ls hl => ?_)
                  refine lv_iload hx hb dX9_as_71 (lv_at hl 0 rfl) ?_
                  refine lv_if_eq (tgt := 85) hx hb dX9_as_73 (by decide) (fun c_57 => absurd c_57 (by decide)) (fun c_57 => ?_)
                  refine lv_aload_n hx hb dX9_as_76 rfl (lv_at hl 2 rfl) ?_
                  refine lv_iload_n hx hb dX9_as_77 rfl (lv_at hl 3 rfl) ?_
                  refine lv_iconst (v := 1) hx hb dX9_as_78 (by decide) ?_
                  refine xc_Vr hF (c_X9_of1 l D cI cJ cZ cS ta sa sv s.heap.size h0 ys yk yo yt mk0 yfa yfe mL mS mM yro yhe ygr mF mC mY yta mz mf mt mv mw ywa ybi ysi ynu ymo ms P Rn Wn fae fal fau fao farn farp fak fawn fawp fat fas k_2 (by omega) hs0 hs1 hs2 hsS hsM hsp hsr hsw hsR hsG) kv_X9_137 ⟨rfl, rfl, Nat.le_of_ble_eq_true rfl, Nat.le_of_ble_eq_true rfl⟩ ⟨Nat.le_of_ble_eq_true rfl, Nat.le_of_ble_eq_true rfl⟩ hK hN hZ hP hD hS hA [0, 1] rfl rfl 0 rfl rfl rfl rfl hl.1 rfl (Nat.le_of_ble_eq_true rfl) dX9_as_79 (fun r_58 hw_r_58 => ?_)
                  obtain ⟨q_59, rfl, h_60, h_61, h_62⟩ := hw_r_58
                  refine lv_goto (tgt := 91) hx hb dX9_as_82 (by decide) ?_
                  exact W.iret (v := nI (q_59)) hx hb hr (fun t ht hW => ⟨⟨nI (q_59), mq, rfl, trivial, by rw [ht]; exact hP.sub [0, 1, 2] rfl, hD.sub [0, 1, 2] (by decide) rfl⟩, hS.F ht⟩) hS.2.2 dX9_as_91 hlk
    · skip
      refine lv_if_ne (tgt := 27) hx hb dX9_as_17 (by decide) (fun c_63 => absurd (by decide) c_63) (fun c_63 => ?_)
      refine lv_aload_n hx hb dX9_as_20 rfl (lv_at hl 0 rfl) ?_
      refine lv_ldc (v := (-1000000001)) hx hb hown (hu _ uw648) dX9_as_21 ?_
      refine xc_Vi (wr := [(ys, .inl (cI, 449, .inl ms))]) hF (c_X9_finds_B l D cI cJ cZ cS ta sa sv s.heap.size h0 ys yk yo yt mk0 yfa yfe mL mS mM yro yhe ygr mF mC mY yta mz mf mt mv mw ywa ybi ysi ynu ymo mq ) kv_X9_70 ⟨rfl, rfl, Nat.le_of_ble_eq_true rfl, Nat.le_of_ble_eq_true rfl⟩ ⟨Nat.le_of_ble_eq_true rfl, Nat.le_of_ble_eq_true rfl⟩ hK hN hZ hP hD hS hA [0, 2] [1] rfl rfl rfl rfl (by decide) 0 rfl rfl rfl rfl hl.1 rfl (Nat.le_of_ble_eq_true rfl) dX9_as_23 (fun r_64 u_r_64 H locs hw_r_64 hP hD hS => ?_)
      obtain ⟨mq2_65, rfl⟩ : ∃ z, z = u_r_64 := ⟨_, rfl⟩
      try dsimp only at hw_r_64
      have hP : va_P D vwCl [(ys, .inl (cI, 449, .inl ms)), (h0, .inr (9, [.ref ys, .ref yk, .ref yo, .ref yt, .int mk0, .ref yfa, .ref yfe, .int mL, .int mS, .int mM, .ref yro, .ref yhe, .ref ygr, .int mF, .int mC, .int mY, .ref yta, .int (nI (mz)), .int (nI (mf)), .int (nI (mt)), .int mv, .int mw, .ref ywa, .ref ybi, .ref ysi, .ref ynu, .ref ymo])), (yt, .inl (cI, 7, .inl mq2_65))] H := hP
      have hD : va_D A [(ys, .inl (cI, 449, .inl ms)), (h0, .inr (9, [.ref ys, .ref yk, .ref yo, .ref yt, .int mk0, .ref yfa, .ref yfe, .int mL, .int mS, .int mM, .ref yro, .ref yhe, .ref ygr, .int mF, .int mC, .int mY, .ref yta, .int (nI (mz)), .int (nI (mf)), .int (nI (mt)), .int mv, .int mw, .ref ywa, .ref ybi, .ref ysi, .ref ynu, .ref ymo])), (yt, .inl (cI, 7, .inl mq2_65))] := hD
      subst hw_r_64
      exact W.iret (v := (-1000000001)) hx hb hr (fun t ht hW => ⟨⟨(-1000000001), mq2_65, rfl, trivial, by rw [ht]; exact hP.sub [1, 0, 2] rfl, hD.sub [1, 0, 2] (by decide) rfl⟩, hS.F ht⟩) hS.2.2 dX9_as_26 hlk
  · skip
    refine lv_if_eq (tgt := 20) hx hb dX9_as_5 (by decide) (fun c_66 => ?_) (fun c_66 => absurd (by decide) c_66)
    refine lv_aload_n hx hb dX9_as_20 rfl (lv_at hl 0 rfl) ?_
    refine lv_ldc (v := (-1000000001)) hx hb hown (hu _ uw648) dX9_as_21 ?_
    refine xc_Vi (wr := [(ys, .inl (cI, 449, .inl ms))]) hF (c_X9_finds_B l D cI cJ cZ cS ta sa sv s.heap.size h0 ys yk yo yt mk0 yfa yfe mL mS mM yro yhe ygr mF mC mY yta mz mf mt mv mw ywa ybi ysi ynu ymo mq ) kv_X9_70 ⟨rfl, rfl, Nat.le_of_ble_eq_true rfl, Nat.le_of_ble_eq_true rfl⟩ ⟨Nat.le_of_ble_eq_true rfl, Nat.le_of_ble_eq_true rfl⟩ hK hN hZ hP hD hS hA [0, 2] [1] rfl rfl rfl rfl (by decide) 0 rfl rfl rfl rfl hl.1 rfl (Nat.le_of_ble_eq_true rfl) dX9_as_23 (fun r_67 u_r_67 H locs hw_r_67 hP hD hS => ?_)
    obtain ⟨mq2_68, rfl⟩ : ∃ z, z = u_r_67 := ⟨_, rfl⟩
    try dsimp only at hw_r_67
    have hP : va_P D vwCl [(ys, .inl (cI, 449, .inl ms)), (h0, .inr (9, [.ref ys, .ref yk, .ref yo, .ref yt, .int mk0, .ref yfa, .ref yfe, .int mL, .int mS, .int mM, .ref yro, .ref yhe, .ref ygr, .int mF, .int mC, .int mY, .ref yta, .int (nI (mz)), .int (nI (mf)), .int (nI (mt)), .int mv, .int mw, .ref ywa, .ref ybi, .ref ysi, .ref ynu, .ref ymo])), (yt, .inl (cI, 7, .inl mq2_68))] H := hP
    have hD : va_D A [(ys, .inl (cI, 449, .inl ms)), (h0, .inr (9, [.ref ys, .ref yk, .ref yo, .ref yt, .int mk0, .ref yfa, .ref yfe, .int mL, .int mS, .int mM, .ref yro, .ref yhe, .ref ygr, .int mF, .int mC, .int mY, .ref yta, .int (nI (mz)), .int (nI (mf)), .int (nI (mt)), .int mv, .int mw, .ref ywa, .ref ybi, .ref ysi, .ref ynu, .ref ymo])), (yt, .inl (cI, 7, .inl mq2_68))] := hD
    subst hw_r_67
    exact W.iret (v := (-1000000001)) hx hb hr (fun t ht hW => ⟨⟨(-1000000001), mq2_68, rfl, trivial, by rw [ht]; exact hP.sub [1, 0, 2] rfl, hD.sub [1, 0, 2] (by decide) rfl⟩, hS.F ht⟩) hS.2.2 dX9_as_26 hlk
