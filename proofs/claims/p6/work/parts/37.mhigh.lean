def LRX9_spreads_8 : List UInt8 := []
def LBX9_spreads_7 : List UInt8 := [0x03, 0x01, 0xa7, 0xff, 0x9c, 0x84, 0x02, 0x01, 0xa7, 0xff, 0x8a, 0xb1]
def LRX9_spreads_7 : List UInt8 := LBX9_spreads_7 ++ LRX9_spreads_8
def LBX9_spreads_6 : List UInt8 := [0x2a, 0x15, 0x04, 0x1d, 0xb6, 0x00, 0x64, 0x64, 0x4f, 0x84, 0x04, 0x01, 0xa7, 0xff, 0xaf, 0x84]
def LRX9_spreads_6 : List UInt8 := LBX9_spreads_6 ++ LRX9_spreads_7
def LBX9_spreads_5 : List UInt8 := [0x15, 0x04, 0x2a, 0xb4, 0x00, 0x1f, 0x1d, 0x2e, 0x2a, 0x1d, 0x15, 0x04, 0xb6, 0x00, 0x64, 0x60]
def LRX9_spreads_5 : List UInt8 := LBX9_spreads_5 ++ LRX9_spreads_6
def LBX9_spreads_4 : List UInt8 := [0xb7, 0x99, 0x00, 0x28, 0x2a, 0xb4, 0x00, 0x22, 0x15, 0x04, 0x1b, 0x4f, 0x2a, 0xb4, 0x00, 0x1f]
def LRX9_spreads_4 : List UInt8 := LBX9_spreads_4 ++ LRX9_spreads_5
def LBX9_spreads_3 : List UInt8 := [0x2a, 0xb4, 0x00, 0x22, 0x15, 0x04, 0x2e, 0x9c, 0x00, 0x32, 0x2a, 0x1d, 0x15, 0x04, 0xb6, 0x00]
def LRX9_spreads_3 : List UInt8 := LBX9_spreads_3 ++ LRX9_spreads_4
def LBX9_spreads_2 : List UInt8 := [0x07, 0x03, 0x2e, 0xa2, 0x00, 0x4c, 0x2a, 0xb4, 0x00, 0x22, 0x1d, 0x2e, 0x1b, 0xa0, 0x00, 0x3c]
def LRX9_spreads_2 : List UInt8 := LBX9_spreads_2 ++ LRX9_spreads_3
def LBX9_spreads_1 : List UInt8 := [0xb4, 0x00, 0x07, 0x03, 0x2e, 0xa2, 0x00, 0x60, 0x03, 0x36, 0x04, 0x15, 0x04, 0x2a, 0xb4, 0x00]
def LRX9_spreads_1 : List UInt8 := LBX9_spreads_1 ++ LRX9_spreads_2
def LBX9_spreads_0 : List UInt8 := [0x03, 0x3d, 0x1c, 0x2a, 0xb4, 0x00, 0x07, 0x03, 0x2e, 0xa2, 0x00, 0x72, 0x03, 0x3e, 0x1d, 0x2a]
def LRX9_spreads_0 : List UInt8 := LBX9_spreads_0 ++ LRX9_spreads_1
set_option maxRecDepth 100000 in
theorem LBX9_spreads_eq : cX9_spreads.data.toList = LRX9_spreads_0 := by decide +kernel
theorem LBX9_spreadsr_0 (k : Nat) : cX9_spreads.data.toList[0 + k]? = LRX9_spreads_0[k]? := by rw [LBX9_spreads_eq, Nat.zero_add]
theorem LBX9_spreadsr_1 (k : Nat) : cX9_spreads.data.toList[16 + k]? = LRX9_spreads_1[k]? := by
  have h := LBX9_spreadsr_0 (16 + k)
  rw [show 0 + (16 + k) = 16 + k by omega] at h
  rw [h]
  exact (List.getElem?_append_right (l₁ := LBX9_spreads_0) (l₂ := LRX9_spreads_1) (show 16 ≤ 16 + k by omega)).trans (congrArg (fun i => LRX9_spreads_1[i]?) (show 16 + k - 16 = k by omega))
theorem LBX9_spreadsr_2 (k : Nat) : cX9_spreads.data.toList[32 + k]? = LRX9_spreads_2[k]? := by
  have h := LBX9_spreadsr_1 (16 + k)
  rw [show 16 + (16 + k) = 32 + k by omega] at h
  rw [h]
  exact (List.getElem?_append_right (l₁ := LBX9_spreads_1) (l₂ := LRX9_spreads_2) (show 16 ≤ 16 + k by omega)).trans (congrArg (fun i => LRX9_spreads_2[i]?) (show 16 + k - 16 = k by omega))
theorem LBX9_spreadsr_3 (k : Nat) : cX9_spreads.data.toList[48 + k]? = LRX9_spreads_3[k]? := by
  have h := LBX9_spreadsr_2 (16 + k)
  rw [show 32 + (16 + k) = 48 + k by omega] at h
  rw [h]
  exact (List.getElem?_append_right (l₁ := LBX9_spreads_2) (l₂ := LRX9_spreads_3) (show 16 ≤ 16 + k by omega)).trans (congrArg (fun i => LRX9_spreads_3[i]?) (show 16 + k - 16 = k by omega))
theorem LBX9_spreadsr_4 (k : Nat) : cX9_spreads.data.toList[64 + k]? = LRX9_spreads_4[k]? := by
  have h := LBX9_spreadsr_3 (16 + k)
  rw [show 48 + (16 + k) = 64 + k by omega] at h
  rw [h]
  exact (List.getElem?_append_right (l₁ := LBX9_spreads_3) (l₂ := LRX9_spreads_4) (show 16 ≤ 16 + k by omega)).trans (congrArg (fun i => LRX9_spreads_4[i]?) (show 16 + k - 16 = k by omega))
theorem LBX9_spreadsr_5 (k : Nat) : cX9_spreads.data.toList[80 + k]? = LRX9_spreads_5[k]? := by
  have h := LBX9_spreadsr_4 (16 + k)
  rw [show 64 + (16 + k) = 80 + k by omega] at h
  rw [h]
  exact (List.getElem?_append_right (l₁ := LBX9_spreads_4) (l₂ := LRX9_spreads_5) (show 16 ≤ 16 + k by omega)).trans (congrArg (fun i => LRX9_spreads_5[i]?) (show 16 + k - 16 = k by omega))
theorem LBX9_spreadsr_6 (k : Nat) : cX9_spreads.data.toList[96 + k]? = LRX9_spreads_6[k]? := by
  have h := LBX9_spreadsr_5 (16 + k)
  rw [show 80 + (16 + k) = 96 + k by omega] at h
  rw [h]
  exact (List.getElem?_append_right (l₁ := LBX9_spreads_5) (l₂ := LRX9_spreads_6) (show 16 ≤ 16 + k by omega)).trans (congrArg (fun i => LRX9_spreads_6[i]?) (show 16 + k - 16 = k by omega))
theorem LBX9_spreadsr_7 (k : Nat) : cX9_spreads.data.toList[112 + k]? = LRX9_spreads_7[k]? := by
  have h := LBX9_spreadsr_6 (16 + k)
  rw [show 96 + (16 + k) = 112 + k by omega] at h
  rw [h]
  exact (List.getElem?_append_right (l₁ := LBX9_spreads_6) (l₂ := LRX9_spreads_7) (show 16 ≤ 16 + k by omega)).trans (congrArg (fun i => LRX9_spreads_7[i]?) (show 16 + k - 16 = k by omega))
theorem dX9_spreads_0 : decode cX9_spreads 0 = .ok (.iconst 0, 1) := dk_3_ (show cX9_spreads.data.toList[0]? = some 0x03 from (LBX9_spreadsr_0 0).trans (by decide +kernel))
theorem dX9_spreads_1 : decode cX9_spreads 1 = .ok (.istore_n 2, 1) := dk_61_ (show cX9_spreads.data.toList[1]? = some 0x3d from (LBX9_spreadsr_0 1).trans (by decide +kernel))
theorem dX9_spreads_2 : decode cX9_spreads 2 = .ok (.iload_n 2, 1) := dk_28_ (show cX9_spreads.data.toList[2]? = some 0x1c from (LBX9_spreadsr_0 2).trans (by decide +kernel))
theorem dX9_spreads_3 : decode cX9_spreads 3 = .ok (.aload_n 0, 1) := dk_42_ (show cX9_spreads.data.toList[3]? = some 0x2a from (LBX9_spreadsr_0 3).trans (by decide +kernel))
theorem dX9_spreads_4 : decode cX9_spreads 4 = .ok (.getfield 7, 3) := dk_180_ (show cX9_spreads.data.toList[4]? = some 0xb4 from (LBX9_spreadsr_0 4).trans (by decide +kernel)) (show cX9_spreads.data.toList[5]? = some 0x00 from (LBX9_spreadsr_0 5).trans (by decide +kernel)) (show cX9_spreads.data.toList[6]? = some 0x07 from (LBX9_spreadsr_0 6).trans (by decide +kernel)) (by decide)
theorem dX9_spreads_7 : decode cX9_spreads 7 = .ok (.iconst 0, 1) := dk_3_ (show cX9_spreads.data.toList[7]? = some 0x03 from (LBX9_spreadsr_0 7).trans (by decide +kernel))
theorem dX9_spreads_8 : decode cX9_spreads 8 = .ok (.iaload, 1) := dk_46_ (show cX9_spreads.data.toList[8]? = some 0x2e from (LBX9_spreadsr_0 8).trans (by decide +kernel))
theorem dX9_spreads_9 : decode cX9_spreads 9 = .ok (.if_icmp .ge 114, 3) := dk_162_ (show cX9_spreads.data.toList[9]? = some 0xa2 from (LBX9_spreadsr_0 9).trans (by decide +kernel)) (show cX9_spreads.data.toList[10]? = some 0x00 from (LBX9_spreadsr_0 10).trans (by decide +kernel)) (show cX9_spreads.data.toList[11]? = some 0x72 from (LBX9_spreadsr_0 11).trans (by decide +kernel)) (by decide)
theorem dX9_spreads_12 : decode cX9_spreads 12 = .ok (.iconst 0, 1) := dk_3_ (show cX9_spreads.data.toList[12]? = some 0x03 from (LBX9_spreadsr_0 12).trans (by decide +kernel))
theorem dX9_spreads_13 : decode cX9_spreads 13 = .ok (.istore_n 3, 1) := dk_62_ (show cX9_spreads.data.toList[13]? = some 0x3e from (LBX9_spreadsr_0 13).trans (by decide +kernel))
theorem dX9_spreads_14 : decode cX9_spreads 14 = .ok (.iload_n 3, 1) := dk_29_ (show cX9_spreads.data.toList[14]? = some 0x1d from (LBX9_spreadsr_0 14).trans (by decide +kernel))
theorem dX9_spreads_15 : decode cX9_spreads 15 = .ok (.aload_n 0, 1) := dk_42_ (show cX9_spreads.data.toList[15]? = some 0x2a from (LBX9_spreadsr_0 15).trans (by decide +kernel))
theorem dX9_spreads_16 : decode cX9_spreads 16 = .ok (.getfield 7, 3) := dk_180_ (show cX9_spreads.data.toList[16]? = some 0xb4 from (LBX9_spreadsr_1 0).trans (by decide +kernel)) (show cX9_spreads.data.toList[17]? = some 0x00 from (LBX9_spreadsr_1 1).trans (by decide +kernel)) (show cX9_spreads.data.toList[18]? = some 0x07 from (LBX9_spreadsr_1 2).trans (by decide +kernel)) (by decide)
theorem dX9_spreads_19 : decode cX9_spreads 19 = .ok (.iconst 0, 1) := dk_3_ (show cX9_spreads.data.toList[19]? = some 0x03 from (LBX9_spreadsr_1 3).trans (by decide +kernel))
theorem dX9_spreads_20 : decode cX9_spreads 20 = .ok (.iaload, 1) := dk_46_ (show cX9_spreads.data.toList[20]? = some 0x2e from (LBX9_spreadsr_1 4).trans (by decide +kernel))
theorem dX9_spreads_21 : decode cX9_spreads 21 = .ok (.if_icmp .ge 96, 3) := dk_162_ (show cX9_spreads.data.toList[21]? = some 0xa2 from (LBX9_spreadsr_1 5).trans (by decide +kernel)) (show cX9_spreads.data.toList[22]? = some 0x00 from (LBX9_spreadsr_1 6).trans (by decide +kernel)) (show cX9_spreads.data.toList[23]? = some 0x60 from (LBX9_spreadsr_1 7).trans (by decide +kernel)) (by decide)
theorem dX9_spreads_24 : decode cX9_spreads 24 = .ok (.iconst 0, 1) := dk_3_ (show cX9_spreads.data.toList[24]? = some 0x03 from (LBX9_spreadsr_1 8).trans (by decide +kernel))
theorem dX9_spreads_25 : decode cX9_spreads 25 = .ok (.istore 4, 2) := dk_54_ (show cX9_spreads.data.toList[25]? = some 0x36 from (LBX9_spreadsr_1 9).trans (by decide +kernel)) (show cX9_spreads.data.toList[26]? = some 0x04 from (LBX9_spreadsr_1 10).trans (by decide +kernel)) (by decide)
theorem dX9_spreads_27 : decode cX9_spreads 27 = .ok (.iload 4, 2) := dk_21_ (show cX9_spreads.data.toList[27]? = some 0x15 from (LBX9_spreadsr_1 11).trans (by decide +kernel)) (show cX9_spreads.data.toList[28]? = some 0x04 from (LBX9_spreadsr_1 12).trans (by decide +kernel)) (by decide)
theorem dX9_spreads_29 : decode cX9_spreads 29 = .ok (.aload_n 0, 1) := dk_42_ (show cX9_spreads.data.toList[29]? = some 0x2a from (LBX9_spreadsr_1 13).trans (by decide +kernel))
theorem dX9_spreads_30 : decode cX9_spreads 30 = .ok (.getfield 7, 3) := dk_180_ (show cX9_spreads.data.toList[30]? = some 0xb4 from (LBX9_spreadsr_1 14).trans (by decide +kernel)) (show cX9_spreads.data.toList[31]? = some 0x00 from (LBX9_spreadsr_1 15).trans (by decide +kernel)) (show cX9_spreads.data.toList[32]? = some 0x07 from (LBX9_spreadsr_2 0).trans (by decide +kernel)) (by decide)
theorem dX9_spreads_33 : decode cX9_spreads 33 = .ok (.iconst 0, 1) := dk_3_ (show cX9_spreads.data.toList[33]? = some 0x03 from (LBX9_spreadsr_2 1).trans (by decide +kernel))
theorem dX9_spreads_34 : decode cX9_spreads 34 = .ok (.iaload, 1) := dk_46_ (show cX9_spreads.data.toList[34]? = some 0x2e from (LBX9_spreadsr_2 2).trans (by decide +kernel))
theorem dX9_spreads_35 : decode cX9_spreads 35 = .ok (.if_icmp .ge 76, 3) := dk_162_ (show cX9_spreads.data.toList[35]? = some 0xa2 from (LBX9_spreadsr_2 3).trans (by decide +kernel)) (show cX9_spreads.data.toList[36]? = some 0x00 from (LBX9_spreadsr_2 4).trans (by decide +kernel)) (show cX9_spreads.data.toList[37]? = some 0x4c from (LBX9_spreadsr_2 5).trans (by decide +kernel)) (by decide)
theorem dX9_spreads_38 : decode cX9_spreads 38 = .ok (.aload_n 0, 1) := dk_42_ (show cX9_spreads.data.toList[38]? = some 0x2a from (LBX9_spreadsr_2 6).trans (by decide +kernel))
theorem dX9_spreads_39 : decode cX9_spreads 39 = .ok (.getfield 34, 3) := dk_180_ (show cX9_spreads.data.toList[39]? = some 0xb4 from (LBX9_spreadsr_2 7).trans (by decide +kernel)) (show cX9_spreads.data.toList[40]? = some 0x00 from (LBX9_spreadsr_2 8).trans (by decide +kernel)) (show cX9_spreads.data.toList[41]? = some 0x22 from (LBX9_spreadsr_2 9).trans (by decide +kernel)) (by decide)
theorem dX9_spreads_42 : decode cX9_spreads 42 = .ok (.iload_n 3, 1) := dk_29_ (show cX9_spreads.data.toList[42]? = some 0x1d from (LBX9_spreadsr_2 10).trans (by decide +kernel))
theorem dX9_spreads_43 : decode cX9_spreads 43 = .ok (.iaload, 1) := dk_46_ (show cX9_spreads.data.toList[43]? = some 0x2e from (LBX9_spreadsr_2 11).trans (by decide +kernel))
theorem dX9_spreads_44 : decode cX9_spreads 44 = .ok (.iload_n 1, 1) := dk_27_ (show cX9_spreads.data.toList[44]? = some 0x1b from (LBX9_spreadsr_2 12).trans (by decide +kernel))
theorem dX9_spreads_45 : decode cX9_spreads 45 = .ok (.if_icmp .ne 60, 3) := dk_160_ (show cX9_spreads.data.toList[45]? = some 0xa0 from (LBX9_spreadsr_2 13).trans (by decide +kernel)) (show cX9_spreads.data.toList[46]? = some 0x00 from (LBX9_spreadsr_2 14).trans (by decide +kernel)) (show cX9_spreads.data.toList[47]? = some 0x3c from (LBX9_spreadsr_2 15).trans (by decide +kernel)) (by decide)
theorem dX9_spreads_48 : decode cX9_spreads 48 = .ok (.aload_n 0, 1) := dk_42_ (show cX9_spreads.data.toList[48]? = some 0x2a from (LBX9_spreadsr_3 0).trans (by decide +kernel))
theorem dX9_spreads_49 : decode cX9_spreads 49 = .ok (.getfield 34, 3) := dk_180_ (show cX9_spreads.data.toList[49]? = some 0xb4 from (LBX9_spreadsr_3 1).trans (by decide +kernel)) (show cX9_spreads.data.toList[50]? = some 0x00 from (LBX9_spreadsr_3 2).trans (by decide +kernel)) (show cX9_spreads.data.toList[51]? = some 0x22 from (LBX9_spreadsr_3 3).trans (by decide +kernel)) (by decide)
theorem dX9_spreads_52 : decode cX9_spreads 52 = .ok (.iload 4, 2) := dk_21_ (show cX9_spreads.data.toList[52]? = some 0x15 from (LBX9_spreadsr_3 4).trans (by decide +kernel)) (show cX9_spreads.data.toList[53]? = some 0x04 from (LBX9_spreadsr_3 5).trans (by decide +kernel)) (by decide)
theorem dX9_spreads_54 : decode cX9_spreads 54 = .ok (.iaload, 1) := dk_46_ (show cX9_spreads.data.toList[54]? = some 0x2e from (LBX9_spreadsr_3 6).trans (by decide +kernel))
theorem dX9_spreads_55 : decode cX9_spreads 55 = .ok (.ifCond .ge 50, 3) := dk_156_ (show cX9_spreads.data.toList[55]? = some 0x9c from (LBX9_spreadsr_3 7).trans (by decide +kernel)) (show cX9_spreads.data.toList[56]? = some 0x00 from (LBX9_spreadsr_3 8).trans (by decide +kernel)) (show cX9_spreads.data.toList[57]? = some 0x32 from (LBX9_spreadsr_3 9).trans (by decide +kernel)) (by decide)
theorem dX9_spreads_58 : decode cX9_spreads 58 = .ok (.aload_n 0, 1) := dk_42_ (show cX9_spreads.data.toList[58]? = some 0x2a from (LBX9_spreadsr_3 10).trans (by decide +kernel))
theorem dX9_spreads_59 : decode cX9_spreads 59 = .ok (.iload_n 3, 1) := dk_29_ (show cX9_spreads.data.toList[59]? = some 0x1d from (LBX9_spreadsr_3 11).trans (by decide +kernel))
theorem dX9_spreads_60 : decode cX9_spreads 60 = .ok (.iload 4, 2) := dk_21_ (show cX9_spreads.data.toList[60]? = some 0x15 from (LBX9_spreadsr_3 12).trans (by decide +kernel)) (show cX9_spreads.data.toList[61]? = some 0x04 from (LBX9_spreadsr_3 13).trans (by decide +kernel)) (by decide)
theorem dX9_spreads_62 : decode cX9_spreads 62 = .ok (.invokevirtual 183, 3) := dk_182_ (show cX9_spreads.data.toList[62]? = some 0xb6 from (LBX9_spreadsr_3 14).trans (by decide +kernel)) (show cX9_spreads.data.toList[63]? = some 0x00 from (LBX9_spreadsr_3 15).trans (by decide +kernel)) (show cX9_spreads.data.toList[64]? = some 0xb7 from (LBX9_spreadsr_4 0).trans (by decide +kernel)) (by decide)
theorem dX9_spreads_65 : decode cX9_spreads 65 = .ok (.ifCond .eq 40, 3) := dk_153_ (show cX9_spreads.data.toList[65]? = some 0x99 from (LBX9_spreadsr_4 1).trans (by decide +kernel)) (show cX9_spreads.data.toList[66]? = some 0x00 from (LBX9_spreadsr_4 2).trans (by decide +kernel)) (show cX9_spreads.data.toList[67]? = some 0x28 from (LBX9_spreadsr_4 3).trans (by decide +kernel)) (by decide)
theorem dX9_spreads_68 : decode cX9_spreads 68 = .ok (.aload_n 0, 1) := dk_42_ (show cX9_spreads.data.toList[68]? = some 0x2a from (LBX9_spreadsr_4 4).trans (by decide +kernel))
theorem dX9_spreads_69 : decode cX9_spreads 69 = .ok (.getfield 34, 3) := dk_180_ (show cX9_spreads.data.toList[69]? = some 0xb4 from (LBX9_spreadsr_4 5).trans (by decide +kernel)) (show cX9_spreads.data.toList[70]? = some 0x00 from (LBX9_spreadsr_4 6).trans (by decide +kernel)) (show cX9_spreads.data.toList[71]? = some 0x22 from (LBX9_spreadsr_4 7).trans (by decide +kernel)) (by decide)
theorem dX9_spreads_72 : decode cX9_spreads 72 = .ok (.iload 4, 2) := dk_21_ (show cX9_spreads.data.toList[72]? = some 0x15 from (LBX9_spreadsr_4 8).trans (by decide +kernel)) (show cX9_spreads.data.toList[73]? = some 0x04 from (LBX9_spreadsr_4 9).trans (by decide +kernel)) (by decide)
theorem dX9_spreads_74 : decode cX9_spreads 74 = .ok (.iload_n 1, 1) := dk_27_ (show cX9_spreads.data.toList[74]? = some 0x1b from (LBX9_spreadsr_4 10).trans (by decide +kernel))
theorem dX9_spreads_75 : decode cX9_spreads 75 = .ok (.iastore, 1) := dk_79_ (show cX9_spreads.data.toList[75]? = some 0x4f from (LBX9_spreadsr_4 11).trans (by decide +kernel))
theorem dX9_spreads_76 : decode cX9_spreads 76 = .ok (.aload_n 0, 1) := dk_42_ (show cX9_spreads.data.toList[76]? = some 0x2a from (LBX9_spreadsr_4 12).trans (by decide +kernel))
theorem dX9_spreads_77 : decode cX9_spreads 77 = .ok (.getfield 31, 3) := dk_180_ (show cX9_spreads.data.toList[77]? = some 0xb4 from (LBX9_spreadsr_4 13).trans (by decide +kernel)) (show cX9_spreads.data.toList[78]? = some 0x00 from (LBX9_spreadsr_4 14).trans (by decide +kernel)) (show cX9_spreads.data.toList[79]? = some 0x1f from (LBX9_spreadsr_4 15).trans (by decide +kernel)) (by decide)
theorem dX9_spreads_80 : decode cX9_spreads 80 = .ok (.iload 4, 2) := dk_21_ (show cX9_spreads.data.toList[80]? = some 0x15 from (LBX9_spreadsr_5 0).trans (by decide +kernel)) (show cX9_spreads.data.toList[81]? = some 0x04 from (LBX9_spreadsr_5 1).trans (by decide +kernel)) (by decide)
theorem dX9_spreads_82 : decode cX9_spreads 82 = .ok (.aload_n 0, 1) := dk_42_ (show cX9_spreads.data.toList[82]? = some 0x2a from (LBX9_spreadsr_5 2).trans (by decide +kernel))
theorem dX9_spreads_83 : decode cX9_spreads 83 = .ok (.getfield 31, 3) := dk_180_ (show cX9_spreads.data.toList[83]? = some 0xb4 from (LBX9_spreadsr_5 3).trans (by decide +kernel)) (show cX9_spreads.data.toList[84]? = some 0x00 from (LBX9_spreadsr_5 4).trans (by decide +kernel)) (show cX9_spreads.data.toList[85]? = some 0x1f from (LBX9_spreadsr_5 5).trans (by decide +kernel)) (by decide)
theorem dX9_spreads_86 : decode cX9_spreads 86 = .ok (.iload_n 3, 1) := dk_29_ (show cX9_spreads.data.toList[86]? = some 0x1d from (LBX9_spreadsr_5 6).trans (by decide +kernel))
theorem dX9_spreads_87 : decode cX9_spreads 87 = .ok (.iaload, 1) := dk_46_ (show cX9_spreads.data.toList[87]? = some 0x2e from (LBX9_spreadsr_5 7).trans (by decide +kernel))
theorem dX9_spreads_88 : decode cX9_spreads 88 = .ok (.aload_n 0, 1) := dk_42_ (show cX9_spreads.data.toList[88]? = some 0x2a from (LBX9_spreadsr_5 8).trans (by decide +kernel))
theorem dX9_spreads_89 : decode cX9_spreads 89 = .ok (.iload_n 3, 1) := dk_29_ (show cX9_spreads.data.toList[89]? = some 0x1d from (LBX9_spreadsr_5 9).trans (by decide +kernel))
theorem dX9_spreads_90 : decode cX9_spreads 90 = .ok (.iload 4, 2) := dk_21_ (show cX9_spreads.data.toList[90]? = some 0x15 from (LBX9_spreadsr_5 10).trans (by decide +kernel)) (show cX9_spreads.data.toList[91]? = some 0x04 from (LBX9_spreadsr_5 11).trans (by decide +kernel)) (by decide)
theorem dX9_spreads_92 : decode cX9_spreads 92 = .ok (.invokevirtual 100, 3) := dk_182_ (show cX9_spreads.data.toList[92]? = some 0xb6 from (LBX9_spreadsr_5 12).trans (by decide +kernel)) (show cX9_spreads.data.toList[93]? = some 0x00 from (LBX9_spreadsr_5 13).trans (by decide +kernel)) (show cX9_spreads.data.toList[94]? = some 0x64 from (LBX9_spreadsr_5 14).trans (by decide +kernel)) (by decide)
theorem dX9_spreads_95 : decode cX9_spreads 95 = .ok (.iadd, 1) := dk_96_ (show cX9_spreads.data.toList[95]? = some 0x60 from (LBX9_spreadsr_5 15).trans (by decide +kernel))
theorem dX9_spreads_96 : decode cX9_spreads 96 = .ok (.aload_n 0, 1) := dk_42_ (show cX9_spreads.data.toList[96]? = some 0x2a from (LBX9_spreadsr_6 0).trans (by decide +kernel))
theorem dX9_spreads_97 : decode cX9_spreads 97 = .ok (.iload 4, 2) := dk_21_ (show cX9_spreads.data.toList[97]? = some 0x15 from (LBX9_spreadsr_6 1).trans (by decide +kernel)) (show cX9_spreads.data.toList[98]? = some 0x04 from (LBX9_spreadsr_6 2).trans (by decide +kernel)) (by decide)
theorem dX9_spreads_99 : decode cX9_spreads 99 = .ok (.iload_n 3, 1) := dk_29_ (show cX9_spreads.data.toList[99]? = some 0x1d from (LBX9_spreadsr_6 3).trans (by decide +kernel))
theorem dX9_spreads_100 : decode cX9_spreads 100 = .ok (.invokevirtual 100, 3) := dk_182_ (show cX9_spreads.data.toList[100]? = some 0xb6 from (LBX9_spreadsr_6 4).trans (by decide +kernel)) (show cX9_spreads.data.toList[101]? = some 0x00 from (LBX9_spreadsr_6 5).trans (by decide +kernel)) (show cX9_spreads.data.toList[102]? = some 0x64 from (LBX9_spreadsr_6 6).trans (by decide +kernel)) (by decide)
theorem dX9_spreads_103 : decode cX9_spreads 103 = .ok (.isub, 1) := dk_100_ (show cX9_spreads.data.toList[103]? = some 0x64 from (LBX9_spreadsr_6 7).trans (by decide +kernel))
theorem dX9_spreads_104 : decode cX9_spreads 104 = .ok (.iastore, 1) := dk_79_ (show cX9_spreads.data.toList[104]? = some 0x4f from (LBX9_spreadsr_6 8).trans (by decide +kernel))
theorem dX9_spreads_105 : decode cX9_spreads 105 = .ok (.iinc 4 1, 3) := dk_132_ (show cX9_spreads.data.toList[105]? = some 0x84 from (LBX9_spreadsr_6 9).trans (by decide +kernel)) (show cX9_spreads.data.toList[106]? = some 0x04 from (LBX9_spreadsr_6 10).trans (by decide +kernel)) (show cX9_spreads.data.toList[107]? = some 0x01 from (LBX9_spreadsr_6 11).trans (by decide +kernel)) (by decide) (by decide)
theorem dX9_spreads_108 : decode cX9_spreads 108 = .ok (.goto (-81), 3) := dk_167_ (show cX9_spreads.data.toList[108]? = some 0xa7 from (LBX9_spreadsr_6 12).trans (by decide +kernel)) (show cX9_spreads.data.toList[109]? = some 0xff from (LBX9_spreadsr_6 13).trans (by decide +kernel)) (show cX9_spreads.data.toList[110]? = some 0xaf from (LBX9_spreadsr_6 14).trans (by decide +kernel)) (by decide)
theorem dX9_spreads_111 : decode cX9_spreads 111 = .ok (.iinc 3 1, 3) := dk_132_ (show cX9_spreads.data.toList[111]? = some 0x84 from (LBX9_spreadsr_6 15).trans (by decide +kernel)) (show cX9_spreads.data.toList[112]? = some 0x03 from (LBX9_spreadsr_7 0).trans (by decide +kernel)) (show cX9_spreads.data.toList[113]? = some 0x01 from (LBX9_spreadsr_7 1).trans (by decide +kernel)) (by decide) (by decide)
theorem dX9_spreads_114 : decode cX9_spreads 114 = .ok (.goto (-100), 3) := dk_167_ (show cX9_spreads.data.toList[114]? = some 0xa7 from (LBX9_spreadsr_7 2).trans (by decide +kernel)) (show cX9_spreads.data.toList[115]? = some 0xff from (LBX9_spreadsr_7 3).trans (by decide +kernel)) (show cX9_spreads.data.toList[116]? = some 0x9c from (LBX9_spreadsr_7 4).trans (by decide +kernel)) (by decide)
theorem dX9_spreads_117 : decode cX9_spreads 117 = .ok (.iinc 2 1, 3) := dk_132_ (show cX9_spreads.data.toList[117]? = some 0x84 from (LBX9_spreadsr_7 5).trans (by decide +kernel)) (show cX9_spreads.data.toList[118]? = some 0x02 from (LBX9_spreadsr_7 6).trans (by decide +kernel)) (show cX9_spreads.data.toList[119]? = some 0x01 from (LBX9_spreadsr_7 7).trans (by decide +kernel)) (by decide) (by decide)
theorem dX9_spreads_120 : decode cX9_spreads 120 = .ok (.goto (-118), 3) := dk_167_ (show cX9_spreads.data.toList[120]? = some 0xa7 from (LBX9_spreadsr_7 8).trans (by decide +kernel)) (show cX9_spreads.data.toList[121]? = some 0xff from (LBX9_spreadsr_7 9).trans (by decide +kernel)) (show cX9_spreads.data.toList[122]? = some 0x8a from (LBX9_spreadsr_7 10).trans (by decide +kernel)) (by decide)
theorem dX9_spreads_123 : decode cX9_spreads 123 = .ok (.return_, 1) := dk_177_ (show cX9_spreads.data.toList[123]? = some 0xb1 from (LBX9_spreadsr_7 11).trans (by decide +kernel))
def LRX9_findHeights_10 : List UInt8 := []
def LBX9_findHeights_9 : List UInt8 := [0xa7, 0xff, 0xc2, 0x84, 0x02, 0x01, 0xa7, 0xff, 0xb5, 0xb1]
def LRX9_findHeights_9 : List UInt8 := LBX9_findHeights_9 ++ LRX9_findHeights_10
def LBX9_findHeights_8 : List UInt8 := [0x64, 0x64, 0xa0, 0x00, 0x07, 0x04, 0xa7, 0x00, 0x04, 0x03, 0xb5, 0x00, 0xb4, 0x84, 0x03, 0x01]
def LRX9_findHeights_8 : List UInt8 := LBX9_findHeights_8 ++ LRX9_findHeights_9
def LBX9_findHeights_7 : List UInt8 := [0x00, 0x1f, 0x1c, 0x2e, 0x64, 0x2a, 0x1c, 0x1d, 0xb6, 0x00, 0x64, 0x2a, 0x1d, 0x1c, 0xb6, 0x00]
def LRX9_findHeights_7 : List UInt8 := LBX9_findHeights_7 ++ LRX9_findHeights_8
def LBX9_findHeights_6 : List UInt8 := [0x1c, 0x1d, 0xb6, 0x00, 0xb7, 0x99, 0x00, 0x20, 0x2a, 0xb4, 0x00, 0x1f, 0x1d, 0x2e, 0x2a, 0xb4]
def LRX9_findHeights_6 : List UInt8 := LBX9_findHeights_6 ++ LRX9_findHeights_7
def LBX9_findHeights_5 : List UInt8 := [0x03, 0x3e, 0x1d, 0x1b, 0xa2, 0x00, 0x3f, 0x2a, 0x2a, 0xb4, 0x00, 0xb4, 0x99, 0x00, 0x2d, 0x2a]
def LRX9_findHeights_5 : List UInt8 := LBX9_findHeights_5 ++ LRX9_findHeights_6
def LBX9_findHeights_4 : List UInt8 := [0x01, 0xa7, 0xff, 0xdc, 0x2a, 0x04, 0xb5, 0x00, 0xb4, 0x03, 0x3d, 0x1c, 0x1b, 0xa2, 0x00, 0x4c]
def LRX9_findHeights_4 : List UInt8 := LBX9_findHeights_4 ++ LRX9_findHeights_5
def LBX9_findHeights_3 : List UInt8 := [0x1c, 0x4f, 0x2a, 0xb4, 0x00, 0x1f, 0x1c, 0x03, 0x4f, 0x2a, 0x1c, 0xb6, 0x00, 0xb1, 0x84, 0x02]
def LRX9_findHeights_3 : List UInt8 := LBX9_findHeights_3 ++ LRX9_findHeights_4
def LBX9_findHeights_2 : List UInt8 := [0x00, 0x25, 0x2a, 0xb4, 0x00, 0x22, 0x1c, 0x2e, 0x9c, 0x00, 0x16, 0x2a, 0xb4, 0x00, 0x22, 0x1c]
def LRX9_findHeights_2 : List UInt8 := LBX9_findHeights_2 ++ LRX9_findHeights_3
def LBX9_findHeights_1 : List UInt8 := [0x00, 0x22, 0x1c, 0x02, 0x4f, 0x84, 0x02, 0x01, 0xa7, 0xff, 0xf1, 0x03, 0x3d, 0x1c, 0x1b, 0xa2]
def LRX9_findHeights_1 : List UInt8 := LBX9_findHeights_1 ++ LRX9_findHeights_2
def LBX9_findHeights_0 : List UInt8 := [0x2a, 0xb4, 0x00, 0x07, 0x03, 0x2e, 0x3c, 0x03, 0x3d, 0x1c, 0x1b, 0xa2, 0x00, 0x10, 0x2a, 0xb4]
def LRX9_findHeights_0 : List UInt8 := LBX9_findHeights_0 ++ LRX9_findHeights_1
set_option maxRecDepth 100000 in
theorem LBX9_findHeights_eq : cX9_findHeights.data.toList = LRX9_findHeights_0 := by decide +kernel
theorem LBX9_findHeightsr_0 (k : Nat) : cX9_findHeights.data.toList[0 + k]? = LRX9_findHeights_0[k]? := by rw [LBX9_findHeights_eq, Nat.zero_add]
theorem LBX9_findHeightsr_1 (k : Nat) : cX9_findHeights.data.toList[16 + k]? = LRX9_findHeights_1[k]? := by
  have h := LBX9_findHeightsr_0 (16 + k)
  rw [show 0 + (16 + k) = 16 + k by omega] at h
  rw [h]
  exact (List.getElem?_append_right (l₁ := LBX9_findHeights_0) (l₂ := LRX9_findHeights_1) (show 16 ≤ 16 + k by omega)).trans (congrArg (fun i => LRX9_findHeights_1[i]?) (show 16 + k - 16 = k by omega))
theorem LBX9_findHeightsr_2 (k : Nat) : cX9_findHeights.data.toList[32 + k]? = LRX9_findHeights_2[k]? := by
  have h := LBX9_findHeightsr_1 (16 + k)
  rw [show 16 + (16 + k) = 32 + k by omega] at h
  rw [h]
  exact (List.getElem?_append_right (l₁ := LBX9_findHeights_1) (l₂ := LRX9_findHeights_2) (show 16 ≤ 16 + k by omega)).trans (congrArg (fun i => LRX9_findHeights_2[i]?) (show 16 + k - 16 = k by omega))
theorem LBX9_findHeightsr_3 (k : Nat) : cX9_findHeights.data.toList[48 + k]? = LRX9_findHeights_3[k]? := by
  have h := LBX9_findHeightsr_2 (16 + k)
  rw [show 32 + (16 + k) = 48 + k by omega] at h
  rw [h]
  exact (List.getElem?_append_right (l₁ := LBX9_findHeights_2) (l₂ := LRX9_findHeights_3) (show 16 ≤ 16 + k by omega)).trans (congrArg (fun i => LRX9_findHeights_3[i]?) (show 16 + k - 16 = k by omega))
theorem LBX9_findHeightsr_4 (k : Nat) : cX9_findHeights.data.toList[64 + k]? = LRX9_findHeights_4[k]? := by
  have h := LBX9_findHeightsr_3 (16 + k)
  rw [show 48 + (16 + k) = 64 + k by omega] at h
  rw [h]
  exact (List.getElem?_append_right (l₁ := LBX9_findHeights_3) (l₂ := LRX9_findHeights_4) (show 16 ≤ 16 + k by omega)).trans (congrArg (fun i => LRX9_findHeights_4[i]?) (show 16 + k - 16 = k by omega))
theorem LBX9_findHeightsr_5 (k : Nat) : cX9_findHeights.data.toList[80 + k]? = LRX9_findHeights_5[k]? := by
  have h := LBX9_findHeightsr_4 (16 + k)
  rw [show 64 + (16 + k) = 80 + k by omega] at h
  rw [h]
  exact (List.getElem?_append_right (l₁ := LBX9_findHeights_4) (l₂ := LRX9_findHeights_5) (show 16 ≤ 16 + k by omega)).trans (congrArg (fun i => LRX9_findHeights_5[i]?) (show 16 + k - 16 = k by omega))
theorem LBX9_findHeightsr_6 (k : Nat) : cX9_findHeights.data.toList[96 + k]? = LRX9_findHeights_6[k]? := by
  have h := LBX9_findHeightsr_5 (16 + k)
  rw [show 80 + (16 + k) = 96 + k by omega] at h
  rw [h]
  exact (List.getElem?_append_right (l₁ := LBX9_findHeights_5) (l₂ := LRX9_findHeights_6) (show 16 ≤ 16 + k by omega)).trans (congrArg (fun i => LRX9_findHeights_6[i]?) (show 16 + k - 16 = k by omega))
theorem LBX9_findHeightsr_7 (k : Nat) : cX9_findHeights.data.toList[112 + k]? = LRX9_findHeights_7[k]? := by
  have h := LBX9_findHeightsr_6 (16 + k)
  rw [show 96 + (16 + k) = 112 + k by omega] at h
  rw [h]
  exact (List.getElem?_append_right (l₁ := LBX9_findHeights_6) (l₂ := LRX9_findHeights_7) (show 16 ≤ 16 + k by omega)).trans (congrArg (fun i => LRX9_findHeights_7[i]?) (show 16 + k - 16 = k by omega))
theorem LBX9_findHeightsr_8 (k : Nat) : cX9_findHeights.data.toList[128 + k]? = LRX9_findHeights_8[k]? := by
  have h := LBX9_findHeightsr_7 (16 + k)
  rw [show 112 + (16 + k) = 128 + k by omega] at h
  rw [h]
  exact (List.getElem?_append_right (l₁ := LBX9_findHeights_7) (l₂ := LRX9_findHeights_8) (show 16 ≤ 16 + k by omega)).trans (congrArg (fun i => LRX9_findHeights_8[i]?) (show 16 + k - 16 = k by omega))
theorem LBX9_findHeightsr_9 (k : Nat) : cX9_findHeights.data.toList[144 + k]? = LRX9_findHeights_9[k]? := by
  have h := LBX9_findHeightsr_8 (16 + k)
  rw [show 128 + (16 + k) = 144 + k by omega] at h
  rw [h]
  exact (List.getElem?_append_right (l₁ := LBX9_findHeights_8) (l₂ := LRX9_findHeights_9) (show 16 ≤ 16 + k by omega)).trans (congrArg (fun i => LRX9_findHeights_9[i]?) (show 16 + k - 16 = k by omega))
theorem dX9_findHeights_0 : decode cX9_findHeights 0 = .ok (.aload_n 0, 1) := dk_42_ (show cX9_findHeights.data.toList[0]? = some 0x2a from (LBX9_findHeightsr_0 0).trans (by decide +kernel))
theorem dX9_findHeights_1 : decode cX9_findHeights 1 = .ok (.getfield 7, 3) := dk_180_ (show cX9_findHeights.data.toList[1]? = some 0xb4 from (LBX9_findHeightsr_0 1).trans (by decide +kernel)) (show cX9_findHeights.data.toList[2]? = some 0x00 from (LBX9_findHeightsr_0 2).trans (by decide +kernel)) (show cX9_findHeights.data.toList[3]? = some 0x07 from (LBX9_findHeightsr_0 3).trans (by decide +kernel)) (by decide)
theorem dX9_findHeights_4 : decode cX9_findHeights 4 = .ok (.iconst 0, 1) := dk_3_ (show cX9_findHeights.data.toList[4]? = some 0x03 from (LBX9_findHeightsr_0 4).trans (by decide +kernel))
theorem dX9_findHeights_5 : decode cX9_findHeights 5 = .ok (.iaload, 1) := dk_46_ (show cX9_findHeights.data.toList[5]? = some 0x2e from (LBX9_findHeightsr_0 5).trans (by decide +kernel))
theorem dX9_findHeights_6 : decode cX9_findHeights 6 = .ok (.istore_n 1, 1) := dk_60_ (show cX9_findHeights.data.toList[6]? = some 0x3c from (LBX9_findHeightsr_0 6).trans (by decide +kernel))
theorem dX9_findHeights_7 : decode cX9_findHeights 7 = .ok (.iconst 0, 1) := dk_3_ (show cX9_findHeights.data.toList[7]? = some 0x03 from (LBX9_findHeightsr_0 7).trans (by decide +kernel))
theorem dX9_findHeights_8 : decode cX9_findHeights 8 = .ok (.istore_n 2, 1) := dk_61_ (show cX9_findHeights.data.toList[8]? = some 0x3d from (LBX9_findHeightsr_0 8).trans (by decide +kernel))
theorem dX9_findHeights_9 : decode cX9_findHeights 9 = .ok (.iload_n 2, 1) := dk_28_ (show cX9_findHeights.data.toList[9]? = some 0x1c from (LBX9_findHeightsr_0 9).trans (by decide +kernel))
theorem dX9_findHeights_10 : decode cX9_findHeights 10 = .ok (.iload_n 1, 1) := dk_27_ (show cX9_findHeights.data.toList[10]? = some 0x1b from (LBX9_findHeightsr_0 10).trans (by decide +kernel))
theorem dX9_findHeights_11 : decode cX9_findHeights 11 = .ok (.if_icmp .ge 16, 3) := dk_162_ (show cX9_findHeights.data.toList[11]? = some 0xa2 from (LBX9_findHeightsr_0 11).trans (by decide +kernel)) (show cX9_findHeights.data.toList[12]? = some 0x00 from (LBX9_findHeightsr_0 12).trans (by decide +kernel)) (show cX9_findHeights.data.toList[13]? = some 0x10 from (LBX9_findHeightsr_0 13).trans (by decide +kernel)) (by decide)
theorem dX9_findHeights_14 : decode cX9_findHeights 14 = .ok (.aload_n 0, 1) := dk_42_ (show cX9_findHeights.data.toList[14]? = some 0x2a from (LBX9_findHeightsr_0 14).trans (by decide +kernel))
theorem dX9_findHeights_15 : decode cX9_findHeights 15 = .ok (.getfield 34, 3) := dk_180_ (show cX9_findHeights.data.toList[15]? = some 0xb4 from (LBX9_findHeightsr_0 15).trans (by decide +kernel)) (show cX9_findHeights.data.toList[16]? = some 0x00 from (LBX9_findHeightsr_1 0).trans (by decide +kernel)) (show cX9_findHeights.data.toList[17]? = some 0x22 from (LBX9_findHeightsr_1 1).trans (by decide +kernel)) (by decide)
theorem dX9_findHeights_18 : decode cX9_findHeights 18 = .ok (.iload_n 2, 1) := dk_28_ (show cX9_findHeights.data.toList[18]? = some 0x1c from (LBX9_findHeightsr_1 2).trans (by decide +kernel))
theorem dX9_findHeights_19 : decode cX9_findHeights 19 = .ok (.iconst (-1), 1) := dk_2_ (show cX9_findHeights.data.toList[19]? = some 0x02 from (LBX9_findHeightsr_1 3).trans (by decide +kernel))
theorem dX9_findHeights_20 : decode cX9_findHeights 20 = .ok (.iastore, 1) := dk_79_ (show cX9_findHeights.data.toList[20]? = some 0x4f from (LBX9_findHeightsr_1 4).trans (by decide +kernel))
theorem dX9_findHeights_21 : decode cX9_findHeights 21 = .ok (.iinc 2 1, 3) := dk_132_ (show cX9_findHeights.data.toList[21]? = some 0x84 from (LBX9_findHeightsr_1 5).trans (by decide +kernel)) (show cX9_findHeights.data.toList[22]? = some 0x02 from (LBX9_findHeightsr_1 6).trans (by decide +kernel)) (show cX9_findHeights.data.toList[23]? = some 0x01 from (LBX9_findHeightsr_1 7).trans (by decide +kernel)) (by decide) (by decide)
theorem dX9_findHeights_24 : decode cX9_findHeights 24 = .ok (.goto (-15), 3) := dk_167_ (show cX9_findHeights.data.toList[24]? = some 0xa7 from (LBX9_findHeightsr_1 8).trans (by decide +kernel)) (show cX9_findHeights.data.toList[25]? = some 0xff from (LBX9_findHeightsr_1 9).trans (by decide +kernel)) (show cX9_findHeights.data.toList[26]? = some 0xf1 from (LBX9_findHeightsr_1 10).trans (by decide +kernel)) (by decide)
theorem dX9_findHeights_27 : decode cX9_findHeights 27 = .ok (.iconst 0, 1) := dk_3_ (show cX9_findHeights.data.toList[27]? = some 0x03 from (LBX9_findHeightsr_1 11).trans (by decide +kernel))
theorem dX9_findHeights_28 : decode cX9_findHeights 28 = .ok (.istore_n 2, 1) := dk_61_ (show cX9_findHeights.data.toList[28]? = some 0x3d from (LBX9_findHeightsr_1 12).trans (by decide +kernel))
theorem dX9_findHeights_29 : decode cX9_findHeights 29 = .ok (.iload_n 2, 1) := dk_28_ (show cX9_findHeights.data.toList[29]? = some 0x1c from (LBX9_findHeightsr_1 13).trans (by decide +kernel))
theorem dX9_findHeights_30 : decode cX9_findHeights 30 = .ok (.iload_n 1, 1) := dk_27_ (show cX9_findHeights.data.toList[30]? = some 0x1b from (LBX9_findHeightsr_1 14).trans (by decide +kernel))
theorem dX9_findHeights_31 : decode cX9_findHeights 31 = .ok (.if_icmp .ge 37, 3) := dk_162_ (show cX9_findHeights.data.toList[31]? = some 0xa2 from (LBX9_findHeightsr_1 15).trans (by decide +kernel)) (show cX9_findHeights.data.toList[32]? = some 0x00 from (LBX9_findHeightsr_2 0).trans (by decide +kernel)) (show cX9_findHeights.data.toList[33]? = some 0x25 from (LBX9_findHeightsr_2 1).trans (by decide +kernel)) (by decide)
theorem dX9_findHeights_34 : decode cX9_findHeights 34 = .ok (.aload_n 0, 1) := dk_42_ (show cX9_findHeights.data.toList[34]? = some 0x2a from (LBX9_findHeightsr_2 2).trans (by decide +kernel))
theorem dX9_findHeights_35 : decode cX9_findHeights 35 = .ok (.getfield 34, 3) := dk_180_ (show cX9_findHeights.data.toList[35]? = some 0xb4 from (LBX9_findHeightsr_2 3).trans (by decide +kernel)) (show cX9_findHeights.data.toList[36]? = some 0x00 from (LBX9_findHeightsr_2 4).trans (by decide +kernel)) (show cX9_findHeights.data.toList[37]? = some 0x22 from (LBX9_findHeightsr_2 5).trans (by decide +kernel)) (by decide)
theorem dX9_findHeights_38 : decode cX9_findHeights 38 = .ok (.iload_n 2, 1) := dk_28_ (show cX9_findHeights.data.toList[38]? = some 0x1c from (LBX9_findHeightsr_2 6).trans (by decide +kernel))
theorem dX9_findHeights_39 : decode cX9_findHeights 39 = .ok (.iaload, 1) := dk_46_ (show cX9_findHeights.data.toList[39]? = some 0x2e from (LBX9_findHeightsr_2 7).trans (by decide +kernel))
theorem dX9_findHeights_40 : decode cX9_findHeights 40 = .ok (.ifCond .ge 22, 3) := dk_156_ (show cX9_findHeights.data.toList[40]? = some 0x9c from (LBX9_findHeightsr_2 8).trans (by decide +kernel)) (show cX9_findHeights.data.toList[41]? = some 0x00 from (LBX9_findHeightsr_2 9).trans (by decide +kernel)) (show cX9_findHeights.data.toList[42]? = some 0x16 from (LBX9_findHeightsr_2 10).trans (by decide +kernel)) (by decide)
theorem dX9_findHeights_43 : decode cX9_findHeights 43 = .ok (.aload_n 0, 1) := dk_42_ (show cX9_findHeights.data.toList[43]? = some 0x2a from (LBX9_findHeightsr_2 11).trans (by decide +kernel))
theorem dX9_findHeights_44 : decode cX9_findHeights 44 = .ok (.getfield 34, 3) := dk_180_ (show cX9_findHeights.data.toList[44]? = some 0xb4 from (LBX9_findHeightsr_2 12).trans (by decide +kernel)) (show cX9_findHeights.data.toList[45]? = some 0x00 from (LBX9_findHeightsr_2 13).trans (by decide +kernel)) (show cX9_findHeights.data.toList[46]? = some 0x22 from (LBX9_findHeightsr_2 14).trans (by decide +kernel)) (by decide)
theorem dX9_findHeights_47 : decode cX9_findHeights 47 = .ok (.iload_n 2, 1) := dk_28_ (show cX9_findHeights.data.toList[47]? = some 0x1c from (LBX9_findHeightsr_2 15).trans (by decide +kernel))
theorem dX9_findHeights_48 : decode cX9_findHeights 48 = .ok (.iload_n 2, 1) := dk_28_ (show cX9_findHeights.data.toList[48]? = some 0x1c from (LBX9_findHeightsr_3 0).trans (by decide +kernel))
theorem dX9_findHeights_49 : decode cX9_findHeights 49 = .ok (.iastore, 1) := dk_79_ (show cX9_findHeights.data.toList[49]? = some 0x4f from (LBX9_findHeightsr_3 1).trans (by decide +kernel))
theorem dX9_findHeights_50 : decode cX9_findHeights 50 = .ok (.aload_n 0, 1) := dk_42_ (show cX9_findHeights.data.toList[50]? = some 0x2a from (LBX9_findHeightsr_3 2).trans (by decide +kernel))
theorem dX9_findHeights_51 : decode cX9_findHeights 51 = .ok (.getfield 31, 3) := dk_180_ (show cX9_findHeights.data.toList[51]? = some 0xb4 from (LBX9_findHeightsr_3 3).trans (by decide +kernel)) (show cX9_findHeights.data.toList[52]? = some 0x00 from (LBX9_findHeightsr_3 4).trans (by decide +kernel)) (show cX9_findHeights.data.toList[53]? = some 0x1f from (LBX9_findHeightsr_3 5).trans (by decide +kernel)) (by decide)
theorem dX9_findHeights_54 : decode cX9_findHeights 54 = .ok (.iload_n 2, 1) := dk_28_ (show cX9_findHeights.data.toList[54]? = some 0x1c from (LBX9_findHeightsr_3 6).trans (by decide +kernel))
theorem dX9_findHeights_55 : decode cX9_findHeights 55 = .ok (.iconst 0, 1) := dk_3_ (show cX9_findHeights.data.toList[55]? = some 0x03 from (LBX9_findHeightsr_3 7).trans (by decide +kernel))
theorem dX9_findHeights_56 : decode cX9_findHeights 56 = .ok (.iastore, 1) := dk_79_ (show cX9_findHeights.data.toList[56]? = some 0x4f from (LBX9_findHeightsr_3 8).trans (by decide +kernel))
theorem dX9_findHeights_57 : decode cX9_findHeights 57 = .ok (.aload_n 0, 1) := dk_42_ (show cX9_findHeights.data.toList[57]? = some 0x2a from (LBX9_findHeightsr_3 9).trans (by decide +kernel))
theorem dX9_findHeights_58 : decode cX9_findHeights 58 = .ok (.iload_n 2, 1) := dk_28_ (show cX9_findHeights.data.toList[58]? = some 0x1c from (LBX9_findHeightsr_3 10).trans (by decide +kernel))
theorem dX9_findHeights_59 : decode cX9_findHeights 59 = .ok (.invokevirtual 177, 3) := dk_182_ (show cX9_findHeights.data.toList[59]? = some 0xb6 from (LBX9_findHeightsr_3 11).trans (by decide +kernel)) (show cX9_findHeights.data.toList[60]? = some 0x00 from (LBX9_findHeightsr_3 12).trans (by decide +kernel)) (show cX9_findHeights.data.toList[61]? = some 0xb1 from (LBX9_findHeightsr_3 13).trans (by decide +kernel)) (by decide)
theorem dX9_findHeights_62 : decode cX9_findHeights 62 = .ok (.iinc 2 1, 3) := dk_132_ (show cX9_findHeights.data.toList[62]? = some 0x84 from (LBX9_findHeightsr_3 14).trans (by decide +kernel)) (show cX9_findHeights.data.toList[63]? = some 0x02 from (LBX9_findHeightsr_3 15).trans (by decide +kernel)) (show cX9_findHeights.data.toList[64]? = some 0x01 from (LBX9_findHeightsr_4 0).trans (by decide +kernel)) (by decide) (by decide)
theorem dX9_findHeights_65 : decode cX9_findHeights 65 = .ok (.goto (-36), 3) := dk_167_ (show cX9_findHeights.data.toList[65]? = some 0xa7 from (LBX9_findHeightsr_4 1).trans (by decide +kernel)) (show cX9_findHeights.data.toList[66]? = some 0xff from (LBX9_findHeightsr_4 2).trans (by decide +kernel)) (show cX9_findHeights.data.toList[67]? = some 0xdc from (LBX9_findHeightsr_4 3).trans (by decide +kernel)) (by decide)
theorem dX9_findHeights_68 : decode cX9_findHeights 68 = .ok (.aload_n 0, 1) := dk_42_ (show cX9_findHeights.data.toList[68]? = some 0x2a from (LBX9_findHeightsr_4 4).trans (by decide +kernel))
theorem dX9_findHeights_69 : decode cX9_findHeights 69 = .ok (.iconst 1, 1) := dk_4_ (show cX9_findHeights.data.toList[69]? = some 0x04 from (LBX9_findHeightsr_4 5).trans (by decide +kernel))
theorem dX9_findHeights_70 : decode cX9_findHeights 70 = .ok (.putfield 180, 3) := dk_181_ (show cX9_findHeights.data.toList[70]? = some 0xb5 from (LBX9_findHeightsr_4 6).trans (by decide +kernel)) (show cX9_findHeights.data.toList[71]? = some 0x00 from (LBX9_findHeightsr_4 7).trans (by decide +kernel)) (show cX9_findHeights.data.toList[72]? = some 0xb4 from (LBX9_findHeightsr_4 8).trans (by decide +kernel)) (by decide)
theorem dX9_findHeights_73 : decode cX9_findHeights 73 = .ok (.iconst 0, 1) := dk_3_ (show cX9_findHeights.data.toList[73]? = some 0x03 from (LBX9_findHeightsr_4 9).trans (by decide +kernel))
theorem dX9_findHeights_74 : decode cX9_findHeights 74 = .ok (.istore_n 2, 1) := dk_61_ (show cX9_findHeights.data.toList[74]? = some 0x3d from (LBX9_findHeightsr_4 10).trans (by decide +kernel))
theorem dX9_findHeights_75 : decode cX9_findHeights 75 = .ok (.iload_n 2, 1) := dk_28_ (show cX9_findHeights.data.toList[75]? = some 0x1c from (LBX9_findHeightsr_4 11).trans (by decide +kernel))
theorem dX9_findHeights_76 : decode cX9_findHeights 76 = .ok (.iload_n 1, 1) := dk_27_ (show cX9_findHeights.data.toList[76]? = some 0x1b from (LBX9_findHeightsr_4 12).trans (by decide +kernel))
theorem dX9_findHeights_77 : decode cX9_findHeights 77 = .ok (.if_icmp .ge 76, 3) := dk_162_ (show cX9_findHeights.data.toList[77]? = some 0xa2 from (LBX9_findHeightsr_4 13).trans (by decide +kernel)) (show cX9_findHeights.data.toList[78]? = some 0x00 from (LBX9_findHeightsr_4 14).trans (by decide +kernel)) (show cX9_findHeights.data.toList[79]? = some 0x4c from (LBX9_findHeightsr_4 15).trans (by decide +kernel)) (by decide)
theorem dX9_findHeights_80 : decode cX9_findHeights 80 = .ok (.iconst 0, 1) := dk_3_ (show cX9_findHeights.data.toList[80]? = some 0x03 from (LBX9_findHeightsr_5 0).trans (by decide +kernel))
theorem dX9_findHeights_81 : decode cX9_findHeights 81 = .ok (.istore_n 3, 1) := dk_62_ (show cX9_findHeights.data.toList[81]? = some 0x3e from (LBX9_findHeightsr_5 1).trans (by decide +kernel))
theorem dX9_findHeights_82 : decode cX9_findHeights 82 = .ok (.iload_n 3, 1) := dk_29_ (show cX9_findHeights.data.toList[82]? = some 0x1d from (LBX9_findHeightsr_5 2).trans (by decide +kernel))
theorem dX9_findHeights_83 : decode cX9_findHeights 83 = .ok (.iload_n 1, 1) := dk_27_ (show cX9_findHeights.data.toList[83]? = some 0x1b from (LBX9_findHeightsr_5 3).trans (by decide +kernel))
theorem dX9_findHeights_84 : decode cX9_findHeights 84 = .ok (.if_icmp .ge 63, 3) := dk_162_ (show cX9_findHeights.data.toList[84]? = some 0xa2 from (LBX9_findHeightsr_5 4).trans (by decide +kernel)) (show cX9_findHeights.data.toList[85]? = some 0x00 from (LBX9_findHeightsr_5 5).trans (by decide +kernel)) (show cX9_findHeights.data.toList[86]? = some 0x3f from (LBX9_findHeightsr_5 6).trans (by decide +kernel)) (by decide)
theorem dX9_findHeights_87 : decode cX9_findHeights 87 = .ok (.aload_n 0, 1) := dk_42_ (show cX9_findHeights.data.toList[87]? = some 0x2a from (LBX9_findHeightsr_5 7).trans (by decide +kernel))
theorem dX9_findHeights_88 : decode cX9_findHeights 88 = .ok (.aload_n 0, 1) := dk_42_ (show cX9_findHeights.data.toList[88]? = some 0x2a from (LBX9_findHeightsr_5 8).trans (by decide +kernel))
theorem dX9_findHeights_89 : decode cX9_findHeights 89 = .ok (.getfield 180, 3) := dk_180_ (show cX9_findHeights.data.toList[89]? = some 0xb4 from (LBX9_findHeightsr_5 9).trans (by decide +kernel)) (show cX9_findHeights.data.toList[90]? = some 0x00 from (LBX9_findHeightsr_5 10).trans (by decide +kernel)) (show cX9_findHeights.data.toList[91]? = some 0xb4 from (LBX9_findHeightsr_5 11).trans (by decide +kernel)) (by decide)
theorem dX9_findHeights_92 : decode cX9_findHeights 92 = .ok (.ifCond .eq 45, 3) := dk_153_ (show cX9_findHeights.data.toList[92]? = some 0x99 from (LBX9_findHeightsr_5 12).trans (by decide +kernel)) (show cX9_findHeights.data.toList[93]? = some 0x00 from (LBX9_findHeightsr_5 13).trans (by decide +kernel)) (show cX9_findHeights.data.toList[94]? = some 0x2d from (LBX9_findHeightsr_5 14).trans (by decide +kernel)) (by decide)
theorem dX9_findHeights_95 : decode cX9_findHeights 95 = .ok (.aload_n 0, 1) := dk_42_ (show cX9_findHeights.data.toList[95]? = some 0x2a from (LBX9_findHeightsr_5 15).trans (by decide +kernel))
theorem dX9_findHeights_96 : decode cX9_findHeights 96 = .ok (.iload_n 2, 1) := dk_28_ (show cX9_findHeights.data.toList[96]? = some 0x1c from (LBX9_findHeightsr_6 0).trans (by decide +kernel))
theorem dX9_findHeights_97 : decode cX9_findHeights 97 = .ok (.iload_n 3, 1) := dk_29_ (show cX9_findHeights.data.toList[97]? = some 0x1d from (LBX9_findHeightsr_6 1).trans (by decide +kernel))
theorem dX9_findHeights_98 : decode cX9_findHeights 98 = .ok (.invokevirtual 183, 3) := dk_182_ (show cX9_findHeights.data.toList[98]? = some 0xb6 from (LBX9_findHeightsr_6 2).trans (by decide +kernel)) (show cX9_findHeights.data.toList[99]? = some 0x00 from (LBX9_findHeightsr_6 3).trans (by decide +kernel)) (show cX9_findHeights.data.toList[100]? = some 0xb7 from (LBX9_findHeightsr_6 4).trans (by decide +kernel)) (by decide)
theorem dX9_findHeights_101 : decode cX9_findHeights 101 = .ok (.ifCond .eq 32, 3) := dk_153_ (show cX9_findHeights.data.toList[101]? = some 0x99 from (LBX9_findHeightsr_6 5).trans (by decide +kernel)) (show cX9_findHeights.data.toList[102]? = some 0x00 from (LBX9_findHeightsr_6 6).trans (by decide +kernel)) (show cX9_findHeights.data.toList[103]? = some 0x20 from (LBX9_findHeightsr_6 7).trans (by decide +kernel)) (by decide)
theorem dX9_findHeights_104 : decode cX9_findHeights 104 = .ok (.aload_n 0, 1) := dk_42_ (show cX9_findHeights.data.toList[104]? = some 0x2a from (LBX9_findHeightsr_6 8).trans (by decide +kernel))
theorem dX9_findHeights_105 : decode cX9_findHeights 105 = .ok (.getfield 31, 3) := dk_180_ (show cX9_findHeights.data.toList[105]? = some 0xb4 from (LBX9_findHeightsr_6 9).trans (by decide +kernel)) (show cX9_findHeights.data.toList[106]? = some 0x00 from (LBX9_findHeightsr_6 10).trans (by decide +kernel)) (show cX9_findHeights.data.toList[107]? = some 0x1f from (LBX9_findHeightsr_6 11).trans (by decide +kernel)) (by decide)
theorem dX9_findHeights_108 : decode cX9_findHeights 108 = .ok (.iload_n 3, 1) := dk_29_ (show cX9_findHeights.data.toList[108]? = some 0x1d from (LBX9_findHeightsr_6 12).trans (by decide +kernel))
theorem dX9_findHeights_109 : decode cX9_findHeights 109 = .ok (.iaload, 1) := dk_46_ (show cX9_findHeights.data.toList[109]? = some 0x2e from (LBX9_findHeightsr_6 13).trans (by decide +kernel))
theorem dX9_findHeights_110 : decode cX9_findHeights 110 = .ok (.aload_n 0, 1) := dk_42_ (show cX9_findHeights.data.toList[110]? = some 0x2a from (LBX9_findHeightsr_6 14).trans (by decide +kernel))
theorem dX9_findHeights_111 : decode cX9_findHeights 111 = .ok (.getfield 31, 3) := dk_180_ (show cX9_findHeights.data.toList[111]? = some 0xb4 from (LBX9_findHeightsr_6 15).trans (by decide +kernel)) (show cX9_findHeights.data.toList[112]? = some 0x00 from (LBX9_findHeightsr_7 0).trans (by decide +kernel)) (show cX9_findHeights.data.toList[113]? = some 0x1f from (LBX9_findHeightsr_7 1).trans (by decide +kernel)) (by decide)
theorem dX9_findHeights_114 : decode cX9_findHeights 114 = .ok (.iload_n 2, 1) := dk_28_ (show cX9_findHeights.data.toList[114]? = some 0x1c from (LBX9_findHeightsr_7 2).trans (by decide +kernel))
theorem dX9_findHeights_115 : decode cX9_findHeights 115 = .ok (.iaload, 1) := dk_46_ (show cX9_findHeights.data.toList[115]? = some 0x2e from (LBX9_findHeightsr_7 3).trans (by decide +kernel))
theorem dX9_findHeights_116 : decode cX9_findHeights 116 = .ok (.isub, 1) := dk_100_ (show cX9_findHeights.data.toList[116]? = some 0x64 from (LBX9_findHeightsr_7 4).trans (by decide +kernel))
theorem dX9_findHeights_117 : decode cX9_findHeights 117 = .ok (.aload_n 0, 1) := dk_42_ (show cX9_findHeights.data.toList[117]? = some 0x2a from (LBX9_findHeightsr_7 5).trans (by decide +kernel))
theorem dX9_findHeights_118 : decode cX9_findHeights 118 = .ok (.iload_n 2, 1) := dk_28_ (show cX9_findHeights.data.toList[118]? = some 0x1c from (LBX9_findHeightsr_7 6).trans (by decide +kernel))
theorem dX9_findHeights_119 : decode cX9_findHeights 119 = .ok (.iload_n 3, 1) := dk_29_ (show cX9_findHeights.data.toList[119]? = some 0x1d from (LBX9_findHeightsr_7 7).trans (by decide +kernel))
theorem dX9_findHeights_120 : decode cX9_findHeights 120 = .ok (.invokevirtual 100, 3) := dk_182_ (show cX9_findHeights.data.toList[120]? = some 0xb6 from (LBX9_findHeightsr_7 8).trans (by decide +kernel)) (show cX9_findHeights.data.toList[121]? = some 0x00 from (LBX9_findHeightsr_7 9).trans (by decide +kernel)) (show cX9_findHeights.data.toList[122]? = some 0x64 from (LBX9_findHeightsr_7 10).trans (by decide +kernel)) (by decide)
theorem dX9_findHeights_123 : decode cX9_findHeights 123 = .ok (.aload_n 0, 1) := dk_42_ (show cX9_findHeights.data.toList[123]? = some 0x2a from (LBX9_findHeightsr_7 11).trans (by decide +kernel))
theorem dX9_findHeights_124 : decode cX9_findHeights 124 = .ok (.iload_n 3, 1) := dk_29_ (show cX9_findHeights.data.toList[124]? = some 0x1d from (LBX9_findHeightsr_7 12).trans (by decide +kernel))
theorem dX9_findHeights_125 : decode cX9_findHeights 125 = .ok (.iload_n 2, 1) := dk_28_ (show cX9_findHeights.data.toList[125]? = some 0x1c from (LBX9_findHeightsr_7 13).trans (by decide +kernel))
theorem dX9_findHeights_126 : decode cX9_findHeights 126 = .ok (.invokevirtual 100, 3) := dk_182_ (show cX9_findHeights.data.toList[126]? = some 0xb6 from (LBX9_findHeightsr_7 14).trans (by decide +kernel)) (show cX9_findHeights.data.toList[127]? = some 0x00 from (LBX9_findHeightsr_7 15).trans (by decide +kernel)) (show cX9_findHeights.data.toList[128]? = some 0x64 from (LBX9_findHeightsr_8 0).trans (by decide +kernel)) (by decide)
theorem dX9_findHeights_129 : decode cX9_findHeights 129 = .ok (.isub, 1) := dk_100_ (show cX9_findHeights.data.toList[129]? = some 0x64 from (LBX9_findHeightsr_8 1).trans (by decide +kernel))
theorem dX9_findHeights_130 : decode cX9_findHeights 130 = .ok (.if_icmp .ne 7, 3) := dk_160_ (show cX9_findHeights.data.toList[130]? = some 0xa0 from (LBX9_findHeightsr_8 2).trans (by decide +kernel)) (show cX9_findHeights.data.toList[131]? = some 0x00 from (LBX9_findHeightsr_8 3).trans (by decide +kernel)) (show cX9_findHeights.data.toList[132]? = some 0x07 from (LBX9_findHeightsr_8 4).trans (by decide +kernel)) (by decide)
theorem dX9_findHeights_133 : decode cX9_findHeights 133 = .ok (.iconst 1, 1) := dk_4_ (show cX9_findHeights.data.toList[133]? = some 0x04 from (LBX9_findHeightsr_8 5).trans (by decide +kernel))
theorem dX9_findHeights_134 : decode cX9_findHeights 134 = .ok (.goto 4, 3) := dk_167_ (show cX9_findHeights.data.toList[134]? = some 0xa7 from (LBX9_findHeightsr_8 6).trans (by decide +kernel)) (show cX9_findHeights.data.toList[135]? = some 0x00 from (LBX9_findHeightsr_8 7).trans (by decide +kernel)) (show cX9_findHeights.data.toList[136]? = some 0x04 from (LBX9_findHeightsr_8 8).trans (by decide +kernel)) (by decide)
theorem dX9_findHeights_137 : decode cX9_findHeights 137 = .ok (.iconst 0, 1) := dk_3_ (show cX9_findHeights.data.toList[137]? = some 0x03 from (LBX9_findHeightsr_8 9).trans (by decide +kernel))
theorem dX9_findHeights_138 : decode cX9_findHeights 138 = .ok (.putfield 180, 3) := dk_181_ (show cX9_findHeights.data.toList[138]? = some 0xb5 from (LBX9_findHeightsr_8 10).trans (by decide +kernel)) (show cX9_findHeights.data.toList[139]? = some 0x00 from (LBX9_findHeightsr_8 11).trans (by decide +kernel)) (show cX9_findHeights.data.toList[140]? = some 0xb4 from (LBX9_findHeightsr_8 12).trans (by decide +kernel)) (by decide)
theorem dX9_findHeights_141 : decode cX9_findHeights 141 = .ok (.iinc 3 1, 3) := dk_132_ (show cX9_findHeights.data.toList[141]? = some 0x84 from (LBX9_findHeightsr_8 13).trans (by decide +kernel)) (show cX9_findHeights.data.toList[142]? = some 0x03 from (LBX9_findHeightsr_8 14).trans (by decide +kernel)) (show cX9_findHeights.data.toList[143]? = some 0x01 from (LBX9_findHeightsr_8 15).trans (by decide +kernel)) (by decide) (by decide)
theorem dX9_findHeights_144 : decode cX9_findHeights 144 = .ok (.goto (-62), 3) := dk_167_ (show cX9_findHeights.data.toList[144]? = some 0xa7 from (LBX9_findHeightsr_9 0).trans (by decide +kernel)) (show cX9_findHeights.data.toList[145]? = some 0xff from (LBX9_findHeightsr_9 1).trans (by decide +kernel)) (show cX9_findHeights.data.toList[146]? = some 0xc2 from (LBX9_findHeightsr_9 2).trans (by decide +kernel)) (by decide)
theorem dX9_findHeights_147 : decode cX9_findHeights 147 = .ok (.iinc 2 1, 3) := dk_132_ (show cX9_findHeights.data.toList[147]? = some 0x84 from (LBX9_findHeightsr_9 3).trans (by decide +kernel)) (show cX9_findHeights.data.toList[148]? = some 0x02 from (LBX9_findHeightsr_9 4).trans (by decide +kernel)) (show cX9_findHeights.data.toList[149]? = some 0x01 from (LBX9_findHeightsr_9 5).trans (by decide +kernel)) (by decide) (by decide)
theorem dX9_findHeights_150 : decode cX9_findHeights 150 = .ok (.goto (-75), 3) := dk_167_ (show cX9_findHeights.data.toList[150]? = some 0xa7 from (LBX9_findHeightsr_9 6).trans (by decide +kernel)) (show cX9_findHeights.data.toList[151]? = some 0xff from (LBX9_findHeightsr_9 7).trans (by decide +kernel)) (show cX9_findHeights.data.toList[152]? = some 0xb5 from (LBX9_findHeightsr_9 8).trans (by decide +kernel)) (by decide)
theorem dX9_findHeights_153 : decode cX9_findHeights 153 = .ok (.return_, 1) := dk_177_ (show cX9_findHeights.data.toList[153]? = some 0xb1 from (LBX9_findHeightsr_9 9).trans (by decide +kernel))
def LRX9_fit_2 : List UInt8 := []
def LBX9_fit_1 : List UInt8 := [0xac]
def LRX9_fit_1 : List UInt8 := LBX9_fit_1 ++ LRX9_fit_2
def LBX9_fit_0 : List UInt8 := [0x2a, 0xb6, 0x00, 0xba, 0x2a, 0xb4, 0x00, 0xb4, 0x99, 0x00, 0x07, 0x04, 0xa7, 0x00, 0x04, 0x03]
def LRX9_fit_0 : List UInt8 := LBX9_fit_0 ++ LRX9_fit_1
set_option maxRecDepth 100000 in
theorem LBX9_fit_eq : cX9_fit.data.toList = LRX9_fit_0 := by decide +kernel
theorem LBX9_fitr_0 (k : Nat) : cX9_fit.data.toList[0 + k]? = LRX9_fit_0[k]? := by rw [LBX9_fit_eq, Nat.zero_add]
theorem LBX9_fitr_1 (k : Nat) : cX9_fit.data.toList[16 + k]? = LRX9_fit_1[k]? := by
  have h := LBX9_fitr_0 (16 + k)
  rw [show 0 + (16 + k) = 16 + k by omega] at h
  rw [h]
  exact (List.getElem?_append_right (l₁ := LBX9_fit_0) (l₂ := LRX9_fit_1) (show 16 ≤ 16 + k by omega)).trans (congrArg (fun i => LRX9_fit_1[i]?) (show 16 + k - 16 = k by omega))
theorem dX9_fit_0 : decode cX9_fit 0 = .ok (.aload_n 0, 1) := dk_42_ (show cX9_fit.data.toList[0]? = some 0x2a from (LBX9_fitr_0 0).trans (by decide +kernel))
theorem dX9_fit_1 : decode cX9_fit 1 = .ok (.invokevirtual 186, 3) := dk_182_ (show cX9_fit.data.toList[1]? = some 0xb6 from (LBX9_fitr_0 1).trans (by decide +kernel)) (show cX9_fit.data.toList[2]? = some 0x00 from (LBX9_fitr_0 2).trans (by decide +kernel)) (show cX9_fit.data.toList[3]? = some 0xba from (LBX9_fitr_0 3).trans (by decide +kernel)) (by decide)
theorem dX9_fit_4 : decode cX9_fit 4 = .ok (.aload_n 0, 1) := dk_42_ (show cX9_fit.data.toList[4]? = some 0x2a from (LBX9_fitr_0 4).trans (by decide +kernel))
theorem dX9_fit_5 : decode cX9_fit 5 = .ok (.getfield 180, 3) := dk_180_ (show cX9_fit.data.toList[5]? = some 0xb4 from (LBX9_fitr_0 5).trans (by decide +kernel)) (show cX9_fit.data.toList[6]? = some 0x00 from (LBX9_fitr_0 6).trans (by decide +kernel)) (show cX9_fit.data.toList[7]? = some 0xb4 from (LBX9_fitr_0 7).trans (by decide +kernel)) (by decide)
theorem dX9_fit_8 : decode cX9_fit 8 = .ok (.ifCond .eq 7, 3) := dk_153_ (show cX9_fit.data.toList[8]? = some 0x99 from (LBX9_fitr_0 8).trans (by decide +kernel)) (show cX9_fit.data.toList[9]? = some 0x00 from (LBX9_fitr_0 9).trans (by decide +kernel)) (show cX9_fit.data.toList[10]? = some 0x07 from (LBX9_fitr_0 10).trans (by decide +kernel)) (by decide)
theorem dX9_fit_11 : decode cX9_fit 11 = .ok (.iconst 1, 1) := dk_4_ (show cX9_fit.data.toList[11]? = some 0x04 from (LBX9_fitr_0 11).trans (by decide +kernel))
theorem dX9_fit_12 : decode cX9_fit 12 = .ok (.goto 4, 3) := dk_167_ (show cX9_fit.data.toList[12]? = some 0xa7 from (LBX9_fitr_0 12).trans (by decide +kernel)) (show cX9_fit.data.toList[13]? = some 0x00 from (LBX9_fitr_0 13).trans (by decide +kernel)) (show cX9_fit.data.toList[14]? = some 0x04 from (LBX9_fitr_0 14).trans (by decide +kernel)) (by decide)
theorem dX9_fit_15 : decode cX9_fit 15 = .ok (.iconst 0, 1) := dk_3_ (show cX9_fit.data.toList[15]? = some 0x03 from (LBX9_fitr_0 15).trans (by decide +kernel))
theorem dX9_fit_16 : decode cX9_fit 16 = .ok (.ireturn, 1) := dk_172_ (show cX9_fit.data.toList[16]? = some 0xac from (LBX9_fitr_1 0).trans (by decide +kernel))
def LRX9_height_3 : List UInt8 := []
def LBX9_height_2 : List UInt8 := [0xac, 0x2a, 0xb4, 0x00, 0x1f, 0x1b, 0x2e, 0xac]
def LRX9_height_2 : List UInt8 := LBX9_height_2 ++ LRX9_height_3
def LBX9_height_1 : List UInt8 := [0xb6, 0x00, 0xba, 0x2a, 0xb4, 0x00, 0xb4, 0x9a, 0x00, 0x0a, 0x2a, 0x12, 0x74, 0xb6, 0x00, 0x46]
def LRX9_height_1 : List UInt8 := LBX9_height_1 ++ LRX9_height_2
def LBX9_height_0 : List UInt8 := [0x2a, 0x1b, 0xb6, 0x00, 0x3d, 0x9a, 0x00, 0x0a, 0x2a, 0x12, 0x38, 0xb6, 0x00, 0x46, 0xac, 0x2a]
def LRX9_height_0 : List UInt8 := LBX9_height_0 ++ LRX9_height_1
set_option maxRecDepth 100000 in
theorem LBX9_height_eq : cX9_height.data.toList = LRX9_height_0 := by decide +kernel
theorem LBX9_heightr_0 (k : Nat) : cX9_height.data.toList[0 + k]? = LRX9_height_0[k]? := by rw [LBX9_height_eq, Nat.zero_add]
theorem LBX9_heightr_1 (k : Nat) : cX9_height.data.toList[16 + k]? = LRX9_height_1[k]? := by
  have h := LBX9_heightr_0 (16 + k)
  rw [show 0 + (16 + k) = 16 + k by omega] at h
  rw [h]
  exact (List.getElem?_append_right (l₁ := LBX9_height_0) (l₂ := LRX9_height_1) (show 16 ≤ 16 + k by omega)).trans (congrArg (fun i => LRX9_height_1[i]?) (show 16 + k - 16 = k by omega))
theorem LBX9_heightr_2 (k : Nat) : cX9_height.data.toList[32 + k]? = LRX9_height_2[k]? := by
  have h := LBX9_heightr_1 (16 + k)
  rw [show 16 + (16 + k) = 32 + k by omega] at h
  rw [h]
  exact (List.getElem?_append_right (l₁ := LBX9_height_1) (l₂ := LRX9_height_2) (show 16 ≤ 16 + k by omega)).trans (congrArg (fun i => LRX9_height_2[i]?) (show 16 + k - 16 = k by omega))
theorem dX9_height_0 : decode cX9_height 0 = .ok (.aload_n 0, 1) := dk_42_ (show cX9_height.data.toList[0]? = some 0x2a from (LBX9_heightr_0 0).trans (by decide +kernel))
theorem dX9_height_1 : decode cX9_height 1 = .ok (.iload_n 1, 1) := dk_27_ (show cX9_height.data.toList[1]? = some 0x1b from (LBX9_heightr_0 1).trans (by decide +kernel))
theorem dX9_height_2 : decode cX9_height 2 = .ok (.invokevirtual 61, 3) := dk_182_ (show cX9_height.data.toList[2]? = some 0xb6 from (LBX9_heightr_0 2).trans (by decide +kernel)) (show cX9_height.data.toList[3]? = some 0x00 from (LBX9_heightr_0 3).trans (by decide +kernel)) (show cX9_height.data.toList[4]? = some 0x3d from (LBX9_heightr_0 4).trans (by decide +kernel)) (by decide)
theorem dX9_height_5 : decode cX9_height 5 = .ok (.ifCond .ne 10, 3) := dk_154_ (show cX9_height.data.toList[5]? = some 0x9a from (LBX9_heightr_0 5).trans (by decide +kernel)) (show cX9_height.data.toList[6]? = some 0x00 from (LBX9_heightr_0 6).trans (by decide +kernel)) (show cX9_height.data.toList[7]? = some 0x0a from (LBX9_heightr_0 7).trans (by decide +kernel)) (by decide)
theorem dX9_height_8 : decode cX9_height 8 = .ok (.aload_n 0, 1) := dk_42_ (show cX9_height.data.toList[8]? = some 0x2a from (LBX9_heightr_0 8).trans (by decide +kernel))
theorem dX9_height_9 : decode cX9_height 9 = .ok (.ldc 56, 2) := dk_18_ (show cX9_height.data.toList[9]? = some 0x12 from (LBX9_heightr_0 9).trans (by decide +kernel)) (show cX9_height.data.toList[10]? = some 0x38 from (LBX9_heightr_0 10).trans (by decide +kernel)) (by decide)
theorem dX9_height_11 : decode cX9_height 11 = .ok (.invokevirtual 70, 3) := dk_182_ (show cX9_height.data.toList[11]? = some 0xb6 from (LBX9_heightr_0 11).trans (by decide +kernel)) (show cX9_height.data.toList[12]? = some 0x00 from (LBX9_heightr_0 12).trans (by decide +kernel)) (show cX9_height.data.toList[13]? = some 0x46 from (LBX9_heightr_0 13).trans (by decide +kernel)) (by decide)
theorem dX9_height_14 : decode cX9_height 14 = .ok (.ireturn, 1) := dk_172_ (show cX9_height.data.toList[14]? = some 0xac from (LBX9_heightr_0 14).trans (by decide +kernel))
theorem dX9_height_15 : decode cX9_height 15 = .ok (.aload_n 0, 1) := dk_42_ (show cX9_height.data.toList[15]? = some 0x2a from (LBX9_heightr_0 15).trans (by decide +kernel))
theorem dX9_height_16 : decode cX9_height 16 = .ok (.invokevirtual 186, 3) := dk_182_ (show cX9_height.data.toList[16]? = some 0xb6 from (LBX9_heightr_1 0).trans (by decide +kernel)) (show cX9_height.data.toList[17]? = some 0x00 from (LBX9_heightr_1 1).trans (by decide +kernel)) (show cX9_height.data.toList[18]? = some 0xba from (LBX9_heightr_1 2).trans (by decide +kernel)) (by decide)
theorem dX9_height_19 : decode cX9_height 19 = .ok (.aload_n 0, 1) := dk_42_ (show cX9_height.data.toList[19]? = some 0x2a from (LBX9_heightr_1 3).trans (by decide +kernel))
theorem dX9_height_20 : decode cX9_height 20 = .ok (.getfield 180, 3) := dk_180_ (show cX9_height.data.toList[20]? = some 0xb4 from (LBX9_heightr_1 4).trans (by decide +kernel)) (show cX9_height.data.toList[21]? = some 0x00 from (LBX9_heightr_1 5).trans (by decide +kernel)) (show cX9_height.data.toList[22]? = some 0xb4 from (LBX9_heightr_1 6).trans (by decide +kernel)) (by decide)
theorem dX9_height_23 : decode cX9_height 23 = .ok (.ifCond .ne 10, 3) := dk_154_ (show cX9_height.data.toList[23]? = some 0x9a from (LBX9_heightr_1 7).trans (by decide +kernel)) (show cX9_height.data.toList[24]? = some 0x00 from (LBX9_heightr_1 8).trans (by decide +kernel)) (show cX9_height.data.toList[25]? = some 0x0a from (LBX9_heightr_1 9).trans (by decide +kernel)) (by decide)
theorem dX9_height_26 : decode cX9_height 26 = .ok (.aload_n 0, 1) := dk_42_ (show cX9_height.data.toList[26]? = some 0x2a from (LBX9_heightr_1 10).trans (by decide +kernel))
theorem dX9_height_27 : decode cX9_height 27 = .ok (.ldc 116, 2) := dk_18_ (show cX9_height.data.toList[27]? = some 0x12 from (LBX9_heightr_1 11).trans (by decide +kernel)) (show cX9_height.data.toList[28]? = some 0x74 from (LBX9_heightr_1 12).trans (by decide +kernel)) (by decide)
theorem dX9_height_29 : decode cX9_height 29 = .ok (.invokevirtual 70, 3) := dk_182_ (show cX9_height.data.toList[29]? = some 0xb6 from (LBX9_heightr_1 13).trans (by decide +kernel)) (show cX9_height.data.toList[30]? = some 0x00 from (LBX9_heightr_1 14).trans (by decide +kernel)) (show cX9_height.data.toList[31]? = some 0x46 from (LBX9_heightr_1 15).trans (by decide +kernel)) (by decide)
theorem dX9_height_32 : decode cX9_height 32 = .ok (.ireturn, 1) := dk_172_ (show cX9_height.data.toList[32]? = some 0xac from (LBX9_heightr_2 0).trans (by decide +kernel))
theorem dX9_height_33 : decode cX9_height 33 = .ok (.aload_n 0, 1) := dk_42_ (show cX9_height.data.toList[33]? = some 0x2a from (LBX9_heightr_2 1).trans (by decide +kernel))
theorem dX9_height_34 : decode cX9_height 34 = .ok (.getfield 31, 3) := dk_180_ (show cX9_height.data.toList[34]? = some 0xb4 from (LBX9_heightr_2 2).trans (by decide +kernel)) (show cX9_height.data.toList[35]? = some 0x00 from (LBX9_heightr_2 3).trans (by decide +kernel)) (show cX9_height.data.toList[36]? = some 0x1f from (LBX9_heightr_2 4).trans (by decide +kernel)) (by decide)
theorem dX9_height_37 : decode cX9_height 37 = .ok (.iload_n 1, 1) := dk_27_ (show cX9_height.data.toList[37]? = some 0x1b from (LBX9_heightr_2 5).trans (by decide +kernel))
theorem dX9_height_38 : decode cX9_height 38 = .ok (.iaload, 1) := dk_46_ (show cX9_height.data.toList[38]? = some 0x2e from (LBX9_heightr_2 6).trans (by decide +kernel))
theorem dX9_height_39 : decode cX9_height 39 = .ok (.ireturn, 1) := dk_172_ (show cX9_height.data.toList[39]? = some 0xac from (LBX9_heightr_2 7).trans (by decide +kernel))
def LRX9_paper_4 : List UInt8 := []
def LBX9_paper_3 : List UInt8 := [0x46, 0xac]
def LRX9_paper_3 : List UInt8 := LBX9_paper_3 ++ LRX9_paper_4
def LBX9_paper_2 : List UInt8 := [0x1c, 0x1b, 0xb6, 0x00, 0x64, 0x60, 0x05, 0x6c, 0xa7, 0x00, 0x09, 0x2a, 0x12, 0x60, 0xb6, 0x00]
def LRX9_paper_2 : List UInt8 := LBX9_paper_2 ++ LRX9_paper_3
def LBX9_paper_1 : List UInt8 := [0x2a, 0x1b, 0x1c, 0xb6, 0x00, 0xb7, 0x99, 0x00, 0x15, 0x2a, 0x1b, 0x1c, 0xb6, 0x00, 0x64, 0x2a]
def LRX9_paper_1 : List UInt8 := LBX9_paper_1 ++ LRX9_paper_2
def LBX9_paper_0 : List UInt8 := [0x2a, 0x1b, 0x1c, 0xb6, 0x00, 0x50, 0x9a, 0x00, 0x0a, 0x2a, 0x12, 0x38, 0xb6, 0x00, 0x46, 0xac]
def LRX9_paper_0 : List UInt8 := LBX9_paper_0 ++ LRX9_paper_1
set_option maxRecDepth 100000 in
theorem LBX9_paper_eq : cX9_paper.data.toList = LRX9_paper_0 := by decide +kernel
theorem LBX9_paperr_0 (k : Nat) : cX9_paper.data.toList[0 + k]? = LRX9_paper_0[k]? := by rw [LBX9_paper_eq, Nat.zero_add]
theorem LBX9_paperr_1 (k : Nat) : cX9_paper.data.toList[16 + k]? = LRX9_paper_1[k]? := by
  have h := LBX9_paperr_0 (16 + k)
  rw [show 0 + (16 + k) = 16 + k by omega] at h
  rw [h]
  exact (List.getElem?_append_right (l₁ := LBX9_paper_0) (l₂ := LRX9_paper_1) (show 16 ≤ 16 + k by omega)).trans (congrArg (fun i => LRX9_paper_1[i]?) (show 16 + k - 16 = k by omega))
theorem LBX9_paperr_2 (k : Nat) : cX9_paper.data.toList[32 + k]? = LRX9_paper_2[k]? := by
  have h := LBX9_paperr_1 (16 + k)
  rw [show 16 + (16 + k) = 32 + k by omega] at h
  rw [h]
  exact (List.getElem?_append_right (l₁ := LBX9_paper_1) (l₂ := LRX9_paper_2) (show 16 ≤ 16 + k by omega)).trans (congrArg (fun i => LRX9_paper_2[i]?) (show 16 + k - 16 = k by omega))
theorem LBX9_paperr_3 (k : Nat) : cX9_paper.data.toList[48 + k]? = LRX9_paper_3[k]? := by
  have h := LBX9_paperr_2 (16 + k)
  rw [show 32 + (16 + k) = 48 + k by omega] at h
  rw [h]
  exact (List.getElem?_append_right (l₁ := LBX9_paper_2) (l₂ := LRX9_paper_3) (show 16 ≤ 16 + k by omega)).trans (congrArg (fun i => LRX9_paper_3[i]?) (show 16 + k - 16 = k by omega))
theorem dX9_paper_0 : decode cX9_paper 0 = .ok (.aload_n 0, 1) := dk_42_ (show cX9_paper.data.toList[0]? = some 0x2a from (LBX9_paperr_0 0).trans (by decide +kernel))
theorem dX9_paper_1 : decode cX9_paper 1 = .ok (.iload_n 1, 1) := dk_27_ (show cX9_paper.data.toList[1]? = some 0x1b from (LBX9_paperr_0 1).trans (by decide +kernel))
theorem dX9_paper_2 : decode cX9_paper 2 = .ok (.iload_n 2, 1) := dk_28_ (show cX9_paper.data.toList[2]? = some 0x1c from (LBX9_paperr_0 2).trans (by decide +kernel))
theorem dX9_paper_3 : decode cX9_paper 3 = .ok (.invokevirtual 80, 3) := dk_182_ (show cX9_paper.data.toList[3]? = some 0xb6 from (LBX9_paperr_0 3).trans (by decide +kernel)) (show cX9_paper.data.toList[4]? = some 0x00 from (LBX9_paperr_0 4).trans (by decide +kernel)) (show cX9_paper.data.toList[5]? = some 0x50 from (LBX9_paperr_0 5).trans (by decide +kernel)) (by decide)
theorem dX9_paper_6 : decode cX9_paper 6 = .ok (.ifCond .ne 10, 3) := dk_154_ (show cX9_paper.data.toList[6]? = some 0x9a from (LBX9_paperr_0 6).trans (by decide +kernel)) (show cX9_paper.data.toList[7]? = some 0x00 from (LBX9_paperr_0 7).trans (by decide +kernel)) (show cX9_paper.data.toList[8]? = some 0x0a from (LBX9_paperr_0 8).trans (by decide +kernel)) (by decide)
theorem dX9_paper_9 : decode cX9_paper 9 = .ok (.aload_n 0, 1) := dk_42_ (show cX9_paper.data.toList[9]? = some 0x2a from (LBX9_paperr_0 9).trans (by decide +kernel))
theorem dX9_paper_10 : decode cX9_paper 10 = .ok (.ldc 56, 2) := dk_18_ (show cX9_paper.data.toList[10]? = some 0x12 from (LBX9_paperr_0 10).trans (by decide +kernel)) (show cX9_paper.data.toList[11]? = some 0x38 from (LBX9_paperr_0 11).trans (by decide +kernel)) (by decide)
theorem dX9_paper_12 : decode cX9_paper 12 = .ok (.invokevirtual 70, 3) := dk_182_ (show cX9_paper.data.toList[12]? = some 0xb6 from (LBX9_paperr_0 12).trans (by decide +kernel)) (show cX9_paper.data.toList[13]? = some 0x00 from (LBX9_paperr_0 13).trans (by decide +kernel)) (show cX9_paper.data.toList[14]? = some 0x46 from (LBX9_paperr_0 14).trans (by decide +kernel)) (by decide)
theorem dX9_paper_15 : decode cX9_paper 15 = .ok (.ireturn, 1) := dk_172_ (show cX9_paper.data.toList[15]? = some 0xac from (LBX9_paperr_0 15).trans (by decide +kernel))
theorem dX9_paper_16 : decode cX9_paper 16 = .ok (.aload_n 0, 1) := dk_42_ (show cX9_paper.data.toList[16]? = some 0x2a from (LBX9_paperr_1 0).trans (by decide +kernel))
theorem dX9_paper_17 : decode cX9_paper 17 = .ok (.iload_n 1, 1) := dk_27_ (show cX9_paper.data.toList[17]? = some 0x1b from (LBX9_paperr_1 1).trans (by decide +kernel))
theorem dX9_paper_18 : decode cX9_paper 18 = .ok (.iload_n 2, 1) := dk_28_ (show cX9_paper.data.toList[18]? = some 0x1c from (LBX9_paperr_1 2).trans (by decide +kernel))
theorem dX9_paper_19 : decode cX9_paper 19 = .ok (.invokevirtual 183, 3) := dk_182_ (show cX9_paper.data.toList[19]? = some 0xb6 from (LBX9_paperr_1 3).trans (by decide +kernel)) (show cX9_paper.data.toList[20]? = some 0x00 from (LBX9_paperr_1 4).trans (by decide +kernel)) (show cX9_paper.data.toList[21]? = some 0xb7 from (LBX9_paperr_1 5).trans (by decide +kernel)) (by decide)
theorem dX9_paper_22 : decode cX9_paper 22 = .ok (.ifCond .eq 21, 3) := dk_153_ (show cX9_paper.data.toList[22]? = some 0x99 from (LBX9_paperr_1 6).trans (by decide +kernel)) (show cX9_paper.data.toList[23]? = some 0x00 from (LBX9_paperr_1 7).trans (by decide +kernel)) (show cX9_paper.data.toList[24]? = some 0x15 from (LBX9_paperr_1 8).trans (by decide +kernel)) (by decide)
theorem dX9_paper_25 : decode cX9_paper 25 = .ok (.aload_n 0, 1) := dk_42_ (show cX9_paper.data.toList[25]? = some 0x2a from (LBX9_paperr_1 9).trans (by decide +kernel))
theorem dX9_paper_26 : decode cX9_paper 26 = .ok (.iload_n 1, 1) := dk_27_ (show cX9_paper.data.toList[26]? = some 0x1b from (LBX9_paperr_1 10).trans (by decide +kernel))
theorem dX9_paper_27 : decode cX9_paper 27 = .ok (.iload_n 2, 1) := dk_28_ (show cX9_paper.data.toList[27]? = some 0x1c from (LBX9_paperr_1 11).trans (by decide +kernel))
theorem dX9_paper_28 : decode cX9_paper 28 = .ok (.invokevirtual 100, 3) := dk_182_ (show cX9_paper.data.toList[28]? = some 0xb6 from (LBX9_paperr_1 12).trans (by decide +kernel)) (show cX9_paper.data.toList[29]? = some 0x00 from (LBX9_paperr_1 13).trans (by decide +kernel)) (show cX9_paper.data.toList[30]? = some 0x64 from (LBX9_paperr_1 14).trans (by decide +kernel)) (by decide)
theorem dX9_paper_31 : decode cX9_paper 31 = .ok (.aload_n 0, 1) := dk_42_ (show cX9_paper.data.toList[31]? = some 0x2a from (LBX9_paperr_1 15).trans (by decide +kernel))
theorem dX9_paper_32 : decode cX9_paper 32 = .ok (.iload_n 2, 1) := dk_28_ (show cX9_paper.data.toList[32]? = some 0x1c from (LBX9_paperr_2 0).trans (by decide +kernel))
theorem dX9_paper_33 : decode cX9_paper 33 = .ok (.iload_n 1, 1) := dk_27_ (show cX9_paper.data.toList[33]? = some 0x1b from (LBX9_paperr_2 1).trans (by decide +kernel))
theorem dX9_paper_34 : decode cX9_paper 34 = .ok (.invokevirtual 100, 3) := dk_182_ (show cX9_paper.data.toList[34]? = some 0xb6 from (LBX9_paperr_2 2).trans (by decide +kernel)) (show cX9_paper.data.toList[35]? = some 0x00 from (LBX9_paperr_2 3).trans (by decide +kernel)) (show cX9_paper.data.toList[36]? = some 0x64 from (LBX9_paperr_2 4).trans (by decide +kernel)) (by decide)
theorem dX9_paper_37 : decode cX9_paper 37 = .ok (.iadd, 1) := dk_96_ (show cX9_paper.data.toList[37]? = some 0x60 from (LBX9_paperr_2 5).trans (by decide +kernel))
theorem dX9_paper_38 : decode cX9_paper 38 = .ok (.iconst 2, 1) := dk_5_ (show cX9_paper.data.toList[38]? = some 0x05 from (LBX9_paperr_2 6).trans (by decide +kernel))
theorem dX9_paper_39 : decode cX9_paper 39 = .ok (.idiv, 1) := dk_108_ (show cX9_paper.data.toList[39]? = some 0x6c from (LBX9_paperr_2 7).trans (by decide +kernel))
theorem dX9_paper_40 : decode cX9_paper 40 = .ok (.goto 9, 3) := dk_167_ (show cX9_paper.data.toList[40]? = some 0xa7 from (LBX9_paperr_2 8).trans (by decide +kernel)) (show cX9_paper.data.toList[41]? = some 0x00 from (LBX9_paperr_2 9).trans (by decide +kernel)) (show cX9_paper.data.toList[42]? = some 0x09 from (LBX9_paperr_2 10).trans (by decide +kernel)) (by decide)
theorem dX9_paper_43 : decode cX9_paper 43 = .ok (.aload_n 0, 1) := dk_42_ (show cX9_paper.data.toList[43]? = some 0x2a from (LBX9_paperr_2 11).trans (by decide +kernel))
theorem dX9_paper_44 : decode cX9_paper 44 = .ok (.ldc 96, 2) := dk_18_ (show cX9_paper.data.toList[44]? = some 0x12 from (LBX9_paperr_2 12).trans (by decide +kernel)) (show cX9_paper.data.toList[45]? = some 0x60 from (LBX9_paperr_2 13).trans (by decide +kernel)) (by decide)
theorem dX9_paper_46 : decode cX9_paper 46 = .ok (.invokevirtual 70, 3) := dk_182_ (show cX9_paper.data.toList[46]? = some 0xb6 from (LBX9_paperr_2 14).trans (by decide +kernel)) (show cX9_paper.data.toList[47]? = some 0x00 from (LBX9_paperr_2 15).trans (by decide +kernel)) (show cX9_paper.data.toList[48]? = some 0x46 from (LBX9_paperr_3 0).trans (by decide +kernel)) (by decide)
theorem dX9_paper_49 : decode cX9_paper 49 = .ok (.ireturn, 1) := dk_172_ (show cX9_paper.data.toList[49]? = some 0xac from (LBX9_paperr_3 1).trans (by decide +kernel))
def LRX9_worst_8 : List UInt8 := []
def LBX9_worst_7 : List UInt8 := [0x04, 0x1b, 0xac]
def LRX9_worst_7 : List UInt8 := LBX9_worst_7 ++ LRX9_worst_8
def LBX9_worst_6 : List UInt8 := [0x01, 0xa7, 0xff, 0xa3, 0x1b, 0x9c, 0x00, 0x0c, 0x2a, 0x12, 0x60, 0xb6, 0x00, 0x46, 0xa7, 0x00]
def LRX9_worst_6 : List UInt8 := LBX9_worst_6 ++ LRX9_worst_7
def LBX9_worst_5 : List UInt8 := [0x08, 0x15, 0x04, 0xa7, 0x00, 0x04, 0x1b, 0x3c, 0x84, 0x03, 0x01, 0xa7, 0xff, 0xb5, 0x84, 0x02]
def LRX9_worst_5 : List UInt8 := LBX9_worst_5 ++ LRX9_worst_6
def LBX9_worst_4 : List UInt8 := [0x03, 0x15, 0x04, 0x64, 0xa7, 0x00, 0x05, 0x15, 0x04, 0x36, 0x04, 0x15, 0x04, 0x1b, 0xa4, 0x00]
def LRX9_worst_4 : List UInt8 := LBX9_worst_4 ++ LRX9_worst_5
def LBX9_worst_3 : List UInt8 := [0x1d, 0x1c, 0xb6, 0x00, 0x64, 0x60, 0x05, 0x6c, 0x64, 0x36, 0x04, 0x15, 0x04, 0x9c, 0x00, 0x0a]
def LRX9_worst_3 : List UInt8 := LBX9_worst_3 ++ LRX9_worst_4
def LBX9_worst_2 : List UInt8 := [0x99, 0x00, 0x38, 0x2a, 0x1c, 0x1d, 0xb6, 0x00, 0x64, 0x2a, 0x1c, 0x1d, 0xb6, 0x00, 0x64, 0x2a]
def LRX9_worst_2 : List UInt8 := LBX9_worst_2 ++ LRX9_worst_3
def LBX9_worst_1 : List UInt8 := [0x1d, 0x2a, 0xb4, 0x00, 0x07, 0x03, 0x2e, 0xa2, 0x00, 0x47, 0x2a, 0x1c, 0x1d, 0xb6, 0x00, 0xb7]
def LRX9_worst_1 : List UInt8 := LBX9_worst_1 ++ LRX9_worst_2
def LBX9_worst_0 : List UInt8 := [0x02, 0x3c, 0x03, 0x3d, 0x1c, 0x2a, 0xb4, 0x00, 0x07, 0x03, 0x2e, 0xa2, 0x00, 0x59, 0x03, 0x3e]
def LRX9_worst_0 : List UInt8 := LBX9_worst_0 ++ LRX9_worst_1
set_option maxRecDepth 100000 in
theorem LBX9_worst_eq : cX9_worst.data.toList = LRX9_worst_0 := by decide +kernel
theorem LBX9_worstr_0 (k : Nat) : cX9_worst.data.toList[0 + k]? = LRX9_worst_0[k]? := by rw [LBX9_worst_eq, Nat.zero_add]
theorem LBX9_worstr_1 (k : Nat) : cX9_worst.data.toList[16 + k]? = LRX9_worst_1[k]? := by
  have h := LBX9_worstr_0 (16 + k)
  rw [show 0 + (16 + k) = 16 + k by omega] at h
  rw [h]
  exact (List.getElem?_append_right (l₁ := LBX9_worst_0) (l₂ := LRX9_worst_1) (show 16 ≤ 16 + k by omega)).trans (congrArg (fun i => LRX9_worst_1[i]?) (show 16 + k - 16 = k by omega))
theorem LBX9_worstr_2 (k : Nat) : cX9_worst.data.toList[32 + k]? = LRX9_worst_2[k]? := by
  have h := LBX9_worstr_1 (16 + k)
  rw [show 16 + (16 + k) = 32 + k by omega] at h
  rw [h]
  exact (List.getElem?_append_right (l₁ := LBX9_worst_1) (l₂ := LRX9_worst_2) (show 16 ≤ 16 + k by omega)).trans (congrArg (fun i => LRX9_worst_2[i]?) (show 16 + k - 16 = k by omega))
theorem LBX9_worstr_3 (k : Nat) : cX9_worst.data.toList[48 + k]? = LRX9_worst_3[k]? := by
  have h := LBX9_worstr_2 (16 + k)
  rw [show 32 + (16 + k) = 48 + k by omega] at h
  rw [h]
  exact (List.getElem?_append_right (l₁ := LBX9_worst_2) (l₂ := LRX9_worst_3) (show 16 ≤ 16 + k by omega)).trans (congrArg (fun i => LRX9_worst_3[i]?) (show 16 + k - 16 = k by omega))
theorem LBX9_worstr_4 (k : Nat) : cX9_worst.data.toList[64 + k]? = LRX9_worst_4[k]? := by
  have h := LBX9_worstr_3 (16 + k)
  rw [show 48 + (16 + k) = 64 + k by omega] at h
  rw [h]
  exact (List.getElem?_append_right (l₁ := LBX9_worst_3) (l₂ := LRX9_worst_4) (show 16 ≤ 16 + k by omega)).trans (congrArg (fun i => LRX9_worst_4[i]?) (show 16 + k - 16 = k by omega))
theorem LBX9_worstr_5 (k : Nat) : cX9_worst.data.toList[80 + k]? = LRX9_worst_5[k]? := by
  have h := LBX9_worstr_4 (16 + k)
  rw [show 64 + (16 + k) = 80 + k by omega] at h
  rw [h]
  exact (List.getElem?_append_right (l₁ := LBX9_worst_4) (l₂ := LRX9_worst_5) (show 16 ≤ 16 + k by omega)).trans (congrArg (fun i => LRX9_worst_5[i]?) (show 16 + k - 16 = k by omega))
theorem LBX9_worstr_6 (k : Nat) : cX9_worst.data.toList[96 + k]? = LRX9_worst_6[k]? := by
  have h := LBX9_worstr_5 (16 + k)
  rw [show 80 + (16 + k) = 96 + k by omega] at h
  rw [h]
  exact (List.getElem?_append_right (l₁ := LBX9_worst_5) (l₂ := LRX9_worst_6) (show 16 ≤ 16 + k by omega)).trans (congrArg (fun i => LRX9_worst_6[i]?) (show 16 + k - 16 = k by omega))
theorem LBX9_worstr_7 (k : Nat) : cX9_worst.data.toList[112 + k]? = LRX9_worst_7[k]? := by
  have h := LBX9_worstr_6 (16 + k)
  rw [show 96 + (16 + k) = 112 + k by omega] at h
  rw [h]
  exact (List.getElem?_append_right (l₁ := LBX9_worst_6) (l₂ := LRX9_worst_7) (show 16 ≤ 16 + k by omega)).trans (congrArg (fun i => LRX9_worst_7[i]?) (show 16 + k - 16 = k by omega))
theorem dX9_worst_0 : decode cX9_worst 0 = .ok (.iconst (-1), 1) := dk_2_ (show cX9_worst.data.toList[0]? = some 0x02 from (LBX9_worstr_0 0).trans (by decide +kernel))
theorem dX9_worst_1 : decode cX9_worst 1 = .ok (.istore_n 1, 1) := dk_60_ (show cX9_worst.data.toList[1]? = some 0x3c from (LBX9_worstr_0 1).trans (by decide +kernel))
theorem dX9_worst_2 : decode cX9_worst 2 = .ok (.iconst 0, 1) := dk_3_ (show cX9_worst.data.toList[2]? = some 0x03 from (LBX9_worstr_0 2).trans (by decide +kernel))
theorem dX9_worst_3 : decode cX9_worst 3 = .ok (.istore_n 2, 1) := dk_61_ (show cX9_worst.data.toList[3]? = some 0x3d from (LBX9_worstr_0 3).trans (by decide +kernel))
theorem dX9_worst_4 : decode cX9_worst 4 = .ok (.iload_n 2, 1) := dk_28_ (show cX9_worst.data.toList[4]? = some 0x1c from (LBX9_worstr_0 4).trans (by decide +kernel))
theorem dX9_worst_5 : decode cX9_worst 5 = .ok (.aload_n 0, 1) := dk_42_ (show cX9_worst.data.toList[5]? = some 0x2a from (LBX9_worstr_0 5).trans (by decide +kernel))
theorem dX9_worst_6 : decode cX9_worst 6 = .ok (.getfield 7, 3) := dk_180_ (show cX9_worst.data.toList[6]? = some 0xb4 from (LBX9_worstr_0 6).trans (by decide +kernel)) (show cX9_worst.data.toList[7]? = some 0x00 from (LBX9_worstr_0 7).trans (by decide +kernel)) (show cX9_worst.data.toList[8]? = some 0x07 from (LBX9_worstr_0 8).trans (by decide +kernel)) (by decide)
theorem dX9_worst_9 : decode cX9_worst 9 = .ok (.iconst 0, 1) := dk_3_ (show cX9_worst.data.toList[9]? = some 0x03 from (LBX9_worstr_0 9).trans (by decide +kernel))
theorem dX9_worst_10 : decode cX9_worst 10 = .ok (.iaload, 1) := dk_46_ (show cX9_worst.data.toList[10]? = some 0x2e from (LBX9_worstr_0 10).trans (by decide +kernel))
theorem dX9_worst_11 : decode cX9_worst 11 = .ok (.if_icmp .ge 89, 3) := dk_162_ (show cX9_worst.data.toList[11]? = some 0xa2 from (LBX9_worstr_0 11).trans (by decide +kernel)) (show cX9_worst.data.toList[12]? = some 0x00 from (LBX9_worstr_0 12).trans (by decide +kernel)) (show cX9_worst.data.toList[13]? = some 0x59 from (LBX9_worstr_0 13).trans (by decide +kernel)) (by decide)
theorem dX9_worst_14 : decode cX9_worst 14 = .ok (.iconst 0, 1) := dk_3_ (show cX9_worst.data.toList[14]? = some 0x03 from (LBX9_worstr_0 14).trans (by decide +kernel))
theorem dX9_worst_15 : decode cX9_worst 15 = .ok (.istore_n 3, 1) := dk_62_ (show cX9_worst.data.toList[15]? = some 0x3e from (LBX9_worstr_0 15).trans (by decide +kernel))
theorem dX9_worst_16 : decode cX9_worst 16 = .ok (.iload_n 3, 1) := dk_29_ (show cX9_worst.data.toList[16]? = some 0x1d from (LBX9_worstr_1 0).trans (by decide +kernel))
theorem dX9_worst_17 : decode cX9_worst 17 = .ok (.aload_n 0, 1) := dk_42_ (show cX9_worst.data.toList[17]? = some 0x2a from (LBX9_worstr_1 1).trans (by decide +kernel))
theorem dX9_worst_18 : decode cX9_worst 18 = .ok (.getfield 7, 3) := dk_180_ (show cX9_worst.data.toList[18]? = some 0xb4 from (LBX9_worstr_1 2).trans (by decide +kernel)) (show cX9_worst.data.toList[19]? = some 0x00 from (LBX9_worstr_1 3).trans (by decide +kernel)) (show cX9_worst.data.toList[20]? = some 0x07 from (LBX9_worstr_1 4).trans (by decide +kernel)) (by decide)
theorem dX9_worst_21 : decode cX9_worst 21 = .ok (.iconst 0, 1) := dk_3_ (show cX9_worst.data.toList[21]? = some 0x03 from (LBX9_worstr_1 5).trans (by decide +kernel))
theorem dX9_worst_22 : decode cX9_worst 22 = .ok (.iaload, 1) := dk_46_ (show cX9_worst.data.toList[22]? = some 0x2e from (LBX9_worstr_1 6).trans (by decide +kernel))
theorem dX9_worst_23 : decode cX9_worst 23 = .ok (.if_icmp .ge 71, 3) := dk_162_ (show cX9_worst.data.toList[23]? = some 0xa2 from (LBX9_worstr_1 7).trans (by decide +kernel)) (show cX9_worst.data.toList[24]? = some 0x00 from (LBX9_worstr_1 8).trans (by decide +kernel)) (show cX9_worst.data.toList[25]? = some 0x47 from (LBX9_worstr_1 9).trans (by decide +kernel)) (by decide)
theorem dX9_worst_26 : decode cX9_worst 26 = .ok (.aload_n 0, 1) := dk_42_ (show cX9_worst.data.toList[26]? = some 0x2a from (LBX9_worstr_1 10).trans (by decide +kernel))
theorem dX9_worst_27 : decode cX9_worst 27 = .ok (.iload_n 2, 1) := dk_28_ (show cX9_worst.data.toList[27]? = some 0x1c from (LBX9_worstr_1 11).trans (by decide +kernel))
theorem dX9_worst_28 : decode cX9_worst 28 = .ok (.iload_n 3, 1) := dk_29_ (show cX9_worst.data.toList[28]? = some 0x1d from (LBX9_worstr_1 12).trans (by decide +kernel))
theorem dX9_worst_29 : decode cX9_worst 29 = .ok (.invokevirtual 183, 3) := dk_182_ (show cX9_worst.data.toList[29]? = some 0xb6 from (LBX9_worstr_1 13).trans (by decide +kernel)) (show cX9_worst.data.toList[30]? = some 0x00 from (LBX9_worstr_1 14).trans (by decide +kernel)) (show cX9_worst.data.toList[31]? = some 0xb7 from (LBX9_worstr_1 15).trans (by decide +kernel)) (by decide)
theorem dX9_worst_32 : decode cX9_worst 32 = .ok (.ifCond .eq 56, 3) := dk_153_ (show cX9_worst.data.toList[32]? = some 0x99 from (LBX9_worstr_2 0).trans (by decide +kernel)) (show cX9_worst.data.toList[33]? = some 0x00 from (LBX9_worstr_2 1).trans (by decide +kernel)) (show cX9_worst.data.toList[34]? = some 0x38 from (LBX9_worstr_2 2).trans (by decide +kernel)) (by decide)
theorem dX9_worst_35 : decode cX9_worst 35 = .ok (.aload_n 0, 1) := dk_42_ (show cX9_worst.data.toList[35]? = some 0x2a from (LBX9_worstr_2 3).trans (by decide +kernel))
theorem dX9_worst_36 : decode cX9_worst 36 = .ok (.iload_n 2, 1) := dk_28_ (show cX9_worst.data.toList[36]? = some 0x1c from (LBX9_worstr_2 4).trans (by decide +kernel))
theorem dX9_worst_37 : decode cX9_worst 37 = .ok (.iload_n 3, 1) := dk_29_ (show cX9_worst.data.toList[37]? = some 0x1d from (LBX9_worstr_2 5).trans (by decide +kernel))
theorem dX9_worst_38 : decode cX9_worst 38 = .ok (.invokevirtual 100, 3) := dk_182_ (show cX9_worst.data.toList[38]? = some 0xb6 from (LBX9_worstr_2 6).trans (by decide +kernel)) (show cX9_worst.data.toList[39]? = some 0x00 from (LBX9_worstr_2 7).trans (by decide +kernel)) (show cX9_worst.data.toList[40]? = some 0x64 from (LBX9_worstr_2 8).trans (by decide +kernel)) (by decide)
theorem dX9_worst_41 : decode cX9_worst 41 = .ok (.aload_n 0, 1) := dk_42_ (show cX9_worst.data.toList[41]? = some 0x2a from (LBX9_worstr_2 9).trans (by decide +kernel))
theorem dX9_worst_42 : decode cX9_worst 42 = .ok (.iload_n 2, 1) := dk_28_ (show cX9_worst.data.toList[42]? = some 0x1c from (LBX9_worstr_2 10).trans (by decide +kernel))
theorem dX9_worst_43 : decode cX9_worst 43 = .ok (.iload_n 3, 1) := dk_29_ (show cX9_worst.data.toList[43]? = some 0x1d from (LBX9_worstr_2 11).trans (by decide +kernel))
theorem dX9_worst_44 : decode cX9_worst 44 = .ok (.invokevirtual 100, 3) := dk_182_ (show cX9_worst.data.toList[44]? = some 0xb6 from (LBX9_worstr_2 12).trans (by decide +kernel)) (show cX9_worst.data.toList[45]? = some 0x00 from (LBX9_worstr_2 13).trans (by decide +kernel)) (show cX9_worst.data.toList[46]? = some 0x64 from (LBX9_worstr_2 14).trans (by decide +kernel)) (by decide)
theorem dX9_worst_47 : decode cX9_worst 47 = .ok (.aload_n 0, 1) := dk_42_ (show cX9_worst.data.toList[47]? = some 0x2a from (LBX9_worstr_2 15).trans (by decide +kernel))
theorem dX9_worst_48 : decode cX9_worst 48 = .ok (.iload_n 3, 1) := dk_29_ (show cX9_worst.data.toList[48]? = some 0x1d from (LBX9_worstr_3 0).trans (by decide +kernel))
theorem dX9_worst_49 : decode cX9_worst 49 = .ok (.iload_n 2, 1) := dk_28_ (show cX9_worst.data.toList[49]? = some 0x1c from (LBX9_worstr_3 1).trans (by decide +kernel))
theorem dX9_worst_50 : decode cX9_worst 50 = .ok (.invokevirtual 100, 3) := dk_182_ (show cX9_worst.data.toList[50]? = some 0xb6 from (LBX9_worstr_3 2).trans (by decide +kernel)) (show cX9_worst.data.toList[51]? = some 0x00 from (LBX9_worstr_3 3).trans (by decide +kernel)) (show cX9_worst.data.toList[52]? = some 0x64 from (LBX9_worstr_3 4).trans (by decide +kernel)) (by decide)
theorem dX9_worst_53 : decode cX9_worst 53 = .ok (.iadd, 1) := dk_96_ (show cX9_worst.data.toList[53]? = some 0x60 from (LBX9_worstr_3 5).trans (by decide +kernel))
theorem dX9_worst_54 : decode cX9_worst 54 = .ok (.iconst 2, 1) := dk_5_ (show cX9_worst.data.toList[54]? = some 0x05 from (LBX9_worstr_3 6).trans (by decide +kernel))
theorem dX9_worst_55 : decode cX9_worst 55 = .ok (.idiv, 1) := dk_108_ (show cX9_worst.data.toList[55]? = some 0x6c from (LBX9_worstr_3 7).trans (by decide +kernel))
theorem dX9_worst_56 : decode cX9_worst 56 = .ok (.isub, 1) := dk_100_ (show cX9_worst.data.toList[56]? = some 0x64 from (LBX9_worstr_3 8).trans (by decide +kernel))
theorem dX9_worst_57 : decode cX9_worst 57 = .ok (.istore 4, 2) := dk_54_ (show cX9_worst.data.toList[57]? = some 0x36 from (LBX9_worstr_3 9).trans (by decide +kernel)) (show cX9_worst.data.toList[58]? = some 0x04 from (LBX9_worstr_3 10).trans (by decide +kernel)) (by decide)
theorem dX9_worst_59 : decode cX9_worst 59 = .ok (.iload 4, 2) := dk_21_ (show cX9_worst.data.toList[59]? = some 0x15 from (LBX9_worstr_3 11).trans (by decide +kernel)) (show cX9_worst.data.toList[60]? = some 0x04 from (LBX9_worstr_3 12).trans (by decide +kernel)) (by decide)
theorem dX9_worst_61 : decode cX9_worst 61 = .ok (.ifCond .ge 10, 3) := dk_156_ (show cX9_worst.data.toList[61]? = some 0x9c from (LBX9_worstr_3 13).trans (by decide +kernel)) (show cX9_worst.data.toList[62]? = some 0x00 from (LBX9_worstr_3 14).trans (by decide +kernel)) (show cX9_worst.data.toList[63]? = some 0x0a from (LBX9_worstr_3 15).trans (by decide +kernel)) (by decide)
theorem dX9_worst_64 : decode cX9_worst 64 = .ok (.iconst 0, 1) := dk_3_ (show cX9_worst.data.toList[64]? = some 0x03 from (LBX9_worstr_4 0).trans (by decide +kernel))
theorem dX9_worst_65 : decode cX9_worst 65 = .ok (.iload 4, 2) := dk_21_ (show cX9_worst.data.toList[65]? = some 0x15 from (LBX9_worstr_4 1).trans (by decide +kernel)) (show cX9_worst.data.toList[66]? = some 0x04 from (LBX9_worstr_4 2).trans (by decide +kernel)) (by decide)
theorem dX9_worst_67 : decode cX9_worst 67 = .ok (.isub, 1) := dk_100_ (show cX9_worst.data.toList[67]? = some 0x64 from (LBX9_worstr_4 3).trans (by decide +kernel))
theorem dX9_worst_68 : decode cX9_worst 68 = .ok (.goto 5, 3) := dk_167_ (show cX9_worst.data.toList[68]? = some 0xa7 from (LBX9_worstr_4 4).trans (by decide +kernel)) (show cX9_worst.data.toList[69]? = some 0x00 from (LBX9_worstr_4 5).trans (by decide +kernel)) (show cX9_worst.data.toList[70]? = some 0x05 from (LBX9_worstr_4 6).trans (by decide +kernel)) (by decide)
theorem dX9_worst_71 : decode cX9_worst 71 = .ok (.iload 4, 2) := dk_21_ (show cX9_worst.data.toList[71]? = some 0x15 from (LBX9_worstr_4 7).trans (by decide +kernel)) (show cX9_worst.data.toList[72]? = some 0x04 from (LBX9_worstr_4 8).trans (by decide +kernel)) (by decide)
theorem dX9_worst_73 : decode cX9_worst 73 = .ok (.istore 4, 2) := dk_54_ (show cX9_worst.data.toList[73]? = some 0x36 from (LBX9_worstr_4 9).trans (by decide +kernel)) (show cX9_worst.data.toList[74]? = some 0x04 from (LBX9_worstr_4 10).trans (by decide +kernel)) (by decide)
theorem dX9_worst_75 : decode cX9_worst 75 = .ok (.iload 4, 2) := dk_21_ (show cX9_worst.data.toList[75]? = some 0x15 from (LBX9_worstr_4 11).trans (by decide +kernel)) (show cX9_worst.data.toList[76]? = some 0x04 from (LBX9_worstr_4 12).trans (by decide +kernel)) (by decide)
theorem dX9_worst_77 : decode cX9_worst 77 = .ok (.iload_n 1, 1) := dk_27_ (show cX9_worst.data.toList[77]? = some 0x1b from (LBX9_worstr_4 13).trans (by decide +kernel))
theorem dX9_worst_78 : decode cX9_worst 78 = .ok (.if_icmp .le 8, 3) := dk_164_ (show cX9_worst.data.toList[78]? = some 0xa4 from (LBX9_worstr_4 14).trans (by decide +kernel)) (show cX9_worst.data.toList[79]? = some 0x00 from (LBX9_worstr_4 15).trans (by decide +kernel)) (show cX9_worst.data.toList[80]? = some 0x08 from (LBX9_worstr_5 0).trans (by decide +kernel)) (by decide)
theorem dX9_worst_81 : decode cX9_worst 81 = .ok (.iload 4, 2) := dk_21_ (show cX9_worst.data.toList[81]? = some 0x15 from (LBX9_worstr_5 1).trans (by decide +kernel)) (show cX9_worst.data.toList[82]? = some 0x04 from (LBX9_worstr_5 2).trans (by decide +kernel)) (by decide)
theorem dX9_worst_83 : decode cX9_worst 83 = .ok (.goto 4, 3) := dk_167_ (show cX9_worst.data.toList[83]? = some 0xa7 from (LBX9_worstr_5 3).trans (by decide +kernel)) (show cX9_worst.data.toList[84]? = some 0x00 from (LBX9_worstr_5 4).trans (by decide +kernel)) (show cX9_worst.data.toList[85]? = some 0x04 from (LBX9_worstr_5 5).trans (by decide +kernel)) (by decide)
theorem dX9_worst_86 : decode cX9_worst 86 = .ok (.iload_n 1, 1) := dk_27_ (show cX9_worst.data.toList[86]? = some 0x1b from (LBX9_worstr_5 6).trans (by decide +kernel))
theorem dX9_worst_87 : decode cX9_worst 87 = .ok (.istore_n 1, 1) := dk_60_ (show cX9_worst.data.toList[87]? = some 0x3c from (LBX9_worstr_5 7).trans (by decide +kernel))
theorem dX9_worst_88 : decode cX9_worst 88 = .ok (.iinc 3 1, 3) := dk_132_ (show cX9_worst.data.toList[88]? = some 0x84 from (LBX9_worstr_5 8).trans (by decide +kernel)) (show cX9_worst.data.toList[89]? = some 0x03 from (LBX9_worstr_5 9).trans (by decide +kernel)) (show cX9_worst.data.toList[90]? = some 0x01 from (LBX9_worstr_5 10).trans (by decide +kernel)) (by decide) (by decide)
theorem dX9_worst_91 : decode cX9_worst 91 = .ok (.goto (-75), 3) := dk_167_ (show cX9_worst.data.toList[91]? = some 0xa7 from (LBX9_worstr_5 11).trans (by decide +kernel)) (show cX9_worst.data.toList[92]? = some 0xff from (LBX9_worstr_5 12).trans (by decide +kernel)) (show cX9_worst.data.toList[93]? = some 0xb5 from (LBX9_worstr_5 13).trans (by decide +kernel)) (by decide)
theorem dX9_worst_94 : decode cX9_worst 94 = .ok (.iinc 2 1, 3) := dk_132_ (show cX9_worst.data.toList[94]? = some 0x84 from (LBX9_worstr_5 14).trans (by decide +kernel)) (show cX9_worst.data.toList[95]? = some 0x02 from (LBX9_worstr_5 15).trans (by decide +kernel)) (show cX9_worst.data.toList[96]? = some 0x01 from (LBX9_worstr_6 0).trans (by decide +kernel)) (by decide) (by decide)
theorem dX9_worst_97 : decode cX9_worst 97 = .ok (.goto (-93), 3) := dk_167_ (show cX9_worst.data.toList[97]? = some 0xa7 from (LBX9_worstr_6 1).trans (by decide +kernel)) (show cX9_worst.data.toList[98]? = some 0xff from (LBX9_worstr_6 2).trans (by decide +kernel)) (show cX9_worst.data.toList[99]? = some 0xa3 from (LBX9_worstr_6 3).trans (by decide +kernel)) (by decide)
theorem dX9_worst_100 : decode cX9_worst 100 = .ok (.iload_n 1, 1) := dk_27_ (show cX9_worst.data.toList[100]? = some 0x1b from (LBX9_worstr_6 4).trans (by decide +kernel))
theorem dX9_worst_101 : decode cX9_worst 101 = .ok (.ifCond .ge 12, 3) := dk_156_ (show cX9_worst.data.toList[101]? = some 0x9c from (LBX9_worstr_6 5).trans (by decide +kernel)) (show cX9_worst.data.toList[102]? = some 0x00 from (LBX9_worstr_6 6).trans (by decide +kernel)) (show cX9_worst.data.toList[103]? = some 0x0c from (LBX9_worstr_6 7).trans (by decide +kernel)) (by decide)
theorem dX9_worst_104 : decode cX9_worst 104 = .ok (.aload_n 0, 1) := dk_42_ (show cX9_worst.data.toList[104]? = some 0x2a from (LBX9_worstr_6 8).trans (by decide +kernel))
theorem dX9_worst_105 : decode cX9_worst 105 = .ok (.ldc 96, 2) := dk_18_ (show cX9_worst.data.toList[105]? = some 0x12 from (LBX9_worstr_6 9).trans (by decide +kernel)) (show cX9_worst.data.toList[106]? = some 0x60 from (LBX9_worstr_6 10).trans (by decide +kernel)) (by decide)
theorem dX9_worst_107 : decode cX9_worst 107 = .ok (.invokevirtual 70, 3) := dk_182_ (show cX9_worst.data.toList[107]? = some 0xb6 from (LBX9_worstr_6 11).trans (by decide +kernel)) (show cX9_worst.data.toList[108]? = some 0x00 from (LBX9_worstr_6 12).trans (by decide +kernel)) (show cX9_worst.data.toList[109]? = some 0x46 from (LBX9_worstr_6 13).trans (by decide +kernel)) (by decide)
theorem dX9_worst_110 : decode cX9_worst 110 = .ok (.goto 4, 3) := dk_167_ (show cX9_worst.data.toList[110]? = some 0xa7 from (LBX9_worstr_6 14).trans (by decide +kernel)) (show cX9_worst.data.toList[111]? = some 0x00 from (LBX9_worstr_6 15).trans (by decide +kernel)) (show cX9_worst.data.toList[112]? = some 0x04 from (LBX9_worstr_7 0).trans (by decide +kernel)) (by decide)
theorem dX9_worst_113 : decode cX9_worst 113 = .ok (.iload_n 1, 1) := dk_27_ (show cX9_worst.data.toList[113]? = some 0x1b from (LBX9_worstr_7 1).trans (by decide +kernel))
theorem dX9_worst_114 : decode cX9_worst 114 = .ok (.ireturn, 1) := dk_172_ (show cX9_worst.data.toList[114]? = some 0xac from (LBX9_worstr_7 2).trans (by decide +kernel))
theorem uw778 : Cond.fieldLink RX9 34 "LongerBackModel" "group" "[I" ∈ wsU := ut4 (List.mem_of_getElem? (i := 220) rfl) rfl
theorem uw779 : Cond.methodLink RX9 183 yX9_areBoth ∈ wsU := ut6 (List.mem_of_getElem? (i := 3) rfl) rfl
theorem uw780 : Cond.instanceMethod yX9_areBoth ∈ wsU := ut6 (List.mem_of_getElem? (i := 5) rfl) rfl
theorem uw781 : Cond.selects RX9 yX9_areBoth yX9_areBoth ∈ wsU := us_sel (q := (yX9_areBoth, 27)) (List.mem_of_getElem? (i := 54) (by decide +kernel)) rfl
theorem uw782 : Cond.code yX9_areBoth cX9_areBoth 3 (some .boolean) ∈ wsU := ut6 (List.mem_of_getElem? (i := 6) rfl) rfl
theorem uw783 : Cond.fieldLink RX9 31 "LongerBackModel" "height" "[I" ∈ wsU := ut4 (List.mem_of_getElem? (i := 219) rfl) rfl
theorem uw784 : Cond.fieldLink RX9 180 "LongerBackModel" "isFit" "Z" ∈ wsU := ut4 (List.mem_of_getElem? (i := 221) rfl) rfl
theorem uw785 : Cond.methodLink RX9 177 yX9_spreads ∈ wsU := ut5 (List.mem_of_getElem? (i := 239) rfl) rfl
theorem uw786 : Cond.instanceMethod yX9_spreads ∈ wsU := ut6 (List.mem_of_getElem? (i := 1) rfl) rfl
theorem uw787 : Cond.selects RX9 yX9_spreads yX9_spreads ∈ wsU := us_sel (q := (yX9_spreads, 27)) (List.mem_of_getElem? (i := 53) (by decide +kernel)) rfl
theorem uw788 : Cond.code yX9_spreads cX9_spreads 5 none ∈ wsU := ut6 (List.mem_of_getElem? (i := 2) rfl) rfl
theorem uw789 : Cond.methodLink RX9 186 yX9_findHeights ∈ wsU := ut5 (List.mem_of_getElem? (i := 235) rfl) rfl
theorem uw790 : Cond.instanceMethod yX9_findHeights ∈ wsU := ut5 (List.mem_of_getElem? (i := 237) rfl) rfl
theorem uw791 : Cond.selects RX9 yX9_findHeights yX9_findHeights ∈ wsU := us_sel (q := (yX9_findHeights, 27)) (List.mem_of_getElem? (i := 52) (by decide +kernel)) rfl
theorem uw792 : Cond.code yX9_findHeights cX9_findHeights 4 none ∈ wsU := ut5 (List.mem_of_getElem? (i := 238) rfl) rfl
theorem kf_X9_34 : xWF RX9 34 9 12 RX9 TX9 27 := ⟨inUX9, rfl, by decide, uw778⟩
theorem kv_X9_183 : xWV RX9 183 RX9 yX9_areBoth cX9_areBoth 3 (some .boolean) 2 := ⟨⟨uw779, uw780, uw781, uw657, uw782⟩, by decide +kernel⟩
theorem kf_X9_31 : xWF RX9 31 9 11 RX9 TX9 27 := ⟨inUX9, rfl, by decide, uw783⟩
theorem kf_X9_180 : xWF RX9 180 9 13 RX9 TX9 27 := ⟨inUX9, rfl, by decide, uw784⟩
theorem kv_X9_177 : xWV RX9 177 RX9 yX9_spreads cX9_spreads 5 none 1 := ⟨⟨uw785, uw786, uw787, uw657, uw788⟩, by decide +kernel⟩
theorem kv_X9_186 : xWV RX9 186 RX9 yX9_findHeights cX9_findHeights 4 none 0 := ⟨⟨uw789, uw790, uw791, uw657, uw792⟩, by decide +kernel⟩
set_option maxHeartbeats 4000000 in
set_option maxRecDepth 100000 in
theorem c_X9_spreads (l : Launch) (D : va_G) (cI cJ cZ cS : ClassId) (ta : Nat) (sa sv : Nat → Nat) (sz : Nat) (h0 : Nat) (ys : Nat) (yk : Nat) (yo : Nat) (yt : Nat) (mk0 : Int32) (yfa : Nat) (yfe : Nat) (mL : Int32) (mS : Int32) (mM : Int32) (yro : Nat) (yhe : Nat) (ygr : Nat) (mF : Int32) (mC : Int32) (mY : Int32) (yta : Nat) (mz : Nat) (mf : Nat) (mt : Nat) (mv : Int32) (mw : Int32) (ywa : Nat) (ybi : Nat) (ysi : Nat) (ynu : Nat) (ymo : Nat) (ms : Nat → Int32) (he : Nat → Int32) (gr : Nat → Int32) (P : Nat) (Rn : Nat) (Wn : Nat) (fae : Nat → Int32) (fal : Nat → Int32) (fau : Nat → Int32) (fao : Nat → Int32) (farn : Nat → Int32) (farp : Nat → Int32) (fak : Nat → Int32) (fawn : Nat → Int32) (fawp : Nat → Int32) (fat : Nat → Int32) (fas : Nat → Int32) (p0 : Int32) (hs0 : ms 0 = nI P) (hs1 : ms 1 = nI Rn) (hs2 : ms 2 = nI Wn) (hsS : SI ms) (hsM : MI ms) (hsp : P ≤ 10) (hsr : Rn ≤ 8) (hsw : Wn ≤ 8) (hsR : RI Rn ms) (hsG : FR P ms fae fal fau fao farn farp fak fawn fawp fat fas) : Met l yX9_spreads (Cond.code yX9_spreads cX9_spreads 5 none :: wsU) ({ frames := 2, cells := 0, slots := 0, locals := 44 }) (va_Pc [.ref h0, .int p0] (XW D (xT cI cJ cZ cS) ta sa sv [(h0, .inr (9, [.ref ys, .ref yk, .ref yo, .ref yt, .int mk0, .ref yfa, .ref yfe, .int mL, .int mS, .int mM, .ref yro, .ref yhe, .ref ygr, .int mF, .int mC, .int mY, .ref yta, .int (nI (mz)), .int (nI (mf)), .int (nI (mt)), .int mv, .int mw, .ref ywa, .ref ybi, .ref ysi, .ref ynu, .ref ymo])), (ys, .inl (cI, 449, .inl ms)), (yhe, .inl (cI, 10, .inl he)), (ygr, .inl (cI, 10, .inl gr))] sz)) (XQv (fun (u : (Nat → Int32) × (Nat → Int32)) => match u with | (he2, gr2) => True) D (fun (u : (Nat → Int32) × (Nat → Int32)) => match u with | (he2, gr2) => [(h0, .inr (9, [.ref ys, .ref yk, .ref yo, .ref yt, .int mk0, .ref yfa, .ref yfe, .int mL, .int mS, .int mM, .ref yro, .ref yhe, .ref ygr, .int mF, .int mC, .int mY, .ref yta, .int (nI (mz)), .int (nI (mf)), .int (nI (mt)), .int mv, .int mw, .ref ywa, .ref ybi, .ref ysi, .ref ynu, .ref ymo])), (ys, .inl (cI, 449, .inl ms)), (yhe, .inl (cI, 10, .inl he2)), (ygr, .inl (cI, 10, .inl gr2))]) (va_A [(h0, .inr (9, [.ref ys, .ref yk, .ref yo, .ref yt, .int mk0, .ref yfa, .ref yfe, .int mL, .int mS, .int mM, .ref yro, .ref yhe, .ref ygr, .int mF, .int mC, .int mY, .ref yta, .int (nI (mz)), .int (nI (mf)), .int (nI (mt)), .int mv, .int mw, .ref ywa, .ref ybi, .ref ysi, .ref ynu, .ref ymo])), (ys, .inl (cI, 449, .inl ms)), (yhe, .inl (cI, 10, .inl he)), (ygr, .inl (cI, 10, .inl gr))] sz)) 0 0 (va_A [(h0, .inr (9, [.ref ys, .ref yk, .ref yo, .ref yt, .int mk0, .ref yfa, .ref yfe, .int mL, .int mS, .int mM, .ref yro, .ref yhe, .ref ygr, .int mF, .int mC, .int mY, .ref yta, .int (nI (mz)), .int (nI (mf)), .int (nI (mt)), .int mv, .int mw, .ref ywa, .ref ybi, .ref ysi, .ref ynu, .ref ymo])), (ys, .inl (cI, 449, .inl ms)), (yhe, .inl (cI, 10, .inl he)), (ygr, .inl (cI, 10, .inl gr))] sz) := by
  refine xh (QA := fun A => XQv (fun (u : (Nat → Int32) × (Nat → Int32)) => match u with | (he2, gr2) => True) D (fun (u : (Nat → Int32) × (Nat → Int32)) => match u with | (he2, gr2) => [(h0, .inr (9, [.ref ys, .ref yk, .ref yo, .ref yt, .int mk0, .ref yfa, .ref yfe, .int mL, .int mS, .int mM, .ref yro, .ref yhe, .ref ygr, .int mF, .int mC, .int mY, .ref yta, .int (nI (mz)), .int (nI (mf)), .int (nI (mt)), .int mv, .int mw, .ref ywa, .ref ybi, .ref ysi, .ref ynu, .ref ymo])), (ys, .inl (cI, 449, .inl ms)), (yhe, .inl (cI, 10, .inl he2)), (ygr, .inl (cI, 10, .inl gr2))]) A) (fr := fun A => A) (by decide) (Nat.le_of_ble_eq_true rfl) ?_
  intro p e s m below meth c ls A hF hr hlk hin hsz hP hK hD hN hZ hA hS hl
  have hF : CallFix p m c cX9_spreads 5 s _ _ RX9 := hF
  have hx := hF.1
  have hb := hF.2.1
  have hml := hF.2.2.1
  have hown := hF.2.2.2.1
  have hu : ∀ w ∈ wsU, w.before _ s = true := fun w h => hF.2.2.2.2 w (List.mem_cons_of_mem _ h)
  have hl : lv_has ls 5 [(0, .ref h0), (1, .int p0)] := hl
  refine lv_iconst (v := 0) hx hb dX9_spreads_0 (by decide) ?_
  refine lv_istore_n (lv' := [(2, .int 0), (0, .ref h0), (1, .int p0)]) hx hb dX9_spreads_1 rfl hl (by decide) rfl (fun ls hl => ?_)
  suffices loop_2 : ∀ (n_2 : Nat) (i1 : Nat) (e1_ : Nat → Int32) (o1_ : Nat → Int32) (H : Heap) (locs : List Loc) (ls : Array Slot), P - i1 < n_2 → (i1 ≤ P) → va_P D vwCl [(h0, .inr (9, [.ref ys, .ref yk, .ref yo, .ref yt, .int mk0, .ref yfa, .ref yfe, .int mL, .int mS, .int mM, .ref yro, .ref yhe, .ref ygr, .int mF, .int mC, .int mY, .ref yta, .int (nI (mz)), .int (nI (mf)), .int (nI (mt)), .int mv, .int mw, .ref ywa, .ref ybi, .ref ysi, .ref ynu, .ref ymo])), (ys, .inl (cI, 449, .inl ms)), (yhe, .inl (cI, 10, .inl e1_)), (ygr, .inl (cI, 10, .inl o1_))] H → va_D A [(h0, .inr (9, [.ref ys, .ref yk, .ref yo, .ref yt, .int mk0, .ref yfa, .ref yfe, .int mL, .int mS, .int mM, .ref yro, .ref yhe, .ref ygr, .int mF, .int mC, .int mY, .ref yta, .int (nI (mz)), .int (nI (mf)), .int (nI (mt)), .int mv, .int mw, .ref ywa, .ref ybi, .ref ysi, .ref ynu, .ref ymo])), (ys, .inl (cI, 449, .inl ms)), (yhe, .inl (cI, 10, .inl e1_)), (ygr, .inl (cI, 10, .inl o1_))] → va_S A s.heap H locs → lv_has ls 5 [(2, .int (nI (i1))), (0, .ref h0), (1, .int p0)] → W p l e ({ frames := 2, cells := 0, slots := 0, locals := 44 }) s m ([.ref h0, .int p0] : List Value).toArray below meth c H locs 0 0 (MQ below (XQv (fun (u : (Nat → Int32) × (Nat → Int32)) => match u with | (he2, gr2) => True) D (fun (u : (Nat → Int32) × (Nat → Int32)) => match u with | (he2, gr2) => [(h0, .inr (9, [.ref ys, .ref yk, .ref yo, .ref yt, .int mk0, .ref yfa, .ref yfe, .int mL, .int mS, .int mM, .ref yro, .ref yhe, .ref ygr, .int mF, .int mC, .int mY, .ref yta, .int (nI (mz)), .int (nI (mf)), .int (nI (mt)), .int mv, .int mw, .ref ywa, .ref ybi, .ref ysi, .ref ynu, .ref ymo])), (ys, .inl (cI, 449, .inl ms)), (yhe, .inl (cI, 10, .inl he2)), (ygr, .inl (cI, 10, .inl gr2))]) A) ([.ref h0, .int p0] : List Value).toArray s 0 0 A) (F0 m 2 ls []) by
    exact loop_2 _ 0 he gr _ _ _ (Nat.lt_succ_self _) (by omega) hP hD hS (lv_sub hl [0, 1, 2] rfl)
  intro n_2
  induction n_2 with
  | zero =>
    intro i1 e1_ o1_ H locs ls hm_2
    exact absurd hm_2 (Nat.not_lt_zero _)
  | succ n_2 ih_2 =>
    intro i1 e1_ o1_ H locs ls hm_2 hi1 hP hD hS hl
    refine lv_iload_n hx hb dX9_spreads_2 rfl (lv_at hl 0 rfl) ?_
    refine lv_aload_n hx hb dX9_spreads_3 rfl (lv_at hl 1 rfl) ?_
    refine xg hF kf_X9_7 hK hP 0 rfl rfl dX9_spreads_4 ?_
    refine lv_iconst (v := 0) hx hb dX9_spreads_7 (by decide) ?_
    refine va_iald hx hb hK hP 1 0 rfl rfl (xin 0 449 (by decide) (by decide)) dX9_spreads_8 ?_
    refine xl_i (y := nI (P)) hs0 ?_
    refine lv_icmp_ge (tgt := 123) hx hb dX9_spreads_9 (by decide) (fun c_1 => ?_) (fun c_1 => ?_)
    · skip
      have nc_1 : P ≤ i1 := xn_le (a := P) (b := i1) (by omega) (by omega) c_1
      exact W.vret hx hb hr (fun t ht hW => ⟨⟨(e1_, o1_), rfl, trivial, by rw [ht]; exact hP.sub [0, 1, 2, 3] rfl, hD.sub [0, 1, 2, 3] (by decide) rfl⟩, hS.F ht⟩) hS.2.2 dX9_spreads_123 hlk
    · skip
      have nc_1 : i1 < P := xn_nle (a := P) (b := i1) (by omega) (by omega) c_1
      refine lv_iconst (v := 0) hx hb dX9_spreads_12 (by decide) ?_
      refine lv_istore_n (lv' := [(3, .int 0), (2, .int (nI (i1))), (0, .ref h0), (1, .int p0)]) hx hb dX9_spreads_13 rfl hl (by decide) rfl (fun ls hl => ?_)
      suffices loop_14 : ∀ (n_14 : Nat) (i2 : Nat) (e2_ : Nat → Int32) (o2_ : Nat → Int32) (H : Heap) (locs : List Loc) (ls : Array Slot), P - i2 < n_14 → (i2 ≤ P) → va_P D vwCl [(h0, .inr (9, [.ref ys, .ref yk, .ref yo, .ref yt, .int mk0, .ref yfa, .ref yfe, .int mL, .int mS, .int mM, .ref yro, .ref yhe, .ref ygr, .int mF, .int mC, .int mY, .ref yta, .int (nI (mz)), .int (nI (mf)), .int (nI (mt)), .int mv, .int mw, .ref ywa, .ref ybi, .ref ysi, .ref ynu, .ref ymo])), (ys, .inl (cI, 449, .inl ms)), (yhe, .inl (cI, 10, .inl e2_)), (ygr, .inl (cI, 10, .inl o2_))] H → va_D A [(h0, .inr (9, [.ref ys, .ref yk, .ref yo, .ref yt, .int mk0, .ref yfa, .ref yfe, .int mL, .int mS, .int mM, .ref yro, .ref yhe, .ref ygr, .int mF, .int mC, .int mY, .ref yta, .int (nI (mz)), .int (nI (mf)), .int (nI (mt)), .int mv, .int mw, .ref ywa, .ref ybi, .ref ysi, .ref ynu, .ref ymo])), (ys, .inl (cI, 449, .inl ms)), (yhe, .inl (cI, 10, .inl e2_)), (ygr, .inl (cI, 10, .inl o2_))] → va_S A s.heap H locs → lv_has ls 5 [(3, .int (nI (i2))), (2, .int (nI (i1))), (0, .ref h0), (1, .int p0)] → W p l e ({ frames := 2, cells := 0, slots := 0, locals := 44 }) s m ([.ref h0, .int p0] : List Value).toArray below meth c H locs 0 0 (MQ below (XQv (fun (u : (Nat → Int32) × (Nat → Int32)) => match u with | (he2, gr2) => True) D (fun (u : (Nat → Int32) × (Nat → Int32)) => match u with | (he2, gr2) => [(h0, .inr (9, [.ref ys, .ref yk, .ref yo, .ref yt, .int mk0, .ref yfa, .ref yfe, .int mL, .int mS, .int mM, .ref yro, .ref yhe, .ref ygr, .int mF, .int mC, .int mY, .ref yta, .int (nI (mz)), .int (nI (mf)), .int (nI (mt)), .int mv, .int mw, .ref ywa, .ref ybi, .ref ysi, .ref ynu, .ref ymo])), (ys, .inl (cI, 449, .inl ms)), (yhe, .inl (cI, 10, .inl he2)), (ygr, .inl (cI, 10, .inl gr2))]) A) ([.ref h0, .int p0] : List Value).toArray s 0 0 A) (F0 m 14 ls []) by
        exact loop_14 _ 0 e1_ o1_ _ _ _ (Nat.lt_succ_self _) (by omega) hP hD hS (lv_sub hl [0, 1, 2, 3] rfl)
      intro n_14
      induction n_14 with
      | zero =>
        intro i2 e2_ o2_ H locs ls hm_14
        exact absurd hm_14 (Nat.not_lt_zero _)
      | succ n_14 ih_14 =>
        intro i2 e2_ o2_ H locs ls hm_14 hi2 hP hD hS hl
        refine lv_iload_n hx hb dX9_spreads_14 rfl (lv_at hl 0 rfl) ?_
        refine lv_aload_n hx hb dX9_spreads_15 rfl (lv_at hl 2 rfl) ?_
        refine xg hF kf_X9_7 hK hP 0 rfl rfl dX9_spreads_16 ?_
        refine lv_iconst (v := 0) hx hb dX9_spreads_19 (by decide) ?_
        refine va_iald hx hb hK hP 1 0 rfl rfl (xin 0 449 (by decide) (by decide)) dX9_spreads_20 ?_
        refine xl_i (y := nI (P)) hs0 ?_
        refine lv_icmp_ge (tgt := 117) hx hb dX9_spreads_21 (by decide) (fun c_2 => ?_) (fun c_2 => ?_)
        · skip
          have nc_2 : P ≤ i2 := xn_le (a := P) (b := i2) (by omega) (by omega) c_2
          refine lv_iinc (v := nI (i1 + 1)) (lv' := [(2, .int (nI (i1 + 1))), (3, .int (nI (i2))), (0, .ref h0), (1, .int p0)]) hx hb dX9_spreads_117 hl (k := 1) rfl (nI_1 (i1)) (by decide) rfl (fun ls hl => ?_)
          refine lv_goto (tgt := 2) hx hb dX9_spreads_120 (by decide) ?_
          exact ih_2 (i1 + 1) e2_ o2_ _ _ _ (by omega) (by omega) (hP.sub [0, 1, 2, 3] rfl) (hD.sub [0, 1, 2, 3] (by decide) rfl) hS (lv_sub hl [0, 2, 3] rfl)
        · skip
          have nc_2 : i2 < P := xn_nle (a := P) (b := i2) (by omega) (by omega) c_2
          refine lv_iconst (v := 0) hx hb dX9_spreads_24 (by decide) ?_
          refine lv_istore (lv' := [(4, .int 0), (3, .int (nI (i2))), (2, .int (nI (i1))), (0, .ref h0), (1, .int p0)]) hx hb dX9_spreads_25 hl (by decide) rfl (fun ls hl => ?_)
          suffices loop_27 : ∀ (n_27 : Nat) (i3 : Nat) (e3_ : Nat → Int32) (o3_ : Nat → Int32) (H : Heap) (locs : List Loc) (ls : Array Slot), P - i3 < n_27 → (i3 ≤ P) → va_P D vwCl [(h0, .inr (9, [.ref ys, .ref yk, .ref yo, .ref yt, .int mk0, .ref yfa, .ref yfe, .int mL, .int mS, .int mM, .ref yro, .ref yhe, .ref ygr, .int mF, .int mC, .int mY, .ref yta, .int (nI (mz)), .int (nI (mf)), .int (nI (mt)), .int mv, .int mw, .ref ywa, .ref ybi, .ref ysi, .ref ynu, .ref ymo])), (ys, .inl (cI, 449, .inl ms)), (yhe, .inl (cI, 10, .inl e3_)), (ygr, .inl (cI, 10, .inl o3_))] H → va_D A [(h0, .inr (9, [.ref ys, .ref yk, .ref yo, .ref yt, .int mk0, .ref yfa, .ref yfe, .int mL, .int mS, .int mM, .ref yro, .ref yhe, .ref ygr, .int mF, .int mC, .int mY, .ref yta, .int (nI (mz)), .int (nI (mf)), .int (nI (mt)), .int mv, .int mw, .ref ywa, .ref ybi, .ref ysi, .ref ynu, .ref ymo])), (ys, .inl (cI, 449, .inl ms)), (yhe, .inl (cI, 10, .inl e3_)), (ygr, .inl (cI, 10, .inl o3_))] → va_S A s.heap H locs → lv_has ls 5 [(4, .int (nI (i3))), (3, .int (nI (i2))), (2, .int (nI (i1))), (0, .ref h0), (1, .int p0)] → W p l e ({ frames := 2, cells := 0, slots := 0, locals := 44 }) s m ([.ref h0, .int p0] : List Value).toArray below meth c H locs 0 0 (MQ below (XQv (fun (u : (Nat → Int32) × (Nat → Int32)) => match u with | (he2, gr2) => True) D (fun (u : (Nat → Int32) × (Nat → Int32)) => match u with | (he2, gr2) => [(h0, .inr (9, [.ref ys, .ref yk, .ref yo, .ref yt, .int mk0, .ref yfa, .ref yfe, .int mL, .int mS, .int mM, .ref yro, .ref yhe, .ref ygr, .int mF, .int mC, .int mY, .ref yta, .int (nI (mz)), .int (nI (mf)), .int (nI (mt)), .int mv, .int mw, .ref ywa, .ref ybi, .ref ysi, .ref ynu, .ref ymo])), (ys, .inl (cI, 449, .inl ms)), (yhe, .inl (cI, 10, .inl he2)), (ygr, .inl (cI, 10, .inl gr2))]) A) ([.ref h0, .int p0] : List Value).toArray s 0 0 A) (F0 m 27 ls []) by
            exact loop_27 _ 0 e2_ o2_ _ _ _ (Nat.lt_succ_self _) (by omega) hP hD hS (lv_sub hl [0, 1, 2, 3, 4] rfl)
          intro n_27
          induction n_27 with
          | zero =>
            intro i3 e3_ o3_ H locs ls hm_27
            exact absurd hm_27 (Nat.not_lt_zero _)
          | succ n_27 ih_27 =>
            intro i3 e3_ o3_ H locs ls hm_27 hi3 hP hD hS hl
            refine lv_iload hx hb dX9_spreads_27 (lv_at hl 0 rfl) ?_
            refine lv_aload_n hx hb dX9_spreads_29 rfl (lv_at hl 3 rfl) ?_
            refine xg hF kf_X9_7 hK hP 0 rfl rfl dX9_spreads_30 ?_
            refine lv_iconst (v := 0) hx hb dX9_spreads_33 (by decide) ?_
            refine va_iald hx hb hK hP 1 0 rfl rfl (xin 0 449 (by decide) (by decide)) dX9_spreads_34 ?_
            refine xl_i (y := nI (P)) hs0 ?_
            refine lv_icmp_ge (tgt := 111) hx hb dX9_spreads_35 (by decide) (fun c_3 => ?_) (fun c_3 => ?_)
            · skip
              have nc_3 : P ≤ i3 := xn_le (a := P) (b := i3) (by omega) (by omega) c_3
              refine lv_iinc (v := nI (i2 + 1)) (lv' := [(3, .int (nI (i2 + 1))), (4, .int (nI (i3))), (2, .int (nI (i1))), (0, .ref h0), (1, .int p0)]) hx hb dX9_spreads_111 hl (k := 1) rfl (nI_1 (i2)) (by decide) rfl (fun ls hl => ?_)
              refine lv_goto (tgt := 14) hx hb dX9_spreads_114 (by decide) ?_
              exact ih_14 (i2 + 1) e3_ o3_ _ _ _ (by omega) (by omega) (hP.sub [0, 1, 2, 3] rfl) (hD.sub [0, 1, 2, 3] (by decide) rfl) hS (lv_sub hl [0, 2, 3, 4] rfl)
            · skip
              have nc_3 : i3 < P := xn_nle (a := P) (b := i3) (by omega) (by omega) c_3
              refine lv_aload_n hx hb dX9_spreads_38 rfl (lv_at hl 3 rfl) ?_
              refine xg hF kf_X9_34 hK hP 0 rfl rfl dX9_spreads_39 ?_
              refine lv_iload_n hx hb dX9_spreads_42 rfl (lv_at hl 1 rfl) ?_
              refine va_iald hx hb hK hP 3 0 rfl rfl (vp_in_nI (show i2 < 10 by omega) (by decide)) dX9_spreads_43 ?_
              refine xl_i (y := o3_ i2) (congrArg o3_ (nI_clamp (show i2 < 2 ^ 31 by omega))) ?_
              refine lv_iload_n hx hb dX9_spreads_44 rfl (lv_at hl 4 rfl) ?_
              refine lv_icmp_ne (tgt := 105) hx hb dX9_spreads_45 (by decide) (fun c_4 => ?_) (fun c_4 => ?_)
              · skip
                refine lv_iinc (v := nI (i3 + 1)) (lv' := [(4, .int (nI (i3 + 1))), (3, .int (nI (i2))), (2, .int (nI (i1))), (0, .ref h0), (1, .int p0)]) hx hb dX9_spreads_105 hl (k := 0) rfl (nI_1 (i3)) (by decide) rfl (fun ls hl => ?_)
                refine lv_goto (tgt := 27) hx hb dX9_spreads_108 (by decide) ?_
                exact ih_27 (i3 + 1) e3_ o3_ _ _ _ (by omega) (by omega) (hP.sub [0, 1, 2, 3] rfl) (hD.sub [0, 1, 2, 3] (by decide) rfl) hS (lv_sub hl [0, 1, 2, 3, 4] rfl)
              · skip
                refine lv_aload_n hx hb dX9_spreads_48 rfl (lv_at hl 3 rfl) ?_
                refine xg hF kf_X9_34 hK hP 0 rfl rfl dX9_spreads_49 ?_
                refine lv_iload hx hb dX9_spreads_52 (lv_at hl 0 rfl) ?_
                refine va_iald hx hb hK hP 3 0 rfl rfl (vp_in_nI (show i3 < 10 by omega) (by decide)) dX9_spreads_54 ?_
                refine xl_i (y := o3_ i3) (congrArg o3_ (nI_clamp (show i3 < 2 ^ 31 by omega))) ?_
                refine lv_if_ge (tgt := 105) hx hb dX9_spreads_55 (by decide) (fun c_5 => ?_) (fun c_5 => ?_)
                · skip
                  refine lv_iinc (v := nI (i3 + 1)) (lv' := [(4, .int (nI (i3 + 1))), (3, .int (nI (i2))), (2, .int (nI (i1))), (0, .ref h0), (1, .int p0)]) hx hb dX9_spreads_105 hl (k := 0) rfl (nI_1 (i3)) (by decide) rfl (fun ls hl => ?_)
                  refine lv_goto (tgt := 27) hx hb dX9_spreads_108 (by decide) ?_
                  exact ih_27 (i3 + 1) e3_ o3_ _ _ _ (by omega) (by omega) (hP.sub [0, 1, 2, 3] rfl) (hD.sub [0, 1, 2, 3] (by decide) rfl) hS (lv_sub hl [0, 1, 2, 3, 4] rfl)
                · skip
                  refine lv_aload_n hx hb dX9_spreads_58 rfl (lv_at hl 3 rfl) ?_
                  refine lv_iload_n hx hb dX9_spreads_59 rfl (lv_at hl 1 rfl) ?_
                  refine lv_iload hx hb dX9_spreads_60 (lv_at hl 0 rfl) ?_
                  refine xc_Vr hF (c_X9_areBoth l D cI cJ cZ cS ta sa sv H.size h0 ys yk yo yt mk0 yfa yfe mL mS mM yro yhe ygr mF mC mY yta mz mf mt mv mw ywa ybi ysi ynu ymo ms P Rn Wn fae fal fau fao farn farp fak fawn fawp fat fas i2 i3 (by omega) (by omega) hs0 hs1 hs2 hsS hsM hsp hsr hsw hsR hsG) kv_X9_183 ⟨rfl, rfl, Nat.le_of_ble_eq_true rfl, Nat.le_of_ble_eq_true rfl⟩ ⟨Nat.le_of_ble_eq_true rfl, Nat.le_of_ble_eq_true rfl⟩ hK hN hZ hP hD hS hA [0, 1] rfl rfl 0 rfl rfl rfl rfl hl.1 rfl (Nat.le_of_ble_eq_true rfl) dX9_spreads_62 (fun r_6 hw_r_6 => ?_)
                  rcases hw_r_6 with rfl | rfl
                  · skip
                    refine lv_if_eq (tgt := 105) hx hb dX9_spreads_65 (by decide) (fun c_7 => absurd c_7 (by decide)) (fun c_7 => ?_)
                    refine lv_aload_n hx hb dX9_spreads_68 rfl (lv_at hl 3 rfl) ?_
                    refine xg hF kf_X9_34 hK hP 0 rfl rfl dX9_spreads_69 ?_
                    refine lv_iload hx hb dX9_spreads_72 (lv_at hl 0 rfl) ?_
                    refine lv_iload_n hx hb dX9_spreads_74 rfl (lv_at hl 4 rfl) ?_
                    refine va_iast hx hb hK hP hD hS 3 0 rfl rfl (vp_in_nI (show i3 < 10 by omega) (by decide)) dX9_spreads_75 (fun H locs hP hD hS => ?_)
                    rw [nI_clamp (show i3 < 2 ^ 31 by omega)] at hP hD
                    obtain ⟨f_8, ef_8⟩ : ∃ g, g = upd o3_ i3 p0 := ⟨_, rfl⟩
                    rw [← ef_8] at hP hD
                    have hP : va_P D vwCl [(h0, .inr (9, [.ref ys, .ref yk, .ref yo, .ref yt, .int mk0, .ref yfa, .ref yfe, .int mL, .int mS, .int mM, .ref yro, .ref yhe, .ref ygr, .int mF, .int mC, .int mY, .ref yta, .int (nI (mz)), .int (nI (mf)), .int (nI (mt)), .int mv, .int mw, .ref ywa, .ref ybi, .ref ysi, .ref ynu, .ref ymo])), (ys, .inl (cI, 449, .inl ms)), (yhe, .inl (cI, 10, .inl e3_)), (ygr, .inl (cI, 10, .inl f_8))] H := hP
                    have hD : va_D A [(h0, .inr (9, [.ref ys, .ref yk, .ref yo, .ref yt, .int mk0, .ref yfa, .ref yfe, .int mL, .int mS, .int mM, .ref yro, .ref yhe, .ref ygr, .int mF, .int mC, .int mY, .ref yta, .int (nI (mz)), .int (nI (mf)), .int (nI (mt)), .int mv, .int mw, .ref ywa, .ref ybi, .ref ysi, .ref ynu, .ref ymo])), (ys, .inl (cI, 449, .inl ms)), (yhe, .inl (cI, 10, .inl e3_)), (ygr, .inl (cI, 10, .inl f_8))] := hD
                    refine lv_aload_n hx hb dX9_spreads_76 rfl (lv_at hl 3 rfl) ?_
                    refine xg hF kf_X9_31 hK hP 0 rfl rfl dX9_spreads_77 ?_
                    refine lv_iload hx hb dX9_spreads_80 (lv_at hl 0 rfl) ?_
                    refine lv_aload_n hx hb dX9_spreads_82 rfl (lv_at hl 3 rfl) ?_
                    refine xg hF kf_X9_31 hK hP 0 rfl rfl dX9_spreads_83 ?_
                    refine lv_iload_n hx hb dX9_spreads_86 rfl (lv_at hl 1 rfl) ?_
                    refine va_iald hx hb hK hP 2 0 rfl rfl (vp_in_nI (show i2 < 10 by omega) (by decide)) dX9_spreads_87 ?_
                    refine xl_i (y := e3_ i2) (congrArg e3_ (nI_clamp (show i2 < 2 ^ 31 by omega))) ?_
                    refine lv_aload_n hx hb dX9_spreads_88 rfl (lv_at hl 3 rfl) ?_
                    refine lv_iload_n hx hb dX9_spreads_89 rfl (lv_at hl 1 rfl) ?_
                    refine lv_iload hx hb dX9_spreads_90 (lv_at hl 0 rfl) ?_
                    refine xc_Vr hF (c_X9_miles l D cI cJ cZ cS ta sa sv H.size h0 ys yk yo yt mk0 yfa yfe mL mS mM yro yhe ygr mF mC mY yta mz mf mt mv mw ywa ybi ysi ynu ymo ms P Rn Wn fae fal fau fao farn farp fak fawn fawp fat fas i2 i3 (by omega) (by omega) hs0 hs1 hs2 hsS hsM hsp hsr hsw hsR hsG) kv_X9_100 ⟨rfl, rfl, Nat.le_of_ble_eq_true rfl, Nat.le_of_ble_eq_true rfl⟩ ⟨Nat.le_of_ble_eq_true rfl, Nat.le_of_ble_eq_true rfl⟩ hK hN hZ hP hD hS hA [0, 1] rfl rfl 0 rfl rfl rfl rfl hl.1 rfl (Nat.le_of_ble_eq_true rfl) dX9_spreads_92 (fun r_9 hw_r_9 => ?_)
                    subst hw_r_9
                    refine lv_iadd hx hb dX9_spreads_95 ?_
                    refine lv_topi (fun x_10 ex_10 => ?_)
                    refine lv_aload_n hx hb dX9_spreads_96 rfl (lv_at hl 3 rfl) ?_
                    refine lv_iload hx hb dX9_spreads_97 (lv_at hl 0 rfl) ?_
                    refine lv_iload_n hx hb dX9_spreads_99 rfl (lv_at hl 1 rfl) ?_
                    refine xc_Vr hF (c_X9_miles l D cI cJ cZ cS ta sa sv H.size h0 ys yk yo yt mk0 yfa yfe mL mS mM yro yhe ygr mF mC mY yta mz mf mt mv mw ywa ybi ysi ynu ymo ms P Rn Wn fae fal fau fao farn farp fak fawn fawp fat fas i3 i2 (by omega) (by omega) hs0 hs1 hs2 hsS hsM hsp hsr hsw hsR hsG) kv_X9_100 ⟨rfl, rfl, Nat.le_of_ble_eq_true rfl, Nat.le_of_ble_eq_true rfl⟩ ⟨Nat.le_of_ble_eq_true rfl, Nat.le_of_ble_eq_true rfl⟩ hK hN hZ hP hD hS hA [0, 1] rfl rfl 0 rfl rfl rfl rfl hl.1 rfl (Nat.le_of_ble_eq_true rfl) dX9_spreads_100 (fun r_11 hw_r_11 => ?_)
                    subst hw_r_11
                    refine lv_isub hx hb dX9_spreads_103 ?_
                    refine lv_topi (fun x_12 ex_12 => ?_)
                    refine va_iast hx hb hK hP hD hS 2 0 rfl rfl (vp_in_nI (show i3 < 10 by omega) (by decide)) dX9_spreads_104 (fun H locs hP hD hS => ?_)
                    rw [nI_clamp (show i3 < 2 ^ 31 by omega)] at hP hD
                    obtain ⟨f_13, ef_13⟩ : ∃ g, g = upd e3_ i3 x_12 := ⟨_, rfl⟩
                    rw [← ef_13] at hP hD
                    have hP : va_P D vwCl [(h0, .inr (9, [.ref ys, .ref yk, .ref yo, .ref yt, .int mk0, .ref yfa, .ref yfe, .int mL, .int mS, .int mM, .ref yro, .ref yhe, .ref ygr, .int mF, .int mC, .int mY, .ref yta, .int (nI (mz)), .int (nI (mf)), .int (nI (mt)), .int mv, .int mw, .ref ywa, .ref ybi, .ref ysi, .ref ynu, .ref ymo])), (ys, .inl (cI, 449, .inl ms)), (yhe, .inl (cI, 10, .inl f_13)), (ygr, .inl (cI, 10, .inl f_8))] H := hP
                    have hD : va_D A [(h0, .inr (9, [.ref ys, .ref yk, .ref yo, .ref yt, .int mk0, .ref yfa, .ref yfe, .int mL, .int mS, .int mM, .ref yro, .ref yhe, .ref ygr, .int mF, .int mC, .int mY, .ref yta, .int (nI (mz)), .int (nI (mf)), .int (nI (mt)), .int mv, .int mw, .ref ywa, .ref ybi, .ref ysi, .ref ynu, .ref ymo])), (ys, .inl (cI, 449, .inl ms)), (yhe, .inl (cI, 10, .inl f_13)), (ygr, .inl (cI, 10, .inl f_8))] := hD
                    refine lv_iinc (v := nI (i3 + 1)) (lv' := [(4, .int (nI (i3 + 1))), (3, .int (nI (i2))), (2, .int (nI (i1))), (0, .ref h0), (1, .int p0)]) hx hb dX9_spreads_105 hl (k := 0) rfl (nI_1 (i3)) (by decide) rfl (fun ls hl => ?_)
                    refine lv_goto (tgt := 27) hx hb dX9_spreads_108 (by decide) ?_
                    exact ih_27 (i3 + 1) f_13 f_8 _ _ _ (by omega) (by omega) (hP.sub [0, 1, 2, 3] rfl) (hD.sub [0, 1, 2, 3] (by decide) rfl) hS (lv_sub hl [0, 1, 2, 3, 4] rfl)
                  · skip
                    refine lv_if_eq (tgt := 105) hx hb dX9_spreads_65 (by decide) (fun c_14 => ?_) (fun c_14 => absurd (by decide) c_14)
                    refine lv_iinc (v := nI (i3 + 1)) (lv' := [(4, .int (nI (i3 + 1))), (3, .int (nI (i2))), (2, .int (nI (i1))), (0, .ref h0), (1, .int p0)]) hx hb dX9_spreads_105 hl (k := 0) rfl (nI_1 (i3)) (by decide) rfl (fun ls hl => ?_)
                    refine lv_goto (tgt := 27) hx hb dX9_spreads_108 (by decide) ?_
                    exact ih_27 (i3 + 1) e3_ o3_ _ _ _ (by omega) (by omega) (hP.sub [0, 1, 2, 3] rfl) (hD.sub [0, 1, 2, 3] (by decide) rfl) hS (lv_sub hl [0, 1, 2, 3, 4] rfl)
set_option maxHeartbeats 4000000 in
set_option maxRecDepth 100000 in
theorem c_X9_findHeights (l : Launch) (D : va_G) (cI cJ cZ cS : ClassId) (ta : Nat) (sa sv : Nat → Nat) (sz : Nat) (h0 : Nat) (ys : Nat) (yk : Nat) (yo : Nat) (yt : Nat) (mk0 : Int32) (yfa : Nat) (yfe : Nat) (mL : Int32) (mS : Int32) (mM : Int32) (yro : Nat) (yhe : Nat) (ygr : Nat) (mF : Int32) (mC : Int32) (mY : Int32) (yta : Nat) (mz : Nat) (mf : Nat) (mt : Nat) (mv : Int32) (mw : Int32) (ywa : Nat) (ybi : Nat) (ysi : Nat) (ynu : Nat) (ymo : Nat) (ms : Nat → Int32) (he : Nat → Int32) (gr : Nat → Int32) (P : Nat) (Rn : Nat) (Wn : Nat) (fae : Nat → Int32) (fal : Nat → Int32) (fau : Nat → Int32) (fao : Nat → Int32) (farn : Nat → Int32) (farp : Nat → Int32) (fak : Nat → Int32) (fawn : Nat → Int32) (fawp : Nat → Int32) (fat : Nat → Int32) (fas : Nat → Int32) (hs0 : ms 0 = nI P) (hs1 : ms 1 = nI Rn) (hs2 : ms 2 = nI Wn) (hsS : SI ms) (hsM : MI ms) (hsp : P ≤ 10) (hsr : Rn ≤ 8) (hsw : Wn ≤ 8) (hsR : RI Rn ms) (hsG : FR P ms fae fal fau fao farn farp fak fawn fawp fat fas) : Met l yX9_findHeights (Cond.code yX9_findHeights cX9_findHeights 4 none :: wsU) ({ frames := 3, cells := 0, slots := 0, locals := 68 }) (va_Pc [.ref h0] (XW D (xT cI cJ cZ cS) ta sa sv [(h0, .inr (9, [.ref ys, .ref yk, .ref yo, .ref yt, .int mk0, .ref yfa, .ref yfe, .int mL, .int mS, .int mM, .ref yro, .ref yhe, .ref ygr, .int mF, .int mC, .int mY, .ref yta, .int (nI (mz)), .int (nI (mf)), .int (nI (mt)), .int mv, .int mw, .ref ywa, .ref ybi, .ref ysi, .ref ynu, .ref ymo])), (ys, .inl (cI, 449, .inl ms)), (yhe, .inl (cI, 10, .inl he)), (ygr, .inl (cI, 10, .inl gr))] sz)) (XQv (fun (u : Int32 × (Nat → Int32) × (Nat → Int32)) => match u with | (mF2, he2, gr2) => True) D (fun (u : Int32 × (Nat → Int32) × (Nat → Int32)) => match u with | (mF2, he2, gr2) => [(h0, .inr (9, [.ref ys, .ref yk, .ref yo, .ref yt, .int mk0, .ref yfa, .ref yfe, .int mL, .int mS, .int mM, .ref yro, .ref yhe, .ref ygr, .int mF2, .int mC, .int mY, .ref yta, .int (nI (mz)), .int (nI (mf)), .int (nI (mt)), .int mv, .int mw, .ref ywa, .ref ybi, .ref ysi, .ref ynu, .ref ymo])), (ys, .inl (cI, 449, .inl ms)), (yhe, .inl (cI, 10, .inl he2)), (ygr, .inl (cI, 10, .inl gr2))]) (va_A [(h0, .inr (9, [.ref ys, .ref yk, .ref yo, .ref yt, .int mk0, .ref yfa, .ref yfe, .int mL, .int mS, .int mM, .ref yro, .ref yhe, .ref ygr, .int mF, .int mC, .int mY, .ref yta, .int (nI (mz)), .int (nI (mf)), .int (nI (mt)), .int mv, .int mw, .ref ywa, .ref ybi, .ref ysi, .ref ynu, .ref ymo])), (ys, .inl (cI, 449, .inl ms)), (yhe, .inl (cI, 10, .inl he)), (ygr, .inl (cI, 10, .inl gr))] sz)) 0 0 (va_A [(h0, .inr (9, [.ref ys, .ref yk, .ref yo, .ref yt, .int mk0, .ref yfa, .ref yfe, .int mL, .int mS, .int mM, .ref yro, .ref yhe, .ref ygr, .int mF, .int mC, .int mY, .ref yta, .int (nI (mz)), .int (nI (mf)), .int (nI (mt)), .int mv, .int mw, .ref ywa, .ref ybi, .ref ysi, .ref ynu, .ref ymo])), (ys, .inl (cI, 449, .inl ms)), (yhe, .inl (cI, 10, .inl he)), (ygr, .inl (cI, 10, .inl gr))] sz) := by
  refine xh (QA := fun A => XQv (fun (u : Int32 × (Nat → Int32) × (Nat → Int32)) => match u with | (mF2, he2, gr2) => True) D (fun (u : Int32 × (Nat → Int32) × (Nat → Int32)) => match u with | (mF2, he2, gr2) => [(h0, .inr (9, [.ref ys, .ref yk, .ref yo, .ref yt, .int mk0, .ref yfa, .ref yfe, .int mL, .int mS, .int mM, .ref yro, .ref yhe, .ref ygr, .int mF2, .int mC, .int mY, .ref yta, .int (nI (mz)), .int (nI (mf)), .int (nI (mt)), .int mv, .int mw, .ref ywa, .ref ybi, .ref ysi, .ref ynu, .ref ymo])), (ys, .inl (cI, 449, .inl ms)), (yhe, .inl (cI, 10, .inl he2)), (ygr, .inl (cI, 10, .inl gr2))]) A) (fr := fun A => A) (by decide) (Nat.le_of_ble_eq_true rfl) ?_
  intro p e s m below meth c ls A hF hr hlk hin hsz hP hK hD hN hZ hA hS hl
  have hF : CallFix p m c cX9_findHeights 4 s _ _ RX9 := hF
  have hx := hF.1
  have hb := hF.2.1
  have hml := hF.2.2.1
  have hown := hF.2.2.2.1
  have hu : ∀ w ∈ wsU, w.before _ s = true := fun w h => hF.2.2.2.2 w (List.mem_cons_of_mem _ h)
  have hl : lv_has ls 4 [(0, .ref h0)] := hl
  refine lv_aload_n hx hb dX9_findHeights_0 rfl (lv_at hl 0 rfl) ?_
  refine xg hF kf_X9_7 hK hP 0 rfl rfl dX9_findHeights_1 ?_
  refine lv_iconst (v := 0) hx hb dX9_findHeights_4 (by decide) ?_
  refine va_iald hx hb hK hP 1 0 rfl rfl (xin 0 449 (by decide) (by decide)) dX9_findHeights_5 ?_
  refine xl_i (y := nI (P)) hs0 ?_
  refine lv_istore_n (lv' := [(1, .int (nI (P))), (0, .ref h0)]) hx hb dX9_findHeights_6 rfl hl (by decide) rfl (fun ls hl => ?_)
  refine lv_iconst (v := 0) hx hb dX9_findHeights_7 (by decide) ?_
  refine lv_istore_n (lv' := [(2, .int 0), (1, .int (nI (P))), (0, .ref h0)]) hx hb dX9_findHeights_8 rfl hl (by decide) rfl (fun ls hl => ?_)
  suffices loop_9 : ∀ (n_9 : Nat) (i1 : Nat) (e1_ : Nat → Int32) (o1_ : Nat → Int32) (H : Heap) (locs : List Loc) (ls : Array Slot), P - i1 < n_9 → (i1 ≤ P) → va_P D vwCl [(h0, .inr (9, [.ref ys, .ref yk, .ref yo, .ref yt, .int mk0, .ref yfa, .ref yfe, .int mL, .int mS, .int mM, .ref yro, .ref yhe, .ref ygr, .int mF, .int mC, .int mY, .ref yta, .int (nI (mz)), .int (nI (mf)), .int (nI (mt)), .int mv, .int mw, .ref ywa, .ref ybi, .ref ysi, .ref ynu, .ref ymo])), (ys, .inl (cI, 449, .inl ms)), (yhe, .inl (cI, 10, .inl e1_)), (ygr, .inl (cI, 10, .inl o1_))] H → va_D A [(h0, .inr (9, [.ref ys, .ref yk, .ref yo, .ref yt, .int mk0, .ref yfa, .ref yfe, .int mL, .int mS, .int mM, .ref yro, .ref yhe, .ref ygr, .int mF, .int mC, .int mY, .ref yta, .int (nI (mz)), .int (nI (mf)), .int (nI (mt)), .int mv, .int mw, .ref ywa, .ref ybi, .ref ysi, .ref ynu, .ref ymo])), (ys, .inl (cI, 449, .inl ms)), (yhe, .inl (cI, 10, .inl e1_)), (ygr, .inl (cI, 10, .inl o1_))] → va_S A s.heap H locs → lv_has ls 4 [(2, .int (nI (i1))), (1, .int (nI (P))), (0, .ref h0)] → W p l e ({ frames := 3, cells := 0, slots := 0, locals := 68 }) s m ([.ref h0] : List Value).toArray below meth c H locs 0 0 (MQ below (XQv (fun (u : Int32 × (Nat → Int32) × (Nat → Int32)) => match u with | (mF2, he2, gr2) => True) D (fun (u : Int32 × (Nat → Int32) × (Nat → Int32)) => match u with | (mF2, he2, gr2) => [(h0, .inr (9, [.ref ys, .ref yk, .ref yo, .ref yt, .int mk0, .ref yfa, .ref yfe, .int mL, .int mS, .int mM, .ref yro, .ref yhe, .ref ygr, .int mF2, .int mC, .int mY, .ref yta, .int (nI (mz)), .int (nI (mf)), .int (nI (mt)), .int mv, .int mw, .ref ywa, .ref ybi, .ref ysi, .ref ynu, .ref ymo])), (ys, .inl (cI, 449, .inl ms)), (yhe, .inl (cI, 10, .inl he2)), (ygr, .inl (cI, 10, .inl gr2))]) A) ([.ref h0] : List Value).toArray s 0 0 A) (F0 m 9 ls []) by
    exact loop_9 _ 0 he gr _ _ _ (Nat.lt_succ_self _) (by omega) hP hD hS (lv_sub hl [0, 1, 2] rfl)
  intro n_9
  induction n_9 with
  | zero =>
    intro i1 e1_ o1_ H locs ls hm_9
    exact absurd hm_9 (Nat.not_lt_zero _)
  | succ n_9 ih_9 =>
    intro i1 e1_ o1_ H locs ls hm_9 hi1 hP hD hS hl
    refine lv_iload_n hx hb dX9_findHeights_9 rfl (lv_at hl 0 rfl) ?_
    refine lv_iload_n hx hb dX9_findHeights_10 rfl (lv_at hl 1 rfl) ?_
    refine lv_icmp_ge (tgt := 27) hx hb dX9_findHeights_11 (by decide) (fun c_1 => ?_) (fun c_1 => ?_)
    · skip
      have nc_1 : P ≤ i1 := xn_le (a := P) (b := i1) (by omega) (by omega) c_1
      refine lv_iconst (v := 0) hx hb dX9_findHeights_27 (by decide) ?_
      refine lv_istore_n (lv' := [(2, .int 0), (1, .int (nI (P))), (0, .ref h0)]) hx hb dX9_findHeights_28 rfl hl (by decide) rfl (fun ls hl => ?_)
      suffices loop_29 : ∀ (n_29 : Nat) (i2 : Nat) (e2_ : Nat → Int32) (o2_ : Nat → Int32) (H : Heap) (locs : List Loc) (ls : Array Slot), P - i2 < n_29 → (i2 ≤ P) → va_P D vwCl [(h0, .inr (9, [.ref ys, .ref yk, .ref yo, .ref yt, .int mk0, .ref yfa, .ref yfe, .int mL, .int mS, .int mM, .ref yro, .ref yhe, .ref ygr, .int mF, .int mC, .int mY, .ref yta, .int (nI (mz)), .int (nI (mf)), .int (nI (mt)), .int mv, .int mw, .ref ywa, .ref ybi, .ref ysi, .ref ynu, .ref ymo])), (ys, .inl (cI, 449, .inl ms)), (yhe, .inl (cI, 10, .inl e2_)), (ygr, .inl (cI, 10, .inl o2_))] H → va_D A [(h0, .inr (9, [.ref ys, .ref yk, .ref yo, .ref yt, .int mk0, .ref yfa, .ref yfe, .int mL, .int mS, .int mM, .ref yro, .ref yhe, .ref ygr, .int mF, .int mC, .int mY, .ref yta, .int (nI (mz)), .int (nI (mf)), .int (nI (mt)), .int mv, .int mw, .ref ywa, .ref ybi, .ref ysi, .ref ynu, .ref ymo])), (ys, .inl (cI, 449, .inl ms)), (yhe, .inl (cI, 10, .inl e2_)), (ygr, .inl (cI, 10, .inl o2_))] → va_S A s.heap H locs → lv_has ls 4 [(2, .int (nI (i2))), (1, .int (nI (P))), (0, .ref h0)] → W p l e ({ frames := 3, cells := 0, slots := 0, locals := 68 }) s m ([.ref h0] : List Value).toArray below meth c H locs 0 0 (MQ below (XQv (fun (u : Int32 × (Nat → Int32) × (Nat → Int32)) => match u with | (mF2, he2, gr2) => True) D (fun (u : Int32 × (Nat → Int32) × (Nat → Int32)) => match u with | (mF2, he2, gr2) => [(h0, .inr (9, [.ref ys, .ref yk, .ref yo, .ref yt, .int mk0, .ref yfa, .ref yfe, .int mL, .int mS, .int mM, .ref yro, .ref yhe, .ref ygr, .int mF2, .int mC, .int mY, .ref yta, .int (nI (mz)), .int (nI (mf)), .int (nI (mt)), .int mv, .int mw, .ref ywa, .ref ybi, .ref ysi, .ref ynu, .ref ymo])), (ys, .inl (cI, 449, .inl ms)), (yhe, .inl (cI, 10, .inl he2)), (ygr, .inl (cI, 10, .inl gr2))]) A) ([.ref h0] : List Value).toArray s 0 0 A) (F0 m 29 ls []) by
        exact loop_29 _ 0 e1_ o1_ _ _ _ (Nat.lt_succ_self _) (by omega) hP hD hS (lv_sub hl [0, 1, 2] rfl)
      intro n_29
      induction n_29 with
      | zero =>
        intro i2 e2_ o2_ H locs ls hm_29
        exact absurd hm_29 (Nat.not_lt_zero _)
      | succ n_29 ih_29 =>
        intro i2 e2_ o2_ H locs ls hm_29 hi2 hP hD hS hl
        refine lv_iload_n hx hb dX9_findHeights_29 rfl (lv_at hl 0 rfl) ?_
        refine lv_iload_n hx hb dX9_findHeights_30 rfl (lv_at hl 1 rfl) ?_
        refine lv_icmp_ge (tgt := 68) hx hb dX9_findHeights_31 (by decide) (fun c_2 => ?_) (fun c_2 => ?_)
        · skip
          have nc_2 : P ≤ i2 := xn_le (a := P) (b := i2) (by omega) (by omega) c_2
          refine lv_aload_n hx hb dX9_findHeights_68 rfl (lv_at hl 2 rfl) ?_
          refine lv_iconst (v := 1) hx hb dX9_findHeights_69 (by decide) ?_
          refine xp hF kf_X9_180 tyX9_ok nmX9 hK hP hD hS 0 rfl rfl rfl rfl (Nat.le_of_ble_eq_true rfl) dX9_findHeights_70 (fun H locs hP hD hS => ?_)
          have hP : va_P D vwCl [(h0, .inr (9, [.ref ys, .ref yk, .ref yo, .ref yt, .int mk0, .ref yfa, .ref yfe, .int mL, .int mS, .int mM, .ref yro, .ref yhe, .ref ygr, .int 1, .int mC, .int mY, .ref yta, .int (nI (mz)), .int (nI (mf)), .int (nI (mt)), .int mv, .int mw, .ref ywa, .ref ybi, .ref ysi, .ref ynu, .ref ymo])), (ys, .inl (cI, 449, .inl ms)), (yhe, .inl (cI, 10, .inl e2_)), (ygr, .inl (cI, 10, .inl o2_))] H := hP
          have hD : va_D A [(h0, .inr (9, [.ref ys, .ref yk, .ref yo, .ref yt, .int mk0, .ref yfa, .ref yfe, .int mL, .int mS, .int mM, .ref yro, .ref yhe, .ref ygr, .int 1, .int mC, .int mY, .ref yta, .int (nI (mz)), .int (nI (mf)), .int (nI (mt)), .int mv, .int mw, .ref ywa, .ref ybi, .ref ysi, .ref ynu, .ref ymo])), (ys, .inl (cI, 449, .inl ms)), (yhe, .inl (cI, 10, .inl e2_)), (ygr, .inl (cI, 10, .inl o2_))] := hD
          refine lv_iconst (v := 0) hx hb dX9_findHeights_73 (by decide) ?_
          refine lv_istore_n (lv' := [(2, .int 0), (1, .int (nI (P))), (0, .ref h0)]) hx hb dX9_findHeights_74 rfl hl (by decide) rfl (fun ls hl => ?_)
          suffices loop_75 : ∀ (n_75 : Nat) (i4 : Nat) (u4 : Int32) (H : Heap) (locs : List Loc) (ls : Array Slot), P - i4 < n_75 → (i4 ≤ P) → va_P D vwCl [(h0, .inr (9, [.ref ys, .ref yk, .ref yo, .ref yt, .int mk0, .ref yfa, .ref yfe, .int mL, .int mS, .int mM, .ref yro, .ref yhe, .ref ygr, .int u4, .int mC, .int mY, .ref yta, .int (nI (mz)), .int (nI (mf)), .int (nI (mt)), .int mv, .int mw, .ref ywa, .ref ybi, .ref ysi, .ref ynu, .ref ymo])), (ys, .inl (cI, 449, .inl ms)), (yhe, .inl (cI, 10, .inl e2_)), (ygr, .inl (cI, 10, .inl o2_))] H → va_D A [(h0, .inr (9, [.ref ys, .ref yk, .ref yo, .ref yt, .int mk0, .ref yfa, .ref yfe, .int mL, .int mS, .int mM, .ref yro, .ref yhe, .ref ygr, .int u4, .int mC, .int mY, .ref yta, .int (nI (mz)), .int (nI (mf)), .int (nI (mt)), .int mv, .int mw, .ref ywa, .ref ybi, .ref ysi, .ref ynu, .ref ymo])), (ys, .inl (cI, 449, .inl ms)), (yhe, .inl (cI, 10, .inl e2_)), (ygr, .inl (cI, 10, .inl o2_))] → va_S A s.heap H locs → lv_has ls 4 [(2, .int (nI (i4))), (1, .int (nI (P))), (0, .ref h0)] → W p l e ({ frames := 3, cells := 0, slots := 0, locals := 68 }) s m ([.ref h0] : List Value).toArray below meth c H locs 0 0 (MQ below (XQv (fun (u : Int32 × (Nat → Int32) × (Nat → Int32)) => match u with | (mF2, he2, gr2) => True) D (fun (u : Int32 × (Nat → Int32) × (Nat → Int32)) => match u with | (mF2, he2, gr2) => [(h0, .inr (9, [.ref ys, .ref yk, .ref yo, .ref yt, .int mk0, .ref yfa, .ref yfe, .int mL, .int mS, .int mM, .ref yro, .ref yhe, .ref ygr, .int mF2, .int mC, .int mY, .ref yta, .int (nI (mz)), .int (nI (mf)), .int (nI (mt)), .int mv, .int mw, .ref ywa, .ref ybi, .ref ysi, .ref ynu, .ref ymo])), (ys, .inl (cI, 449, .inl ms)), (yhe, .inl (cI, 10, .inl he2)), (ygr, .inl (cI, 10, .inl gr2))]) A) ([.ref h0] : List Value).toArray s 0 0 A) (F0 m 75 ls []) by
            exact loop_75 _ 0 1 _ _ _ (Nat.lt_succ_self _) (by omega) hP hD hS (lv_sub hl [0, 1, 2] rfl)
          intro n_75
          induction n_75 with
          | zero =>
            intro i4 u4 H locs ls hm_75
            exact absurd hm_75 (Nat.not_lt_zero _)
          | succ n_75 ih_75 =>
            intro i4 u4 H locs ls hm_75 hi4 hP hD hS hl
            refine lv_iload_n hx hb dX9_findHeights_75 rfl (lv_at hl 0 rfl) ?_
            refine lv_iload_n hx hb dX9_findHeights_76 rfl (lv_at hl 1 rfl) ?_
            refine lv_icmp_ge (tgt := 153) hx hb dX9_findHeights_77 (by decide) (fun c_3 => ?_) (fun c_3 => ?_)
            · skip
              have nc_3 : P ≤ i4 := xn_le (a := P) (b := i4) (by omega) (by omega) c_3
              exact W.vret hx hb hr (fun t ht hW => ⟨⟨(u4, e2_, o2_), rfl, trivial, by rw [ht]; exact hP.sub [0, 1, 2, 3] rfl, hD.sub [0, 1, 2, 3] (by decide) rfl⟩, hS.F ht⟩) hS.2.2 dX9_findHeights_153 hlk
            · skip
              have nc_3 : i4 < P := xn_nle (a := P) (b := i4) (by omega) (by omega) c_3
              refine lv_iconst (v := 0) hx hb dX9_findHeights_80 (by decide) ?_
              refine lv_istore_n (lv' := [(3, .int 0), (2, .int (nI (i4))), (1, .int (nI (P))), (0, .ref h0)]) hx hb dX9_findHeights_81 rfl hl (by decide) rfl (fun ls hl => ?_)
              suffices loop_82 : ∀ (n_82 : Nat) (i5 : Nat) (u5 : Int32) (H : Heap) (locs : List Loc) (ls : Array Slot), P - i5 < n_82 → (i5 ≤ P) → va_P D vwCl [(h0, .inr (9, [.ref ys, .ref yk, .ref yo, .ref yt, .int mk0, .ref yfa, .ref yfe, .int mL, .int mS, .int mM, .ref yro, .ref yhe, .ref ygr, .int u5, .int mC, .int mY, .ref yta, .int (nI (mz)), .int (nI (mf)), .int (nI (mt)), .int mv, .int mw, .ref ywa, .ref ybi, .ref ysi, .ref ynu, .ref ymo])), (ys, .inl (cI, 449, .inl ms)), (yhe, .inl (cI, 10, .inl e2_)), (ygr, .inl (cI, 10, .inl o2_))] H → va_D A [(h0, .inr (9, [.ref ys, .ref yk, .ref yo, .ref yt, .int mk0, .ref yfa, .ref yfe, .int mL, .int mS, .int mM, .ref yro, .ref yhe, .ref ygr, .int u5, .int mC, .int mY, .ref yta, .int (nI (mz)), .int (nI (mf)), .int (nI (mt)), .int mv, .int mw, .ref ywa, .ref ybi, .ref ysi, .ref ynu, .ref ymo])), (ys, .inl (cI, 449, .inl ms)), (yhe, .inl (cI, 10, .inl e2_)), (ygr, .inl (cI, 10, .inl o2_))] → va_S A s.heap H locs → lv_has ls 4 [(3, .int (nI (i5))), (2, .int (nI (i4))), (1, .int (nI (P))), (0, .ref h0)] → W p l e ({ frames := 3, cells := 0, slots := 0, locals := 68 }) s m ([.ref h0] : List Value).toArray below meth c H locs 0 0 (MQ below (XQv (fun (u : Int32 × (Nat → Int32) × (Nat → Int32)) => match u with | (mF2, he2, gr2) => True) D (fun (u : Int32 × (Nat → Int32) × (Nat → Int32)) => match u with | (mF2, he2, gr2) => [(h0, .inr (9, [.ref ys, .ref yk, .ref yo, .ref yt, .int mk0, .ref yfa, .ref yfe, .int mL, .int mS, .int mM, .ref yro, .ref yhe, .ref ygr, .int mF2, .int mC, .int mY, .ref yta, .int (nI (mz)), .int (nI (mf)), .int (nI (mt)), .int mv, .int mw, .ref ywa, .ref ybi, .ref ysi, .ref ynu, .ref ymo])), (ys, .inl (cI, 449, .inl ms)), (yhe, .inl (cI, 10, .inl he2)), (ygr, .inl (cI, 10, .inl gr2))]) A) ([.ref h0] : List Value).toArray s 0 0 A) (F0 m 82 ls []) by
                exact loop_82 _ 0 u4 _ _ _ (Nat.lt_succ_self _) (by omega) hP hD hS (lv_sub hl [0, 1, 2, 3] rfl)
              intro n_82
              induction n_82 with
              | zero =>
                intro i5 u5 H locs ls hm_82
                exact absurd hm_82 (Nat.not_lt_zero _)
              | succ n_82 ih_82 =>
                intro i5 u5 H locs ls hm_82 hi5 hP hD hS hl
                refine lv_iload_n hx hb dX9_findHeights_82 rfl (lv_at hl 0 rfl) ?_
                refine lv_iload_n hx hb dX9_findHeights_83 rfl (lv_at hl 2 rfl) ?_
                refine lv_icmp_ge (tgt := 147) hx hb dX9_findHeights_84 (by decide) (fun c_4 => ?_) (fun c_4 => ?_)
                · skip
                  have nc_4 : P ≤ i5 := xn_le (a := P) (b := i5) (by omega) (by omega) c_4
                  refine lv_iinc (v := nI (i4 + 1)) (lv' := [(2, .int (nI (i4 + 1))), (3, .int (nI (i5))), (1, .int (nI (P))), (0, .ref h0)]) hx hb dX9_findHeights_147 hl (k := 1) rfl (nI_1 (i4)) (by decide) rfl (fun ls hl => ?_)
                  refine lv_goto (tgt := 75) hx hb dX9_findHeights_150 (by decide) ?_
                  exact ih_75 (i4 + 1) u5 _ _ _ (by omega) (by omega) (hP.sub [0, 1, 2, 3] rfl) (hD.sub [0, 1, 2, 3] (by decide) rfl) hS (lv_sub hl [0, 2, 3] rfl)
                · skip
                  have nc_4 : i5 < P := xn_nle (a := P) (b := i5) (by omega) (by omega) c_4
                  refine lv_aload_n hx hb dX9_findHeights_87 rfl (lv_at hl 3 rfl) ?_
                  refine lv_aload_n hx hb dX9_findHeights_88 rfl (lv_at hl 3 rfl) ?_
                  refine xg hF kf_X9_180 hK hP 0 rfl rfl dX9_findHeights_89 ?_
                  refine lv_if_eq (tgt := 137) hx hb dX9_findHeights_92 (by decide) (fun c_5 => ?_) (fun c_5 => ?_)
                  · skip
                    refine lv_iconst (v := 0) hx hb dX9_findHeights_137 (by decide) ?_
                    refine xp hF kf_X9_180 tyX9_ok nmX9 hK hP hD hS 0 rfl rfl rfl rfl (Nat.le_of_ble_eq_true rfl) dX9_findHeights_138 (fun H locs hP hD hS => ?_)
                    have hP : va_P D vwCl [(h0, .inr (9, [.ref ys, .ref yk, .ref yo, .ref yt, .int mk0, .ref yfa, .ref yfe, .int mL, .int mS, .int mM, .ref yro, .ref yhe, .ref ygr, .int 0, .int mC, .int mY, .ref yta, .int (nI (mz)), .int (nI (mf)), .int (nI (mt)), .int mv, .int mw, .ref ywa, .ref ybi, .ref ysi, .ref ynu, .ref ymo])), (ys, .inl (cI, 449, .inl ms)), (yhe, .inl (cI, 10, .inl e2_)), (ygr, .inl (cI, 10, .inl o2_))] H := hP
                    have hD : va_D A [(h0, .inr (9, [.ref ys, .ref yk, .ref yo, .ref yt, .int mk0, .ref yfa, .ref yfe, .int mL, .int mS, .int mM, .ref yro, .ref yhe, .ref ygr, .int 0, .int mC, .int mY, .ref yta, .int (nI (mz)), .int (nI (mf)), .int (nI (mt)), .int mv, .int mw, .ref ywa, .ref ybi, .ref ysi, .ref ynu, .ref ymo])), (ys, .inl (cI, 449, .inl ms)), (yhe, .inl (cI, 10, .inl e2_)), (ygr, .inl (cI, 10, .inl o2_))] := hD
                    refine lv_iinc (v := nI (i5 + 1)) (lv' := [(3, .int (nI (i5 + 1))), (2, .int (nI (i4))), (1, .int (nI (P))), (0, .ref h0)]) hx hb dX9_findHeights_141 hl (k := 0) rfl (nI_1 (i5)) (by decide) rfl (fun ls hl => ?_)
                    refine lv_goto (tgt := 82) hx hb dX9_findHeights_144 (by decide) ?_
                    exact ih_82 (i5 + 1) 0 _ _ _ (by omega) (by omega) (hP.sub [0, 1, 2, 3] rfl) (hD.sub [0, 1, 2, 3] (by decide) rfl) hS (lv_sub hl [0, 1, 2, 3] rfl)
                  · skip
                    refine lv_aload_n hx hb dX9_findHeights_95 rfl (lv_at hl 3 rfl) ?_
                    refine lv_iload_n hx hb dX9_findHeights_96 rfl (lv_at hl 1 rfl) ?_
                    refine lv_iload_n hx hb dX9_findHeights_97 rfl (lv_at hl 0 rfl) ?_
                    refine xc_Vr hF (c_X9_areBoth l D cI cJ cZ cS ta sa sv H.size h0 ys yk yo yt mk0 yfa yfe mL mS mM yro yhe ygr u5 mC mY yta mz mf mt mv mw ywa ybi ysi ynu ymo ms P Rn Wn fae fal fau fao farn farp fak fawn fawp fat fas i4 i5 (by omega) (by omega) hs0 hs1 hs2 hsS hsM hsp hsr hsw hsR hsG) kv_X9_183 ⟨rfl, rfl, Nat.le_of_ble_eq_true rfl, Nat.le_of_ble_eq_true rfl⟩ ⟨Nat.le_of_ble_eq_true rfl, Nat.le_of_ble_eq_true rfl⟩ hK hN hZ hP hD hS hA [0, 1] rfl rfl 0 rfl rfl rfl rfl hl.1 rfl (Nat.le_of_ble_eq_true rfl) dX9_findHeights_98 (fun r_6 hw_r_6 => ?_)
                    rcases hw_r_6 with rfl | rfl
                    · skip
                      refine lv_if_eq (tgt := 133) hx hb dX9_findHeights_101 (by decide) (fun c_7 => absurd c_7 (by decide)) (fun c_7 => ?_)
                      refine lv_aload_n hx hb dX9_findHeights_104 rfl (lv_at hl 3 rfl) ?_
                      refine xg hF kf_X9_31 hK hP 0 rfl rfl dX9_findHeights_105 ?_
                      refine lv_iload_n hx hb dX9_findHeights_108 rfl (lv_at hl 0 rfl) ?_
                      refine va_iald hx hb hK hP 2 0 rfl rfl (vp_in_nI (show i5 < 10 by omega) (by decide)) dX9_findHeights_109 ?_
                      refine xl_i (y := e2_ i5) (congrArg e2_ (nI_clamp (show i5 < 2 ^ 31 by omega))) ?_
                      refine lv_aload_n hx hb dX9_findHeights_110 rfl (lv_at hl 3 rfl) ?_
                      refine xg hF kf_X9_31 hK hP 0 rfl rfl dX9_findHeights_111 ?_
                      refine lv_iload_n hx hb dX9_findHeights_114 rfl (lv_at hl 1 rfl) ?_
                      refine va_iald hx hb hK hP 2 0 rfl rfl (vp_in_nI (show i4 < 10 by omega) (by decide)) dX9_findHeights_115 ?_
                      refine xl_i (y := e2_ i4) (congrArg e2_ (nI_clamp (show i4 < 2 ^ 31 by omega))) ?_
                      refine lv_isub hx hb dX9_findHeights_116 ?_
                      refine lv_topi (fun x_8 ex_8 => ?_)
                      refine lv_aload_n hx hb dX9_findHeights_117 rfl (lv_at hl 3 rfl) ?_
                      refine lv_iload_n hx hb dX9_findHeights_118 rfl (lv_at hl 1 rfl) ?_
                      refine lv_iload_n hx hb dX9_findHeights_119 rfl (lv_at hl 0 rfl) ?_
                      refine xc_Vr hF (c_X9_miles l D cI cJ cZ cS ta sa sv H.size h0 ys yk yo yt mk0 yfa yfe mL mS mM yro yhe ygr u5 mC mY yta mz mf mt mv mw ywa ybi ysi ynu ymo ms P Rn Wn fae fal fau fao farn farp fak fawn fawp fat fas i4 i5 (by omega) (by omega) hs0 hs1 hs2 hsS hsM hsp hsr hsw hsR hsG) kv_X9_100 ⟨rfl, rfl, Nat.le_of_ble_eq_true rfl, Nat.le_of_ble_eq_true rfl⟩ ⟨Nat.le_of_ble_eq_true rfl, Nat.le_of_ble_eq_true rfl⟩ hK hN hZ hP hD hS hA [0, 1] rfl rfl 0 rfl rfl rfl rfl hl.1 rfl (Nat.le_of_ble_eq_true rfl) dX9_findHeights_120 (fun r_9 hw_r_9 => ?_)
                      subst hw_r_9
                      refine lv_aload_n hx hb dX9_findHeights_123 rfl (lv_at hl 3 rfl) ?_
                      refine lv_iload_n hx hb dX9_findHeights_124 rfl (lv_at hl 0 rfl) ?_
                      refine lv_iload_n hx hb dX9_findHeights_125 rfl (lv_at hl 1 rfl) ?_
                      refine xc_Vr hF (c_X9_miles l D cI cJ cZ cS ta sa sv H.size h0 ys yk yo yt mk0 yfa yfe mL mS mM yro yhe ygr u5 mC mY yta mz mf mt mv mw ywa ybi ysi ynu ymo ms P Rn Wn fae fal fau fao farn farp fak fawn fawp fat fas i5 i4 (by omega) (by omega) hs0 hs1 hs2 hsS hsM hsp hsr hsw hsR hsG) kv_X9_100 ⟨rfl, rfl, Nat.le_of_ble_eq_true rfl, Nat.le_of_ble_eq_true rfl⟩ ⟨Nat.le_of_ble_eq_true rfl, Nat.le_of_ble_eq_true rfl⟩ hK hN hZ hP hD hS hA [0, 1] rfl rfl 0 rfl rfl rfl rfl hl.1 rfl (Nat.le_of_ble_eq_true rfl) dX9_findHeights_126 (fun r_10 hw_r_10 => ?_)
                      subst hw_r_10
                      refine lv_isub hx hb dX9_findHeights_129 ?_
                      refine lv_topi (fun x_11 ex_11 => ?_)
                      refine lv_icmp_ne (tgt := 137) hx hb dX9_findHeights_130 (by decide) (fun c_12 => ?_) (fun c_12 => ?_)
                      · skip
                        refine lv_iconst (v := 0) hx hb dX9_findHeights_137 (by decide) ?_
                        refine xp hF kf_X9_180 tyX9_ok nmX9 hK hP hD hS 0 rfl rfl rfl rfl (Nat.le_of_ble_eq_true rfl) dX9_findHeights_138 (fun H locs hP hD hS => ?_)
                        have hP : va_P D vwCl [(h0, .inr (9, [.ref ys, .ref yk, .ref yo, .ref yt, .int mk0, .ref yfa, .ref yfe, .int mL, .int mS, .int mM, .ref yro, .ref yhe, .ref ygr, .int 0, .int mC, .int mY, .ref yta, .int (nI (mz)), .int (nI (mf)), .int (nI (mt)), .int mv, .int mw, .ref ywa, .ref ybi, .ref ysi, .ref ynu, .ref ymo])), (ys, .inl (cI, 449, .inl ms)), (yhe, .inl (cI, 10, .inl e2_)), (ygr, .inl (cI, 10, .inl o2_))] H := hP
                        have hD : va_D A [(h0, .inr (9, [.ref ys, .ref yk, .ref yo, .ref yt, .int mk0, .ref yfa, .ref yfe, .int mL, .int mS, .int mM, .ref yro, .ref yhe, .ref ygr, .int 0, .int mC, .int mY, .ref yta, .int (nI (mz)), .int (nI (mf)), .int (nI (mt)), .int mv, .int mw, .ref ywa, .ref ybi, .ref ysi, .ref ynu, .ref ymo])), (ys, .inl (cI, 449, .inl ms)), (yhe, .inl (cI, 10, .inl e2_)), (ygr, .inl (cI, 10, .inl o2_))] := hD
                        refine lv_iinc (v := nI (i5 + 1)) (lv' := [(3, .int (nI (i5 + 1))), (2, .int (nI (i4))), (1, .int (nI (P))), (0, .ref h0)]) hx hb dX9_findHeights_141 hl (k := 0) rfl (nI_1 (i5)) (by decide) rfl (fun ls hl => ?_)
                        refine lv_goto (tgt := 82) hx hb dX9_findHeights_144 (by decide) ?_
                        exact ih_82 (i5 + 1) 0 _ _ _ (by omega) (by omega) (hP.sub [0, 1, 2, 3] rfl) (hD.sub [0, 1, 2, 3] (by decide) rfl) hS (lv_sub hl [0, 1, 2, 3] rfl)
                      · skip
                        refine lv_iconst (v := 1) hx hb dX9_findHeights_133 (by decide) ?_
                        refine lv_goto (tgt := 138) hx hb dX9_findHeights_134 (by decide) ?_
                        refine xp hF kf_X9_180 tyX9_ok nmX9 hK hP hD hS 0 rfl rfl rfl rfl (Nat.le_of_ble_eq_true rfl) dX9_findHeights_138 (fun H locs hP hD hS => ?_)
                        have hP : va_P D vwCl [(h0, .inr (9, [.ref ys, .ref yk, .ref yo, .ref yt, .int mk0, .ref yfa, .ref yfe, .int mL, .int mS, .int mM, .ref yro, .ref yhe, .ref ygr, .int 1, .int mC, .int mY, .ref yta, .int (nI (mz)), .int (nI (mf)), .int (nI (mt)), .int mv, .int mw, .ref ywa, .ref ybi, .ref ysi, .ref ynu, .ref ymo])), (ys, .inl (cI, 449, .inl ms)), (yhe, .inl (cI, 10, .inl e2_)), (ygr, .inl (cI, 10, .inl o2_))] H := hP
                        have hD : va_D A [(h0, .inr (9, [.ref ys, .ref yk, .ref yo, .ref yt, .int mk0, .ref yfa, .ref yfe, .int mL, .int mS, .int mM, .ref yro, .ref yhe, .ref ygr, .int 1, .int mC, .int mY, .ref yta, .int (nI (mz)), .int (nI (mf)), .int (nI (mt)), .int mv, .int mw, .ref ywa, .ref ybi, .ref ysi, .ref ynu, .ref ymo])), (ys, .inl (cI, 449, .inl ms)), (yhe, .inl (cI, 10, .inl e2_)), (ygr, .inl (cI, 10, .inl o2_))] := hD
                        refine lv_iinc (v := nI (i5 + 1)) (lv' := [(3, .int (nI (i5 + 1))), (2, .int (nI (i4))), (1, .int (nI (P))), (0, .ref h0)]) hx hb dX9_findHeights_141 hl (k := 0) rfl (nI_1 (i5)) (by decide) rfl (fun ls hl => ?_)
                        refine lv_goto (tgt := 82) hx hb dX9_findHeights_144 (by decide) ?_
                        exact ih_82 (i5 + 1) 1 _ _ _ (by omega) (by omega) (hP.sub [0, 1, 2, 3] rfl) (hD.sub [0, 1, 2, 3] (by decide) rfl) hS (lv_sub hl [0, 1, 2, 3] rfl)
                    · skip
                      refine lv_if_eq (tgt := 133) hx hb dX9_findHeights_101 (by decide) (fun c_13 => ?_) (fun c_13 => absurd (by decide) c_13)
                      refine lv_iconst (v := 1) hx hb dX9_findHeights_133 (by decide) ?_
                      refine lv_goto (tgt := 138) hx hb dX9_findHeights_134 (by decide) ?_
                      refine xp hF kf_X9_180 tyX9_ok nmX9 hK hP hD hS 0 rfl rfl rfl rfl (Nat.le_of_ble_eq_true rfl) dX9_findHeights_138 (fun H locs hP hD hS => ?_)
                      have hP : va_P D vwCl [(h0, .inr (9, [.ref ys, .ref yk, .ref yo, .ref yt, .int mk0, .ref yfa, .ref yfe, .int mL, .int mS, .int mM, .ref yro, .ref yhe, .ref ygr, .int 1, .int mC, .int mY, .ref yta, .int (nI (mz)), .int (nI (mf)), .int (nI (mt)), .int mv, .int mw, .ref ywa, .ref ybi, .ref ysi, .ref ynu, .ref ymo])), (ys, .inl (cI, 449, .inl ms)), (yhe, .inl (cI, 10, .inl e2_)), (ygr, .inl (cI, 10, .inl o2_))] H := hP
                      have hD : va_D A [(h0, .inr (9, [.ref ys, .ref yk, .ref yo, .ref yt, .int mk0, .ref yfa, .ref yfe, .int mL, .int mS, .int mM, .ref yro, .ref yhe, .ref ygr, .int 1, .int mC, .int mY, .ref yta, .int (nI (mz)), .int (nI (mf)), .int (nI (mt)), .int mv, .int mw, .ref ywa, .ref ybi, .ref ysi, .ref ynu, .ref ymo])), (ys, .inl (cI, 449, .inl ms)), (yhe, .inl (cI, 10, .inl e2_)), (ygr, .inl (cI, 10, .inl o2_))] := hD
                      refine lv_iinc (v := nI (i5 + 1)) (lv' := [(3, .int (nI (i5 + 1))), (2, .int (nI (i4))), (1, .int (nI (P))), (0, .ref h0)]) hx hb dX9_findHeights_141 hl (k := 0) rfl (nI_1 (i5)) (by decide) rfl (fun ls hl => ?_)
                      refine lv_goto (tgt := 82) hx hb dX9_findHeights_144 (by decide) ?_
                      exact ih_82 (i5 + 1) 1 _ _ _ (by omega) (by omega) (hP.sub [0, 1, 2, 3] rfl) (hD.sub [0, 1, 2, 3] (by decide) rfl) hS (lv_sub hl [0, 1, 2, 3] rfl)
        · skip
          have nc_2 : i2 < P := xn_nle (a := P) (b := i2) (by omega) (by omega) c_2
          refine lv_aload_n hx hb dX9_findHeights_34 rfl (lv_at hl 2 rfl) ?_
          refine xg hF kf_X9_34 hK hP 0 rfl rfl dX9_findHeights_35 ?_
          refine lv_iload_n hx hb dX9_findHeights_38 rfl (lv_at hl 0 rfl) ?_
          refine va_iald hx hb hK hP 3 0 rfl rfl (vp_in_nI (show i2 < 10 by omega) (by decide)) dX9_findHeights_39 ?_
          refine xl_i (y := o2_ i2) (congrArg o2_ (nI_clamp (show i2 < 2 ^ 31 by omega))) ?_
          refine lv_if_ge (tgt := 62) hx hb dX9_findHeights_40 (by decide) (fun c_14 => ?_) (fun c_14 => ?_)
          · skip
            refine lv_iinc (v := nI (i2 + 1)) (lv' := [(2, .int (nI (i2 + 1))), (1, .int (nI (P))), (0, .ref h0)]) hx hb dX9_findHeights_62 hl (k := 0) rfl (nI_1 (i2)) (by decide) rfl (fun ls hl => ?_)
            refine lv_goto (tgt := 29) hx hb dX9_findHeights_65 (by decide) ?_
            exact ih_29 (i2 + 1) e2_ o2_ _ _ _ (by omega) (by omega) (hP.sub [0, 1, 2, 3] rfl) (hD.sub [0, 1, 2, 3] (by decide) rfl) hS (lv_sub hl [0, 1, 2] rfl)
          · skip
            refine lv_aload_n hx hb dX9_findHeights_43 rfl (lv_at hl 2 rfl) ?_
            refine xg hF kf_X9_34 hK hP 0 rfl rfl dX9_findHeights_44 ?_
            refine lv_iload_n hx hb dX9_findHeights_47 rfl (lv_at hl 0 rfl) ?_
            refine lv_iload_n hx hb dX9_findHeights_48 rfl (lv_at hl 0 rfl) ?_
            refine va_iast hx hb hK hP hD hS 3 0 rfl rfl (vp_in_nI (show i2 < 10 by omega) (by decide)) dX9_findHeights_49 (fun H locs hP hD hS => ?_)
            rw [nI_clamp (show i2 < 2 ^ 31 by omega)] at hP hD
            obtain ⟨f_15, ef_15⟩ : ∃ g, g = upd o2_ i2 (nI (i2)) := ⟨_, rfl⟩
            rw [← ef_15] at hP hD
            have hP : va_P D vwCl [(h0, .inr (9, [.ref ys, .ref yk, .ref yo, .ref yt, .int mk0, .ref yfa, .ref yfe, .int mL, .int mS, .int mM, .ref yro, .ref yhe, .ref ygr, .int mF, .int mC, .int mY, .ref yta, .int (nI (mz)), .int (nI (mf)), .int (nI (mt)), .int mv, .int mw, .ref ywa, .ref ybi, .ref ysi, .ref ynu, .ref ymo])), (ys, .inl (cI, 449, .inl ms)), (yhe, .inl (cI, 10, .inl e2_)), (ygr, .inl (cI, 10, .inl f_15))] H := hP
            have hD : va_D A [(h0, .inr (9, [.ref ys, .ref yk, .ref yo, .ref yt, .int mk0, .ref yfa, .ref yfe, .int mL, .int mS, .int mM, .ref yro, .ref yhe, .ref ygr, .int mF, .int mC, .int mY, .ref yta, .int (nI (mz)), .int (nI (mf)), .int (nI (mt)), .int mv, .int mw, .ref ywa, .ref ybi, .ref ysi, .ref ynu, .ref ymo])), (ys, .inl (cI, 449, .inl ms)), (yhe, .inl (cI, 10, .inl e2_)), (ygr, .inl (cI, 10, .inl f_15))] := hD
            refine lv_aload_n hx hb dX9_findHeights_50 rfl (lv_at hl 2 rfl) ?_
            refine xg hF kf_X9_31 hK hP 0 rfl rfl dX9_findHeights_51 ?_
            refine lv_iload_n hx hb dX9_findHeights_54 rfl (lv_at hl 0 rfl) ?_
            refine lv_iconst (v := 0) hx hb dX9_findHeights_55 (by decide) ?_
            refine va_iast hx hb hK hP hD hS 2 0 rfl rfl (vp_in_nI (show i2 < 10 by omega) (by decide)) dX9_findHeights_56 (fun H locs hP hD hS => ?_)
            rw [nI_clamp (show i2 < 2 ^ 31 by omega)] at hP hD
            obtain ⟨f_16, ef_16⟩ : ∃ g, g = upd e2_ i2 0 := ⟨_, rfl⟩
            rw [← ef_16] at hP hD
            have hP : va_P D vwCl [(h0, .inr (9, [.ref ys, .ref yk, .ref yo, .ref yt, .int mk0, .ref yfa, .ref yfe, .int mL, .int mS, .int mM, .ref yro, .ref yhe, .ref ygr, .int mF, .int mC, .int mY, .ref yta, .int (nI (mz)), .int (nI (mf)), .int (nI (mt)), .int mv, .int mw, .ref ywa, .ref ybi, .ref ysi, .ref ynu, .ref ymo])), (ys, .inl (cI, 449, .inl ms)), (yhe, .inl (cI, 10, .inl f_16)), (ygr, .inl (cI, 10, .inl f_15))] H := hP
            have hD : va_D A [(h0, .inr (9, [.ref ys, .ref yk, .ref yo, .ref yt, .int mk0, .ref yfa, .ref yfe, .int mL, .int mS, .int mM, .ref yro, .ref yhe, .ref ygr, .int mF, .int mC, .int mY, .ref yta, .int (nI (mz)), .int (nI (mf)), .int (nI (mt)), .int mv, .int mw, .ref ywa, .ref ybi, .ref ysi, .ref ynu, .ref ymo])), (ys, .inl (cI, 449, .inl ms)), (yhe, .inl (cI, 10, .inl f_16)), (ygr, .inl (cI, 10, .inl f_15))] := hD
            refine lv_aload_n hx hb dX9_findHeights_57 rfl (lv_at hl 2 rfl) ?_
            refine lv_iload_n hx hb dX9_findHeights_58 rfl (lv_at hl 0 rfl) ?_
            refine xc_Vv (wr := []) hF (c_X9_spreads l D cI cJ cZ cS ta sa sv H.size h0 ys yk yo yt mk0 yfa yfe mL mS mM yro yhe ygr mF mC mY yta mz mf mt mv mw ywa ybi ysi ynu ymo ms f_16 f_15 P Rn Wn fae fal fau fao farn farp fak fawn fawp fat fas (nI (i2)) hs0 hs1 hs2 hsS hsM hsp hsr hsw hsR hsG) kv_X9_177 ⟨rfl, rfl, Nat.le_of_ble_eq_true rfl, Nat.le_of_ble_eq_true rfl⟩ ⟨Nat.le_of_ble_eq_true rfl, Nat.le_of_ble_eq_true rfl⟩ hK hN hZ hP hD hS hA [0, 1, 2, 3] [] rfl rfl rfl rfl (by decide) 0 rfl rfl rfl rfl hl.1 rfl (Nat.le_of_ble_eq_true rfl) dX9_findHeights_59 (fun u_r_17 H locs hw_r_17 hP hD hS => ?_)
            obtain ⟨he2_18, gr2_19⟩ := u_r_17
            try dsimp only at hw_r_17
            have hP : va_P D vwCl [(h0, .inr (9, [.ref ys, .ref yk, .ref yo, .ref yt, .int mk0, .ref yfa, .ref yfe, .int mL, .int mS, .int mM, .ref yro, .ref yhe, .ref ygr, .int mF, .int mC, .int mY, .ref yta, .int (nI (mz)), .int (nI (mf)), .int (nI (mt)), .int mv, .int mw, .ref ywa, .ref ybi, .ref ysi, .ref ynu, .ref ymo])), (ys, .inl (cI, 449, .inl ms)), (yhe, .inl (cI, 10, .inl he2_18)), (ygr, .inl (cI, 10, .inl gr2_19))] H := hP
            have hD : va_D A [(h0, .inr (9, [.ref ys, .ref yk, .ref yo, .ref yt, .int mk0, .ref yfa, .ref yfe, .int mL, .int mS, .int mM, .ref yro, .ref yhe, .ref ygr, .int mF, .int mC, .int mY, .ref yta, .int (nI (mz)), .int (nI (mf)), .int (nI (mt)), .int mv, .int mw, .ref ywa, .ref ybi, .ref ysi, .ref ynu, .ref ymo])), (ys, .inl (cI, 449, .inl ms)), (yhe, .inl (cI, 10, .inl he2_18)), (ygr, .inl (cI, 10, .inl gr2_19))] := hD
            refine lv_iinc (v := nI (i2 + 1)) (lv' := [(2, .int (nI (i2 + 1))), (1, .int (nI (P))), (0, .ref h0)]) hx hb dX9_findHeights_62 hl (k := 0) rfl (nI_1 (i2)) (by decide) rfl (fun ls hl => ?_)
            refine lv_goto (tgt := 29) hx hb dX9_findHeights_65 (by decide) ?_
            exact ih_29 (i2 + 1) he2_18 gr2_19 _ _ _ (by omega) (by omega) (hP.sub [0, 1, 2, 3] rfl) (hD.sub [0, 1, 2, 3] (by decide) rfl) hS (lv_sub hl [0, 1, 2] rfl)
    · skip
      have nc_1 : i1 < P := xn_nle (a := P) (b := i1) (by omega) (by omega) c_1
      refine lv_aload_n hx hb dX9_findHeights_14 rfl (lv_at hl 2 rfl) ?_
      refine xg hF kf_X9_34 hK hP 0 rfl rfl dX9_findHeights_15 ?_
      refine lv_iload_n hx hb dX9_findHeights_18 rfl (lv_at hl 0 rfl) ?_
      refine lv_iconst (v := (-1)) hx hb dX9_findHeights_19 (by decide) ?_
      refine va_iast hx hb hK hP hD hS 3 0 rfl rfl (vp_in_nI (show i1 < 10 by omega) (by decide)) dX9_findHeights_20 (fun H locs hP hD hS => ?_)
      rw [nI_clamp (show i1 < 2 ^ 31 by omega)] at hP hD
      obtain ⟨f_20, ef_20⟩ : ∃ g, g = upd o1_ i1 (-1) := ⟨_, rfl⟩
      rw [← ef_20] at hP hD
      have hP : va_P D vwCl [(h0, .inr (9, [.ref ys, .ref yk, .ref yo, .ref yt, .int mk0, .ref yfa, .ref yfe, .int mL, .int mS, .int mM, .ref yro, .ref yhe, .ref ygr, .int mF, .int mC, .int mY, .ref yta, .int (nI (mz)), .int (nI (mf)), .int (nI (mt)), .int mv, .int mw, .ref ywa, .ref ybi, .ref ysi, .ref ynu, .ref ymo])), (ys, .inl (cI, 449, .inl ms)), (yhe, .inl (cI, 10, .inl e1_)), (ygr, .inl (cI, 10, .inl f_20))] H := hP
      have hD : va_D A [(h0, .inr (9, [.ref ys, .ref yk, .ref yo, .ref yt, .int mk0, .ref yfa, .ref yfe, .int mL, .int mS, .int mM, .ref yro, .ref yhe, .ref ygr, .int mF, .int mC, .int mY, .ref yta, .int (nI (mz)), .int (nI (mf)), .int (nI (mt)), .int mv, .int mw, .ref ywa, .ref ybi, .ref ysi, .ref ynu, .ref ymo])), (ys, .inl (cI, 449, .inl ms)), (yhe, .inl (cI, 10, .inl e1_)), (ygr, .inl (cI, 10, .inl f_20))] := hD
      refine lv_iinc (v := nI (i1 + 1)) (lv' := [(2, .int (nI (i1 + 1))), (1, .int (nI (P))), (0, .ref h0)]) hx hb dX9_findHeights_21 hl (k := 0) rfl (nI_1 (i1)) (by decide) rfl (fun ls hl => ?_)
      refine lv_goto (tgt := 9) hx hb dX9_findHeights_24 (by decide) ?_
      exact ih_9 (i1 + 1) e1_ f_20 _ _ _ (by omega) (by omega) (hP.sub [0, 1, 2, 3] rfl) (hD.sub [0, 1, 2, 3] (by decide) rfl) hS (lv_sub hl [0, 1, 2] rfl)
set_option maxHeartbeats 4000000 in
set_option maxRecDepth 100000 in
theorem c_X9_fit (l : Launch) (D : va_G) (cI cJ cZ cS : ClassId) (ta : Nat) (sa sv : Nat → Nat) (sz : Nat) (h0 : Nat) (ys : Nat) (yk : Nat) (yo : Nat) (yt : Nat) (mk0 : Int32) (yfa : Nat) (yfe : Nat) (mL : Int32) (mS : Int32) (mM : Int32) (yro : Nat) (yhe : Nat) (ygr : Nat) (mF : Int32) (mC : Int32) (mY : Int32) (yta : Nat) (mz : Nat) (mf : Nat) (mt : Nat) (mv : Int32) (mw : Int32) (ywa : Nat) (ybi : Nat) (ysi : Nat) (ynu : Nat) (ymo : Nat) (ms : Nat → Int32) (he : Nat → Int32) (gr : Nat → Int32) (P : Nat) (Rn : Nat) (Wn : Nat) (fae : Nat → Int32) (fal : Nat → Int32) (fau : Nat → Int32) (fao : Nat → Int32) (farn : Nat → Int32) (farp : Nat → Int32) (fak : Nat → Int32) (fawn : Nat → Int32) (fawp : Nat → Int32) (fat : Nat → Int32) (fas : Nat → Int32) (hs0 : ms 0 = nI P) (hs1 : ms 1 = nI Rn) (hs2 : ms 2 = nI Wn) (hsS : SI ms) (hsM : MI ms) (hsp : P ≤ 10) (hsr : Rn ≤ 8) (hsw : Wn ≤ 8) (hsR : RI Rn ms) (hsG : FR P ms fae fal fau fao farn farp fak fawn fawp fat fas) : Met l yX9_fit (Cond.code yX9_fit cX9_fit 1 (some .int) :: wsU) ({ frames := 4, cells := 0, slots := 0, locals := 91 }) (va_Pc [.ref h0] (XW D (xT cI cJ cZ cS) ta sa sv [(h0, .inr (9, [.ref ys, .ref yk, .ref yo, .ref yt, .int mk0, .ref yfa, .ref yfe, .int mL, .int mS, .int mM, .ref yro, .ref yhe, .ref ygr, .int mF, .int mC, .int mY, .ref yta, .int (nI (mz)), .int (nI (mf)), .int (nI (mt)), .int mv, .int mw, .ref ywa, .ref ybi, .ref ysi, .ref ynu, .ref ymo])), (ys, .inl (cI, 449, .inl ms)), (yhe, .inl (cI, 10, .inl he)), (ygr, .inl (cI, 10, .inl gr))] sz)) (XQi (fun (r : Int32) (u : Int32 × (Nat → Int32) × (Nat → Int32)) => match u with | (mF2, he2, gr2) => (True)) D (fun (u : Int32 × (Nat → Int32) × (Nat → Int32)) => match u with | (mF2, he2, gr2) => [(h0, .inr (9, [.ref ys, .ref yk, .ref yo, .ref yt, .int mk0, .ref yfa, .ref yfe, .int mL, .int mS, .int mM, .ref yro, .ref yhe, .ref ygr, .int mF2, .int mC, .int mY, .ref yta, .int (nI (mz)), .int (nI (mf)), .int (nI (mt)), .int mv, .int mw, .ref ywa, .ref ybi, .ref ysi, .ref ynu, .ref ymo])), (ys, .inl (cI, 449, .inl ms)), (yhe, .inl (cI, 10, .inl he2)), (ygr, .inl (cI, 10, .inl gr2))]) (va_A [(h0, .inr (9, [.ref ys, .ref yk, .ref yo, .ref yt, .int mk0, .ref yfa, .ref yfe, .int mL, .int mS, .int mM, .ref yro, .ref yhe, .ref ygr, .int mF, .int mC, .int mY, .ref yta, .int (nI (mz)), .int (nI (mf)), .int (nI (mt)), .int mv, .int mw, .ref ywa, .ref ybi, .ref ysi, .ref ynu, .ref ymo])), (ys, .inl (cI, 449, .inl ms)), (yhe, .inl (cI, 10, .inl he)), (ygr, .inl (cI, 10, .inl gr))] sz)) 0 0 (va_A [(h0, .inr (9, [.ref ys, .ref yk, .ref yo, .ref yt, .int mk0, .ref yfa, .ref yfe, .int mL, .int mS, .int mM, .ref yro, .ref yhe, .ref ygr, .int mF, .int mC, .int mY, .ref yta, .int (nI (mz)), .int (nI (mf)), .int (nI (mt)), .int mv, .int mw, .ref ywa, .ref ybi, .ref ysi, .ref ynu, .ref ymo])), (ys, .inl (cI, 449, .inl ms)), (yhe, .inl (cI, 10, .inl he)), (ygr, .inl (cI, 10, .inl gr))] sz) := by
  refine xh (QA := fun A => XQi (fun (r : Int32) (u : Int32 × (Nat → Int32) × (Nat → Int32)) => match u with | (mF2, he2, gr2) => (True)) D (fun (u : Int32 × (Nat → Int32) × (Nat → Int32)) => match u with | (mF2, he2, gr2) => [(h0, .inr (9, [.ref ys, .ref yk, .ref yo, .ref yt, .int mk0, .ref yfa, .ref yfe, .int mL, .int mS, .int mM, .ref yro, .ref yhe, .ref ygr, .int mF2, .int mC, .int mY, .ref yta, .int (nI (mz)), .int (nI (mf)), .int (nI (mt)), .int mv, .int mw, .ref ywa, .ref ybi, .ref ysi, .ref ynu, .ref ymo])), (ys, .inl (cI, 449, .inl ms)), (yhe, .inl (cI, 10, .inl he2)), (ygr, .inl (cI, 10, .inl gr2))]) A) (fr := fun A => A) (by decide) (Nat.le_of_ble_eq_true rfl) ?_
  intro p e s m below meth c ls A hF hr hlk hin hsz hP hK hD hN hZ hA hS hl
  have hF : CallFix p m c cX9_fit 1 s _ _ RX9 := hF
  have hx := hF.1
  have hb := hF.2.1
  have hml := hF.2.2.1
  have hown := hF.2.2.2.1
  have hu : ∀ w ∈ wsU, w.before _ s = true := fun w h => hF.2.2.2.2 w (List.mem_cons_of_mem _ h)
  have hl : lv_has ls 1 [(0, .ref h0)] := hl
  refine lv_aload_n hx hb dX9_fit_0 rfl (lv_at hl 0 rfl) ?_
  refine xc_Vv (wr := []) hF (c_X9_findHeights l D cI cJ cZ cS ta sa sv s.heap.size h0 ys yk yo yt mk0 yfa yfe mL mS mM yro yhe ygr mF mC mY yta mz mf mt mv mw ywa ybi ysi ynu ymo ms he gr P Rn Wn fae fal fau fao farn farp fak fawn fawp fat fas hs0 hs1 hs2 hsS hsM hsp hsr hsw hsR hsG) kv_X9_186 ⟨rfl, rfl, Nat.le_of_ble_eq_true rfl, Nat.le_of_ble_eq_true rfl⟩ ⟨Nat.le_of_ble_eq_true rfl, Nat.le_of_ble_eq_true rfl⟩ hK hN hZ hP hD hS hA [0, 1, 2, 3] [] rfl rfl rfl rfl (by decide) 0 rfl rfl rfl rfl hl.1 rfl (Nat.le_of_ble_eq_true rfl) dX9_fit_1 (fun u_r_1 H locs hw_r_1 hP hD hS => ?_)
  obtain ⟨mF2_2, he2_3, gr2_4⟩ := u_r_1
  try dsimp only at hw_r_1
  have hP : va_P D vwCl [(h0, .inr (9, [.ref ys, .ref yk, .ref yo, .ref yt, .int mk0, .ref yfa, .ref yfe, .int mL, .int mS, .int mM, .ref yro, .ref yhe, .ref ygr, .int mF2_2, .int mC, .int mY, .ref yta, .int (nI (mz)), .int (nI (mf)), .int (nI (mt)), .int mv, .int mw, .ref ywa, .ref ybi, .ref ysi, .ref ynu, .ref ymo])), (ys, .inl (cI, 449, .inl ms)), (yhe, .inl (cI, 10, .inl he2_3)), (ygr, .inl (cI, 10, .inl gr2_4))] H := hP
  have hD : va_D A [(h0, .inr (9, [.ref ys, .ref yk, .ref yo, .ref yt, .int mk0, .ref yfa, .ref yfe, .int mL, .int mS, .int mM, .ref yro, .ref yhe, .ref ygr, .int mF2_2, .int mC, .int mY, .ref yta, .int (nI (mz)), .int (nI (mf)), .int (nI (mt)), .int mv, .int mw, .ref ywa, .ref ybi, .ref ysi, .ref ynu, .ref ymo])), (ys, .inl (cI, 449, .inl ms)), (yhe, .inl (cI, 10, .inl he2_3)), (ygr, .inl (cI, 10, .inl gr2_4))] := hD
  refine lv_aload_n hx hb dX9_fit_4 rfl (lv_at hl 0 rfl) ?_
  refine xg hF kf_X9_180 hK hP 0 rfl rfl dX9_fit_5 ?_
  refine lv_if_eq (tgt := 15) hx hb dX9_fit_8 (by decide) (fun c_5 => ?_) (fun c_5 => ?_)
  · skip
    refine lv_iconst (v := 0) hx hb dX9_fit_15 (by decide) ?_
    exact W.iret (v := 0) hx hb hr (fun t ht hW => ⟨⟨0, (mF2_2, he2_3, gr2_4), rfl, trivial, by rw [ht]; exact hP.sub [0, 1, 2, 3] rfl, hD.sub [0, 1, 2, 3] (by decide) rfl⟩, hS.F ht⟩) hS.2.2 dX9_fit_16 hlk
  · skip
    refine lv_iconst (v := 1) hx hb dX9_fit_11 (by decide) ?_
    refine lv_goto (tgt := 16) hx hb dX9_fit_12 (by decide) ?_
    exact W.iret (v := 1) hx hb hr (fun t ht hW => ⟨⟨1, (mF2_2, he2_3, gr2_4), rfl, trivial, by rw [ht]; exact hP.sub [0, 1, 2, 3] rfl, hD.sub [0, 1, 2, 3] (by decide) rfl⟩, hS.F ht⟩) hS.2.2 dX9_fit_16 hlk
set_option maxHeartbeats 4000000 in
set_option maxRecDepth 100000 in
theorem c_X9_height (l : Launch) (D : va_G) (cI cJ cZ cS : ClassId) (ta : Nat) (sa sv : Nat → Nat) (sz : Nat) (h0 : Nat) (ys : Nat) (yk : Nat) (yo : Nat) (yt : Nat) (mk0 : Int32) (yfa : Nat) (yfe : Nat) (mL : Int32) (mS : Int32) (mM : Int32) (yro : Nat) (yhe : Nat) (ygr : Nat) (mF : Int32) (mC : Int32) (mY : Int32) (yta : Nat) (mz : Nat) (mf : Nat) (mt : Nat) (mv : Int32) (mw : Int32) (ywa : Nat) (ybi : Nat) (ysi : Nat) (ynu : Nat) (ymo : Nat) (ms : Nat → Int32) (he : Nat → Int32) (gr : Nat → Int32) (mq : Nat → Int32) (P : Nat) (Rn : Nat) (Wn : Nat) (fae : Nat → Int32) (fal : Nat → Int32) (fau : Nat → Int32) (fao : Nat → Int32) (farn : Nat → Int32) (farp : Nat → Int32) (fak : Nat → Int32) (fawn : Nat → Int32) (fawp : Nat → Int32) (fat : Nat → Int32) (fas : Nat → Int32) (p0 : Int32) (hs0 : ms 0 = nI P) (hs1 : ms 1 = nI Rn) (hs2 : ms 2 = nI Wn) (hsS : SI ms) (hsM : MI ms) (hsp : P ≤ 10) (hsr : Rn ≤ 8) (hsw : Wn ≤ 8) (hsR : RI Rn ms) (hsG : FR P ms fae fal fau fao farn farp fak fawn fawp fat fas) : Met l yX9_height (Cond.code yX9_height cX9_height 2 (some .int) :: wsU) ({ frames := 4, cells := 0, slots := 0, locals := 91 }) (va_Pc [.ref h0, .int p0] (XW D (xT cI cJ cZ cS) ta sa sv [(h0, .inr (9, [.ref ys, .ref yk, .ref yo, .ref yt, .int mk0, .ref yfa, .ref yfe, .int mL, .int mS, .int mM, .ref yro, .ref yhe, .ref ygr, .int mF, .int mC, .int mY, .ref yta, .int (nI (mz)), .int (nI (mf)), .int (nI (mt)), .int mv, .int mw, .ref ywa, .ref ybi, .ref ysi, .ref ynu, .ref ymo])), (ys, .inl (cI, 449, .inl ms)), (yhe, .inl (cI, 10, .inl he)), (ygr, .inl (cI, 10, .inl gr)), (yt, .inl (cI, 7, .inl mq))] sz)) (XQi (fun (r : Int32) (u : Int32 × (Nat → Int32) × (Nat → Int32) × (Nat → Int32)) => match u with | (mF2, he2, gr2, mq2) => (True)) D (fun (u : Int32 × (Nat → Int32) × (Nat → Int32) × (Nat → Int32)) => match u with | (mF2, he2, gr2, mq2) => [(h0, .inr (9, [.ref ys, .ref yk, .ref yo, .ref yt, .int mk0, .ref yfa, .ref yfe, .int mL, .int mS, .int mM, .ref yro, .ref yhe, .ref ygr, .int mF2, .int mC, .int mY, .ref yta, .int (nI (mz)), .int (nI (mf)), .int (nI (mt)), .int mv, .int mw, .ref ywa, .ref ybi, .ref ysi, .ref ynu, .ref ymo])), (ys, .inl (cI, 449, .inl ms)), (yhe, .inl (cI, 10, .inl he2)), (ygr, .inl (cI, 10, .inl gr2)), (yt, .inl (cI, 7, .inl mq2))]) (va_A [(h0, .inr (9, [.ref ys, .ref yk, .ref yo, .ref yt, .int mk0, .ref yfa, .ref yfe, .int mL, .int mS, .int mM, .ref yro, .ref yhe, .ref ygr, .int mF, .int mC, .int mY, .ref yta, .int (nI (mz)), .int (nI (mf)), .int (nI (mt)), .int mv, .int mw, .ref ywa, .ref ybi, .ref ysi, .ref ynu, .ref ymo])), (ys, .inl (cI, 449, .inl ms)), (yhe, .inl (cI, 10, .inl he)), (ygr, .inl (cI, 10, .inl gr)), (yt, .inl (cI, 7, .inl mq))] sz)) 0 0 (va_A [(h0, .inr (9, [.ref ys, .ref yk, .ref yo, .ref yt, .int mk0, .ref yfa, .ref yfe, .int mL, .int mS, .int mM, .ref yro, .ref yhe, .ref ygr, .int mF, .int mC, .int mY, .ref yta, .int (nI (mz)), .int (nI (mf)), .int (nI (mt)), .int mv, .int mw, .ref ywa, .ref ybi, .ref ysi, .ref ynu, .ref ymo])), (ys, .inl (cI, 449, .inl ms)), (yhe, .inl (cI, 10, .inl he)), (ygr, .inl (cI, 10, .inl gr)), (yt, .inl (cI, 7, .inl mq))] sz) := by
  refine xh (QA := fun A => XQi (fun (r : Int32) (u : Int32 × (Nat → Int32) × (Nat → Int32) × (Nat → Int32)) => match u with | (mF2, he2, gr2, mq2) => (True)) D (fun (u : Int32 × (Nat → Int32) × (Nat → Int32) × (Nat → Int32)) => match u with | (mF2, he2, gr2, mq2) => [(h0, .inr (9, [.ref ys, .ref yk, .ref yo, .ref yt, .int mk0, .ref yfa, .ref yfe, .int mL, .int mS, .int mM, .ref yro, .ref yhe, .ref ygr, .int mF2, .int mC, .int mY, .ref yta, .int (nI (mz)), .int (nI (mf)), .int (nI (mt)), .int mv, .int mw, .ref ywa, .ref ybi, .ref ysi, .ref ynu, .ref ymo])), (ys, .inl (cI, 449, .inl ms)), (yhe, .inl (cI, 10, .inl he2)), (ygr, .inl (cI, 10, .inl gr2)), (yt, .inl (cI, 7, .inl mq2))]) A) (fr := fun A => A) (by decide) (Nat.le_of_ble_eq_true rfl) ?_
  intro p e s m below meth c ls A hF hr hlk hin hsz hP hK hD hN hZ hA hS hl
  have hF : CallFix p m c cX9_height 2 s _ _ RX9 := hF
  have hx := hF.1
  have hb := hF.2.1
  have hml := hF.2.2.1
  have hown := hF.2.2.2.1
  have hu : ∀ w ∈ wsU, w.before _ s = true := fun w h => hF.2.2.2.2 w (List.mem_cons_of_mem _ h)
  have hl : lv_has ls 2 [(0, .ref h0), (1, .int p0)] := hl
  refine lv_aload_n hx hb dX9_height_0 rfl (lv_at hl 0 rfl) ?_
  refine lv_iload_n hx hb dX9_height_1 rfl (lv_at hl 1 rfl) ?_
  refine xc_Vr hF (c_X9_isPlace l D cI cJ cZ cS ta sa sv s.heap.size h0 ys yk yo yt mk0 yfa yfe mL mS mM yro yhe ygr mF mC mY yta mz mf mt mv mw ywa ybi ysi ynu ymo ms P Rn Wn fae fal fau fao farn farp fak fawn fawp fat fas p0 hs0 hs1 hs2 hsS hsM hsp hsr hsw hsR hsG) kv_X9_61 ⟨rfl, rfl, Nat.le_of_ble_eq_true rfl, Nat.le_of_ble_eq_true rfl⟩ ⟨Nat.le_of_ble_eq_true rfl, Nat.le_of_ble_eq_true rfl⟩ hK hN hZ hP hD hS hA [0, 1] rfl rfl 0 rfl rfl rfl rfl hl.1 rfl (Nat.le_of_ble_eq_true rfl) dX9_height_2 (fun r_1 hw_r_1 => ?_)
  rcases hw_r_1 with ⟨k_2, rfl, rfl, h_4⟩ | ⟨rfl, h_5⟩
  · skip
    refine lv_if_ne (tgt := 15) hx hb dX9_height_5 (by decide) (fun c_6 => ?_) (fun c_6 => absurd c_6 (by decide))
    refine lv_aload_n hx hb dX9_height_15 rfl (lv_at hl 0 rfl) ?_
    refine xc_Vv (wr := [(yt, .inl (cI, 7, .inl mq))]) hF (c_X9_findHeights l D cI cJ cZ cS ta sa sv s.heap.size h0 ys yk yo yt mk0 yfa yfe mL mS mM yro yhe ygr mF mC mY yta mz mf mt mv mw ywa ybi ysi ynu ymo ms he gr P Rn Wn fae fal fau fao farn farp fak fawn fawp fat fas hs0 hs1 hs2 hsS hsM hsp hsr hsw hsR hsG) kv_X9_186 ⟨rfl, rfl, Nat.le_of_ble_eq_true rfl, Nat.le_of_ble_eq_true rfl⟩ ⟨Nat.le_of_ble_eq_true rfl, Nat.le_of_ble_eq_true rfl⟩ hK hN hZ hP hD hS hA [0, 1, 2, 3] [4] rfl rfl rfl rfl (by decide) 0 rfl rfl rfl rfl hl.1 rfl (Nat.le_of_ble_eq_true rfl) dX9_height_16 (fun u_r_7 H locs hw_r_7 hP hD hS => ?_)
    obtain ⟨mF2_8, he2_9, gr2_10⟩ := u_r_7
    try dsimp only at hw_r_7
    have hP : va_P D vwCl [(yt, .inl (cI, 7, .inl mq)), (h0, .inr (9, [.ref ys, .ref yk, .ref yo, .ref yt, .int mk0, .ref yfa, .ref yfe, .int mL, .int mS, .int mM, .ref yro, .ref yhe, .ref ygr, .int mF2_8, .int mC, .int mY, .ref yta, .int (nI (mz)), .int (nI (mf)), .int (nI (mt)), .int mv, .int mw, .ref ywa, .ref ybi, .ref ysi, .ref ynu, .ref ymo])), (ys, .inl (cI, 449, .inl ms)), (yhe, .inl (cI, 10, .inl he2_9)), (ygr, .inl (cI, 10, .inl gr2_10))] H := hP
    have hD : va_D A [(yt, .inl (cI, 7, .inl mq)), (h0, .inr (9, [.ref ys, .ref yk, .ref yo, .ref yt, .int mk0, .ref yfa, .ref yfe, .int mL, .int mS, .int mM, .ref yro, .ref yhe, .ref ygr, .int mF2_8, .int mC, .int mY, .ref yta, .int (nI (mz)), .int (nI (mf)), .int (nI (mt)), .int mv, .int mw, .ref ywa, .ref ybi, .ref ysi, .ref ynu, .ref ymo])), (ys, .inl (cI, 449, .inl ms)), (yhe, .inl (cI, 10, .inl he2_9)), (ygr, .inl (cI, 10, .inl gr2_10))] := hD
    refine lv_aload_n hx hb dX9_height_19 rfl (lv_at hl 0 rfl) ?_
    refine xg hF kf_X9_180 hK hP 1 rfl rfl dX9_height_20 ?_
    refine lv_if_ne (tgt := 33) hx hb dX9_height_23 (by decide) (fun c_11 => ?_) (fun c_11 => ?_)
    · skip
      refine lv_aload_n hx hb dX9_height_33 rfl (lv_at hl 0 rfl) ?_
      refine xg hF kf_X9_31 hK hP 1 rfl rfl dX9_height_34 ?_
      refine lv_iload_n hx hb dX9_height_37 rfl (lv_at hl 1 rfl) ?_
      refine va_iald hx hb hK hP 3 0 rfl rfl (vp_in_nI (show k_2 < 10 by omega) (by decide)) dX9_height_38 ?_
      refine xl_i (y := he2_9 k_2) (congrArg he2_9 (nI_clamp (show k_2 < 2 ^ 31 by omega))) ?_
      exact W.iret (v := he2_9 k_2) hx hb hr (fun t ht hW => ⟨⟨he2_9 k_2, (mF2_8, he2_9, gr2_10, mq), rfl, trivial, by rw [ht]; exact hP.sub [1, 2, 3, 4, 0] rfl, hD.sub [1, 2, 3, 4, 0] (by decide +kernel) rfl⟩, hS.F ht⟩) hS.2.2 dX9_height_39 hlk
    · skip
      refine lv_aload_n hx hb dX9_height_26 rfl (lv_at hl 0 rfl) ?_
      refine lv_ldc (v := (-1000000005)) hx hb hown (hu _ uw716) dX9_height_27 ?_
      refine xc_Vi (wr := [(ys, .inl (cI, 449, .inl ms)), (yhe, .inl (cI, 10, .inl he2_9)), (ygr, .inl (cI, 10, .inl gr2_10))]) hF (c_X9_finds_T l D cI cJ cZ cS ta sa sv H.size h0 ys yk yo yt mk0 yfa yfe mL mS mM yro yhe ygr mF2_8 mC mY yta mz mf mt mv mw ywa ybi ysi ynu ymo mq ) kv_X9_70 ⟨rfl, rfl, Nat.le_of_ble_eq_true rfl, Nat.le_of_ble_eq_true rfl⟩ ⟨Nat.le_of_ble_eq_true rfl, Nat.le_of_ble_eq_true rfl⟩ hK hN hZ hP hD hS hA [1, 0] [2, 3, 4] rfl rfl rfl rfl (by decide) 0 rfl rfl rfl rfl hl.1 rfl (Nat.le_of_ble_eq_true rfl) dX9_height_29 (fun r_12 u_r_12 H locs hw_r_12 hP hD hS => ?_)
      obtain ⟨mq2_13, rfl⟩ : ∃ z, z = u_r_12 := ⟨_, rfl⟩
      try dsimp only at hw_r_12
      have hP : va_P D vwCl [(ys, .inl (cI, 449, .inl ms)), (yhe, .inl (cI, 10, .inl he2_9)), (ygr, .inl (cI, 10, .inl gr2_10)), (h0, .inr (9, [.ref ys, .ref yk, .ref yo, .ref yt, .int mk0, .ref yfa, .ref yfe, .int mL, .int mS, .int mM, .ref yro, .ref yhe, .ref ygr, .int mF2_8, .int mC, .int mY, .ref yta, .int (nI (mz)), .int (nI (mf)), .int (nI (mt)), .int mv, .int mw, .ref ywa, .ref ybi, .ref ysi, .ref ynu, .ref ymo])), (yt, .inl (cI, 7, .inl mq2_13))] H := hP
      have hD : va_D A [(ys, .inl (cI, 449, .inl ms)), (yhe, .inl (cI, 10, .inl he2_9)), (ygr, .inl (cI, 10, .inl gr2_10)), (h0, .inr (9, [.ref ys, .ref yk, .ref yo, .ref yt, .int mk0, .ref yfa, .ref yfe, .int mL, .int mS, .int mM, .ref yro, .ref yhe, .ref ygr, .int mF2_8, .int mC, .int mY, .ref yta, .int (nI (mz)), .int (nI (mf)), .int (nI (mt)), .int mv, .int mw, .ref ywa, .ref ybi, .ref ysi, .ref ynu, .ref ymo])), (yt, .inl (cI, 7, .inl mq2_13))] := hD
      subst hw_r_12
      exact W.iret (v := (-1000000005)) hx hb hr (fun t ht hW => ⟨⟨(-1000000005), (mF2_8, he2_9, gr2_10, mq2_13), rfl, trivial, by rw [ht]; exact hP.sub [3, 0, 1, 2, 4] rfl, hD.sub [3, 0, 1, 2, 4] (by decide +kernel) rfl⟩, hS.F ht⟩) hS.2.2 dX9_height_32 hlk
  · skip
    refine lv_if_ne (tgt := 15) hx hb dX9_height_5 (by decide) (fun c_14 => absurd (by decide) c_14) (fun c_14 => ?_)
    refine lv_aload_n hx hb dX9_height_8 rfl (lv_at hl 0 rfl) ?_
    refine lv_ldc (v := (-1000000001)) hx hb hown (hu _ uw648) dX9_height_9 ?_
    refine xc_Vi (wr := [(ys, .inl (cI, 449, .inl ms)), (yhe, .inl (cI, 10, .inl he)), (ygr, .inl (cI, 10, .inl gr))]) hF (c_X9_finds_B l D cI cJ cZ cS ta sa sv s.heap.size h0 ys yk yo yt mk0 yfa yfe mL mS mM yro yhe ygr mF mC mY yta mz mf mt mv mw ywa ybi ysi ynu ymo mq ) kv_X9_70 ⟨rfl, rfl, Nat.le_of_ble_eq_true rfl, Nat.le_of_ble_eq_true rfl⟩ ⟨Nat.le_of_ble_eq_true rfl, Nat.le_of_ble_eq_true rfl⟩ hK hN hZ hP hD hS hA [0, 4] [1, 2, 3] rfl rfl rfl rfl (by decide) 0 rfl rfl rfl rfl hl.1 rfl (Nat.le_of_ble_eq_true rfl) dX9_height_11 (fun r_15 u_r_15 H locs hw_r_15 hP hD hS => ?_)
    obtain ⟨mq2_16, rfl⟩ : ∃ z, z = u_r_15 := ⟨_, rfl⟩
    try dsimp only at hw_r_15
    have hP : va_P D vwCl [(ys, .inl (cI, 449, .inl ms)), (yhe, .inl (cI, 10, .inl he)), (ygr, .inl (cI, 10, .inl gr)), (h0, .inr (9, [.ref ys, .ref yk, .ref yo, .ref yt, .int mk0, .ref yfa, .ref yfe, .int mL, .int mS, .int mM, .ref yro, .ref yhe, .ref ygr, .int mF, .int mC, .int mY, .ref yta, .int (nI (mz)), .int (nI (mf)), .int (nI (mt)), .int mv, .int mw, .ref ywa, .ref ybi, .ref ysi, .ref ynu, .ref ymo])), (yt, .inl (cI, 7, .inl mq2_16))] H := hP
    have hD : va_D A [(ys, .inl (cI, 449, .inl ms)), (yhe, .inl (cI, 10, .inl he)), (ygr, .inl (cI, 10, .inl gr)), (h0, .inr (9, [.ref ys, .ref yk, .ref yo, .ref yt, .int mk0, .ref yfa, .ref yfe, .int mL, .int mS, .int mM, .ref yro, .ref yhe, .ref ygr, .int mF, .int mC, .int mY, .ref yta, .int (nI (mz)), .int (nI (mf)), .int (nI (mt)), .int mv, .int mw, .ref ywa, .ref ybi, .ref ysi, .ref ynu, .ref ymo])), (yt, .inl (cI, 7, .inl mq2_16))] := hD
    subst hw_r_15
    exact W.iret (v := (-1000000001)) hx hb hr (fun t ht hW => ⟨⟨(-1000000001), (mF, he, gr, mq2_16), rfl, trivial, by rw [ht]; exact hP.sub [3, 0, 1, 2, 4] rfl, hD.sub [3, 0, 1, 2, 4] (by decide +kernel) rfl⟩, hS.F ht⟩) hS.2.2 dX9_height_14 hlk
set_option maxHeartbeats 4000000 in
set_option maxRecDepth 100000 in
theorem c_X9_paper (l : Launch) (D : va_G) (cI cJ cZ cS : ClassId) (ta : Nat) (sa sv : Nat → Nat) (sz : Nat) (h0 : Nat) (ys : Nat) (yk : Nat) (yo : Nat) (yt : Nat) (mk0 : Int32) (yfa : Nat) (yfe : Nat) (mL : Int32) (mS : Int32) (mM : Int32) (yro : Nat) (yhe : Nat) (ygr : Nat) (mF : Int32) (mC : Int32) (mY : Int32) (yta : Nat) (mz : Nat) (mf : Nat) (mt : Nat) (mv : Int32) (mw : Int32) (ywa : Nat) (ybi : Nat) (ysi : Nat) (ynu : Nat) (ymo : Nat) (ms : Nat → Int32) (mq : Nat → Int32) (P : Nat) (Rn : Nat) (Wn : Nat) (fae : Nat → Int32) (fal : Nat → Int32) (fau : Nat → Int32) (fao : Nat → Int32) (farn : Nat → Int32) (farp : Nat → Int32) (fak : Nat → Int32) (fawn : Nat → Int32) (fawp : Nat → Int32) (fat : Nat → Int32) (fas : Nat → Int32) (p0 : Int32) (p1 : Int32) (hs0 : ms 0 = nI P) (hs1 : ms 1 = nI Rn) (hs2 : ms 2 = nI Wn) (hsS : SI ms) (hsM : MI ms) (hsp : P ≤ 10) (hsr : Rn ≤ 8) (hsw : Wn ≤ 8) (hsR : RI Rn ms) (hsG : FR P ms fae fal fau fao farn farp fak fawn fawp fat fas) : Met l yX9_paper (Cond.code yX9_paper cX9_paper 3 (some .int) :: wsU) ({ frames := 3, cells := 0, slots := 0, locals := 68 }) (va_Pc [.ref h0, .int p0, .int p1] (XW D (xT cI cJ cZ cS) ta sa sv [(h0, .inr (9, [.ref ys, .ref yk, .ref yo, .ref yt, .int mk0, .ref yfa, .ref yfe, .int mL, .int mS, .int mM, .ref yro, .ref yhe, .ref ygr, .int mF, .int mC, .int mY, .ref yta, .int (nI (mz)), .int (nI (mf)), .int (nI (mt)), .int mv, .int mw, .ref ywa, .ref ybi, .ref ysi, .ref ynu, .ref ymo])), (ys, .inl (cI, 449, .inl ms)), (yt, .inl (cI, 7, .inl mq))] sz)) (XQi (fun (r : Int32) (mq2 : (Nat → Int32)) => (True)) D (fun (mq2 : Nat → Int32) => [(h0, .inr (9, [.ref ys, .ref yk, .ref yo, .ref yt, .int mk0, .ref yfa, .ref yfe, .int mL, .int mS, .int mM, .ref yro, .ref yhe, .ref ygr, .int mF, .int mC, .int mY, .ref yta, .int (nI (mz)), .int (nI (mf)), .int (nI (mt)), .int mv, .int mw, .ref ywa, .ref ybi, .ref ysi, .ref ynu, .ref ymo])), (ys, .inl (cI, 449, .inl ms)), (yt, .inl (cI, 7, .inl mq2))]) (va_A [(h0, .inr (9, [.ref ys, .ref yk, .ref yo, .ref yt, .int mk0, .ref yfa, .ref yfe, .int mL, .int mS, .int mM, .ref yro, .ref yhe, .ref ygr, .int mF, .int mC, .int mY, .ref yta, .int (nI (mz)), .int (nI (mf)), .int (nI (mt)), .int mv, .int mw, .ref ywa, .ref ybi, .ref ysi, .ref ynu, .ref ymo])), (ys, .inl (cI, 449, .inl ms)), (yt, .inl (cI, 7, .inl mq))] sz)) 0 0 (va_A [(h0, .inr (9, [.ref ys, .ref yk, .ref yo, .ref yt, .int mk0, .ref yfa, .ref yfe, .int mL, .int mS, .int mM, .ref yro, .ref yhe, .ref ygr, .int mF, .int mC, .int mY, .ref yta, .int (nI (mz)), .int (nI (mf)), .int (nI (mt)), .int mv, .int mw, .ref ywa, .ref ybi, .ref ysi, .ref ynu, .ref ymo])), (ys, .inl (cI, 449, .inl ms)), (yt, .inl (cI, 7, .inl mq))] sz) := by
  refine xh (QA := fun A => XQi (fun (r : Int32) (mq2 : (Nat → Int32)) => (True)) D (fun (mq2 : Nat → Int32) => [(h0, .inr (9, [.ref ys, .ref yk, .ref yo, .ref yt, .int mk0, .ref yfa, .ref yfe, .int mL, .int mS, .int mM, .ref yro, .ref yhe, .ref ygr, .int mF, .int mC, .int mY, .ref yta, .int (nI (mz)), .int (nI (mf)), .int (nI (mt)), .int mv, .int mw, .ref ywa, .ref ybi, .ref ysi, .ref ynu, .ref ymo])), (ys, .inl (cI, 449, .inl ms)), (yt, .inl (cI, 7, .inl mq2))]) A) (fr := fun A => A) (by decide) (Nat.le_of_ble_eq_true rfl) ?_
  intro p e s m below meth c ls A hF hr hlk hin hsz hP hK hD hN hZ hA hS hl
  have hF : CallFix p m c cX9_paper 3 s _ _ RX9 := hF
  have hx := hF.1
  have hb := hF.2.1
  have hml := hF.2.2.1
  have hown := hF.2.2.2.1
  have hu : ∀ w ∈ wsU, w.before _ s = true := fun w h => hF.2.2.2.2 w (List.mem_cons_of_mem _ h)
  have hl : lv_has ls 3 [(0, .ref h0), (1, .int p0), (2, .int p1)] := hl
  refine lv_aload_n hx hb dX9_paper_0 rfl (lv_at hl 0 rfl) ?_
  refine lv_iload_n hx hb dX9_paper_1 rfl (lv_at hl 1 rfl) ?_
  refine lv_iload_n hx hb dX9_paper_2 rfl (lv_at hl 2 rfl) ?_
  refine xc_Vr hF (c_X9_areTwo l D cI cJ cZ cS ta sa sv s.heap.size h0 ys yk yo yt mk0 yfa yfe mL mS mM yro yhe ygr mF mC mY yta mz mf mt mv mw ywa ybi ysi ynu ymo ms P Rn Wn fae fal fau fao farn farp fak fawn fawp fat fas p0 p1 hs0 hs1 hs2 hsS hsM hsp hsr hsw hsR hsG) kv_X9_80 ⟨rfl, rfl, Nat.le_of_ble_eq_true rfl, Nat.le_of_ble_eq_true rfl⟩ ⟨Nat.le_of_ble_eq_true rfl, Nat.le_of_ble_eq_true rfl⟩ hK hN hZ hP hD hS hA [0, 1] rfl rfl 0 rfl rfl rfl rfl hl.1 rfl (Nat.le_of_ble_eq_true rfl) dX9_paper_3 (fun r_1 hw_r_1 => ?_)
  rcases hw_r_1 with ⟨j_2, k_3, rfl, rfl, rfl, h_6, h_7, h_8⟩ | ⟨rfl, h_9⟩
  · skip
    refine lv_if_ne (tgt := 16) hx hb dX9_paper_6 (by decide) (fun c_10 => ?_) (fun c_10 => absurd c_10 (by decide))
    refine lv_aload_n hx hb dX9_paper_16 rfl (lv_at hl 0 rfl) ?_
    refine lv_iload_n hx hb dX9_paper_17 rfl (lv_at hl 1 rfl) ?_
    refine lv_iload_n hx hb dX9_paper_18 rfl (lv_at hl 2 rfl) ?_
    refine xc_Vr hF (c_X9_areBoth l D cI cJ cZ cS ta sa sv s.heap.size h0 ys yk yo yt mk0 yfa yfe mL mS mM yro yhe ygr mF mC mY yta mz mf mt mv mw ywa ybi ysi ynu ymo ms P Rn Wn fae fal fau fao farn farp fak fawn fawp fat fas j_2 k_3 (by omega) (by omega) hs0 hs1 hs2 hsS hsM hsp hsr hsw hsR hsG) kv_X9_183 ⟨rfl, rfl, Nat.le_of_ble_eq_true rfl, Nat.le_of_ble_eq_true rfl⟩ ⟨Nat.le_of_ble_eq_true rfl, Nat.le_of_ble_eq_true rfl⟩ hK hN hZ hP hD hS hA [0, 1] rfl rfl 0 rfl rfl rfl rfl hl.1 rfl (Nat.le_of_ble_eq_true rfl) dX9_paper_19 (fun r_11 hw_r_11 => ?_)
    rcases hw_r_11 with rfl | rfl
    · skip
      refine lv_if_eq (tgt := 43) hx hb dX9_paper_22 (by decide) (fun c_12 => absurd c_12 (by decide)) (fun c_12 => ?_)
      refine lv_aload_n hx hb dX9_paper_25 rfl (lv_at hl 0 rfl) ?_
      refine lv_iload_n hx hb dX9_paper_26 rfl (lv_at hl 1 rfl) ?_
      refine lv_iload_n hx hb dX9_paper_27 rfl (lv_at hl 2 rfl) ?_
      refine xc_Vr hF (c_X9_miles l D cI cJ cZ cS ta sa sv s.heap.size h0 ys yk yo yt mk0 yfa yfe mL mS mM yro yhe ygr mF mC mY yta mz mf mt mv mw ywa ybi ysi ynu ymo ms P Rn Wn fae fal fau fao farn farp fak fawn fawp fat fas j_2 k_3 (by omega) (by omega) hs0 hs1 hs2 hsS hsM hsp hsr hsw hsR hsG) kv_X9_100 ⟨rfl, rfl, Nat.le_of_ble_eq_true rfl, Nat.le_of_ble_eq_true rfl⟩ ⟨Nat.le_of_ble_eq_true rfl, Nat.le_of_ble_eq_true rfl⟩ hK hN hZ hP hD hS hA [0, 1] rfl rfl 0 rfl rfl rfl rfl hl.1 rfl (Nat.le_of_ble_eq_true rfl) dX9_paper_28 (fun r_13 hw_r_13 => ?_)
      subst hw_r_13
      refine lv_aload_n hx hb dX9_paper_31 rfl (lv_at hl 0 rfl) ?_
      refine lv_iload_n hx hb dX9_paper_32 rfl (lv_at hl 2 rfl) ?_
      refine lv_iload_n hx hb dX9_paper_33 rfl (lv_at hl 1 rfl) ?_
      refine xc_Vr hF (c_X9_miles l D cI cJ cZ cS ta sa sv s.heap.size h0 ys yk yo yt mk0 yfa yfe mL mS mM yro yhe ygr mF mC mY yta mz mf mt mv mw ywa ybi ysi ynu ymo ms P Rn Wn fae fal fau fao farn farp fak fawn fawp fat fas k_3 j_2 (by omega) (by omega) hs0 hs1 hs2 hsS hsM hsp hsr hsw hsR hsG) kv_X9_100 ⟨rfl, rfl, Nat.le_of_ble_eq_true rfl, Nat.le_of_ble_eq_true rfl⟩ ⟨Nat.le_of_ble_eq_true rfl, Nat.le_of_ble_eq_true rfl⟩ hK hN hZ hP hD hS hA [0, 1] rfl rfl 0 rfl rfl rfl rfl hl.1 rfl (Nat.le_of_ble_eq_true rfl) dX9_paper_34 (fun r_14 hw_r_14 => ?_)
      subst hw_r_14
      refine lv_iadd hx hb dX9_paper_37 ?_
      refine lv_topi (fun x_15 ex_15 => ?_)
      refine lv_iconst (v := 2) hx hb dX9_paper_38 (by decide) ?_
      refine lv_idiv hx hb dX9_paper_39 (by decide) ?_
      refine lv_topi (fun x_16 ex_16 => ?_)
      refine lv_goto (tgt := 49) hx hb dX9_paper_40 (by decide) ?_
      exact W.iret (v := x_16) hx hb hr (fun t ht hW => ⟨⟨x_16, mq, rfl, trivial, by rw [ht]; exact hP.sub [0, 1, 2] rfl, hD.sub [0, 1, 2] (by decide) rfl⟩, hS.F ht⟩) hS.2.2 dX9_paper_49 hlk
    · skip
      refine lv_if_eq (tgt := 43) hx hb dX9_paper_22 (by decide) (fun c_17 => ?_) (fun c_17 => absurd (by decide) c_17)
      refine lv_aload_n hx hb dX9_paper_43 rfl (lv_at hl 0 rfl) ?_
      refine lv_ldc (v := (-1000000004)) hx hb hown (hu _ uw699) dX9_paper_44 ?_
      refine xc_Vi (wr := [(ys, .inl (cI, 449, .inl ms))]) hF (c_X9_finds_N l D cI cJ cZ cS ta sa sv s.heap.size h0 ys yk yo yt mk0 yfa yfe mL mS mM yro yhe ygr mF mC mY yta mz mf mt mv mw ywa ybi ysi ynu ymo mq ) kv_X9_70 ⟨rfl, rfl, Nat.le_of_ble_eq_true rfl, Nat.le_of_ble_eq_true rfl⟩ ⟨Nat.le_of_ble_eq_true rfl, Nat.le_of_ble_eq_true rfl⟩ hK hN hZ hP hD hS hA [0, 2] [1] rfl rfl rfl rfl (by decide) 0 rfl rfl rfl rfl hl.1 rfl (Nat.le_of_ble_eq_true rfl) dX9_paper_46 (fun r_18 u_r_18 H locs hw_r_18 hP hD hS => ?_)
      obtain ⟨mq2_19, rfl⟩ : ∃ z, z = u_r_18 := ⟨_, rfl⟩
      try dsimp only at hw_r_18
      have hP : va_P D vwCl [(ys, .inl (cI, 449, .inl ms)), (h0, .inr (9, [.ref ys, .ref yk, .ref yo, .ref yt, .int mk0, .ref yfa, .ref yfe, .int mL, .int mS, .int mM, .ref yro, .ref yhe, .ref ygr, .int mF, .int mC, .int mY, .ref yta, .int (nI (mz)), .int (nI (mf)), .int (nI (mt)), .int mv, .int mw, .ref ywa, .ref ybi, .ref ysi, .ref ynu, .ref ymo])), (yt, .inl (cI, 7, .inl mq2_19))] H := hP
      have hD : va_D A [(ys, .inl (cI, 449, .inl ms)), (h0, .inr (9, [.ref ys, .ref yk, .ref yo, .ref yt, .int mk0, .ref yfa, .ref yfe, .int mL, .int mS, .int mM, .ref yro, .ref yhe, .ref ygr, .int mF, .int mC, .int mY, .ref yta, .int (nI (mz)), .int (nI (mf)), .int (nI (mt)), .int mv, .int mw, .ref ywa, .ref ybi, .ref ysi, .ref ynu, .ref ymo])), (yt, .inl (cI, 7, .inl mq2_19))] := hD
      subst hw_r_18
      exact W.iret (v := (-1000000004)) hx hb hr (fun t ht hW => ⟨⟨(-1000000004), mq2_19, rfl, trivial, by rw [ht]; exact hP.sub [1, 0, 2] rfl, hD.sub [1, 0, 2] (by decide) rfl⟩, hS.F ht⟩) hS.2.2 dX9_paper_49 hlk
  · skip
    refine lv_if_ne (tgt := 16) hx hb dX9_paper_6 (by decide) (fun c_20 => absurd (by decide) c_20) (fun c_20 => ?_)
    refine lv_aload_n hx hb dX9_paper_9 rfl (lv_at hl 0 rfl) ?_
    refine lv_ldc (v := (-1000000001)) hx hb hown (hu _ uw648) dX9_paper_10 ?_
    refine xc_Vi (wr := [(ys, .inl (cI, 449, .inl ms))]) hF (c_X9_finds_B l D cI cJ cZ cS ta sa sv s.heap.size h0 ys yk yo yt mk0 yfa yfe mL mS mM yro yhe ygr mF mC mY yta mz mf mt mv mw ywa ybi ysi ynu ymo mq ) kv_X9_70 ⟨rfl, rfl, Nat.le_of_ble_eq_true rfl, Nat.le_of_ble_eq_true rfl⟩ ⟨Nat.le_of_ble_eq_true rfl, Nat.le_of_ble_eq_true rfl⟩ hK hN hZ hP hD hS hA [0, 2] [1] rfl rfl rfl rfl (by decide) 0 rfl rfl rfl rfl hl.1 rfl (Nat.le_of_ble_eq_true rfl) dX9_paper_12 (fun r_21 u_r_21 H locs hw_r_21 hP hD hS => ?_)
    obtain ⟨mq2_22, rfl⟩ : ∃ z, z = u_r_21 := ⟨_, rfl⟩
    try dsimp only at hw_r_21
    have hP : va_P D vwCl [(ys, .inl (cI, 449, .inl ms)), (h0, .inr (9, [.ref ys, .ref yk, .ref yo, .ref yt, .int mk0, .ref yfa, .ref yfe, .int mL, .int mS, .int mM, .ref yro, .ref yhe, .ref ygr, .int mF, .int mC, .int mY, .ref yta, .int (nI (mz)), .int (nI (mf)), .int (nI (mt)), .int mv, .int mw, .ref ywa, .ref ybi, .ref ysi, .ref ynu, .ref ymo])), (yt, .inl (cI, 7, .inl mq2_22))] H := hP
    have hD : va_D A [(ys, .inl (cI, 449, .inl ms)), (h0, .inr (9, [.ref ys, .ref yk, .ref yo, .ref yt, .int mk0, .ref yfa, .ref yfe, .int mL, .int mS, .int mM, .ref yro, .ref yhe, .ref ygr, .int mF, .int mC, .int mY, .ref yta, .int (nI (mz)), .int (nI (mf)), .int (nI (mt)), .int mv, .int mw, .ref ywa, .ref ybi, .ref ysi, .ref ynu, .ref ymo])), (yt, .inl (cI, 7, .inl mq2_22))] := hD
    subst hw_r_21
    exact W.iret (v := (-1000000001)) hx hb hr (fun t ht hW => ⟨⟨(-1000000001), mq2_22, rfl, trivial, by rw [ht]; exact hP.sub [1, 0, 2] rfl, hD.sub [1, 0, 2] (by decide) rfl⟩, hS.F ht⟩) hS.2.2 dX9_paper_15 hlk
set_option maxHeartbeats 4000000 in
set_option maxRecDepth 100000 in
theorem c_X9_worst (l : Launch) (D : va_G) (cI cJ cZ cS : ClassId) (ta : Nat) (sa sv : Nat → Nat) (sz : Nat) (h0 : Nat) (ys : Nat) (yk : Nat) (yo : Nat) (yt : Nat) (mk0 : Int32) (yfa : Nat) (yfe : Nat) (mL : Int32) (mS : Int32) (mM : Int32) (yro : Nat) (yhe : Nat) (ygr : Nat) (mF : Int32) (mC : Int32) (mY : Int32) (yta : Nat) (mz : Nat) (mf : Nat) (mt : Nat) (mv : Int32) (mw : Int32) (ywa : Nat) (ybi : Nat) (ysi : Nat) (ynu : Nat) (ymo : Nat) (ms : Nat → Int32) (mq : Nat → Int32) (P : Nat) (Rn : Nat) (Wn : Nat) (fae : Nat → Int32) (fal : Nat → Int32) (fau : Nat → Int32) (fao : Nat → Int32) (farn : Nat → Int32) (farp : Nat → Int32) (fak : Nat → Int32) (fawn : Nat → Int32) (fawp : Nat → Int32) (fat : Nat → Int32) (fas : Nat → Int32) (hs0 : ms 0 = nI P) (hs1 : ms 1 = nI Rn) (hs2 : ms 2 = nI Wn) (hsS : SI ms) (hsM : MI ms) (hsp : P ≤ 10) (hsr : Rn ≤ 8) (hsw : Wn ≤ 8) (hsR : RI Rn ms) (hsG : FR P ms fae fal fau fao farn farp fak fawn fawp fat fas) : Met l yX9_worst (Cond.code yX9_worst cX9_worst 5 (some .int) :: wsU) ({ frames := 2, cells := 0, slots := 0, locals := 44 }) (va_Pc [.ref h0] (XW D (xT cI cJ cZ cS) ta sa sv [(h0, .inr (9, [.ref ys, .ref yk, .ref yo, .ref yt, .int mk0, .ref yfa, .ref yfe, .int mL, .int mS, .int mM, .ref yro, .ref yhe, .ref ygr, .int mF, .int mC, .int mY, .ref yta, .int (nI (mz)), .int (nI (mf)), .int (nI (mt)), .int mv, .int mw, .ref ywa, .ref ybi, .ref ysi, .ref ynu, .ref ymo])), (ys, .inl (cI, 449, .inl ms)), (yt, .inl (cI, 7, .inl mq))] sz)) (XQi (fun (r : Int32) (mq2 : (Nat → Int32)) => (True)) D (fun (mq2 : Nat → Int32) => [(h0, .inr (9, [.ref ys, .ref yk, .ref yo, .ref yt, .int mk0, .ref yfa, .ref yfe, .int mL, .int mS, .int mM, .ref yro, .ref yhe, .ref ygr, .int mF, .int mC, .int mY, .ref yta, .int (nI (mz)), .int (nI (mf)), .int (nI (mt)), .int mv, .int mw, .ref ywa, .ref ybi, .ref ysi, .ref ynu, .ref ymo])), (ys, .inl (cI, 449, .inl ms)), (yt, .inl (cI, 7, .inl mq2))]) (va_A [(h0, .inr (9, [.ref ys, .ref yk, .ref yo, .ref yt, .int mk0, .ref yfa, .ref yfe, .int mL, .int mS, .int mM, .ref yro, .ref yhe, .ref ygr, .int mF, .int mC, .int mY, .ref yta, .int (nI (mz)), .int (nI (mf)), .int (nI (mt)), .int mv, .int mw, .ref ywa, .ref ybi, .ref ysi, .ref ynu, .ref ymo])), (ys, .inl (cI, 449, .inl ms)), (yt, .inl (cI, 7, .inl mq))] sz)) 0 0 (va_A [(h0, .inr (9, [.ref ys, .ref yk, .ref yo, .ref yt, .int mk0, .ref yfa, .ref yfe, .int mL, .int mS, .int mM, .ref yro, .ref yhe, .ref ygr, .int mF, .int mC, .int mY, .ref yta, .int (nI (mz)), .int (nI (mf)), .int (nI (mt)), .int mv, .int mw, .ref ywa, .ref ybi, .ref ysi, .ref ynu, .ref ymo])), (ys, .inl (cI, 449, .inl ms)), (yt, .inl (cI, 7, .inl mq))] sz) := by
  refine xh (QA := fun A => XQi (fun (r : Int32) (mq2 : (Nat → Int32)) => (True)) D (fun (mq2 : Nat → Int32) => [(h0, .inr (9, [.ref ys, .ref yk, .ref yo, .ref yt, .int mk0, .ref yfa, .ref yfe, .int mL, .int mS, .int mM, .ref yro, .ref yhe, .ref ygr, .int mF, .int mC, .int mY, .ref yta, .int (nI (mz)), .int (nI (mf)), .int (nI (mt)), .int mv, .int mw, .ref ywa, .ref ybi, .ref ysi, .ref ynu, .ref ymo])), (ys, .inl (cI, 449, .inl ms)), (yt, .inl (cI, 7, .inl mq2))]) A) (fr := fun A => A) (by decide) (Nat.le_of_ble_eq_true rfl) ?_
  intro p e s m below meth c ls A hF hr hlk hin hsz hP hK hD hN hZ hA hS hl
  have hF : CallFix p m c cX9_worst 5 s _ _ RX9 := hF
  have hx := hF.1
  have hb := hF.2.1
  have hml := hF.2.2.1
  have hown := hF.2.2.2.1
  have hu : ∀ w ∈ wsU, w.before _ s = true := fun w h => hF.2.2.2.2 w (List.mem_cons_of_mem _ h)
  have hl : lv_has ls 5 [(0, .ref h0)] := hl
  refine lv_iconst (v := (-1)) hx hb dX9_worst_0 (by decide) ?_
  refine lv_istore_n (lv' := [(1, .int (-1)), (0, .ref h0)]) hx hb dX9_worst_1 rfl hl (by decide) rfl (fun ls hl => ?_)
  refine lv_iconst (v := 0) hx hb dX9_worst_2 (by decide) ?_
  refine lv_istore_n (lv' := [(2, .int 0), (1, .int (-1)), (0, .ref h0)]) hx hb dX9_worst_3 rfl hl (by decide) rfl (fun ls hl => ?_)
  suffices loop_4 : ∀ (n_4 : Nat) (i : Nat) (u : Int32) (H : Heap) (locs : List Loc) (ls : Array Slot), P - i < n_4 → (i ≤ P) → va_P D vwCl [(h0, .inr (9, [.ref ys, .ref yk, .ref yo, .ref yt, .int mk0, .ref yfa, .ref yfe, .int mL, .int mS, .int mM, .ref yro, .ref yhe, .ref ygr, .int mF, .int mC, .int mY, .ref yta, .int (nI (mz)), .int (nI (mf)), .int (nI (mt)), .int mv, .int mw, .ref ywa, .ref ybi, .ref ysi, .ref ynu, .ref ymo])), (ys, .inl (cI, 449, .inl ms)), (yt, .inl (cI, 7, .inl mq))] H → va_D A [(h0, .inr (9, [.ref ys, .ref yk, .ref yo, .ref yt, .int mk0, .ref yfa, .ref yfe, .int mL, .int mS, .int mM, .ref yro, .ref yhe, .ref ygr, .int mF, .int mC, .int mY, .ref yta, .int (nI (mz)), .int (nI (mf)), .int (nI (mt)), .int mv, .int mw, .ref ywa, .ref ybi, .ref ysi, .ref ynu, .ref ymo])), (ys, .inl (cI, 449, .inl ms)), (yt, .inl (cI, 7, .inl mq))] → va_S A s.heap H locs → lv_has ls 5 [(2, .int (nI (i))), (1, .int u), (0, .ref h0)] → W p l e ({ frames := 2, cells := 0, slots := 0, locals := 44 }) s m ([.ref h0] : List Value).toArray below meth c H locs 0 0 (MQ below (XQi (fun (r : Int32) (mq2 : (Nat → Int32)) => (True)) D (fun (mq2 : Nat → Int32) => [(h0, .inr (9, [.ref ys, .ref yk, .ref yo, .ref yt, .int mk0, .ref yfa, .ref yfe, .int mL, .int mS, .int mM, .ref yro, .ref yhe, .ref ygr, .int mF, .int mC, .int mY, .ref yta, .int (nI (mz)), .int (nI (mf)), .int (nI (mt)), .int mv, .int mw, .ref ywa, .ref ybi, .ref ysi, .ref ynu, .ref ymo])), (ys, .inl (cI, 449, .inl ms)), (yt, .inl (cI, 7, .inl mq2))]) A) ([.ref h0] : List Value).toArray s 0 0 A) (F0 m 4 ls []) by
    exact loop_4 _ 0 (-1) _ _ _ (Nat.lt_succ_self _) (by omega) hP hD hS (lv_sub hl [0, 1, 2] rfl)
  intro n_4
  induction n_4 with
  | zero =>
    intro i u H locs ls hm_4
    exact absurd hm_4 (Nat.not_lt_zero _)
  | succ n_4 ih_4 =>
    intro i u H locs ls hm_4 hi hP hD hS hl
    refine lv_iload_n hx hb dX9_worst_4 rfl (lv_at hl 0 rfl) ?_
    refine lv_aload_n hx hb dX9_worst_5 rfl (lv_at hl 2 rfl) ?_
    refine xg hF kf_X9_7 hK hP 0 rfl rfl dX9_worst_6 ?_
    refine lv_iconst (v := 0) hx hb dX9_worst_9 (by decide) ?_
    refine va_iald hx hb hK hP 1 0 rfl rfl (xin 0 449 (by decide) (by decide)) dX9_worst_10 ?_
    refine xl_i (y := nI (P)) hs0 ?_
    refine lv_icmp_ge (tgt := 100) hx hb dX9_worst_11 (by decide) (fun c_1 => ?_) (fun c_1 => ?_)
    · skip
      have nc_1 : P ≤ i := xn_le (a := P) (b := i) (by omega) (by omega) c_1
      refine lv_iload_n hx hb dX9_worst_100 rfl (lv_at hl 1 rfl) ?_
      refine lv_if_ge (tgt := 113) hx hb dX9_worst_101 (by decide) (fun c_2 => ?_) (fun c_2 => ?_)
      · skip
        refine lv_iload_n hx hb dX9_worst_113 rfl (lv_at hl 1 rfl) ?_
        exact W.iret (v := u) hx hb hr (fun t ht hW => ⟨⟨u, mq, rfl, trivial, by rw [ht]; exact hP.sub [0, 1, 2] rfl, hD.sub [0, 1, 2] (by decide) rfl⟩, hS.F ht⟩) hS.2.2 dX9_worst_114 hlk
      · skip
        refine lv_aload_n hx hb dX9_worst_104 rfl (lv_at hl 2 rfl) ?_
        refine lv_ldc (v := (-1000000004)) hx hb hown (hu _ uw699) dX9_worst_105 ?_
        refine xc_Vi (wr := [(ys, .inl (cI, 449, .inl ms))]) hF (c_X9_finds_N l D cI cJ cZ cS ta sa sv H.size h0 ys yk yo yt mk0 yfa yfe mL mS mM yro yhe ygr mF mC mY yta mz mf mt mv mw ywa ybi ysi ynu ymo mq ) kv_X9_70 ⟨rfl, rfl, Nat.le_of_ble_eq_true rfl, Nat.le_of_ble_eq_true rfl⟩ ⟨Nat.le_of_ble_eq_true rfl, Nat.le_of_ble_eq_true rfl⟩ hK hN hZ hP hD hS hA [0, 2] [1] rfl rfl rfl rfl (by decide) 0 rfl rfl rfl rfl hl.1 rfl (Nat.le_of_ble_eq_true rfl) dX9_worst_107 (fun r_3 u_r_3 H locs hw_r_3 hP hD hS => ?_)
        obtain ⟨mq2_4, rfl⟩ : ∃ z, z = u_r_3 := ⟨_, rfl⟩
        try dsimp only at hw_r_3
        have hP : va_P D vwCl [(ys, .inl (cI, 449, .inl ms)), (h0, .inr (9, [.ref ys, .ref yk, .ref yo, .ref yt, .int mk0, .ref yfa, .ref yfe, .int mL, .int mS, .int mM, .ref yro, .ref yhe, .ref ygr, .int mF, .int mC, .int mY, .ref yta, .int (nI (mz)), .int (nI (mf)), .int (nI (mt)), .int mv, .int mw, .ref ywa, .ref ybi, .ref ysi, .ref ynu, .ref ymo])), (yt, .inl (cI, 7, .inl mq2_4))] H := hP
        have hD : va_D A [(ys, .inl (cI, 449, .inl ms)), (h0, .inr (9, [.ref ys, .ref yk, .ref yo, .ref yt, .int mk0, .ref yfa, .ref yfe, .int mL, .int mS, .int mM, .ref yro, .ref yhe, .ref ygr, .int mF, .int mC, .int mY, .ref yta, .int (nI (mz)), .int (nI (mf)), .int (nI (mt)), .int mv, .int mw, .ref ywa, .ref ybi, .ref ysi, .ref ynu, .ref ymo])), (yt, .inl (cI, 7, .inl mq2_4))] := hD
        subst hw_r_3
        refine lv_goto (tgt := 114) hx hb dX9_worst_110 (by decide) ?_
        exact W.iret (v := (-1000000004)) hx hb hr (fun t ht hW => ⟨⟨(-1000000004), mq2_4, rfl, trivial, by rw [ht]; exact hP.sub [1, 0, 2] rfl, hD.sub [1, 0, 2] (by decide) rfl⟩, hS.F ht⟩) hS.2.2 dX9_worst_114 hlk
    · skip
      have nc_1 : i < P := xn_nle (a := P) (b := i) (by omega) (by omega) c_1
      refine lv_iconst (v := 0) hx hb dX9_worst_14 (by decide) ?_
      refine lv_istore_n (lv' := [(3, .int 0), (2, .int (nI (i))), (1, .int u), (0, .ref h0)]) hx hb dX9_worst_15 rfl hl (by decide) rfl (fun ls hl => ?_)
      suffices loop_16 : ∀ (n_16 : Nat) (i2 : Nat) (u2 : Int32) (H : Heap) (locs : List Loc) (ls : Array Slot), P - i2 < n_16 → (i2 ≤ P) → va_P D vwCl [(h0, .inr (9, [.ref ys, .ref yk, .ref yo, .ref yt, .int mk0, .ref yfa, .ref yfe, .int mL, .int mS, .int mM, .ref yro, .ref yhe, .ref ygr, .int mF, .int mC, .int mY, .ref yta, .int (nI (mz)), .int (nI (mf)), .int (nI (mt)), .int mv, .int mw, .ref ywa, .ref ybi, .ref ysi, .ref ynu, .ref ymo])), (ys, .inl (cI, 449, .inl ms)), (yt, .inl (cI, 7, .inl mq))] H → va_D A [(h0, .inr (9, [.ref ys, .ref yk, .ref yo, .ref yt, .int mk0, .ref yfa, .ref yfe, .int mL, .int mS, .int mM, .ref yro, .ref yhe, .ref ygr, .int mF, .int mC, .int mY, .ref yta, .int (nI (mz)), .int (nI (mf)), .int (nI (mt)), .int mv, .int mw, .ref ywa, .ref ybi, .ref ysi, .ref ynu, .ref ymo])), (ys, .inl (cI, 449, .inl ms)), (yt, .inl (cI, 7, .inl mq))] → va_S A s.heap H locs → lv_has ls 5 [(3, .int (nI (i2))), (2, .int (nI (i))), (1, .int u2), (0, .ref h0)] → W p l e ({ frames := 2, cells := 0, slots := 0, locals := 44 }) s m ([.ref h0] : List Value).toArray below meth c H locs 0 0 (MQ below (XQi (fun (r : Int32) (mq2 : (Nat → Int32)) => (True)) D (fun (mq2 : Nat → Int32) => [(h0, .inr (9, [.ref ys, .ref yk, .ref yo, .ref yt, .int mk0, .ref yfa, .ref yfe, .int mL, .int mS, .int mM, .ref yro, .ref yhe, .ref ygr, .int mF, .int mC, .int mY, .ref yta, .int (nI (mz)), .int (nI (mf)), .int (nI (mt)), .int mv, .int mw, .ref ywa, .ref ybi, .ref ysi, .ref ynu, .ref ymo])), (ys, .inl (cI, 449, .inl ms)), (yt, .inl (cI, 7, .inl mq2))]) A) ([.ref h0] : List Value).toArray s 0 0 A) (F0 m 16 ls []) by
        exact loop_16 _ 0 u _ _ _ (Nat.lt_succ_self _) (by omega) hP hD hS (lv_sub hl [0, 1, 2, 3] rfl)
      intro n_16
      induction n_16 with
      | zero =>
        intro i2 u2 H locs ls hm_16
        exact absurd hm_16 (Nat.not_lt_zero _)
      | succ n_16 ih_16 =>
        intro i2 u2 H locs ls hm_16 hi2 hP hD hS hl
        refine lv_iload_n hx hb dX9_worst_16 rfl (lv_at hl 0 rfl) ?_
        refine lv_aload_n hx hb dX9_worst_17 rfl (lv_at hl 3 rfl) ?_
        refine xg hF kf_X9_7 hK hP 0 rfl rfl dX9_worst_18 ?_
        refine lv_iconst (v := 0) hx hb dX9_worst_21 (by decide) ?_
        refine va_iald hx hb hK hP 1 0 rfl rfl (xin 0 449 (by decide) (by decide)) dX9_worst_22 ?_
        refine xl_i (y := nI (P)) hs0 ?_
        refine lv_icmp_ge (tgt := 94) hx hb dX9_worst_23 (by decide) (fun c_5 => ?_) (fun c_5 => ?_)
        · skip
          have nc_5 : P ≤ i2 := xn_le (a := P) (b := i2) (by omega) (by omega) c_5
          refine lv_iinc (v := nI (i + 1)) (lv' := [(2, .int (nI (i + 1))), (3, .int (nI (i2))), (1, .int u2), (0, .ref h0)]) hx hb dX9_worst_94 hl (k := 1) rfl (nI_1 (i)) (by decide) rfl (fun ls hl => ?_)
          refine lv_goto (tgt := 4) hx hb dX9_worst_97 (by decide) ?_
          exact ih_4 (i + 1) u2 _ _ _ (by omega) (by omega) (hP.sub [0, 1, 2] rfl) (hD.sub [0, 1, 2] (by decide) rfl) hS (lv_sub hl [0, 2, 3] rfl)
        · skip
          have nc_5 : i2 < P := xn_nle (a := P) (b := i2) (by omega) (by omega) c_5
          refine lv_aload_n hx hb dX9_worst_26 rfl (lv_at hl 3 rfl) ?_
          refine lv_iload_n hx hb dX9_worst_27 rfl (lv_at hl 1 rfl) ?_
          refine lv_iload_n hx hb dX9_worst_28 rfl (lv_at hl 0 rfl) ?_
          refine xc_Vr hF (c_X9_areBoth l D cI cJ cZ cS ta sa sv H.size h0 ys yk yo yt mk0 yfa yfe mL mS mM yro yhe ygr mF mC mY yta mz mf mt mv mw ywa ybi ysi ynu ymo ms P Rn Wn fae fal fau fao farn farp fak fawn fawp fat fas i i2 (by omega) (by omega) hs0 hs1 hs2 hsS hsM hsp hsr hsw hsR hsG) kv_X9_183 ⟨rfl, rfl, Nat.le_of_ble_eq_true rfl, Nat.le_of_ble_eq_true rfl⟩ ⟨Nat.le_of_ble_eq_true rfl, Nat.le_of_ble_eq_true rfl⟩ hK hN hZ hP hD hS hA [0, 1] rfl rfl 0 rfl rfl rfl rfl hl.1 rfl (Nat.le_of_ble_eq_true rfl) dX9_worst_29 (fun r_6 hw_r_6 => ?_)
          rcases hw_r_6 with rfl | rfl
          · skip
            refine lv_if_eq (tgt := 88) hx hb dX9_worst_32 (by decide) (fun c_7 => absurd c_7 (by decide)) (fun c_7 => ?_)
            refine lv_aload_n hx hb dX9_worst_35 rfl (lv_at hl 3 rfl) ?_
            refine lv_iload_n hx hb dX9_worst_36 rfl (lv_at hl 1 rfl) ?_
            refine lv_iload_n hx hb dX9_worst_37 rfl (lv_at hl 0 rfl) ?_
            refine xc_Vr hF (c_X9_miles l D cI cJ cZ cS ta sa sv H.size h0 ys yk yo yt mk0 yfa yfe mL mS mM yro yhe ygr mF mC mY yta mz mf mt mv mw ywa ybi ysi ynu ymo ms P Rn Wn fae fal fau fao farn farp fak fawn fawp fat fas i i2 (by omega) (by omega) hs0 hs1 hs2 hsS hsM hsp hsr hsw hsR hsG) kv_X9_100 ⟨rfl, rfl, Nat.le_of_ble_eq_true rfl, Nat.le_of_ble_eq_true rfl⟩ ⟨Nat.le_of_ble_eq_true rfl, Nat.le_of_ble_eq_true rfl⟩ hK hN hZ hP hD hS hA [0, 1] rfl rfl 0 rfl rfl rfl rfl hl.1 rfl (Nat.le_of_ble_eq_true rfl) dX9_worst_38 (fun r_8 hw_r_8 => ?_)
            subst hw_r_8
            refine lv_aload_n hx hb dX9_worst_41 rfl (lv_at hl 3 rfl) ?_
            refine lv_iload_n hx hb dX9_worst_42 rfl (lv_at hl 1 rfl) ?_
            refine lv_iload_n hx hb dX9_worst_43 rfl (lv_at hl 0 rfl) ?_
            refine xc_Vr hF (c_X9_miles l D cI cJ cZ cS ta sa sv H.size h0 ys yk yo yt mk0 yfa yfe mL mS mM yro yhe ygr mF mC mY yta mz mf mt mv mw ywa ybi ysi ynu ymo ms P Rn Wn fae fal fau fao farn farp fak fawn fawp fat fas i i2 (by omega) (by omega) hs0 hs1 hs2 hsS hsM hsp hsr hsw hsR hsG) kv_X9_100 ⟨rfl, rfl, Nat.le_of_ble_eq_true rfl, Nat.le_of_ble_eq_true rfl⟩ ⟨Nat.le_of_ble_eq_true rfl, Nat.le_of_ble_eq_true rfl⟩ hK hN hZ hP hD hS hA [0, 1] rfl rfl 0 rfl rfl rfl rfl hl.1 rfl (Nat.le_of_ble_eq_true rfl) dX9_worst_44 (fun r_9 hw_r_9 => ?_)
            subst hw_r_9
            refine lv_aload_n hx hb dX9_worst_47 rfl (lv_at hl 3 rfl) ?_
            refine lv_iload_n hx hb dX9_worst_48 rfl (lv_at hl 0 rfl) ?_
            refine lv_iload_n hx hb dX9_worst_49 rfl (lv_at hl 1 rfl) ?_
            refine xc_Vr hF (c_X9_miles l D cI cJ cZ cS ta sa sv H.size h0 ys yk yo yt mk0 yfa yfe mL mS mM yro yhe ygr mF mC mY yta mz mf mt mv mw ywa ybi ysi ynu ymo ms P Rn Wn fae fal fau fao farn farp fak fawn fawp fat fas i2 i (by omega) (by omega) hs0 hs1 hs2 hsS hsM hsp hsr hsw hsR hsG) kv_X9_100 ⟨rfl, rfl, Nat.le_of_ble_eq_true rfl, Nat.le_of_ble_eq_true rfl⟩ ⟨Nat.le_of_ble_eq_true rfl, Nat.le_of_ble_eq_true rfl⟩ hK hN hZ hP hD hS hA [0, 1] rfl rfl 0 rfl rfl rfl rfl hl.1 rfl (Nat.le_of_ble_eq_true rfl) dX9_worst_50 (fun r_10 hw_r_10 => ?_)
            subst hw_r_10
            refine lv_iadd hx hb dX9_worst_53 ?_
            refine lv_topi (fun x_11 ex_11 => ?_)
            refine lv_iconst (v := 2) hx hb dX9_worst_54 (by decide) ?_
            refine lv_idiv hx hb dX9_worst_55 (by decide) ?_
            refine lv_topi (fun x_12 ex_12 => ?_)
            refine lv_isub hx hb dX9_worst_56 ?_
            refine lv_topi (fun x_13 ex_13 => ?_)
            refine lv_istore (lv' := [(4, .int x_13), (3, .int (nI (i2))), (2, .int (nI (i))), (1, .int u2), (0, .ref h0)]) hx hb dX9_worst_57 hl (by decide) rfl (fun ls hl => ?_)
            refine lv_iload hx hb dX9_worst_59 (lv_at hl 0 rfl) ?_
            refine lv_if_ge (tgt := 71) hx hb dX9_worst_61 (by decide) (fun c_14 => ?_) (fun c_14 => ?_)
            · skip
              refine lv_iload hx hb dX9_worst_71 (lv_at hl 0 rfl) ?_
              refine lv_istore (lv' := [(4, .int x_13), (3, .int (nI (i2))), (2, .int (nI (i))), (1, .int u2), (0, .ref h0)]) hx hb dX9_worst_73 hl (by decide) rfl (fun ls hl => ?_)
              refine lv_iload hx hb dX9_worst_75 (lv_at hl 0 rfl) ?_
              refine lv_iload_n hx hb dX9_worst_77 rfl (lv_at hl 3 rfl) ?_
              refine lv_icmp_le (tgt := 86) hx hb dX9_worst_78 (by decide) (fun c_15 => ?_) (fun c_15 => ?_)
              · skip
                refine lv_iload_n hx hb dX9_worst_86 rfl (lv_at hl 3 rfl) ?_
                refine lv_istore_n (lv' := [(1, .int u2), (4, .int x_13), (3, .int (nI (i2))), (2, .int (nI (i))), (0, .ref h0)]) hx hb dX9_worst_87 rfl hl (by decide) rfl (fun ls hl => ?_)
                refine lv_iinc (v := nI (i2 + 1)) (lv' := [(3, .int (nI (i2 + 1))), (1, .int u2), (4, .int x_13), (2, .int (nI (i))), (0, .ref h0)]) hx hb dX9_worst_88 hl (k := 2) rfl (nI_1 (i2)) (by decide) rfl (fun ls hl => ?_)
                refine lv_goto (tgt := 16) hx hb dX9_worst_91 (by decide) ?_
                exact ih_16 (i2 + 1) u2 _ _ _ (by omega) (by omega) (hP.sub [0, 1, 2] rfl) (hD.sub [0, 1, 2] (by decide) rfl) hS (lv_sub hl [0, 3, 1, 4] rfl)
              · skip
                refine lv_iload hx hb dX9_worst_81 (lv_at hl 0 rfl) ?_
                refine lv_goto (tgt := 87) hx hb dX9_worst_83 (by decide) ?_
                refine lv_istore_n (lv' := [(1, .int x_13), (4, .int x_13), (3, .int (nI (i2))), (2, .int (nI (i))), (0, .ref h0)]) hx hb dX9_worst_87 rfl hl (by decide) rfl (fun ls hl => ?_)
                refine lv_iinc (v := nI (i2 + 1)) (lv' := [(3, .int (nI (i2 + 1))), (1, .int x_13), (4, .int x_13), (2, .int (nI (i))), (0, .ref h0)]) hx hb dX9_worst_88 hl (k := 2) rfl (nI_1 (i2)) (by decide) rfl (fun ls hl => ?_)
                refine lv_goto (tgt := 16) hx hb dX9_worst_91 (by decide) ?_
                exact ih_16 (i2 + 1) x_13 _ _ _ (by omega) (by omega) (hP.sub [0, 1, 2] rfl) (hD.sub [0, 1, 2] (by decide) rfl) hS (lv_sub hl [0, 3, 1, 4] rfl)
            · skip
              refine lv_iconst (v := 0) hx hb dX9_worst_64 (by decide) ?_
              refine lv_iload hx hb dX9_worst_65 (lv_at hl 0 rfl) ?_
              refine lv_isub hx hb dX9_worst_67 ?_
              refine lv_topi (fun x_16 ex_16 => ?_)
              refine lv_goto (tgt := 73) hx hb dX9_worst_68 (by decide) ?_
              refine lv_istore (lv' := [(4, .int x_16), (3, .int (nI (i2))), (2, .int (nI (i))), (1, .int u2), (0, .ref h0)]) hx hb dX9_worst_73 hl (by decide) rfl (fun ls hl => ?_)
              refine lv_iload hx hb dX9_worst_75 (lv_at hl 0 rfl) ?_
              refine lv_iload_n hx hb dX9_worst_77 rfl (lv_at hl 3 rfl) ?_
              refine lv_icmp_le (tgt := 86) hx hb dX9_worst_78 (by decide) (fun c_17 => ?_) (fun c_17 => ?_)
              · skip
                refine lv_iload_n hx hb dX9_worst_86 rfl (lv_at hl 3 rfl) ?_
                refine lv_istore_n (lv' := [(1, .int u2), (4, .int x_16), (3, .int (nI (i2))), (2, .int (nI (i))), (0, .ref h0)]) hx hb dX9_worst_87 rfl hl (by decide) rfl (fun ls hl => ?_)
                refine lv_iinc (v := nI (i2 + 1)) (lv' := [(3, .int (nI (i2 + 1))), (1, .int u2), (4, .int x_16), (2, .int (nI (i))), (0, .ref h0)]) hx hb dX9_worst_88 hl (k := 2) rfl (nI_1 (i2)) (by decide) rfl (fun ls hl => ?_)
                refine lv_goto (tgt := 16) hx hb dX9_worst_91 (by decide) ?_
                exact ih_16 (i2 + 1) u2 _ _ _ (by omega) (by omega) (hP.sub [0, 1, 2] rfl) (hD.sub [0, 1, 2] (by decide) rfl) hS (lv_sub hl [0, 3, 1, 4] rfl)
              · skip
                refine lv_iload hx hb dX9_worst_81 (lv_at hl 0 rfl) ?_
                refine lv_goto (tgt := 87) hx hb dX9_worst_83 (by decide) ?_
                refine lv_istore_n (lv' := [(1, .int x_16), (4, .int x_16), (3, .int (nI (i2))), (2, .int (nI (i))), (0, .ref h0)]) hx hb dX9_worst_87 rfl hl (by decide) rfl (fun ls hl => ?_)
                refine lv_iinc (v := nI (i2 + 1)) (lv' := [(3, .int (nI (i2 + 1))), (1, .int x_16), (4, .int x_16), (2, .int (nI (i))), (0, .ref h0)]) hx hb dX9_worst_88 hl (k := 2) rfl (nI_1 (i2)) (by decide) rfl (fun ls hl => ?_)
                refine lv_goto (tgt := 16) hx hb dX9_worst_91 (by decide) ?_
                exact ih_16 (i2 + 1) x_16 _ _ _ (by omega) (by omega) (hP.sub [0, 1, 2] rfl) (hD.sub [0, 1, 2] (by decide) rfl) hS (lv_sub hl [0, 3, 1, 4] rfl)
          · skip
            refine lv_if_eq (tgt := 88) hx hb dX9_worst_32 (by decide) (fun c_18 => ?_) (fun c_18 => absurd (by decide) c_18)
            refine lv_iinc (v := nI (i2 + 1)) (lv' := [(3, .int (nI (i2 + 1))), (2, .int (nI (i))), (1, .int u2), (0, .ref h0)]) hx hb dX9_worst_88 hl (k := 0) rfl (nI_1 (i2)) (by decide) rfl (fun ls hl => ?_)
            refine lv_goto (tgt := 16) hx hb dX9_worst_91 (by decide) ?_
            exact ih_16 (i2 + 1) u2 _ _ _ (by omega) (by omega) (hP.sub [0, 1, 2] rfl) (hD.sub [0, 1, 2] (by decide) rfl) hS (lv_sub hl [0, 1, 2, 3] rfl)
