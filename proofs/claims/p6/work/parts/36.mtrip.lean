def LRX9_tripOf_7 : List UInt8 := []
def LBX9_tripOf_6 : List UInt8 := [0xac]
def LRX9_tripOf_6 : List UInt8 := LBX9_tripOf_6 ++ LRX9_tripOf_7
def LBX9_tripOf_5 : List UInt8 := [0x05, 0x60, 0x68, 0xb6, 0x00, 0x82, 0x84, 0x02, 0x01, 0xa7, 0xff, 0xae, 0x2a, 0xb4, 0x00, 0x7e]
def LRX9_tripOf_5 : List UInt8 := LBX9_tripOf_5 ++ LRX9_tripOf_6
def LBX9_tripOf_4 : List UInt8 := [0x15, 0x05, 0x12, 0x68, 0xa0, 0x00, 0x08, 0x12, 0x68, 0xa7, 0x00, 0x0a, 0x1d, 0x15, 0x04, 0x15]
def LRX9_tripOf_4 : List UInt8 := LBX9_tripOf_4 ++ LRX9_tripOf_5
def LBX9_tripOf_3 : List UInt8 := [0x0a, 0x1c, 0x68, 0x1b, 0x60, 0x2e, 0x36, 0x05, 0x2a, 0x15, 0x04, 0x12, 0x68, 0x9f, 0x00, 0x0a]
def LRX9_tripOf_3 : List UInt8 := LBX9_tripOf_3 ++ LRX9_tripOf_4
def LBX9_tripOf_2 : List UInt8 := [0x00, 0x16, 0x10, 0x0a, 0x1b, 0x68, 0x1c, 0x60, 0x2e, 0x36, 0x04, 0x2a, 0xb4, 0x00, 0x16, 0x10]
def LRX9_tripOf_2 : List UInt8 := LBX9_tripOf_2 ++ LRX9_tripOf_3
def LBX9_tripOf_1 : List UInt8 := [0x4e, 0x2a, 0xb4, 0x00, 0x07, 0x06, 0x1c, 0x60, 0x2e, 0x3e, 0x1d, 0x9e, 0x00, 0x3b, 0x2a, 0xb4]
def LRX9_tripOf_1 : List UInt8 := LBX9_tripOf_1 ++ LRX9_tripOf_2
def LBX9_tripOf_0 : List UInt8 := [0x2a, 0x03, 0xb5, 0x00, 0x7e, 0x03, 0x3d, 0x1c, 0x2a, 0xb4, 0x00, 0x07, 0x03, 0x2e, 0xa2, 0x00]
def LRX9_tripOf_0 : List UInt8 := LBX9_tripOf_0 ++ LRX9_tripOf_1
set_option maxRecDepth 100000 in
theorem LBX9_tripOf_eq : cX9_tripOf.data.toList = LRX9_tripOf_0 := by decide +kernel
theorem LBX9_tripOfr_0 (k : Nat) : cX9_tripOf.data.toList[0 + k]? = LRX9_tripOf_0[k]? := by rw [LBX9_tripOf_eq, Nat.zero_add]
theorem LBX9_tripOfr_1 (k : Nat) : cX9_tripOf.data.toList[16 + k]? = LRX9_tripOf_1[k]? := by
  have h := LBX9_tripOfr_0 (16 + k)
  rw [show 0 + (16 + k) = 16 + k by omega] at h
  rw [h]
  exact (List.getElem?_append_right (l₁ := LBX9_tripOf_0) (l₂ := LRX9_tripOf_1) (show 16 ≤ 16 + k by omega)).trans (congrArg (fun i => LRX9_tripOf_1[i]?) (show 16 + k - 16 = k by omega))
theorem LBX9_tripOfr_2 (k : Nat) : cX9_tripOf.data.toList[32 + k]? = LRX9_tripOf_2[k]? := by
  have h := LBX9_tripOfr_1 (16 + k)
  rw [show 16 + (16 + k) = 32 + k by omega] at h
  rw [h]
  exact (List.getElem?_append_right (l₁ := LBX9_tripOf_1) (l₂ := LRX9_tripOf_2) (show 16 ≤ 16 + k by omega)).trans (congrArg (fun i => LRX9_tripOf_2[i]?) (show 16 + k - 16 = k by omega))
theorem LBX9_tripOfr_3 (k : Nat) : cX9_tripOf.data.toList[48 + k]? = LRX9_tripOf_3[k]? := by
  have h := LBX9_tripOfr_2 (16 + k)
  rw [show 32 + (16 + k) = 48 + k by omega] at h
  rw [h]
  exact (List.getElem?_append_right (l₁ := LBX9_tripOf_2) (l₂ := LRX9_tripOf_3) (show 16 ≤ 16 + k by omega)).trans (congrArg (fun i => LRX9_tripOf_3[i]?) (show 16 + k - 16 = k by omega))
theorem LBX9_tripOfr_4 (k : Nat) : cX9_tripOf.data.toList[64 + k]? = LRX9_tripOf_4[k]? := by
  have h := LBX9_tripOfr_3 (16 + k)
  rw [show 48 + (16 + k) = 64 + k by omega] at h
  rw [h]
  exact (List.getElem?_append_right (l₁ := LBX9_tripOf_3) (l₂ := LRX9_tripOf_4) (show 16 ≤ 16 + k by omega)).trans (congrArg (fun i => LRX9_tripOf_4[i]?) (show 16 + k - 16 = k by omega))
theorem LBX9_tripOfr_5 (k : Nat) : cX9_tripOf.data.toList[80 + k]? = LRX9_tripOf_5[k]? := by
  have h := LBX9_tripOfr_4 (16 + k)
  rw [show 64 + (16 + k) = 80 + k by omega] at h
  rw [h]
  exact (List.getElem?_append_right (l₁ := LBX9_tripOf_4) (l₂ := LRX9_tripOf_5) (show 16 ≤ 16 + k by omega)).trans (congrArg (fun i => LRX9_tripOf_5[i]?) (show 16 + k - 16 = k by omega))
theorem LBX9_tripOfr_6 (k : Nat) : cX9_tripOf.data.toList[96 + k]? = LRX9_tripOf_6[k]? := by
  have h := LBX9_tripOfr_5 (16 + k)
  rw [show 80 + (16 + k) = 96 + k by omega] at h
  rw [h]
  exact (List.getElem?_append_right (l₁ := LBX9_tripOf_5) (l₂ := LRX9_tripOf_6) (show 16 ≤ 16 + k by omega)).trans (congrArg (fun i => LRX9_tripOf_6[i]?) (show 16 + k - 16 = k by omega))
theorem dX9_tripOf_0 : decode cX9_tripOf 0 = .ok (.aload_n 0, 1) := dk_42_ (show cX9_tripOf.data.toList[0]? = some 0x2a from (LBX9_tripOfr_0 0).trans (by decide +kernel))
theorem dX9_tripOf_1 : decode cX9_tripOf 1 = .ok (.iconst 0, 1) := dk_3_ (show cX9_tripOf.data.toList[1]? = some 0x03 from (LBX9_tripOfr_0 1).trans (by decide +kernel))
theorem dX9_tripOf_2 : decode cX9_tripOf 2 = .ok (.putfield 126, 3) := dk_181_ (show cX9_tripOf.data.toList[2]? = some 0xb5 from (LBX9_tripOfr_0 2).trans (by decide +kernel)) (show cX9_tripOf.data.toList[3]? = some 0x00 from (LBX9_tripOfr_0 3).trans (by decide +kernel)) (show cX9_tripOf.data.toList[4]? = some 0x7e from (LBX9_tripOfr_0 4).trans (by decide +kernel)) (by decide)
theorem dX9_tripOf_5 : decode cX9_tripOf 5 = .ok (.iconst 0, 1) := dk_3_ (show cX9_tripOf.data.toList[5]? = some 0x03 from (LBX9_tripOfr_0 5).trans (by decide +kernel))
theorem dX9_tripOf_6 : decode cX9_tripOf 6 = .ok (.istore_n 2, 1) := dk_61_ (show cX9_tripOf.data.toList[6]? = some 0x3d from (LBX9_tripOfr_0 6).trans (by decide +kernel))
theorem dX9_tripOf_7 : decode cX9_tripOf 7 = .ok (.iload_n 2, 1) := dk_28_ (show cX9_tripOf.data.toList[7]? = some 0x1c from (LBX9_tripOfr_0 7).trans (by decide +kernel))
theorem dX9_tripOf_8 : decode cX9_tripOf 8 = .ok (.aload_n 0, 1) := dk_42_ (show cX9_tripOf.data.toList[8]? = some 0x2a from (LBX9_tripOfr_0 8).trans (by decide +kernel))
theorem dX9_tripOf_9 : decode cX9_tripOf 9 = .ok (.getfield 7, 3) := dk_180_ (show cX9_tripOf.data.toList[9]? = some 0xb4 from (LBX9_tripOfr_0 9).trans (by decide +kernel)) (show cX9_tripOf.data.toList[10]? = some 0x00 from (LBX9_tripOfr_0 10).trans (by decide +kernel)) (show cX9_tripOf.data.toList[11]? = some 0x07 from (LBX9_tripOfr_0 11).trans (by decide +kernel)) (by decide)
theorem dX9_tripOf_12 : decode cX9_tripOf 12 = .ok (.iconst 0, 1) := dk_3_ (show cX9_tripOf.data.toList[12]? = some 0x03 from (LBX9_tripOfr_0 12).trans (by decide +kernel))
theorem dX9_tripOf_13 : decode cX9_tripOf 13 = .ok (.iaload, 1) := dk_46_ (show cX9_tripOf.data.toList[13]? = some 0x2e from (LBX9_tripOfr_0 13).trans (by decide +kernel))
theorem dX9_tripOf_14 : decode cX9_tripOf 14 = .ok (.if_icmp .ge 78, 3) := dk_162_ (show cX9_tripOf.data.toList[14]? = some 0xa2 from (LBX9_tripOfr_0 14).trans (by decide +kernel)) (show cX9_tripOf.data.toList[15]? = some 0x00 from (LBX9_tripOfr_0 15).trans (by decide +kernel)) (show cX9_tripOf.data.toList[16]? = some 0x4e from (LBX9_tripOfr_1 0).trans (by decide +kernel)) (by decide)
theorem dX9_tripOf_17 : decode cX9_tripOf 17 = .ok (.aload_n 0, 1) := dk_42_ (show cX9_tripOf.data.toList[17]? = some 0x2a from (LBX9_tripOfr_1 1).trans (by decide +kernel))
theorem dX9_tripOf_18 : decode cX9_tripOf 18 = .ok (.getfield 7, 3) := dk_180_ (show cX9_tripOf.data.toList[18]? = some 0xb4 from (LBX9_tripOfr_1 2).trans (by decide +kernel)) (show cX9_tripOf.data.toList[19]? = some 0x00 from (LBX9_tripOfr_1 3).trans (by decide +kernel)) (show cX9_tripOf.data.toList[20]? = some 0x07 from (LBX9_tripOfr_1 4).trans (by decide +kernel)) (by decide)
theorem dX9_tripOf_21 : decode cX9_tripOf 21 = .ok (.iconst 3, 1) := dk_6_ (show cX9_tripOf.data.toList[21]? = some 0x06 from (LBX9_tripOfr_1 5).trans (by decide +kernel))
theorem dX9_tripOf_22 : decode cX9_tripOf 22 = .ok (.iload_n 2, 1) := dk_28_ (show cX9_tripOf.data.toList[22]? = some 0x1c from (LBX9_tripOfr_1 6).trans (by decide +kernel))
theorem dX9_tripOf_23 : decode cX9_tripOf 23 = .ok (.iadd, 1) := dk_96_ (show cX9_tripOf.data.toList[23]? = some 0x60 from (LBX9_tripOfr_1 7).trans (by decide +kernel))
theorem dX9_tripOf_24 : decode cX9_tripOf 24 = .ok (.iaload, 1) := dk_46_ (show cX9_tripOf.data.toList[24]? = some 0x2e from (LBX9_tripOfr_1 8).trans (by decide +kernel))
theorem dX9_tripOf_25 : decode cX9_tripOf 25 = .ok (.istore_n 3, 1) := dk_62_ (show cX9_tripOf.data.toList[25]? = some 0x3e from (LBX9_tripOfr_1 9).trans (by decide +kernel))
theorem dX9_tripOf_26 : decode cX9_tripOf 26 = .ok (.iload_n 3, 1) := dk_29_ (show cX9_tripOf.data.toList[26]? = some 0x1d from (LBX9_tripOfr_1 10).trans (by decide +kernel))
theorem dX9_tripOf_27 : decode cX9_tripOf 27 = .ok (.ifCond .le 59, 3) := dk_158_ (show cX9_tripOf.data.toList[27]? = some 0x9e from (LBX9_tripOfr_1 11).trans (by decide +kernel)) (show cX9_tripOf.data.toList[28]? = some 0x00 from (LBX9_tripOfr_1 12).trans (by decide +kernel)) (show cX9_tripOf.data.toList[29]? = some 0x3b from (LBX9_tripOfr_1 13).trans (by decide +kernel)) (by decide)
theorem dX9_tripOf_30 : decode cX9_tripOf 30 = .ok (.aload_n 0, 1) := dk_42_ (show cX9_tripOf.data.toList[30]? = some 0x2a from (LBX9_tripOfr_1 14).trans (by decide +kernel))
theorem dX9_tripOf_31 : decode cX9_tripOf 31 = .ok (.getfield 22, 3) := dk_180_ (show cX9_tripOf.data.toList[31]? = some 0xb4 from (LBX9_tripOfr_1 15).trans (by decide +kernel)) (show cX9_tripOf.data.toList[32]? = some 0x00 from (LBX9_tripOfr_2 0).trans (by decide +kernel)) (show cX9_tripOf.data.toList[33]? = some 0x16 from (LBX9_tripOfr_2 1).trans (by decide +kernel)) (by decide)
theorem dX9_tripOf_34 : decode cX9_tripOf 34 = .ok (.bipush 10, 2) := dk_16_ (show cX9_tripOf.data.toList[34]? = some 0x10 from (LBX9_tripOfr_2 2).trans (by decide +kernel)) (show cX9_tripOf.data.toList[35]? = some 0x0a from (LBX9_tripOfr_2 3).trans (by decide +kernel)) (by decide)
theorem dX9_tripOf_36 : decode cX9_tripOf 36 = .ok (.iload_n 1, 1) := dk_27_ (show cX9_tripOf.data.toList[36]? = some 0x1b from (LBX9_tripOfr_2 4).trans (by decide +kernel))
theorem dX9_tripOf_37 : decode cX9_tripOf 37 = .ok (.imul, 1) := dk_104_ (show cX9_tripOf.data.toList[37]? = some 0x68 from (LBX9_tripOfr_2 5).trans (by decide +kernel))
theorem dX9_tripOf_38 : decode cX9_tripOf 38 = .ok (.iload_n 2, 1) := dk_28_ (show cX9_tripOf.data.toList[38]? = some 0x1c from (LBX9_tripOfr_2 6).trans (by decide +kernel))
theorem dX9_tripOf_39 : decode cX9_tripOf 39 = .ok (.iadd, 1) := dk_96_ (show cX9_tripOf.data.toList[39]? = some 0x60 from (LBX9_tripOfr_2 7).trans (by decide +kernel))
theorem dX9_tripOf_40 : decode cX9_tripOf 40 = .ok (.iaload, 1) := dk_46_ (show cX9_tripOf.data.toList[40]? = some 0x2e from (LBX9_tripOfr_2 8).trans (by decide +kernel))
theorem dX9_tripOf_41 : decode cX9_tripOf 41 = .ok (.istore 4, 2) := dk_54_ (show cX9_tripOf.data.toList[41]? = some 0x36 from (LBX9_tripOfr_2 9).trans (by decide +kernel)) (show cX9_tripOf.data.toList[42]? = some 0x04 from (LBX9_tripOfr_2 10).trans (by decide +kernel)) (by decide)
theorem dX9_tripOf_43 : decode cX9_tripOf 43 = .ok (.aload_n 0, 1) := dk_42_ (show cX9_tripOf.data.toList[43]? = some 0x2a from (LBX9_tripOfr_2 11).trans (by decide +kernel))
theorem dX9_tripOf_44 : decode cX9_tripOf 44 = .ok (.getfield 22, 3) := dk_180_ (show cX9_tripOf.data.toList[44]? = some 0xb4 from (LBX9_tripOfr_2 12).trans (by decide +kernel)) (show cX9_tripOf.data.toList[45]? = some 0x00 from (LBX9_tripOfr_2 13).trans (by decide +kernel)) (show cX9_tripOf.data.toList[46]? = some 0x16 from (LBX9_tripOfr_2 14).trans (by decide +kernel)) (by decide)
theorem dX9_tripOf_47 : decode cX9_tripOf 47 = .ok (.bipush 10, 2) := dk_16_ (show cX9_tripOf.data.toList[47]? = some 0x10 from (LBX9_tripOfr_2 15).trans (by decide +kernel)) (show cX9_tripOf.data.toList[48]? = some 0x0a from (LBX9_tripOfr_3 0).trans (by decide +kernel)) (by decide)
theorem dX9_tripOf_49 : decode cX9_tripOf 49 = .ok (.iload_n 2, 1) := dk_28_ (show cX9_tripOf.data.toList[49]? = some 0x1c from (LBX9_tripOfr_3 1).trans (by decide +kernel))
theorem dX9_tripOf_50 : decode cX9_tripOf 50 = .ok (.imul, 1) := dk_104_ (show cX9_tripOf.data.toList[50]? = some 0x68 from (LBX9_tripOfr_3 2).trans (by decide +kernel))
theorem dX9_tripOf_51 : decode cX9_tripOf 51 = .ok (.iload_n 1, 1) := dk_27_ (show cX9_tripOf.data.toList[51]? = some 0x1b from (LBX9_tripOfr_3 3).trans (by decide +kernel))
theorem dX9_tripOf_52 : decode cX9_tripOf 52 = .ok (.iadd, 1) := dk_96_ (show cX9_tripOf.data.toList[52]? = some 0x60 from (LBX9_tripOfr_3 4).trans (by decide +kernel))
theorem dX9_tripOf_53 : decode cX9_tripOf 53 = .ok (.iaload, 1) := dk_46_ (show cX9_tripOf.data.toList[53]? = some 0x2e from (LBX9_tripOfr_3 5).trans (by decide +kernel))
theorem dX9_tripOf_54 : decode cX9_tripOf 54 = .ok (.istore 5, 2) := dk_54_ (show cX9_tripOf.data.toList[54]? = some 0x36 from (LBX9_tripOfr_3 6).trans (by decide +kernel)) (show cX9_tripOf.data.toList[55]? = some 0x05 from (LBX9_tripOfr_3 7).trans (by decide +kernel)) (by decide)
theorem dX9_tripOf_56 : decode cX9_tripOf 56 = .ok (.aload_n 0, 1) := dk_42_ (show cX9_tripOf.data.toList[56]? = some 0x2a from (LBX9_tripOfr_3 8).trans (by decide +kernel))
theorem dX9_tripOf_57 : decode cX9_tripOf 57 = .ok (.iload 4, 2) := dk_21_ (show cX9_tripOf.data.toList[57]? = some 0x15 from (LBX9_tripOfr_3 9).trans (by decide +kernel)) (show cX9_tripOf.data.toList[58]? = some 0x04 from (LBX9_tripOfr_3 10).trans (by decide +kernel)) (by decide)
theorem dX9_tripOf_59 : decode cX9_tripOf 59 = .ok (.ldc 104, 2) := dk_18_ (show cX9_tripOf.data.toList[59]? = some 0x12 from (LBX9_tripOfr_3 11).trans (by decide +kernel)) (show cX9_tripOf.data.toList[60]? = some 0x68 from (LBX9_tripOfr_3 12).trans (by decide +kernel)) (by decide)
theorem dX9_tripOf_61 : decode cX9_tripOf 61 = .ok (.if_icmp .eq 10, 3) := dk_159_ (show cX9_tripOf.data.toList[61]? = some 0x9f from (LBX9_tripOfr_3 13).trans (by decide +kernel)) (show cX9_tripOf.data.toList[62]? = some 0x00 from (LBX9_tripOfr_3 14).trans (by decide +kernel)) (show cX9_tripOf.data.toList[63]? = some 0x0a from (LBX9_tripOfr_3 15).trans (by decide +kernel)) (by decide)
theorem dX9_tripOf_64 : decode cX9_tripOf 64 = .ok (.iload 5, 2) := dk_21_ (show cX9_tripOf.data.toList[64]? = some 0x15 from (LBX9_tripOfr_4 0).trans (by decide +kernel)) (show cX9_tripOf.data.toList[65]? = some 0x05 from (LBX9_tripOfr_4 1).trans (by decide +kernel)) (by decide)
theorem dX9_tripOf_66 : decode cX9_tripOf 66 = .ok (.ldc 104, 2) := dk_18_ (show cX9_tripOf.data.toList[66]? = some 0x12 from (LBX9_tripOfr_4 2).trans (by decide +kernel)) (show cX9_tripOf.data.toList[67]? = some 0x68 from (LBX9_tripOfr_4 3).trans (by decide +kernel)) (by decide)
theorem dX9_tripOf_68 : decode cX9_tripOf 68 = .ok (.if_icmp .ne 8, 3) := dk_160_ (show cX9_tripOf.data.toList[68]? = some 0xa0 from (LBX9_tripOfr_4 4).trans (by decide +kernel)) (show cX9_tripOf.data.toList[69]? = some 0x00 from (LBX9_tripOfr_4 5).trans (by decide +kernel)) (show cX9_tripOf.data.toList[70]? = some 0x08 from (LBX9_tripOfr_4 6).trans (by decide +kernel)) (by decide)
theorem dX9_tripOf_71 : decode cX9_tripOf 71 = .ok (.ldc 104, 2) := dk_18_ (show cX9_tripOf.data.toList[71]? = some 0x12 from (LBX9_tripOfr_4 7).trans (by decide +kernel)) (show cX9_tripOf.data.toList[72]? = some 0x68 from (LBX9_tripOfr_4 8).trans (by decide +kernel)) (by decide)
theorem dX9_tripOf_73 : decode cX9_tripOf 73 = .ok (.goto 10, 3) := dk_167_ (show cX9_tripOf.data.toList[73]? = some 0xa7 from (LBX9_tripOfr_4 9).trans (by decide +kernel)) (show cX9_tripOf.data.toList[74]? = some 0x00 from (LBX9_tripOfr_4 10).trans (by decide +kernel)) (show cX9_tripOf.data.toList[75]? = some 0x0a from (LBX9_tripOfr_4 11).trans (by decide +kernel)) (by decide)
theorem dX9_tripOf_76 : decode cX9_tripOf 76 = .ok (.iload_n 3, 1) := dk_29_ (show cX9_tripOf.data.toList[76]? = some 0x1d from (LBX9_tripOfr_4 12).trans (by decide +kernel))
theorem dX9_tripOf_77 : decode cX9_tripOf 77 = .ok (.iload 4, 2) := dk_21_ (show cX9_tripOf.data.toList[77]? = some 0x15 from (LBX9_tripOfr_4 13).trans (by decide +kernel)) (show cX9_tripOf.data.toList[78]? = some 0x04 from (LBX9_tripOfr_4 14).trans (by decide +kernel)) (by decide)
theorem dX9_tripOf_79 : decode cX9_tripOf 79 = .ok (.iload 5, 2) := dk_21_ (show cX9_tripOf.data.toList[79]? = some 0x15 from (LBX9_tripOfr_4 15).trans (by decide +kernel)) (show cX9_tripOf.data.toList[80]? = some 0x05 from (LBX9_tripOfr_5 0).trans (by decide +kernel)) (by decide)
theorem dX9_tripOf_81 : decode cX9_tripOf 81 = .ok (.iadd, 1) := dk_96_ (show cX9_tripOf.data.toList[81]? = some 0x60 from (LBX9_tripOfr_5 1).trans (by decide +kernel))
theorem dX9_tripOf_82 : decode cX9_tripOf 82 = .ok (.imul, 1) := dk_104_ (show cX9_tripOf.data.toList[82]? = some 0x68 from (LBX9_tripOfr_5 2).trans (by decide +kernel))
theorem dX9_tripOf_83 : decode cX9_tripOf 83 = .ok (.invokevirtual 130, 3) := dk_182_ (show cX9_tripOf.data.toList[83]? = some 0xb6 from (LBX9_tripOfr_5 3).trans (by decide +kernel)) (show cX9_tripOf.data.toList[84]? = some 0x00 from (LBX9_tripOfr_5 4).trans (by decide +kernel)) (show cX9_tripOf.data.toList[85]? = some 0x82 from (LBX9_tripOfr_5 5).trans (by decide +kernel)) (by decide)
theorem dX9_tripOf_86 : decode cX9_tripOf 86 = .ok (.iinc 2 1, 3) := dk_132_ (show cX9_tripOf.data.toList[86]? = some 0x84 from (LBX9_tripOfr_5 6).trans (by decide +kernel)) (show cX9_tripOf.data.toList[87]? = some 0x02 from (LBX9_tripOfr_5 7).trans (by decide +kernel)) (show cX9_tripOf.data.toList[88]? = some 0x01 from (LBX9_tripOfr_5 8).trans (by decide +kernel)) (by decide) (by decide)
theorem dX9_tripOf_89 : decode cX9_tripOf 89 = .ok (.goto (-82), 3) := dk_167_ (show cX9_tripOf.data.toList[89]? = some 0xa7 from (LBX9_tripOfr_5 9).trans (by decide +kernel)) (show cX9_tripOf.data.toList[90]? = some 0xff from (LBX9_tripOfr_5 10).trans (by decide +kernel)) (show cX9_tripOf.data.toList[91]? = some 0xae from (LBX9_tripOfr_5 11).trans (by decide +kernel)) (by decide)
theorem dX9_tripOf_92 : decode cX9_tripOf 92 = .ok (.aload_n 0, 1) := dk_42_ (show cX9_tripOf.data.toList[92]? = some 0x2a from (LBX9_tripOfr_5 12).trans (by decide +kernel))
theorem dX9_tripOf_93 : decode cX9_tripOf 93 = .ok (.getfield 126, 3) := dk_180_ (show cX9_tripOf.data.toList[93]? = some 0xb4 from (LBX9_tripOfr_5 13).trans (by decide +kernel)) (show cX9_tripOf.data.toList[94]? = some 0x00 from (LBX9_tripOfr_5 14).trans (by decide +kernel)) (show cX9_tripOf.data.toList[95]? = some 0x7e from (LBX9_tripOfr_5 15).trans (by decide +kernel)) (by decide)
theorem dX9_tripOf_96 : decode cX9_tripOf 96 = .ok (.ireturn, 1) := dk_172_ (show cX9_tripOf.data.toList[96]? = some 0xac from (LBX9_tripOfr_6 0).trans (by decide +kernel))
def LRX9_home_3 : List UInt8 := []
def LBX9_home_2 : List UInt8 := [0x15, 0x04, 0x3d, 0x84, 0x03, 0x01, 0xa7, 0xff, 0xe1, 0x1b, 0xac]
def LRX9_home_2 : List UInt8 := LBX9_home_2 ++ LRX9_home_3
def LBX9_home_1 : List UInt8 := [0x1b, 0x2a, 0x1d, 0xb6, 0x00, 0xa8, 0x36, 0x04, 0x15, 0x04, 0x1c, 0xa2, 0x00, 0x08, 0x1d, 0x3c]
def LRX9_home_1 : List UInt8 := LBX9_home_1 ++ LRX9_home_2
def LBX9_home_0 : List UInt8 := [0x02, 0x3c, 0x12, 0x68, 0x3d, 0x03, 0x3e, 0x1d, 0x2a, 0xb4, 0x00, 0x07, 0x03, 0x2e, 0xa2, 0x00]
def LRX9_home_0 : List UInt8 := LBX9_home_0 ++ LRX9_home_1
set_option maxRecDepth 100000 in
theorem LBX9_home_eq : cX9_home.data.toList = LRX9_home_0 := by decide +kernel
theorem LBX9_homer_0 (k : Nat) : cX9_home.data.toList[0 + k]? = LRX9_home_0[k]? := by rw [LBX9_home_eq, Nat.zero_add]
theorem LBX9_homer_1 (k : Nat) : cX9_home.data.toList[16 + k]? = LRX9_home_1[k]? := by
  have h := LBX9_homer_0 (16 + k)
  rw [show 0 + (16 + k) = 16 + k by omega] at h
  rw [h]
  exact (List.getElem?_append_right (l₁ := LBX9_home_0) (l₂ := LRX9_home_1) (show 16 ≤ 16 + k by omega)).trans (congrArg (fun i => LRX9_home_1[i]?) (show 16 + k - 16 = k by omega))
theorem LBX9_homer_2 (k : Nat) : cX9_home.data.toList[32 + k]? = LRX9_home_2[k]? := by
  have h := LBX9_homer_1 (16 + k)
  rw [show 16 + (16 + k) = 32 + k by omega] at h
  rw [h]
  exact (List.getElem?_append_right (l₁ := LBX9_home_1) (l₂ := LRX9_home_2) (show 16 ≤ 16 + k by omega)).trans (congrArg (fun i => LRX9_home_2[i]?) (show 16 + k - 16 = k by omega))
theorem dX9_home_0 : decode cX9_home 0 = .ok (.iconst (-1), 1) := dk_2_ (show cX9_home.data.toList[0]? = some 0x02 from (LBX9_homer_0 0).trans (by decide +kernel))
theorem dX9_home_1 : decode cX9_home 1 = .ok (.istore_n 1, 1) := dk_60_ (show cX9_home.data.toList[1]? = some 0x3c from (LBX9_homer_0 1).trans (by decide +kernel))
theorem dX9_home_2 : decode cX9_home 2 = .ok (.ldc 104, 2) := dk_18_ (show cX9_home.data.toList[2]? = some 0x12 from (LBX9_homer_0 2).trans (by decide +kernel)) (show cX9_home.data.toList[3]? = some 0x68 from (LBX9_homer_0 3).trans (by decide +kernel)) (by decide)
theorem dX9_home_4 : decode cX9_home 4 = .ok (.istore_n 2, 1) := dk_61_ (show cX9_home.data.toList[4]? = some 0x3d from (LBX9_homer_0 4).trans (by decide +kernel))
theorem dX9_home_5 : decode cX9_home 5 = .ok (.iconst 0, 1) := dk_3_ (show cX9_home.data.toList[5]? = some 0x03 from (LBX9_homer_0 5).trans (by decide +kernel))
theorem dX9_home_6 : decode cX9_home 6 = .ok (.istore_n 3, 1) := dk_62_ (show cX9_home.data.toList[6]? = some 0x3e from (LBX9_homer_0 6).trans (by decide +kernel))
theorem dX9_home_7 : decode cX9_home 7 = .ok (.iload_n 3, 1) := dk_29_ (show cX9_home.data.toList[7]? = some 0x1d from (LBX9_homer_0 7).trans (by decide +kernel))
theorem dX9_home_8 : decode cX9_home 8 = .ok (.aload_n 0, 1) := dk_42_ (show cX9_home.data.toList[8]? = some 0x2a from (LBX9_homer_0 8).trans (by decide +kernel))
theorem dX9_home_9 : decode cX9_home 9 = .ok (.getfield 7, 3) := dk_180_ (show cX9_home.data.toList[9]? = some 0xb4 from (LBX9_homer_0 9).trans (by decide +kernel)) (show cX9_home.data.toList[10]? = some 0x00 from (LBX9_homer_0 10).trans (by decide +kernel)) (show cX9_home.data.toList[11]? = some 0x07 from (LBX9_homer_0 11).trans (by decide +kernel)) (by decide)
theorem dX9_home_12 : decode cX9_home 12 = .ok (.iconst 0, 1) := dk_3_ (show cX9_home.data.toList[12]? = some 0x03 from (LBX9_homer_0 12).trans (by decide +kernel))
theorem dX9_home_13 : decode cX9_home 13 = .ok (.iaload, 1) := dk_46_ (show cX9_home.data.toList[13]? = some 0x2e from (LBX9_homer_0 13).trans (by decide +kernel))
theorem dX9_home_14 : decode cX9_home 14 = .ok (.if_icmp .ge 27, 3) := dk_162_ (show cX9_home.data.toList[14]? = some 0xa2 from (LBX9_homer_0 14).trans (by decide +kernel)) (show cX9_home.data.toList[15]? = some 0x00 from (LBX9_homer_0 15).trans (by decide +kernel)) (show cX9_home.data.toList[16]? = some 0x1b from (LBX9_homer_1 0).trans (by decide +kernel)) (by decide)
theorem dX9_home_17 : decode cX9_home 17 = .ok (.aload_n 0, 1) := dk_42_ (show cX9_home.data.toList[17]? = some 0x2a from (LBX9_homer_1 1).trans (by decide +kernel))
theorem dX9_home_18 : decode cX9_home 18 = .ok (.iload_n 3, 1) := dk_29_ (show cX9_home.data.toList[18]? = some 0x1d from (LBX9_homer_1 2).trans (by decide +kernel))
theorem dX9_home_19 : decode cX9_home 19 = .ok (.invokevirtual 168, 3) := dk_182_ (show cX9_home.data.toList[19]? = some 0xb6 from (LBX9_homer_1 3).trans (by decide +kernel)) (show cX9_home.data.toList[20]? = some 0x00 from (LBX9_homer_1 4).trans (by decide +kernel)) (show cX9_home.data.toList[21]? = some 0xa8 from (LBX9_homer_1 5).trans (by decide +kernel)) (by decide)
theorem dX9_home_22 : decode cX9_home 22 = .ok (.istore 4, 2) := dk_54_ (show cX9_home.data.toList[22]? = some 0x36 from (LBX9_homer_1 6).trans (by decide +kernel)) (show cX9_home.data.toList[23]? = some 0x04 from (LBX9_homer_1 7).trans (by decide +kernel)) (by decide)
theorem dX9_home_24 : decode cX9_home 24 = .ok (.iload 4, 2) := dk_21_ (show cX9_home.data.toList[24]? = some 0x15 from (LBX9_homer_1 8).trans (by decide +kernel)) (show cX9_home.data.toList[25]? = some 0x04 from (LBX9_homer_1 9).trans (by decide +kernel)) (by decide)
theorem dX9_home_26 : decode cX9_home 26 = .ok (.iload_n 2, 1) := dk_28_ (show cX9_home.data.toList[26]? = some 0x1c from (LBX9_homer_1 10).trans (by decide +kernel))
theorem dX9_home_27 : decode cX9_home 27 = .ok (.if_icmp .ge 8, 3) := dk_162_ (show cX9_home.data.toList[27]? = some 0xa2 from (LBX9_homer_1 11).trans (by decide +kernel)) (show cX9_home.data.toList[28]? = some 0x00 from (LBX9_homer_1 12).trans (by decide +kernel)) (show cX9_home.data.toList[29]? = some 0x08 from (LBX9_homer_1 13).trans (by decide +kernel)) (by decide)
theorem dX9_home_30 : decode cX9_home 30 = .ok (.iload_n 3, 1) := dk_29_ (show cX9_home.data.toList[30]? = some 0x1d from (LBX9_homer_1 14).trans (by decide +kernel))
theorem dX9_home_31 : decode cX9_home 31 = .ok (.istore_n 1, 1) := dk_60_ (show cX9_home.data.toList[31]? = some 0x3c from (LBX9_homer_1 15).trans (by decide +kernel))
theorem dX9_home_32 : decode cX9_home 32 = .ok (.iload 4, 2) := dk_21_ (show cX9_home.data.toList[32]? = some 0x15 from (LBX9_homer_2 0).trans (by decide +kernel)) (show cX9_home.data.toList[33]? = some 0x04 from (LBX9_homer_2 1).trans (by decide +kernel)) (by decide)
theorem dX9_home_34 : decode cX9_home 34 = .ok (.istore_n 2, 1) := dk_61_ (show cX9_home.data.toList[34]? = some 0x3d from (LBX9_homer_2 2).trans (by decide +kernel))
theorem dX9_home_35 : decode cX9_home 35 = .ok (.iinc 3 1, 3) := dk_132_ (show cX9_home.data.toList[35]? = some 0x84 from (LBX9_homer_2 3).trans (by decide +kernel)) (show cX9_home.data.toList[36]? = some 0x03 from (LBX9_homer_2 4).trans (by decide +kernel)) (show cX9_home.data.toList[37]? = some 0x01 from (LBX9_homer_2 5).trans (by decide +kernel)) (by decide) (by decide)
theorem dX9_home_38 : decode cX9_home 38 = .ok (.goto (-31), 3) := dk_167_ (show cX9_home.data.toList[38]? = some 0xa7 from (LBX9_homer_2 6).trans (by decide +kernel)) (show cX9_home.data.toList[39]? = some 0xff from (LBX9_homer_2 7).trans (by decide +kernel)) (show cX9_home.data.toList[40]? = some 0xe1 from (LBX9_homer_2 8).trans (by decide +kernel)) (by decide)
theorem dX9_home_41 : decode cX9_home 41 = .ok (.iload_n 1, 1) := dk_27_ (show cX9_home.data.toList[41]? = some 0x1b from (LBX9_homer_2 9).trans (by decide +kernel))
theorem dX9_home_42 : decode cX9_home 42 = .ok (.ireturn, 1) := dk_172_ (show cX9_home.data.toList[42]? = some 0xac from (LBX9_homer_2 10).trans (by decide +kernel))
def LRX9_live_3 : List UInt8 := []
def LBX9_live_2 : List UInt8 := [0x46, 0xa7, 0x00, 0x04, 0x1b, 0xac]
def LRX9_live_2 : List UInt8 := LBX9_live_2 ++ LRX9_live_3
def LBX9_live_1 : List UInt8 := [0x46, 0xac, 0x2a, 0xb6, 0x00, 0xab, 0x3c, 0x1b, 0x9c, 0x00, 0x0c, 0x2a, 0x12, 0x60, 0xb6, 0x00]
def LRX9_live_1 : List UInt8 := LBX9_live_1 ++ LRX9_live_2
def LBX9_live_0 : List UInt8 := [0x2a, 0xb6, 0x00, 0x71, 0x2a, 0xb4, 0x00, 0x6d, 0x99, 0x00, 0x0a, 0x2a, 0x12, 0x74, 0xb6, 0x00]
def LRX9_live_0 : List UInt8 := LBX9_live_0 ++ LRX9_live_1
set_option maxRecDepth 100000 in
theorem LBX9_live_eq : cX9_live.data.toList = LRX9_live_0 := by decide +kernel
theorem LBX9_liver_0 (k : Nat) : cX9_live.data.toList[0 + k]? = LRX9_live_0[k]? := by rw [LBX9_live_eq, Nat.zero_add]
theorem LBX9_liver_1 (k : Nat) : cX9_live.data.toList[16 + k]? = LRX9_live_1[k]? := by
  have h := LBX9_liver_0 (16 + k)
  rw [show 0 + (16 + k) = 16 + k by omega] at h
  rw [h]
  exact (List.getElem?_append_right (l₁ := LBX9_live_0) (l₂ := LRX9_live_1) (show 16 ≤ 16 + k by omega)).trans (congrArg (fun i => LRX9_live_1[i]?) (show 16 + k - 16 = k by omega))
theorem LBX9_liver_2 (k : Nat) : cX9_live.data.toList[32 + k]? = LRX9_live_2[k]? := by
  have h := LBX9_liver_1 (16 + k)
  rw [show 16 + (16 + k) = 32 + k by omega] at h
  rw [h]
  exact (List.getElem?_append_right (l₁ := LBX9_live_1) (l₂ := LRX9_live_2) (show 16 ≤ 16 + k by omega)).trans (congrArg (fun i => LRX9_live_2[i]?) (show 16 + k - 16 = k by omega))
theorem dX9_live_0 : decode cX9_live 0 = .ok (.aload_n 0, 1) := dk_42_ (show cX9_live.data.toList[0]? = some 0x2a from (LBX9_liver_0 0).trans (by decide +kernel))
theorem dX9_live_1 : decode cX9_live 1 = .ok (.invokevirtual 113, 3) := dk_182_ (show cX9_live.data.toList[1]? = some 0xb6 from (LBX9_liver_0 1).trans (by decide +kernel)) (show cX9_live.data.toList[2]? = some 0x00 from (LBX9_liver_0 2).trans (by decide +kernel)) (show cX9_live.data.toList[3]? = some 0x71 from (LBX9_liver_0 3).trans (by decide +kernel)) (by decide)
theorem dX9_live_4 : decode cX9_live 4 = .ok (.aload_n 0, 1) := dk_42_ (show cX9_live.data.toList[4]? = some 0x2a from (LBX9_liver_0 4).trans (by decide +kernel))
theorem dX9_live_5 : decode cX9_live 5 = .ok (.getfield 109, 3) := dk_180_ (show cX9_live.data.toList[5]? = some 0xb4 from (LBX9_liver_0 5).trans (by decide +kernel)) (show cX9_live.data.toList[6]? = some 0x00 from (LBX9_liver_0 6).trans (by decide +kernel)) (show cX9_live.data.toList[7]? = some 0x6d from (LBX9_liver_0 7).trans (by decide +kernel)) (by decide)
theorem dX9_live_8 : decode cX9_live 8 = .ok (.ifCond .eq 10, 3) := dk_153_ (show cX9_live.data.toList[8]? = some 0x99 from (LBX9_liver_0 8).trans (by decide +kernel)) (show cX9_live.data.toList[9]? = some 0x00 from (LBX9_liver_0 9).trans (by decide +kernel)) (show cX9_live.data.toList[10]? = some 0x0a from (LBX9_liver_0 10).trans (by decide +kernel)) (by decide)
theorem dX9_live_11 : decode cX9_live 11 = .ok (.aload_n 0, 1) := dk_42_ (show cX9_live.data.toList[11]? = some 0x2a from (LBX9_liver_0 11).trans (by decide +kernel))
theorem dX9_live_12 : decode cX9_live 12 = .ok (.ldc 116, 2) := dk_18_ (show cX9_live.data.toList[12]? = some 0x12 from (LBX9_liver_0 12).trans (by decide +kernel)) (show cX9_live.data.toList[13]? = some 0x74 from (LBX9_liver_0 13).trans (by decide +kernel)) (by decide)
theorem dX9_live_14 : decode cX9_live 14 = .ok (.invokevirtual 70, 3) := dk_182_ (show cX9_live.data.toList[14]? = some 0xb6 from (LBX9_liver_0 14).trans (by decide +kernel)) (show cX9_live.data.toList[15]? = some 0x00 from (LBX9_liver_0 15).trans (by decide +kernel)) (show cX9_live.data.toList[16]? = some 0x46 from (LBX9_liver_1 0).trans (by decide +kernel)) (by decide)
theorem dX9_live_17 : decode cX9_live 17 = .ok (.ireturn, 1) := dk_172_ (show cX9_live.data.toList[17]? = some 0xac from (LBX9_liver_1 1).trans (by decide +kernel))
theorem dX9_live_18 : decode cX9_live 18 = .ok (.aload_n 0, 1) := dk_42_ (show cX9_live.data.toList[18]? = some 0x2a from (LBX9_liver_1 2).trans (by decide +kernel))
theorem dX9_live_19 : decode cX9_live 19 = .ok (.invokevirtual 171, 3) := dk_182_ (show cX9_live.data.toList[19]? = some 0xb6 from (LBX9_liver_1 3).trans (by decide +kernel)) (show cX9_live.data.toList[20]? = some 0x00 from (LBX9_liver_1 4).trans (by decide +kernel)) (show cX9_live.data.toList[21]? = some 0xab from (LBX9_liver_1 5).trans (by decide +kernel)) (by decide)
theorem dX9_live_22 : decode cX9_live 22 = .ok (.istore_n 1, 1) := dk_60_ (show cX9_live.data.toList[22]? = some 0x3c from (LBX9_liver_1 6).trans (by decide +kernel))
theorem dX9_live_23 : decode cX9_live 23 = .ok (.iload_n 1, 1) := dk_27_ (show cX9_live.data.toList[23]? = some 0x1b from (LBX9_liver_1 7).trans (by decide +kernel))
theorem dX9_live_24 : decode cX9_live 24 = .ok (.ifCond .ge 12, 3) := dk_156_ (show cX9_live.data.toList[24]? = some 0x9c from (LBX9_liver_1 8).trans (by decide +kernel)) (show cX9_live.data.toList[25]? = some 0x00 from (LBX9_liver_1 9).trans (by decide +kernel)) (show cX9_live.data.toList[26]? = some 0x0c from (LBX9_liver_1 10).trans (by decide +kernel)) (by decide)
theorem dX9_live_27 : decode cX9_live 27 = .ok (.aload_n 0, 1) := dk_42_ (show cX9_live.data.toList[27]? = some 0x2a from (LBX9_liver_1 11).trans (by decide +kernel))
theorem dX9_live_28 : decode cX9_live 28 = .ok (.ldc 96, 2) := dk_18_ (show cX9_live.data.toList[28]? = some 0x12 from (LBX9_liver_1 12).trans (by decide +kernel)) (show cX9_live.data.toList[29]? = some 0x60 from (LBX9_liver_1 13).trans (by decide +kernel)) (by decide)
theorem dX9_live_30 : decode cX9_live 30 = .ok (.invokevirtual 70, 3) := dk_182_ (show cX9_live.data.toList[30]? = some 0xb6 from (LBX9_liver_1 14).trans (by decide +kernel)) (show cX9_live.data.toList[31]? = some 0x00 from (LBX9_liver_1 15).trans (by decide +kernel)) (show cX9_live.data.toList[32]? = some 0x46 from (LBX9_liver_2 0).trans (by decide +kernel)) (by decide)
theorem dX9_live_33 : decode cX9_live 33 = .ok (.goto 4, 3) := dk_167_ (show cX9_live.data.toList[33]? = some 0xa7 from (LBX9_liver_2 1).trans (by decide +kernel)) (show cX9_live.data.toList[34]? = some 0x00 from (LBX9_liver_2 2).trans (by decide +kernel)) (show cX9_live.data.toList[35]? = some 0x04 from (LBX9_liver_2 3).trans (by decide +kernel)) (by decide)
theorem dX9_live_36 : decode cX9_live 36 = .ok (.iload_n 1, 1) := dk_27_ (show cX9_live.data.toList[36]? = some 0x1b from (LBX9_liver_2 4).trans (by decide +kernel))
theorem dX9_live_37 : decode cX9_live 37 = .ok (.ireturn, 1) := dk_172_ (show cX9_live.data.toList[37]? = some 0xac from (LBX9_liver_2 5).trans (by decide +kernel))
def LRX9_trip_4 : List UInt8 := []
def LBX9_trip_3 : List UInt8 := [0xb6, 0x00, 0x46, 0xa7, 0x00, 0x04, 0x1c, 0xac]
def LRX9_trip_3 : List UInt8 := LBX9_trip_3 ++ LRX9_trip_4
def LBX9_trip_2 : List UInt8 := [0xac, 0x2a, 0x1b, 0xb6, 0x00, 0xa8, 0x3d, 0x1c, 0x12, 0x68, 0xa0, 0x00, 0x0c, 0x2a, 0x12, 0x60]
def LRX9_trip_2 : List UInt8 := LBX9_trip_2 ++ LRX9_trip_3
def LBX9_trip_1 : List UInt8 := [0xb6, 0x00, 0x71, 0x2a, 0xb4, 0x00, 0x6d, 0x99, 0x00, 0x0a, 0x2a, 0x12, 0x74, 0xb6, 0x00, 0x46]
def LRX9_trip_1 : List UInt8 := LBX9_trip_1 ++ LRX9_trip_2
def LBX9_trip_0 : List UInt8 := [0x2a, 0x1b, 0xb6, 0x00, 0x3d, 0x9a, 0x00, 0x0a, 0x2a, 0x12, 0x38, 0xb6, 0x00, 0x46, 0xac, 0x2a]
def LRX9_trip_0 : List UInt8 := LBX9_trip_0 ++ LRX9_trip_1
set_option maxRecDepth 100000 in
theorem LBX9_trip_eq : cX9_trip.data.toList = LRX9_trip_0 := by decide +kernel
theorem LBX9_tripr_0 (k : Nat) : cX9_trip.data.toList[0 + k]? = LRX9_trip_0[k]? := by rw [LBX9_trip_eq, Nat.zero_add]
theorem LBX9_tripr_1 (k : Nat) : cX9_trip.data.toList[16 + k]? = LRX9_trip_1[k]? := by
  have h := LBX9_tripr_0 (16 + k)
  rw [show 0 + (16 + k) = 16 + k by omega] at h
  rw [h]
  exact (List.getElem?_append_right (l₁ := LBX9_trip_0) (l₂ := LRX9_trip_1) (show 16 ≤ 16 + k by omega)).trans (congrArg (fun i => LRX9_trip_1[i]?) (show 16 + k - 16 = k by omega))
theorem LBX9_tripr_2 (k : Nat) : cX9_trip.data.toList[32 + k]? = LRX9_trip_2[k]? := by
  have h := LBX9_tripr_1 (16 + k)
  rw [show 16 + (16 + k) = 32 + k by omega] at h
  rw [h]
  exact (List.getElem?_append_right (l₁ := LBX9_trip_1) (l₂ := LRX9_trip_2) (show 16 ≤ 16 + k by omega)).trans (congrArg (fun i => LRX9_trip_2[i]?) (show 16 + k - 16 = k by omega))
theorem LBX9_tripr_3 (k : Nat) : cX9_trip.data.toList[48 + k]? = LRX9_trip_3[k]? := by
  have h := LBX9_tripr_2 (16 + k)
  rw [show 32 + (16 + k) = 48 + k by omega] at h
  rw [h]
  exact (List.getElem?_append_right (l₁ := LBX9_trip_2) (l₂ := LRX9_trip_3) (show 16 ≤ 16 + k by omega)).trans (congrArg (fun i => LRX9_trip_3[i]?) (show 16 + k - 16 = k by omega))
theorem dX9_trip_0 : decode cX9_trip 0 = .ok (.aload_n 0, 1) := dk_42_ (show cX9_trip.data.toList[0]? = some 0x2a from (LBX9_tripr_0 0).trans (by decide +kernel))
theorem dX9_trip_1 : decode cX9_trip 1 = .ok (.iload_n 1, 1) := dk_27_ (show cX9_trip.data.toList[1]? = some 0x1b from (LBX9_tripr_0 1).trans (by decide +kernel))
theorem dX9_trip_2 : decode cX9_trip 2 = .ok (.invokevirtual 61, 3) := dk_182_ (show cX9_trip.data.toList[2]? = some 0xb6 from (LBX9_tripr_0 2).trans (by decide +kernel)) (show cX9_trip.data.toList[3]? = some 0x00 from (LBX9_tripr_0 3).trans (by decide +kernel)) (show cX9_trip.data.toList[4]? = some 0x3d from (LBX9_tripr_0 4).trans (by decide +kernel)) (by decide)
theorem dX9_trip_5 : decode cX9_trip 5 = .ok (.ifCond .ne 10, 3) := dk_154_ (show cX9_trip.data.toList[5]? = some 0x9a from (LBX9_tripr_0 5).trans (by decide +kernel)) (show cX9_trip.data.toList[6]? = some 0x00 from (LBX9_tripr_0 6).trans (by decide +kernel)) (show cX9_trip.data.toList[7]? = some 0x0a from (LBX9_tripr_0 7).trans (by decide +kernel)) (by decide)
theorem dX9_trip_8 : decode cX9_trip 8 = .ok (.aload_n 0, 1) := dk_42_ (show cX9_trip.data.toList[8]? = some 0x2a from (LBX9_tripr_0 8).trans (by decide +kernel))
theorem dX9_trip_9 : decode cX9_trip 9 = .ok (.ldc 56, 2) := dk_18_ (show cX9_trip.data.toList[9]? = some 0x12 from (LBX9_tripr_0 9).trans (by decide +kernel)) (show cX9_trip.data.toList[10]? = some 0x38 from (LBX9_tripr_0 10).trans (by decide +kernel)) (by decide)
theorem dX9_trip_11 : decode cX9_trip 11 = .ok (.invokevirtual 70, 3) := dk_182_ (show cX9_trip.data.toList[11]? = some 0xb6 from (LBX9_tripr_0 11).trans (by decide +kernel)) (show cX9_trip.data.toList[12]? = some 0x00 from (LBX9_tripr_0 12).trans (by decide +kernel)) (show cX9_trip.data.toList[13]? = some 0x46 from (LBX9_tripr_0 13).trans (by decide +kernel)) (by decide)
theorem dX9_trip_14 : decode cX9_trip 14 = .ok (.ireturn, 1) := dk_172_ (show cX9_trip.data.toList[14]? = some 0xac from (LBX9_tripr_0 14).trans (by decide +kernel))
theorem dX9_trip_15 : decode cX9_trip 15 = .ok (.aload_n 0, 1) := dk_42_ (show cX9_trip.data.toList[15]? = some 0x2a from (LBX9_tripr_0 15).trans (by decide +kernel))
theorem dX9_trip_16 : decode cX9_trip 16 = .ok (.invokevirtual 113, 3) := dk_182_ (show cX9_trip.data.toList[16]? = some 0xb6 from (LBX9_tripr_1 0).trans (by decide +kernel)) (show cX9_trip.data.toList[17]? = some 0x00 from (LBX9_tripr_1 1).trans (by decide +kernel)) (show cX9_trip.data.toList[18]? = some 0x71 from (LBX9_tripr_1 2).trans (by decide +kernel)) (by decide)
theorem dX9_trip_19 : decode cX9_trip 19 = .ok (.aload_n 0, 1) := dk_42_ (show cX9_trip.data.toList[19]? = some 0x2a from (LBX9_tripr_1 3).trans (by decide +kernel))
theorem dX9_trip_20 : decode cX9_trip 20 = .ok (.getfield 109, 3) := dk_180_ (show cX9_trip.data.toList[20]? = some 0xb4 from (LBX9_tripr_1 4).trans (by decide +kernel)) (show cX9_trip.data.toList[21]? = some 0x00 from (LBX9_tripr_1 5).trans (by decide +kernel)) (show cX9_trip.data.toList[22]? = some 0x6d from (LBX9_tripr_1 6).trans (by decide +kernel)) (by decide)
theorem dX9_trip_23 : decode cX9_trip 23 = .ok (.ifCond .eq 10, 3) := dk_153_ (show cX9_trip.data.toList[23]? = some 0x99 from (LBX9_tripr_1 7).trans (by decide +kernel)) (show cX9_trip.data.toList[24]? = some 0x00 from (LBX9_tripr_1 8).trans (by decide +kernel)) (show cX9_trip.data.toList[25]? = some 0x0a from (LBX9_tripr_1 9).trans (by decide +kernel)) (by decide)
theorem dX9_trip_26 : decode cX9_trip 26 = .ok (.aload_n 0, 1) := dk_42_ (show cX9_trip.data.toList[26]? = some 0x2a from (LBX9_tripr_1 10).trans (by decide +kernel))
theorem dX9_trip_27 : decode cX9_trip 27 = .ok (.ldc 116, 2) := dk_18_ (show cX9_trip.data.toList[27]? = some 0x12 from (LBX9_tripr_1 11).trans (by decide +kernel)) (show cX9_trip.data.toList[28]? = some 0x74 from (LBX9_tripr_1 12).trans (by decide +kernel)) (by decide)
theorem dX9_trip_29 : decode cX9_trip 29 = .ok (.invokevirtual 70, 3) := dk_182_ (show cX9_trip.data.toList[29]? = some 0xb6 from (LBX9_tripr_1 13).trans (by decide +kernel)) (show cX9_trip.data.toList[30]? = some 0x00 from (LBX9_tripr_1 14).trans (by decide +kernel)) (show cX9_trip.data.toList[31]? = some 0x46 from (LBX9_tripr_1 15).trans (by decide +kernel)) (by decide)
theorem dX9_trip_32 : decode cX9_trip 32 = .ok (.ireturn, 1) := dk_172_ (show cX9_trip.data.toList[32]? = some 0xac from (LBX9_tripr_2 0).trans (by decide +kernel))
theorem dX9_trip_33 : decode cX9_trip 33 = .ok (.aload_n 0, 1) := dk_42_ (show cX9_trip.data.toList[33]? = some 0x2a from (LBX9_tripr_2 1).trans (by decide +kernel))
theorem dX9_trip_34 : decode cX9_trip 34 = .ok (.iload_n 1, 1) := dk_27_ (show cX9_trip.data.toList[34]? = some 0x1b from (LBX9_tripr_2 2).trans (by decide +kernel))
theorem dX9_trip_35 : decode cX9_trip 35 = .ok (.invokevirtual 168, 3) := dk_182_ (show cX9_trip.data.toList[35]? = some 0xb6 from (LBX9_tripr_2 3).trans (by decide +kernel)) (show cX9_trip.data.toList[36]? = some 0x00 from (LBX9_tripr_2 4).trans (by decide +kernel)) (show cX9_trip.data.toList[37]? = some 0xa8 from (LBX9_tripr_2 5).trans (by decide +kernel)) (by decide)
theorem dX9_trip_38 : decode cX9_trip 38 = .ok (.istore_n 2, 1) := dk_61_ (show cX9_trip.data.toList[38]? = some 0x3d from (LBX9_tripr_2 6).trans (by decide +kernel))
theorem dX9_trip_39 : decode cX9_trip 39 = .ok (.iload_n 2, 1) := dk_28_ (show cX9_trip.data.toList[39]? = some 0x1c from (LBX9_tripr_2 7).trans (by decide +kernel))
theorem dX9_trip_40 : decode cX9_trip 40 = .ok (.ldc 104, 2) := dk_18_ (show cX9_trip.data.toList[40]? = some 0x12 from (LBX9_tripr_2 8).trans (by decide +kernel)) (show cX9_trip.data.toList[41]? = some 0x68 from (LBX9_tripr_2 9).trans (by decide +kernel)) (by decide)
theorem dX9_trip_42 : decode cX9_trip 42 = .ok (.if_icmp .ne 12, 3) := dk_160_ (show cX9_trip.data.toList[42]? = some 0xa0 from (LBX9_tripr_2 10).trans (by decide +kernel)) (show cX9_trip.data.toList[43]? = some 0x00 from (LBX9_tripr_2 11).trans (by decide +kernel)) (show cX9_trip.data.toList[44]? = some 0x0c from (LBX9_tripr_2 12).trans (by decide +kernel)) (by decide)
theorem dX9_trip_45 : decode cX9_trip 45 = .ok (.aload_n 0, 1) := dk_42_ (show cX9_trip.data.toList[45]? = some 0x2a from (LBX9_tripr_2 13).trans (by decide +kernel))
theorem dX9_trip_46 : decode cX9_trip 46 = .ok (.ldc 96, 2) := dk_18_ (show cX9_trip.data.toList[46]? = some 0x12 from (LBX9_tripr_2 14).trans (by decide +kernel)) (show cX9_trip.data.toList[47]? = some 0x60 from (LBX9_tripr_2 15).trans (by decide +kernel)) (by decide)
theorem dX9_trip_48 : decode cX9_trip 48 = .ok (.invokevirtual 70, 3) := dk_182_ (show cX9_trip.data.toList[48]? = some 0xb6 from (LBX9_tripr_3 0).trans (by decide +kernel)) (show cX9_trip.data.toList[49]? = some 0x00 from (LBX9_tripr_3 1).trans (by decide +kernel)) (show cX9_trip.data.toList[50]? = some 0x46 from (LBX9_tripr_3 2).trans (by decide +kernel)) (by decide)
theorem dX9_trip_51 : decode cX9_trip 51 = .ok (.goto 4, 3) := dk_167_ (show cX9_trip.data.toList[51]? = some 0xa7 from (LBX9_tripr_3 3).trans (by decide +kernel)) (show cX9_trip.data.toList[52]? = some 0x00 from (LBX9_tripr_3 4).trans (by decide +kernel)) (show cX9_trip.data.toList[53]? = some 0x04 from (LBX9_tripr_3 5).trans (by decide +kernel)) (by decide)
theorem dX9_trip_54 : decode cX9_trip 54 = .ok (.iload_n 2, 1) := dk_28_ (show cX9_trip.data.toList[54]? = some 0x1c from (LBX9_tripr_3 6).trans (by decide +kernel))
theorem dX9_trip_55 : decode cX9_trip 55 = .ok (.ireturn, 1) := dk_172_ (show cX9_trip.data.toList[55]? = some 0xac from (LBX9_tripr_3 7).trans (by decide +kernel))
def LRX9_meeting_9 : List UInt8 := []
def LBX9_meeting_8 : List UInt8 := [0x06, 0x60, 0x15, 0x07, 0x60, 0x15, 0x08, 0x60, 0xac]
def LRX9_meeting_8 : List UInt8 := LBX9_meeting_8 ++ LRX9_meeting_9
def LBX9_meeting_7 : List UInt8 := [0xa4, 0x00, 0x08, 0x15, 0x05, 0xa7, 0x00, 0x13, 0x15, 0x06, 0xa7, 0x00, 0x0e, 0x15, 0x05, 0x15]
def LRX9_meeting_7 : List UInt8 := LBX9_meeting_7 ++ LRX9_meeting_8
def LBX9_meeting_6 : List UInt8 := [0x15, 0x06, 0x60, 0xa7, 0x00, 0x25, 0x15, 0x04, 0x04, 0xa0, 0x00, 0x14, 0x15, 0x05, 0x15, 0x06]
def LRX9_meeting_6 : List UInt8 := LBX9_meeting_6 ++ LRX9_meeting_7
def LBX9_meeting_5 : List UInt8 := [0x08, 0x12, 0x68, 0xa0, 0x00, 0x06, 0x12, 0x68, 0xac, 0x15, 0x04, 0x9a, 0x00, 0x0b, 0x15, 0x05]
def LRX9_meeting_5 : List UInt8 := LBX9_meeting_5 ++ LRX9_meeting_6
def LBX9_meeting_4 : List UInt8 := [0x00, 0x17, 0x15, 0x04, 0x05, 0xa0, 0x00, 0x14, 0x15, 0x07, 0x12, 0x68, 0x9f, 0x00, 0x0a, 0x15]
def LRX9_meeting_4 : List UInt8 := LBX9_meeting_4 ++ LRX9_meeting_5
def LBX9_meeting_3 : List UInt8 := [0x60, 0x2e, 0x36, 0x08, 0x15, 0x05, 0x12, 0x68, 0x9f, 0x00, 0x1e, 0x15, 0x06, 0x12, 0x68, 0x9f]
def LRX9_meeting_3 : List UInt8 := LBX9_meeting_3 ++ LRX9_meeting_4
def LBX9_meeting_2 : List UInt8 := [0x1d, 0x68, 0x1b, 0x60, 0x2e, 0x36, 0x07, 0x2a, 0xb4, 0x00, 0x16, 0x10, 0x0a, 0x1d, 0x68, 0x1c]
def LRX9_meeting_2 : List UInt8 := LBX9_meeting_2 ++ LRX9_meeting_3
def LBX9_meeting_1 : List UInt8 := [0x16, 0x10, 0x0a, 0x1c, 0x68, 0x1d, 0x60, 0x2e, 0x36, 0x06, 0x2a, 0xb4, 0x00, 0x16, 0x10, 0x0a]
def LRX9_meeting_1 : List UInt8 := LBX9_meeting_1 ++ LRX9_meeting_2
def LBX9_meeting_0 : List UInt8 := [0x2a, 0xb4, 0x00, 0x16, 0x10, 0x0a, 0x1b, 0x68, 0x1d, 0x60, 0x2e, 0x36, 0x05, 0x2a, 0xb4, 0x00]
def LRX9_meeting_0 : List UInt8 := LBX9_meeting_0 ++ LRX9_meeting_1
set_option maxRecDepth 100000 in
theorem LBX9_meeting_eq : cX9_meeting.data.toList = LRX9_meeting_0 := by decide +kernel
theorem LBX9_meetingr_0 (k : Nat) : cX9_meeting.data.toList[0 + k]? = LRX9_meeting_0[k]? := by rw [LBX9_meeting_eq, Nat.zero_add]
theorem LBX9_meetingr_1 (k : Nat) : cX9_meeting.data.toList[16 + k]? = LRX9_meeting_1[k]? := by
  have h := LBX9_meetingr_0 (16 + k)
  rw [show 0 + (16 + k) = 16 + k by omega] at h
  rw [h]
  exact (List.getElem?_append_right (l₁ := LBX9_meeting_0) (l₂ := LRX9_meeting_1) (show 16 ≤ 16 + k by omega)).trans (congrArg (fun i => LRX9_meeting_1[i]?) (show 16 + k - 16 = k by omega))
theorem LBX9_meetingr_2 (k : Nat) : cX9_meeting.data.toList[32 + k]? = LRX9_meeting_2[k]? := by
  have h := LBX9_meetingr_1 (16 + k)
  rw [show 16 + (16 + k) = 32 + k by omega] at h
  rw [h]
  exact (List.getElem?_append_right (l₁ := LBX9_meeting_1) (l₂ := LRX9_meeting_2) (show 16 ≤ 16 + k by omega)).trans (congrArg (fun i => LRX9_meeting_2[i]?) (show 16 + k - 16 = k by omega))
theorem LBX9_meetingr_3 (k : Nat) : cX9_meeting.data.toList[48 + k]? = LRX9_meeting_3[k]? := by
  have h := LBX9_meetingr_2 (16 + k)
  rw [show 32 + (16 + k) = 48 + k by omega] at h
  rw [h]
  exact (List.getElem?_append_right (l₁ := LBX9_meeting_2) (l₂ := LRX9_meeting_3) (show 16 ≤ 16 + k by omega)).trans (congrArg (fun i => LRX9_meeting_3[i]?) (show 16 + k - 16 = k by omega))
theorem LBX9_meetingr_4 (k : Nat) : cX9_meeting.data.toList[64 + k]? = LRX9_meeting_4[k]? := by
  have h := LBX9_meetingr_3 (16 + k)
  rw [show 48 + (16 + k) = 64 + k by omega] at h
  rw [h]
  exact (List.getElem?_append_right (l₁ := LBX9_meeting_3) (l₂ := LRX9_meeting_4) (show 16 ≤ 16 + k by omega)).trans (congrArg (fun i => LRX9_meeting_4[i]?) (show 16 + k - 16 = k by omega))
theorem LBX9_meetingr_5 (k : Nat) : cX9_meeting.data.toList[80 + k]? = LRX9_meeting_5[k]? := by
  have h := LBX9_meetingr_4 (16 + k)
  rw [show 64 + (16 + k) = 80 + k by omega] at h
  rw [h]
  exact (List.getElem?_append_right (l₁ := LBX9_meeting_4) (l₂ := LRX9_meeting_5) (show 16 ≤ 16 + k by omega)).trans (congrArg (fun i => LRX9_meeting_5[i]?) (show 16 + k - 16 = k by omega))
theorem LBX9_meetingr_6 (k : Nat) : cX9_meeting.data.toList[96 + k]? = LRX9_meeting_6[k]? := by
  have h := LBX9_meetingr_5 (16 + k)
  rw [show 80 + (16 + k) = 96 + k by omega] at h
  rw [h]
  exact (List.getElem?_append_right (l₁ := LBX9_meeting_5) (l₂ := LRX9_meeting_6) (show 16 ≤ 16 + k by omega)).trans (congrArg (fun i => LRX9_meeting_6[i]?) (show 16 + k - 16 = k by omega))
theorem LBX9_meetingr_7 (k : Nat) : cX9_meeting.data.toList[112 + k]? = LRX9_meeting_7[k]? := by
  have h := LBX9_meetingr_6 (16 + k)
  rw [show 96 + (16 + k) = 112 + k by omega] at h
  rw [h]
  exact (List.getElem?_append_right (l₁ := LBX9_meeting_6) (l₂ := LRX9_meeting_7) (show 16 ≤ 16 + k by omega)).trans (congrArg (fun i => LRX9_meeting_7[i]?) (show 16 + k - 16 = k by omega))
theorem LBX9_meetingr_8 (k : Nat) : cX9_meeting.data.toList[128 + k]? = LRX9_meeting_8[k]? := by
  have h := LBX9_meetingr_7 (16 + k)
  rw [show 112 + (16 + k) = 128 + k by omega] at h
  rw [h]
  exact (List.getElem?_append_right (l₁ := LBX9_meeting_7) (l₂ := LRX9_meeting_8) (show 16 ≤ 16 + k by omega)).trans (congrArg (fun i => LRX9_meeting_8[i]?) (show 16 + k - 16 = k by omega))
theorem dX9_meeting_0 : decode cX9_meeting 0 = .ok (.aload_n 0, 1) := dk_42_ (show cX9_meeting.data.toList[0]? = some 0x2a from (LBX9_meetingr_0 0).trans (by decide +kernel))
theorem dX9_meeting_1 : decode cX9_meeting 1 = .ok (.getfield 22, 3) := dk_180_ (show cX9_meeting.data.toList[1]? = some 0xb4 from (LBX9_meetingr_0 1).trans (by decide +kernel)) (show cX9_meeting.data.toList[2]? = some 0x00 from (LBX9_meetingr_0 2).trans (by decide +kernel)) (show cX9_meeting.data.toList[3]? = some 0x16 from (LBX9_meetingr_0 3).trans (by decide +kernel)) (by decide)
theorem dX9_meeting_4 : decode cX9_meeting 4 = .ok (.bipush 10, 2) := dk_16_ (show cX9_meeting.data.toList[4]? = some 0x10 from (LBX9_meetingr_0 4).trans (by decide +kernel)) (show cX9_meeting.data.toList[5]? = some 0x0a from (LBX9_meetingr_0 5).trans (by decide +kernel)) (by decide)
theorem dX9_meeting_6 : decode cX9_meeting 6 = .ok (.iload_n 1, 1) := dk_27_ (show cX9_meeting.data.toList[6]? = some 0x1b from (LBX9_meetingr_0 6).trans (by decide +kernel))
theorem dX9_meeting_7 : decode cX9_meeting 7 = .ok (.imul, 1) := dk_104_ (show cX9_meeting.data.toList[7]? = some 0x68 from (LBX9_meetingr_0 7).trans (by decide +kernel))
theorem dX9_meeting_8 : decode cX9_meeting 8 = .ok (.iload_n 3, 1) := dk_29_ (show cX9_meeting.data.toList[8]? = some 0x1d from (LBX9_meetingr_0 8).trans (by decide +kernel))
theorem dX9_meeting_9 : decode cX9_meeting 9 = .ok (.iadd, 1) := dk_96_ (show cX9_meeting.data.toList[9]? = some 0x60 from (LBX9_meetingr_0 9).trans (by decide +kernel))
theorem dX9_meeting_10 : decode cX9_meeting 10 = .ok (.iaload, 1) := dk_46_ (show cX9_meeting.data.toList[10]? = some 0x2e from (LBX9_meetingr_0 10).trans (by decide +kernel))
theorem dX9_meeting_11 : decode cX9_meeting 11 = .ok (.istore 5, 2) := dk_54_ (show cX9_meeting.data.toList[11]? = some 0x36 from (LBX9_meetingr_0 11).trans (by decide +kernel)) (show cX9_meeting.data.toList[12]? = some 0x05 from (LBX9_meetingr_0 12).trans (by decide +kernel)) (by decide)
theorem dX9_meeting_13 : decode cX9_meeting 13 = .ok (.aload_n 0, 1) := dk_42_ (show cX9_meeting.data.toList[13]? = some 0x2a from (LBX9_meetingr_0 13).trans (by decide +kernel))
theorem dX9_meeting_14 : decode cX9_meeting 14 = .ok (.getfield 22, 3) := dk_180_ (show cX9_meeting.data.toList[14]? = some 0xb4 from (LBX9_meetingr_0 14).trans (by decide +kernel)) (show cX9_meeting.data.toList[15]? = some 0x00 from (LBX9_meetingr_0 15).trans (by decide +kernel)) (show cX9_meeting.data.toList[16]? = some 0x16 from (LBX9_meetingr_1 0).trans (by decide +kernel)) (by decide)
theorem dX9_meeting_17 : decode cX9_meeting 17 = .ok (.bipush 10, 2) := dk_16_ (show cX9_meeting.data.toList[17]? = some 0x10 from (LBX9_meetingr_1 1).trans (by decide +kernel)) (show cX9_meeting.data.toList[18]? = some 0x0a from (LBX9_meetingr_1 2).trans (by decide +kernel)) (by decide)
theorem dX9_meeting_19 : decode cX9_meeting 19 = .ok (.iload_n 2, 1) := dk_28_ (show cX9_meeting.data.toList[19]? = some 0x1c from (LBX9_meetingr_1 3).trans (by decide +kernel))
theorem dX9_meeting_20 : decode cX9_meeting 20 = .ok (.imul, 1) := dk_104_ (show cX9_meeting.data.toList[20]? = some 0x68 from (LBX9_meetingr_1 4).trans (by decide +kernel))
theorem dX9_meeting_21 : decode cX9_meeting 21 = .ok (.iload_n 3, 1) := dk_29_ (show cX9_meeting.data.toList[21]? = some 0x1d from (LBX9_meetingr_1 5).trans (by decide +kernel))
theorem dX9_meeting_22 : decode cX9_meeting 22 = .ok (.iadd, 1) := dk_96_ (show cX9_meeting.data.toList[22]? = some 0x60 from (LBX9_meetingr_1 6).trans (by decide +kernel))
theorem dX9_meeting_23 : decode cX9_meeting 23 = .ok (.iaload, 1) := dk_46_ (show cX9_meeting.data.toList[23]? = some 0x2e from (LBX9_meetingr_1 7).trans (by decide +kernel))
theorem dX9_meeting_24 : decode cX9_meeting 24 = .ok (.istore 6, 2) := dk_54_ (show cX9_meeting.data.toList[24]? = some 0x36 from (LBX9_meetingr_1 8).trans (by decide +kernel)) (show cX9_meeting.data.toList[25]? = some 0x06 from (LBX9_meetingr_1 9).trans (by decide +kernel)) (by decide)
theorem dX9_meeting_26 : decode cX9_meeting 26 = .ok (.aload_n 0, 1) := dk_42_ (show cX9_meeting.data.toList[26]? = some 0x2a from (LBX9_meetingr_1 10).trans (by decide +kernel))
theorem dX9_meeting_27 : decode cX9_meeting 27 = .ok (.getfield 22, 3) := dk_180_ (show cX9_meeting.data.toList[27]? = some 0xb4 from (LBX9_meetingr_1 11).trans (by decide +kernel)) (show cX9_meeting.data.toList[28]? = some 0x00 from (LBX9_meetingr_1 12).trans (by decide +kernel)) (show cX9_meeting.data.toList[29]? = some 0x16 from (LBX9_meetingr_1 13).trans (by decide +kernel)) (by decide)
theorem dX9_meeting_30 : decode cX9_meeting 30 = .ok (.bipush 10, 2) := dk_16_ (show cX9_meeting.data.toList[30]? = some 0x10 from (LBX9_meetingr_1 14).trans (by decide +kernel)) (show cX9_meeting.data.toList[31]? = some 0x0a from (LBX9_meetingr_1 15).trans (by decide +kernel)) (by decide)
theorem dX9_meeting_32 : decode cX9_meeting 32 = .ok (.iload_n 3, 1) := dk_29_ (show cX9_meeting.data.toList[32]? = some 0x1d from (LBX9_meetingr_2 0).trans (by decide +kernel))
theorem dX9_meeting_33 : decode cX9_meeting 33 = .ok (.imul, 1) := dk_104_ (show cX9_meeting.data.toList[33]? = some 0x68 from (LBX9_meetingr_2 1).trans (by decide +kernel))
theorem dX9_meeting_34 : decode cX9_meeting 34 = .ok (.iload_n 1, 1) := dk_27_ (show cX9_meeting.data.toList[34]? = some 0x1b from (LBX9_meetingr_2 2).trans (by decide +kernel))
theorem dX9_meeting_35 : decode cX9_meeting 35 = .ok (.iadd, 1) := dk_96_ (show cX9_meeting.data.toList[35]? = some 0x60 from (LBX9_meetingr_2 3).trans (by decide +kernel))
theorem dX9_meeting_36 : decode cX9_meeting 36 = .ok (.iaload, 1) := dk_46_ (show cX9_meeting.data.toList[36]? = some 0x2e from (LBX9_meetingr_2 4).trans (by decide +kernel))
theorem dX9_meeting_37 : decode cX9_meeting 37 = .ok (.istore 7, 2) := dk_54_ (show cX9_meeting.data.toList[37]? = some 0x36 from (LBX9_meetingr_2 5).trans (by decide +kernel)) (show cX9_meeting.data.toList[38]? = some 0x07 from (LBX9_meetingr_2 6).trans (by decide +kernel)) (by decide)
theorem dX9_meeting_39 : decode cX9_meeting 39 = .ok (.aload_n 0, 1) := dk_42_ (show cX9_meeting.data.toList[39]? = some 0x2a from (LBX9_meetingr_2 7).trans (by decide +kernel))
theorem dX9_meeting_40 : decode cX9_meeting 40 = .ok (.getfield 22, 3) := dk_180_ (show cX9_meeting.data.toList[40]? = some 0xb4 from (LBX9_meetingr_2 8).trans (by decide +kernel)) (show cX9_meeting.data.toList[41]? = some 0x00 from (LBX9_meetingr_2 9).trans (by decide +kernel)) (show cX9_meeting.data.toList[42]? = some 0x16 from (LBX9_meetingr_2 10).trans (by decide +kernel)) (by decide)
theorem dX9_meeting_43 : decode cX9_meeting 43 = .ok (.bipush 10, 2) := dk_16_ (show cX9_meeting.data.toList[43]? = some 0x10 from (LBX9_meetingr_2 11).trans (by decide +kernel)) (show cX9_meeting.data.toList[44]? = some 0x0a from (LBX9_meetingr_2 12).trans (by decide +kernel)) (by decide)
theorem dX9_meeting_45 : decode cX9_meeting 45 = .ok (.iload_n 3, 1) := dk_29_ (show cX9_meeting.data.toList[45]? = some 0x1d from (LBX9_meetingr_2 13).trans (by decide +kernel))
theorem dX9_meeting_46 : decode cX9_meeting 46 = .ok (.imul, 1) := dk_104_ (show cX9_meeting.data.toList[46]? = some 0x68 from (LBX9_meetingr_2 14).trans (by decide +kernel))
theorem dX9_meeting_47 : decode cX9_meeting 47 = .ok (.iload_n 2, 1) := dk_28_ (show cX9_meeting.data.toList[47]? = some 0x1c from (LBX9_meetingr_2 15).trans (by decide +kernel))
theorem dX9_meeting_48 : decode cX9_meeting 48 = .ok (.iadd, 1) := dk_96_ (show cX9_meeting.data.toList[48]? = some 0x60 from (LBX9_meetingr_3 0).trans (by decide +kernel))
theorem dX9_meeting_49 : decode cX9_meeting 49 = .ok (.iaload, 1) := dk_46_ (show cX9_meeting.data.toList[49]? = some 0x2e from (LBX9_meetingr_3 1).trans (by decide +kernel))
theorem dX9_meeting_50 : decode cX9_meeting 50 = .ok (.istore 8, 2) := dk_54_ (show cX9_meeting.data.toList[50]? = some 0x36 from (LBX9_meetingr_3 2).trans (by decide +kernel)) (show cX9_meeting.data.toList[51]? = some 0x08 from (LBX9_meetingr_3 3).trans (by decide +kernel)) (by decide)
theorem dX9_meeting_52 : decode cX9_meeting 52 = .ok (.iload 5, 2) := dk_21_ (show cX9_meeting.data.toList[52]? = some 0x15 from (LBX9_meetingr_3 4).trans (by decide +kernel)) (show cX9_meeting.data.toList[53]? = some 0x05 from (LBX9_meetingr_3 5).trans (by decide +kernel)) (by decide)
theorem dX9_meeting_54 : decode cX9_meeting 54 = .ok (.ldc 104, 2) := dk_18_ (show cX9_meeting.data.toList[54]? = some 0x12 from (LBX9_meetingr_3 6).trans (by decide +kernel)) (show cX9_meeting.data.toList[55]? = some 0x68 from (LBX9_meetingr_3 7).trans (by decide +kernel)) (by decide)
theorem dX9_meeting_56 : decode cX9_meeting 56 = .ok (.if_icmp .eq 30, 3) := dk_159_ (show cX9_meeting.data.toList[56]? = some 0x9f from (LBX9_meetingr_3 8).trans (by decide +kernel)) (show cX9_meeting.data.toList[57]? = some 0x00 from (LBX9_meetingr_3 9).trans (by decide +kernel)) (show cX9_meeting.data.toList[58]? = some 0x1e from (LBX9_meetingr_3 10).trans (by decide +kernel)) (by decide)
theorem dX9_meeting_59 : decode cX9_meeting 59 = .ok (.iload 6, 2) := dk_21_ (show cX9_meeting.data.toList[59]? = some 0x15 from (LBX9_meetingr_3 11).trans (by decide +kernel)) (show cX9_meeting.data.toList[60]? = some 0x06 from (LBX9_meetingr_3 12).trans (by decide +kernel)) (by decide)
theorem dX9_meeting_61 : decode cX9_meeting 61 = .ok (.ldc 104, 2) := dk_18_ (show cX9_meeting.data.toList[61]? = some 0x12 from (LBX9_meetingr_3 13).trans (by decide +kernel)) (show cX9_meeting.data.toList[62]? = some 0x68 from (LBX9_meetingr_3 14).trans (by decide +kernel)) (by decide)
theorem dX9_meeting_63 : decode cX9_meeting 63 = .ok (.if_icmp .eq 23, 3) := dk_159_ (show cX9_meeting.data.toList[63]? = some 0x9f from (LBX9_meetingr_3 15).trans (by decide +kernel)) (show cX9_meeting.data.toList[64]? = some 0x00 from (LBX9_meetingr_4 0).trans (by decide +kernel)) (show cX9_meeting.data.toList[65]? = some 0x17 from (LBX9_meetingr_4 1).trans (by decide +kernel)) (by decide)
theorem dX9_meeting_66 : decode cX9_meeting 66 = .ok (.iload 4, 2) := dk_21_ (show cX9_meeting.data.toList[66]? = some 0x15 from (LBX9_meetingr_4 2).trans (by decide +kernel)) (show cX9_meeting.data.toList[67]? = some 0x04 from (LBX9_meetingr_4 3).trans (by decide +kernel)) (by decide)
theorem dX9_meeting_68 : decode cX9_meeting 68 = .ok (.iconst 2, 1) := dk_5_ (show cX9_meeting.data.toList[68]? = some 0x05 from (LBX9_meetingr_4 4).trans (by decide +kernel))
theorem dX9_meeting_69 : decode cX9_meeting 69 = .ok (.if_icmp .ne 20, 3) := dk_160_ (show cX9_meeting.data.toList[69]? = some 0xa0 from (LBX9_meetingr_4 5).trans (by decide +kernel)) (show cX9_meeting.data.toList[70]? = some 0x00 from (LBX9_meetingr_4 6).trans (by decide +kernel)) (show cX9_meeting.data.toList[71]? = some 0x14 from (LBX9_meetingr_4 7).trans (by decide +kernel)) (by decide)
theorem dX9_meeting_72 : decode cX9_meeting 72 = .ok (.iload 7, 2) := dk_21_ (show cX9_meeting.data.toList[72]? = some 0x15 from (LBX9_meetingr_4 8).trans (by decide +kernel)) (show cX9_meeting.data.toList[73]? = some 0x07 from (LBX9_meetingr_4 9).trans (by decide +kernel)) (by decide)
theorem dX9_meeting_74 : decode cX9_meeting 74 = .ok (.ldc 104, 2) := dk_18_ (show cX9_meeting.data.toList[74]? = some 0x12 from (LBX9_meetingr_4 10).trans (by decide +kernel)) (show cX9_meeting.data.toList[75]? = some 0x68 from (LBX9_meetingr_4 11).trans (by decide +kernel)) (by decide)
theorem dX9_meeting_76 : decode cX9_meeting 76 = .ok (.if_icmp .eq 10, 3) := dk_159_ (show cX9_meeting.data.toList[76]? = some 0x9f from (LBX9_meetingr_4 12).trans (by decide +kernel)) (show cX9_meeting.data.toList[77]? = some 0x00 from (LBX9_meetingr_4 13).trans (by decide +kernel)) (show cX9_meeting.data.toList[78]? = some 0x0a from (LBX9_meetingr_4 14).trans (by decide +kernel)) (by decide)
theorem dX9_meeting_79 : decode cX9_meeting 79 = .ok (.iload 8, 2) := dk_21_ (show cX9_meeting.data.toList[79]? = some 0x15 from (LBX9_meetingr_4 15).trans (by decide +kernel)) (show cX9_meeting.data.toList[80]? = some 0x08 from (LBX9_meetingr_5 0).trans (by decide +kernel)) (by decide)
theorem dX9_meeting_81 : decode cX9_meeting 81 = .ok (.ldc 104, 2) := dk_18_ (show cX9_meeting.data.toList[81]? = some 0x12 from (LBX9_meetingr_5 1).trans (by decide +kernel)) (show cX9_meeting.data.toList[82]? = some 0x68 from (LBX9_meetingr_5 2).trans (by decide +kernel)) (by decide)
theorem dX9_meeting_83 : decode cX9_meeting 83 = .ok (.if_icmp .ne 6, 3) := dk_160_ (show cX9_meeting.data.toList[83]? = some 0xa0 from (LBX9_meetingr_5 3).trans (by decide +kernel)) (show cX9_meeting.data.toList[84]? = some 0x00 from (LBX9_meetingr_5 4).trans (by decide +kernel)) (show cX9_meeting.data.toList[85]? = some 0x06 from (LBX9_meetingr_5 5).trans (by decide +kernel)) (by decide)
theorem dX9_meeting_86 : decode cX9_meeting 86 = .ok (.ldc 104, 2) := dk_18_ (show cX9_meeting.data.toList[86]? = some 0x12 from (LBX9_meetingr_5 6).trans (by decide +kernel)) (show cX9_meeting.data.toList[87]? = some 0x68 from (LBX9_meetingr_5 7).trans (by decide +kernel)) (by decide)
theorem dX9_meeting_88 : decode cX9_meeting 88 = .ok (.ireturn, 1) := dk_172_ (show cX9_meeting.data.toList[88]? = some 0xac from (LBX9_meetingr_5 8).trans (by decide +kernel))
theorem dX9_meeting_89 : decode cX9_meeting 89 = .ok (.iload 4, 2) := dk_21_ (show cX9_meeting.data.toList[89]? = some 0x15 from (LBX9_meetingr_5 9).trans (by decide +kernel)) (show cX9_meeting.data.toList[90]? = some 0x04 from (LBX9_meetingr_5 10).trans (by decide +kernel)) (by decide)
theorem dX9_meeting_91 : decode cX9_meeting 91 = .ok (.ifCond .ne 11, 3) := dk_154_ (show cX9_meeting.data.toList[91]? = some 0x9a from (LBX9_meetingr_5 11).trans (by decide +kernel)) (show cX9_meeting.data.toList[92]? = some 0x00 from (LBX9_meetingr_5 12).trans (by decide +kernel)) (show cX9_meeting.data.toList[93]? = some 0x0b from (LBX9_meetingr_5 13).trans (by decide +kernel)) (by decide)
theorem dX9_meeting_94 : decode cX9_meeting 94 = .ok (.iload 5, 2) := dk_21_ (show cX9_meeting.data.toList[94]? = some 0x15 from (LBX9_meetingr_5 14).trans (by decide +kernel)) (show cX9_meeting.data.toList[95]? = some 0x05 from (LBX9_meetingr_5 15).trans (by decide +kernel)) (by decide)
theorem dX9_meeting_96 : decode cX9_meeting 96 = .ok (.iload 6, 2) := dk_21_ (show cX9_meeting.data.toList[96]? = some 0x15 from (LBX9_meetingr_6 0).trans (by decide +kernel)) (show cX9_meeting.data.toList[97]? = some 0x06 from (LBX9_meetingr_6 1).trans (by decide +kernel)) (by decide)
theorem dX9_meeting_98 : decode cX9_meeting 98 = .ok (.iadd, 1) := dk_96_ (show cX9_meeting.data.toList[98]? = some 0x60 from (LBX9_meetingr_6 2).trans (by decide +kernel))
theorem dX9_meeting_99 : decode cX9_meeting 99 = .ok (.goto 37, 3) := dk_167_ (show cX9_meeting.data.toList[99]? = some 0xa7 from (LBX9_meetingr_6 3).trans (by decide +kernel)) (show cX9_meeting.data.toList[100]? = some 0x00 from (LBX9_meetingr_6 4).trans (by decide +kernel)) (show cX9_meeting.data.toList[101]? = some 0x25 from (LBX9_meetingr_6 5).trans (by decide +kernel)) (by decide)
theorem dX9_meeting_102 : decode cX9_meeting 102 = .ok (.iload 4, 2) := dk_21_ (show cX9_meeting.data.toList[102]? = some 0x15 from (LBX9_meetingr_6 6).trans (by decide +kernel)) (show cX9_meeting.data.toList[103]? = some 0x04 from (LBX9_meetingr_6 7).trans (by decide +kernel)) (by decide)
theorem dX9_meeting_104 : decode cX9_meeting 104 = .ok (.iconst 1, 1) := dk_4_ (show cX9_meeting.data.toList[104]? = some 0x04 from (LBX9_meetingr_6 8).trans (by decide +kernel))
theorem dX9_meeting_105 : decode cX9_meeting 105 = .ok (.if_icmp .ne 20, 3) := dk_160_ (show cX9_meeting.data.toList[105]? = some 0xa0 from (LBX9_meetingr_6 9).trans (by decide +kernel)) (show cX9_meeting.data.toList[106]? = some 0x00 from (LBX9_meetingr_6 10).trans (by decide +kernel)) (show cX9_meeting.data.toList[107]? = some 0x14 from (LBX9_meetingr_6 11).trans (by decide +kernel)) (by decide)
theorem dX9_meeting_108 : decode cX9_meeting 108 = .ok (.iload 5, 2) := dk_21_ (show cX9_meeting.data.toList[108]? = some 0x15 from (LBX9_meetingr_6 12).trans (by decide +kernel)) (show cX9_meeting.data.toList[109]? = some 0x05 from (LBX9_meetingr_6 13).trans (by decide +kernel)) (by decide)
theorem dX9_meeting_110 : decode cX9_meeting 110 = .ok (.iload 6, 2) := dk_21_ (show cX9_meeting.data.toList[110]? = some 0x15 from (LBX9_meetingr_6 14).trans (by decide +kernel)) (show cX9_meeting.data.toList[111]? = some 0x06 from (LBX9_meetingr_6 15).trans (by decide +kernel)) (by decide)
theorem dX9_meeting_112 : decode cX9_meeting 112 = .ok (.if_icmp .le 8, 3) := dk_164_ (show cX9_meeting.data.toList[112]? = some 0xa4 from (LBX9_meetingr_7 0).trans (by decide +kernel)) (show cX9_meeting.data.toList[113]? = some 0x00 from (LBX9_meetingr_7 1).trans (by decide +kernel)) (show cX9_meeting.data.toList[114]? = some 0x08 from (LBX9_meetingr_7 2).trans (by decide +kernel)) (by decide)
theorem dX9_meeting_115 : decode cX9_meeting 115 = .ok (.iload 5, 2) := dk_21_ (show cX9_meeting.data.toList[115]? = some 0x15 from (LBX9_meetingr_7 3).trans (by decide +kernel)) (show cX9_meeting.data.toList[116]? = some 0x05 from (LBX9_meetingr_7 4).trans (by decide +kernel)) (by decide)
theorem dX9_meeting_117 : decode cX9_meeting 117 = .ok (.goto 19, 3) := dk_167_ (show cX9_meeting.data.toList[117]? = some 0xa7 from (LBX9_meetingr_7 5).trans (by decide +kernel)) (show cX9_meeting.data.toList[118]? = some 0x00 from (LBX9_meetingr_7 6).trans (by decide +kernel)) (show cX9_meeting.data.toList[119]? = some 0x13 from (LBX9_meetingr_7 7).trans (by decide +kernel)) (by decide)
theorem dX9_meeting_120 : decode cX9_meeting 120 = .ok (.iload 6, 2) := dk_21_ (show cX9_meeting.data.toList[120]? = some 0x15 from (LBX9_meetingr_7 8).trans (by decide +kernel)) (show cX9_meeting.data.toList[121]? = some 0x06 from (LBX9_meetingr_7 9).trans (by decide +kernel)) (by decide)
theorem dX9_meeting_122 : decode cX9_meeting 122 = .ok (.goto 14, 3) := dk_167_ (show cX9_meeting.data.toList[122]? = some 0xa7 from (LBX9_meetingr_7 10).trans (by decide +kernel)) (show cX9_meeting.data.toList[123]? = some 0x00 from (LBX9_meetingr_7 11).trans (by decide +kernel)) (show cX9_meeting.data.toList[124]? = some 0x0e from (LBX9_meetingr_7 12).trans (by decide +kernel)) (by decide)
theorem dX9_meeting_125 : decode cX9_meeting 125 = .ok (.iload 5, 2) := dk_21_ (show cX9_meeting.data.toList[125]? = some 0x15 from (LBX9_meetingr_7 13).trans (by decide +kernel)) (show cX9_meeting.data.toList[126]? = some 0x05 from (LBX9_meetingr_7 14).trans (by decide +kernel)) (by decide)
theorem dX9_meeting_127 : decode cX9_meeting 127 = .ok (.iload 6, 2) := dk_21_ (show cX9_meeting.data.toList[127]? = some 0x15 from (LBX9_meetingr_7 15).trans (by decide +kernel)) (show cX9_meeting.data.toList[128]? = some 0x06 from (LBX9_meetingr_8 0).trans (by decide +kernel)) (by decide)
theorem dX9_meeting_129 : decode cX9_meeting 129 = .ok (.iadd, 1) := dk_96_ (show cX9_meeting.data.toList[129]? = some 0x60 from (LBX9_meetingr_8 1).trans (by decide +kernel))
theorem dX9_meeting_130 : decode cX9_meeting 130 = .ok (.iload 7, 2) := dk_21_ (show cX9_meeting.data.toList[130]? = some 0x15 from (LBX9_meetingr_8 2).trans (by decide +kernel)) (show cX9_meeting.data.toList[131]? = some 0x07 from (LBX9_meetingr_8 3).trans (by decide +kernel)) (by decide)
theorem dX9_meeting_132 : decode cX9_meeting 132 = .ok (.iadd, 1) := dk_96_ (show cX9_meeting.data.toList[132]? = some 0x60 from (LBX9_meetingr_8 4).trans (by decide +kernel))
theorem dX9_meeting_133 : decode cX9_meeting 133 = .ok (.iload 8, 2) := dk_21_ (show cX9_meeting.data.toList[133]? = some 0x15 from (LBX9_meetingr_8 5).trans (by decide +kernel)) (show cX9_meeting.data.toList[134]? = some 0x08 from (LBX9_meetingr_8 6).trans (by decide +kernel)) (by decide)
theorem dX9_meeting_135 : decode cX9_meeting 135 = .ok (.iadd, 1) := dk_96_ (show cX9_meeting.data.toList[135]? = some 0x60 from (LBX9_meetingr_8 7).trans (by decide +kernel))
theorem dX9_meeting_136 : decode cX9_meeting 136 = .ok (.ireturn, 1) := dk_172_ (show cX9_meeting.data.toList[136]? = some 0xac from (LBX9_meetingr_8 8).trans (by decide +kernel))
def LRX9_meet_8 : List UInt8 := []
def LBX9_meet_7 : List UInt8 := [0x12, 0x60, 0xb6, 0x00, 0x46, 0xa7, 0x00, 0x05, 0x15, 0x04, 0xac]
def LRX9_meet_7 : List UInt8 := LBX9_meet_7 ++ LRX9_meet_8
def LBX9_meet_6 : List UInt8 := [0x15, 0x07, 0x36, 0x05, 0x84, 0x06, 0x01, 0xa7, 0xff, 0xd8, 0x15, 0x04, 0x9c, 0x00, 0x0c, 0x2a]
def LRX9_meet_6 : List UInt8 := LBX9_meet_6 ++ LRX9_meet_7
def LBX9_meet_5 : List UInt8 := [0xb6, 0x00, 0xae, 0x36, 0x07, 0x15, 0x07, 0x15, 0x05, 0xa2, 0x00, 0x0b, 0x15, 0x06, 0x36, 0x04]
def LRX9_meet_5 : List UInt8 := LBX9_meet_5 ++ LRX9_meet_6
def LBX9_meet_4 : List UInt8 := [0x06, 0x2a, 0xb4, 0x00, 0x07, 0x03, 0x2e, 0xa2, 0x00, 0x23, 0x2a, 0x1b, 0x1c, 0x15, 0x06, 0x1d]
def LRX9_meet_4 : List UInt8 := LBX9_meet_4 ++ LRX9_meet_5
def LBX9_meet_3 : List UInt8 := [0x74, 0xb6, 0x00, 0x46, 0xac, 0x02, 0x36, 0x04, 0x12, 0x68, 0x36, 0x05, 0x03, 0x36, 0x06, 0x15]
def LRX9_meet_3 : List UInt8 := LBX9_meet_3 ++ LRX9_meet_4
def LBX9_meet_2 : List UInt8 := [0x00, 0x46, 0xac, 0x2a, 0xb6, 0x00, 0x71, 0x2a, 0xb4, 0x00, 0x6d, 0x99, 0x00, 0x0a, 0x2a, 0x12]
def LRX9_meet_2 : List UInt8 := LBX9_meet_2 ++ LRX9_meet_3
def LBX9_meet_1 : List UInt8 := [0x1d, 0x85, 0x09, 0x14, 0x00, 0x5b, 0xb8, 0x00, 0x39, 0x9a, 0x00, 0x0a, 0x2a, 0x12, 0x38, 0xb6]
def LRX9_meet_1 : List UInt8 := LBX9_meet_1 ++ LRX9_meet_2
def LBX9_meet_0 : List UInt8 := [0x2a, 0x1b, 0xb6, 0x00, 0x3d, 0x99, 0x00, 0x17, 0x2a, 0x1c, 0xb6, 0x00, 0x3d, 0x99, 0x00, 0x0f]
def LRX9_meet_0 : List UInt8 := LBX9_meet_0 ++ LRX9_meet_1
set_option maxRecDepth 100000 in
theorem LBX9_meet_eq : cX9_meet.data.toList = LRX9_meet_0 := by decide +kernel
theorem LBX9_meetr_0 (k : Nat) : cX9_meet.data.toList[0 + k]? = LRX9_meet_0[k]? := by rw [LBX9_meet_eq, Nat.zero_add]
theorem LBX9_meetr_1 (k : Nat) : cX9_meet.data.toList[16 + k]? = LRX9_meet_1[k]? := by
  have h := LBX9_meetr_0 (16 + k)
  rw [show 0 + (16 + k) = 16 + k by omega] at h
  rw [h]
  exact (List.getElem?_append_right (l₁ := LBX9_meet_0) (l₂ := LRX9_meet_1) (show 16 ≤ 16 + k by omega)).trans (congrArg (fun i => LRX9_meet_1[i]?) (show 16 + k - 16 = k by omega))
theorem LBX9_meetr_2 (k : Nat) : cX9_meet.data.toList[32 + k]? = LRX9_meet_2[k]? := by
  have h := LBX9_meetr_1 (16 + k)
  rw [show 16 + (16 + k) = 32 + k by omega] at h
  rw [h]
  exact (List.getElem?_append_right (l₁ := LBX9_meet_1) (l₂ := LRX9_meet_2) (show 16 ≤ 16 + k by omega)).trans (congrArg (fun i => LRX9_meet_2[i]?) (show 16 + k - 16 = k by omega))
theorem LBX9_meetr_3 (k : Nat) : cX9_meet.data.toList[48 + k]? = LRX9_meet_3[k]? := by
  have h := LBX9_meetr_2 (16 + k)
  rw [show 32 + (16 + k) = 48 + k by omega] at h
  rw [h]
  exact (List.getElem?_append_right (l₁ := LBX9_meet_2) (l₂ := LRX9_meet_3) (show 16 ≤ 16 + k by omega)).trans (congrArg (fun i => LRX9_meet_3[i]?) (show 16 + k - 16 = k by omega))
theorem LBX9_meetr_4 (k : Nat) : cX9_meet.data.toList[64 + k]? = LRX9_meet_4[k]? := by
  have h := LBX9_meetr_3 (16 + k)
  rw [show 48 + (16 + k) = 64 + k by omega] at h
  rw [h]
  exact (List.getElem?_append_right (l₁ := LBX9_meet_3) (l₂ := LRX9_meet_4) (show 16 ≤ 16 + k by omega)).trans (congrArg (fun i => LRX9_meet_4[i]?) (show 16 + k - 16 = k by omega))
theorem LBX9_meetr_5 (k : Nat) : cX9_meet.data.toList[80 + k]? = LRX9_meet_5[k]? := by
  have h := LBX9_meetr_4 (16 + k)
  rw [show 64 + (16 + k) = 80 + k by omega] at h
  rw [h]
  exact (List.getElem?_append_right (l₁ := LBX9_meet_4) (l₂ := LRX9_meet_5) (show 16 ≤ 16 + k by omega)).trans (congrArg (fun i => LRX9_meet_5[i]?) (show 16 + k - 16 = k by omega))
theorem LBX9_meetr_6 (k : Nat) : cX9_meet.data.toList[96 + k]? = LRX9_meet_6[k]? := by
  have h := LBX9_meetr_5 (16 + k)
  rw [show 80 + (16 + k) = 96 + k by omega] at h
  rw [h]
  exact (List.getElem?_append_right (l₁ := LBX9_meet_5) (l₂ := LRX9_meet_6) (show 16 ≤ 16 + k by omega)).trans (congrArg (fun i => LRX9_meet_6[i]?) (show 16 + k - 16 = k by omega))
theorem LBX9_meetr_7 (k : Nat) : cX9_meet.data.toList[112 + k]? = LRX9_meet_7[k]? := by
  have h := LBX9_meetr_6 (16 + k)
  rw [show 96 + (16 + k) = 112 + k by omega] at h
  rw [h]
  exact (List.getElem?_append_right (l₁ := LBX9_meet_6) (l₂ := LRX9_meet_7) (show 16 ≤ 16 + k by omega)).trans (congrArg (fun i => LRX9_meet_7[i]?) (show 16 + k - 16 = k by omega))
theorem dX9_meet_0 : decode cX9_meet 0 = .ok (.aload_n 0, 1) := dk_42_ (show cX9_meet.data.toList[0]? = some 0x2a from (LBX9_meetr_0 0).trans (by decide +kernel))
theorem dX9_meet_1 : decode cX9_meet 1 = .ok (.iload_n 1, 1) := dk_27_ (show cX9_meet.data.toList[1]? = some 0x1b from (LBX9_meetr_0 1).trans (by decide +kernel))
theorem dX9_meet_2 : decode cX9_meet 2 = .ok (.invokevirtual 61, 3) := dk_182_ (show cX9_meet.data.toList[2]? = some 0xb6 from (LBX9_meetr_0 2).trans (by decide +kernel)) (show cX9_meet.data.toList[3]? = some 0x00 from (LBX9_meetr_0 3).trans (by decide +kernel)) (show cX9_meet.data.toList[4]? = some 0x3d from (LBX9_meetr_0 4).trans (by decide +kernel)) (by decide)
theorem dX9_meet_5 : decode cX9_meet 5 = .ok (.ifCond .eq 23, 3) := dk_153_ (show cX9_meet.data.toList[5]? = some 0x99 from (LBX9_meetr_0 5).trans (by decide +kernel)) (show cX9_meet.data.toList[6]? = some 0x00 from (LBX9_meetr_0 6).trans (by decide +kernel)) (show cX9_meet.data.toList[7]? = some 0x17 from (LBX9_meetr_0 7).trans (by decide +kernel)) (by decide)
theorem dX9_meet_8 : decode cX9_meet 8 = .ok (.aload_n 0, 1) := dk_42_ (show cX9_meet.data.toList[8]? = some 0x2a from (LBX9_meetr_0 8).trans (by decide +kernel))
theorem dX9_meet_9 : decode cX9_meet 9 = .ok (.iload_n 2, 1) := dk_28_ (show cX9_meet.data.toList[9]? = some 0x1c from (LBX9_meetr_0 9).trans (by decide +kernel))
theorem dX9_meet_10 : decode cX9_meet 10 = .ok (.invokevirtual 61, 3) := dk_182_ (show cX9_meet.data.toList[10]? = some 0xb6 from (LBX9_meetr_0 10).trans (by decide +kernel)) (show cX9_meet.data.toList[11]? = some 0x00 from (LBX9_meetr_0 11).trans (by decide +kernel)) (show cX9_meet.data.toList[12]? = some 0x3d from (LBX9_meetr_0 12).trans (by decide +kernel)) (by decide)
theorem dX9_meet_13 : decode cX9_meet 13 = .ok (.ifCond .eq 15, 3) := dk_153_ (show cX9_meet.data.toList[13]? = some 0x99 from (LBX9_meetr_0 13).trans (by decide +kernel)) (show cX9_meet.data.toList[14]? = some 0x00 from (LBX9_meetr_0 14).trans (by decide +kernel)) (show cX9_meet.data.toList[15]? = some 0x0f from (LBX9_meetr_0 15).trans (by decide +kernel)) (by decide)
theorem dX9_meet_16 : decode cX9_meet 16 = .ok (.iload_n 3, 1) := dk_29_ (show cX9_meet.data.toList[16]? = some 0x1d from (LBX9_meetr_1 0).trans (by decide +kernel))
theorem dX9_meet_17 : decode cX9_meet 17 = .ok (.i2l, 1) := dk_133_ (show cX9_meet.data.toList[17]? = some 0x85 from (LBX9_meetr_1 1).trans (by decide +kernel))
theorem dX9_meet_18 : decode cX9_meet 18 = .ok (.lconst 0, 1) := dk_9_ (show cX9_meet.data.toList[18]? = some 0x09 from (LBX9_meetr_1 2).trans (by decide +kernel))
theorem dX9_meet_19 : decode cX9_meet 19 = .ok (.ldc2_w 91, 3) := dk_20_ (show cX9_meet.data.toList[19]? = some 0x14 from (LBX9_meetr_1 3).trans (by decide +kernel)) (show cX9_meet.data.toList[20]? = some 0x00 from (LBX9_meetr_1 4).trans (by decide +kernel)) (show cX9_meet.data.toList[21]? = some 0x5b from (LBX9_meetr_1 5).trans (by decide +kernel)) (by decide)
theorem dX9_meet_22 : decode cX9_meet 22 = .ok (.invokestatic 57, 3) := dk_184_ (show cX9_meet.data.toList[22]? = some 0xb8 from (LBX9_meetr_1 6).trans (by decide +kernel)) (show cX9_meet.data.toList[23]? = some 0x00 from (LBX9_meetr_1 7).trans (by decide +kernel)) (show cX9_meet.data.toList[24]? = some 0x39 from (LBX9_meetr_1 8).trans (by decide +kernel)) (by decide)
theorem dX9_meet_25 : decode cX9_meet 25 = .ok (.ifCond .ne 10, 3) := dk_154_ (show cX9_meet.data.toList[25]? = some 0x9a from (LBX9_meetr_1 9).trans (by decide +kernel)) (show cX9_meet.data.toList[26]? = some 0x00 from (LBX9_meetr_1 10).trans (by decide +kernel)) (show cX9_meet.data.toList[27]? = some 0x0a from (LBX9_meetr_1 11).trans (by decide +kernel)) (by decide)
theorem dX9_meet_28 : decode cX9_meet 28 = .ok (.aload_n 0, 1) := dk_42_ (show cX9_meet.data.toList[28]? = some 0x2a from (LBX9_meetr_1 12).trans (by decide +kernel))
theorem dX9_meet_29 : decode cX9_meet 29 = .ok (.ldc 56, 2) := dk_18_ (show cX9_meet.data.toList[29]? = some 0x12 from (LBX9_meetr_1 13).trans (by decide +kernel)) (show cX9_meet.data.toList[30]? = some 0x38 from (LBX9_meetr_1 14).trans (by decide +kernel)) (by decide)
theorem dX9_meet_31 : decode cX9_meet 31 = .ok (.invokevirtual 70, 3) := dk_182_ (show cX9_meet.data.toList[31]? = some 0xb6 from (LBX9_meetr_1 15).trans (by decide +kernel)) (show cX9_meet.data.toList[32]? = some 0x00 from (LBX9_meetr_2 0).trans (by decide +kernel)) (show cX9_meet.data.toList[33]? = some 0x46 from (LBX9_meetr_2 1).trans (by decide +kernel)) (by decide)
theorem dX9_meet_34 : decode cX9_meet 34 = .ok (.ireturn, 1) := dk_172_ (show cX9_meet.data.toList[34]? = some 0xac from (LBX9_meetr_2 2).trans (by decide +kernel))
theorem dX9_meet_35 : decode cX9_meet 35 = .ok (.aload_n 0, 1) := dk_42_ (show cX9_meet.data.toList[35]? = some 0x2a from (LBX9_meetr_2 3).trans (by decide +kernel))
theorem dX9_meet_36 : decode cX9_meet 36 = .ok (.invokevirtual 113, 3) := dk_182_ (show cX9_meet.data.toList[36]? = some 0xb6 from (LBX9_meetr_2 4).trans (by decide +kernel)) (show cX9_meet.data.toList[37]? = some 0x00 from (LBX9_meetr_2 5).trans (by decide +kernel)) (show cX9_meet.data.toList[38]? = some 0x71 from (LBX9_meetr_2 6).trans (by decide +kernel)) (by decide)
theorem dX9_meet_39 : decode cX9_meet 39 = .ok (.aload_n 0, 1) := dk_42_ (show cX9_meet.data.toList[39]? = some 0x2a from (LBX9_meetr_2 7).trans (by decide +kernel))
theorem dX9_meet_40 : decode cX9_meet 40 = .ok (.getfield 109, 3) := dk_180_ (show cX9_meet.data.toList[40]? = some 0xb4 from (LBX9_meetr_2 8).trans (by decide +kernel)) (show cX9_meet.data.toList[41]? = some 0x00 from (LBX9_meetr_2 9).trans (by decide +kernel)) (show cX9_meet.data.toList[42]? = some 0x6d from (LBX9_meetr_2 10).trans (by decide +kernel)) (by decide)
theorem dX9_meet_43 : decode cX9_meet 43 = .ok (.ifCond .eq 10, 3) := dk_153_ (show cX9_meet.data.toList[43]? = some 0x99 from (LBX9_meetr_2 11).trans (by decide +kernel)) (show cX9_meet.data.toList[44]? = some 0x00 from (LBX9_meetr_2 12).trans (by decide +kernel)) (show cX9_meet.data.toList[45]? = some 0x0a from (LBX9_meetr_2 13).trans (by decide +kernel)) (by decide)
theorem dX9_meet_46 : decode cX9_meet 46 = .ok (.aload_n 0, 1) := dk_42_ (show cX9_meet.data.toList[46]? = some 0x2a from (LBX9_meetr_2 14).trans (by decide +kernel))
theorem dX9_meet_47 : decode cX9_meet 47 = .ok (.ldc 116, 2) := dk_18_ (show cX9_meet.data.toList[47]? = some 0x12 from (LBX9_meetr_2 15).trans (by decide +kernel)) (show cX9_meet.data.toList[48]? = some 0x74 from (LBX9_meetr_3 0).trans (by decide +kernel)) (by decide)
theorem dX9_meet_49 : decode cX9_meet 49 = .ok (.invokevirtual 70, 3) := dk_182_ (show cX9_meet.data.toList[49]? = some 0xb6 from (LBX9_meetr_3 1).trans (by decide +kernel)) (show cX9_meet.data.toList[50]? = some 0x00 from (LBX9_meetr_3 2).trans (by decide +kernel)) (show cX9_meet.data.toList[51]? = some 0x46 from (LBX9_meetr_3 3).trans (by decide +kernel)) (by decide)
theorem dX9_meet_52 : decode cX9_meet 52 = .ok (.ireturn, 1) := dk_172_ (show cX9_meet.data.toList[52]? = some 0xac from (LBX9_meetr_3 4).trans (by decide +kernel))
theorem dX9_meet_53 : decode cX9_meet 53 = .ok (.iconst (-1), 1) := dk_2_ (show cX9_meet.data.toList[53]? = some 0x02 from (LBX9_meetr_3 5).trans (by decide +kernel))
theorem dX9_meet_54 : decode cX9_meet 54 = .ok (.istore 4, 2) := dk_54_ (show cX9_meet.data.toList[54]? = some 0x36 from (LBX9_meetr_3 6).trans (by decide +kernel)) (show cX9_meet.data.toList[55]? = some 0x04 from (LBX9_meetr_3 7).trans (by decide +kernel)) (by decide)
theorem dX9_meet_56 : decode cX9_meet 56 = .ok (.ldc 104, 2) := dk_18_ (show cX9_meet.data.toList[56]? = some 0x12 from (LBX9_meetr_3 8).trans (by decide +kernel)) (show cX9_meet.data.toList[57]? = some 0x68 from (LBX9_meetr_3 9).trans (by decide +kernel)) (by decide)
theorem dX9_meet_58 : decode cX9_meet 58 = .ok (.istore 5, 2) := dk_54_ (show cX9_meet.data.toList[58]? = some 0x36 from (LBX9_meetr_3 10).trans (by decide +kernel)) (show cX9_meet.data.toList[59]? = some 0x05 from (LBX9_meetr_3 11).trans (by decide +kernel)) (by decide)
theorem dX9_meet_60 : decode cX9_meet 60 = .ok (.iconst 0, 1) := dk_3_ (show cX9_meet.data.toList[60]? = some 0x03 from (LBX9_meetr_3 12).trans (by decide +kernel))
theorem dX9_meet_61 : decode cX9_meet 61 = .ok (.istore 6, 2) := dk_54_ (show cX9_meet.data.toList[61]? = some 0x36 from (LBX9_meetr_3 13).trans (by decide +kernel)) (show cX9_meet.data.toList[62]? = some 0x06 from (LBX9_meetr_3 14).trans (by decide +kernel)) (by decide)
theorem dX9_meet_63 : decode cX9_meet 63 = .ok (.iload 6, 2) := dk_21_ (show cX9_meet.data.toList[63]? = some 0x15 from (LBX9_meetr_3 15).trans (by decide +kernel)) (show cX9_meet.data.toList[64]? = some 0x06 from (LBX9_meetr_4 0).trans (by decide +kernel)) (by decide)
theorem dX9_meet_65 : decode cX9_meet 65 = .ok (.aload_n 0, 1) := dk_42_ (show cX9_meet.data.toList[65]? = some 0x2a from (LBX9_meetr_4 1).trans (by decide +kernel))
theorem dX9_meet_66 : decode cX9_meet 66 = .ok (.getfield 7, 3) := dk_180_ (show cX9_meet.data.toList[66]? = some 0xb4 from (LBX9_meetr_4 2).trans (by decide +kernel)) (show cX9_meet.data.toList[67]? = some 0x00 from (LBX9_meetr_4 3).trans (by decide +kernel)) (show cX9_meet.data.toList[68]? = some 0x07 from (LBX9_meetr_4 4).trans (by decide +kernel)) (by decide)
theorem dX9_meet_69 : decode cX9_meet 69 = .ok (.iconst 0, 1) := dk_3_ (show cX9_meet.data.toList[69]? = some 0x03 from (LBX9_meetr_4 5).trans (by decide +kernel))
theorem dX9_meet_70 : decode cX9_meet 70 = .ok (.iaload, 1) := dk_46_ (show cX9_meet.data.toList[70]? = some 0x2e from (LBX9_meetr_4 6).trans (by decide +kernel))
theorem dX9_meet_71 : decode cX9_meet 71 = .ok (.if_icmp .ge 35, 3) := dk_162_ (show cX9_meet.data.toList[71]? = some 0xa2 from (LBX9_meetr_4 7).trans (by decide +kernel)) (show cX9_meet.data.toList[72]? = some 0x00 from (LBX9_meetr_4 8).trans (by decide +kernel)) (show cX9_meet.data.toList[73]? = some 0x23 from (LBX9_meetr_4 9).trans (by decide +kernel)) (by decide)
theorem dX9_meet_74 : decode cX9_meet 74 = .ok (.aload_n 0, 1) := dk_42_ (show cX9_meet.data.toList[74]? = some 0x2a from (LBX9_meetr_4 10).trans (by decide +kernel))
theorem dX9_meet_75 : decode cX9_meet 75 = .ok (.iload_n 1, 1) := dk_27_ (show cX9_meet.data.toList[75]? = some 0x1b from (LBX9_meetr_4 11).trans (by decide +kernel))
theorem dX9_meet_76 : decode cX9_meet 76 = .ok (.iload_n 2, 1) := dk_28_ (show cX9_meet.data.toList[76]? = some 0x1c from (LBX9_meetr_4 12).trans (by decide +kernel))
theorem dX9_meet_77 : decode cX9_meet 77 = .ok (.iload 6, 2) := dk_21_ (show cX9_meet.data.toList[77]? = some 0x15 from (LBX9_meetr_4 13).trans (by decide +kernel)) (show cX9_meet.data.toList[78]? = some 0x06 from (LBX9_meetr_4 14).trans (by decide +kernel)) (by decide)
theorem dX9_meet_79 : decode cX9_meet 79 = .ok (.iload_n 3, 1) := dk_29_ (show cX9_meet.data.toList[79]? = some 0x1d from (LBX9_meetr_4 15).trans (by decide +kernel))
theorem dX9_meet_80 : decode cX9_meet 80 = .ok (.invokevirtual 174, 3) := dk_182_ (show cX9_meet.data.toList[80]? = some 0xb6 from (LBX9_meetr_5 0).trans (by decide +kernel)) (show cX9_meet.data.toList[81]? = some 0x00 from (LBX9_meetr_5 1).trans (by decide +kernel)) (show cX9_meet.data.toList[82]? = some 0xae from (LBX9_meetr_5 2).trans (by decide +kernel)) (by decide)
theorem dX9_meet_83 : decode cX9_meet 83 = .ok (.istore 7, 2) := dk_54_ (show cX9_meet.data.toList[83]? = some 0x36 from (LBX9_meetr_5 3).trans (by decide +kernel)) (show cX9_meet.data.toList[84]? = some 0x07 from (LBX9_meetr_5 4).trans (by decide +kernel)) (by decide)
theorem dX9_meet_85 : decode cX9_meet 85 = .ok (.iload 7, 2) := dk_21_ (show cX9_meet.data.toList[85]? = some 0x15 from (LBX9_meetr_5 5).trans (by decide +kernel)) (show cX9_meet.data.toList[86]? = some 0x07 from (LBX9_meetr_5 6).trans (by decide +kernel)) (by decide)
theorem dX9_meet_87 : decode cX9_meet 87 = .ok (.iload 5, 2) := dk_21_ (show cX9_meet.data.toList[87]? = some 0x15 from (LBX9_meetr_5 7).trans (by decide +kernel)) (show cX9_meet.data.toList[88]? = some 0x05 from (LBX9_meetr_5 8).trans (by decide +kernel)) (by decide)
theorem dX9_meet_89 : decode cX9_meet 89 = .ok (.if_icmp .ge 11, 3) := dk_162_ (show cX9_meet.data.toList[89]? = some 0xa2 from (LBX9_meetr_5 9).trans (by decide +kernel)) (show cX9_meet.data.toList[90]? = some 0x00 from (LBX9_meetr_5 10).trans (by decide +kernel)) (show cX9_meet.data.toList[91]? = some 0x0b from (LBX9_meetr_5 11).trans (by decide +kernel)) (by decide)
theorem dX9_meet_92 : decode cX9_meet 92 = .ok (.iload 6, 2) := dk_21_ (show cX9_meet.data.toList[92]? = some 0x15 from (LBX9_meetr_5 12).trans (by decide +kernel)) (show cX9_meet.data.toList[93]? = some 0x06 from (LBX9_meetr_5 13).trans (by decide +kernel)) (by decide)
theorem dX9_meet_94 : decode cX9_meet 94 = .ok (.istore 4, 2) := dk_54_ (show cX9_meet.data.toList[94]? = some 0x36 from (LBX9_meetr_5 14).trans (by decide +kernel)) (show cX9_meet.data.toList[95]? = some 0x04 from (LBX9_meetr_5 15).trans (by decide +kernel)) (by decide)
theorem dX9_meet_96 : decode cX9_meet 96 = .ok (.iload 7, 2) := dk_21_ (show cX9_meet.data.toList[96]? = some 0x15 from (LBX9_meetr_6 0).trans (by decide +kernel)) (show cX9_meet.data.toList[97]? = some 0x07 from (LBX9_meetr_6 1).trans (by decide +kernel)) (by decide)
theorem dX9_meet_98 : decode cX9_meet 98 = .ok (.istore 5, 2) := dk_54_ (show cX9_meet.data.toList[98]? = some 0x36 from (LBX9_meetr_6 2).trans (by decide +kernel)) (show cX9_meet.data.toList[99]? = some 0x05 from (LBX9_meetr_6 3).trans (by decide +kernel)) (by decide)
theorem dX9_meet_100 : decode cX9_meet 100 = .ok (.iinc 6 1, 3) := dk_132_ (show cX9_meet.data.toList[100]? = some 0x84 from (LBX9_meetr_6 4).trans (by decide +kernel)) (show cX9_meet.data.toList[101]? = some 0x06 from (LBX9_meetr_6 5).trans (by decide +kernel)) (show cX9_meet.data.toList[102]? = some 0x01 from (LBX9_meetr_6 6).trans (by decide +kernel)) (by decide) (by decide)
theorem dX9_meet_103 : decode cX9_meet 103 = .ok (.goto (-40), 3) := dk_167_ (show cX9_meet.data.toList[103]? = some 0xa7 from (LBX9_meetr_6 7).trans (by decide +kernel)) (show cX9_meet.data.toList[104]? = some 0xff from (LBX9_meetr_6 8).trans (by decide +kernel)) (show cX9_meet.data.toList[105]? = some 0xd8 from (LBX9_meetr_6 9).trans (by decide +kernel)) (by decide)
theorem dX9_meet_106 : decode cX9_meet 106 = .ok (.iload 4, 2) := dk_21_ (show cX9_meet.data.toList[106]? = some 0x15 from (LBX9_meetr_6 10).trans (by decide +kernel)) (show cX9_meet.data.toList[107]? = some 0x04 from (LBX9_meetr_6 11).trans (by decide +kernel)) (by decide)
theorem dX9_meet_108 : decode cX9_meet 108 = .ok (.ifCond .ge 12, 3) := dk_156_ (show cX9_meet.data.toList[108]? = some 0x9c from (LBX9_meetr_6 12).trans (by decide +kernel)) (show cX9_meet.data.toList[109]? = some 0x00 from (LBX9_meetr_6 13).trans (by decide +kernel)) (show cX9_meet.data.toList[110]? = some 0x0c from (LBX9_meetr_6 14).trans (by decide +kernel)) (by decide)
theorem dX9_meet_111 : decode cX9_meet 111 = .ok (.aload_n 0, 1) := dk_42_ (show cX9_meet.data.toList[111]? = some 0x2a from (LBX9_meetr_6 15).trans (by decide +kernel))
theorem dX9_meet_112 : decode cX9_meet 112 = .ok (.ldc 96, 2) := dk_18_ (show cX9_meet.data.toList[112]? = some 0x12 from (LBX9_meetr_7 0).trans (by decide +kernel)) (show cX9_meet.data.toList[113]? = some 0x60 from (LBX9_meetr_7 1).trans (by decide +kernel)) (by decide)
theorem dX9_meet_114 : decode cX9_meet 114 = .ok (.invokevirtual 70, 3) := dk_182_ (show cX9_meet.data.toList[114]? = some 0xb6 from (LBX9_meetr_7 2).trans (by decide +kernel)) (show cX9_meet.data.toList[115]? = some 0x00 from (LBX9_meetr_7 3).trans (by decide +kernel)) (show cX9_meet.data.toList[116]? = some 0x46 from (LBX9_meetr_7 4).trans (by decide +kernel)) (by decide)
theorem dX9_meet_117 : decode cX9_meet 117 = .ok (.goto 5, 3) := dk_167_ (show cX9_meet.data.toList[117]? = some 0xa7 from (LBX9_meetr_7 5).trans (by decide +kernel)) (show cX9_meet.data.toList[118]? = some 0x00 from (LBX9_meetr_7 6).trans (by decide +kernel)) (show cX9_meet.data.toList[119]? = some 0x05 from (LBX9_meetr_7 7).trans (by decide +kernel)) (by decide)
theorem dX9_meet_120 : decode cX9_meet 120 = .ok (.iload 4, 2) := dk_21_ (show cX9_meet.data.toList[120]? = some 0x15 from (LBX9_meetr_7 8).trans (by decide +kernel)) (show cX9_meet.data.toList[121]? = some 0x04 from (LBX9_meetr_7 9).trans (by decide +kernel)) (by decide)
theorem dX9_meet_122 : decode cX9_meet 122 = .ok (.ireturn, 1) := dk_172_ (show cX9_meet.data.toList[122]? = some 0xac from (LBX9_meetr_7 10).trans (by decide +kernel))
theorem uw766 : Cond.methodLink RX9 168 yX9_tripOf ∈ wsU := ut5 (List.mem_of_getElem? (i := 215) rfl) rfl
theorem uw767 : Cond.instanceMethod yX9_tripOf ∈ wsU := ut5 (List.mem_of_getElem? (i := 217) rfl) rfl
theorem uw768 : Cond.selects RX9 yX9_tripOf yX9_tripOf ∈ wsU := us_sel (q := (yX9_tripOf, 27)) (List.mem_of_getElem? (i := 50) (by decide +kernel)) rfl
theorem uw769 : Cond.code yX9_tripOf cX9_tripOf 6 (some .int) ∈ wsU := ut5 (List.mem_of_getElem? (i := 218) rfl) rfl
theorem uw770 : Cond.methodLink RX9 171 yX9_home ∈ wsU := ut5 (List.mem_of_getElem? (i := 211) rfl) rfl
theorem uw771 : Cond.instanceMethod yX9_home ∈ wsU := ut5 (List.mem_of_getElem? (i := 213) rfl) rfl
theorem uw772 : Cond.selects RX9 yX9_home yX9_home ∈ wsU := us_sel (q := (yX9_home, 27)) (List.mem_of_getElem? (i := 49) (by decide +kernel)) rfl
theorem uw773 : Cond.code yX9_home cX9_home 5 (some .int) ∈ wsU := ut5 (List.mem_of_getElem? (i := 214) rfl) rfl
theorem uw774 : Cond.methodLink RX9 174 yX9_meeting ∈ wsU := ut5 (List.mem_of_getElem? (i := 227) rfl) rfl
theorem uw775 : Cond.instanceMethod yX9_meeting ∈ wsU := ut5 (List.mem_of_getElem? (i := 229) rfl) rfl
theorem uw776 : Cond.selects RX9 yX9_meeting yX9_meeting ∈ wsU := us_sel (q := (yX9_meeting, 27)) (List.mem_of_getElem? (i := 51) (by decide +kernel)) rfl
theorem uw777 : Cond.code yX9_meeting cX9_meeting 9 (some .int) ∈ wsU := ut5 (List.mem_of_getElem? (i := 230) rfl) rfl
theorem kv_X9_168 : xWV RX9 168 RX9 yX9_tripOf cX9_tripOf 6 (some .int) 1 := ⟨⟨uw766, uw767, uw768, uw657, uw769⟩, by decide +kernel⟩
theorem kv_X9_171 : xWV RX9 171 RX9 yX9_home cX9_home 5 (some .int) 0 := ⟨⟨uw770, uw771, uw772, uw657, uw773⟩, by decide +kernel⟩
theorem kv_X9_174 : xWV RX9 174 RX9 yX9_meeting cX9_meeting 9 (some .int) 4 := ⟨⟨uw774, uw775, uw776, uw657, uw777⟩, by decide +kernel⟩
set_option maxHeartbeats 4000000 in
set_option maxRecDepth 100000 in
theorem c_X9_tripOf (l : Launch) (D : va_G) (cI cJ cZ cS : ClassId) (ta : Nat) (sa sv : Nat → Nat) (sz : Nat) (h0 : Nat) (ys : Nat) (yk : Nat) (yo : Nat) (yt : Nat) (mk0 : Int32) (yfa : Nat) (yfe : Nat) (mL : Int32) (mS : Int32) (mM : Int32) (yro : Nat) (yhe : Nat) (ygr : Nat) (mF : Int32) (mC : Int32) (mY : Int32) (yta : Nat) (mz : Nat) (mf : Nat) (mt : Nat) (mv : Int32) (mw : Int32) (ywa : Nat) (ybi : Nat) (ysi : Nat) (ynu : Nat) (ymo : Nat) (ms : Nat → Int32) (fa : Nat → Int32) (P : Nat) (Rn : Nat) (Wn : Nat) (fae : Nat → Int32) (fal : Nat → Int32) (fau : Nat → Int32) (fao : Nat → Int32) (farn : Nat → Int32) (farp : Nat → Int32) (fak : Nat → Int32) (fawn : Nat → Int32) (fawp : Nat → Int32) (fat : Nat → Int32) (fas : Nat → Int32) (j : Nat) (hj : j < 10) (hs0 : ms 0 = nI P) (hs1 : ms 1 = nI Rn) (hs2 : ms 2 = nI Wn) (hsS : SI ms) (hsM : MI ms) (hsp : P ≤ 10) (hsr : Rn ≤ 8) (hsw : Wn ≤ 8) (hsR : RI Rn ms) (hsG : FR P ms fae fal fau fao farn farp fak fawn fawp fat fas) : Met l yX9_tripOf (Cond.code yX9_tripOf cX9_tripOf 6 (some .int) :: wsU) ({ frames := 1, cells := 0, slots := 0, locals := 21 }) (va_Pc [.ref h0, .int (nI (j))] (XW D (xT cI cJ cZ cS) ta sa sv [(h0, .inr (9, [.ref ys, .ref yk, .ref yo, .ref yt, .int mk0, .ref yfa, .ref yfe, .int mL, .int mS, .int mM, .ref yro, .ref yhe, .ref ygr, .int mF, .int mC, .int mY, .ref yta, .int (nI (mz)), .int (nI (mf)), .int (nI (mt)), .int mv, .int mw, .ref ywa, .ref ybi, .ref ysi, .ref ynu, .ref ymo])), (ys, .inl (cI, 449, .inl ms)), (yfa, .inl (cI, 100, .inl fa))] sz)) (XQi (fun (r : Int32) (mS2 : Int32) => (True)) D (fun (mS2 : Int32) => [(h0, .inr (9, [.ref ys, .ref yk, .ref yo, .ref yt, .int mk0, .ref yfa, .ref yfe, .int mL, .int mS2, .int mM, .ref yro, .ref yhe, .ref ygr, .int mF, .int mC, .int mY, .ref yta, .int (nI (mz)), .int (nI (mf)), .int (nI (mt)), .int mv, .int mw, .ref ywa, .ref ybi, .ref ysi, .ref ynu, .ref ymo])), (ys, .inl (cI, 449, .inl ms)), (yfa, .inl (cI, 100, .inl fa))]) (va_A [(h0, .inr (9, [.ref ys, .ref yk, .ref yo, .ref yt, .int mk0, .ref yfa, .ref yfe, .int mL, .int mS, .int mM, .ref yro, .ref yhe, .ref ygr, .int mF, .int mC, .int mY, .ref yta, .int (nI (mz)), .int (nI (mf)), .int (nI (mt)), .int mv, .int mw, .ref ywa, .ref ybi, .ref ysi, .ref ynu, .ref ymo])), (ys, .inl (cI, 449, .inl ms)), (yfa, .inl (cI, 100, .inl fa))] sz)) 0 0 (va_A [(h0, .inr (9, [.ref ys, .ref yk, .ref yo, .ref yt, .int mk0, .ref yfa, .ref yfe, .int mL, .int mS, .int mM, .ref yro, .ref yhe, .ref ygr, .int mF, .int mC, .int mY, .ref yta, .int (nI (mz)), .int (nI (mf)), .int (nI (mt)), .int mv, .int mw, .ref ywa, .ref ybi, .ref ysi, .ref ynu, .ref ymo])), (ys, .inl (cI, 449, .inl ms)), (yfa, .inl (cI, 100, .inl fa))] sz) := by
  refine xh (QA := fun A => XQi (fun (r : Int32) (mS2 : Int32) => (True)) D (fun (mS2 : Int32) => [(h0, .inr (9, [.ref ys, .ref yk, .ref yo, .ref yt, .int mk0, .ref yfa, .ref yfe, .int mL, .int mS2, .int mM, .ref yro, .ref yhe, .ref ygr, .int mF, .int mC, .int mY, .ref yta, .int (nI (mz)), .int (nI (mf)), .int (nI (mt)), .int mv, .int mw, .ref ywa, .ref ybi, .ref ysi, .ref ynu, .ref ymo])), (ys, .inl (cI, 449, .inl ms)), (yfa, .inl (cI, 100, .inl fa))]) A) (fr := fun A => A) (by decide) (Nat.le_of_ble_eq_true rfl) ?_
  intro p e s m below meth c ls A hF hr hlk hin hsz hP hK hD hN hZ hA hS hl
  have hF : CallFix p m c cX9_tripOf 6 s _ _ RX9 := hF
  have hx := hF.1
  have hb := hF.2.1
  have hml := hF.2.2.1
  have hown := hF.2.2.2.1
  have hu : ∀ w ∈ wsU, w.before _ s = true := fun w h => hF.2.2.2.2 w (List.mem_cons_of_mem _ h)
  have hl : lv_has ls 6 [(0, .ref h0), (1, .int (nI (j)))] := hl
  refine lv_aload_n hx hb dX9_tripOf_0 rfl (lv_at hl 0 rfl) ?_
  refine lv_iconst (v := 0) hx hb dX9_tripOf_1 (by decide) ?_
  refine xp hF kf_X9_126 tyX9_ok nmX9 hK hP hD hS 0 rfl rfl rfl rfl (Nat.le_of_ble_eq_true rfl) dX9_tripOf_2 (fun H locs hP hD hS => ?_)
  have hP : va_P D vwCl [(h0, .inr (9, [.ref ys, .ref yk, .ref yo, .ref yt, .int mk0, .ref yfa, .ref yfe, .int mL, .int 0, .int mM, .ref yro, .ref yhe, .ref ygr, .int mF, .int mC, .int mY, .ref yta, .int (nI (mz)), .int (nI (mf)), .int (nI (mt)), .int mv, .int mw, .ref ywa, .ref ybi, .ref ysi, .ref ynu, .ref ymo])), (ys, .inl (cI, 449, .inl ms)), (yfa, .inl (cI, 100, .inl fa))] H := hP
  have hD : va_D A [(h0, .inr (9, [.ref ys, .ref yk, .ref yo, .ref yt, .int mk0, .ref yfa, .ref yfe, .int mL, .int 0, .int mM, .ref yro, .ref yhe, .ref ygr, .int mF, .int mC, .int mY, .ref yta, .int (nI (mz)), .int (nI (mf)), .int (nI (mt)), .int mv, .int mw, .ref ywa, .ref ybi, .ref ysi, .ref ynu, .ref ymo])), (ys, .inl (cI, 449, .inl ms)), (yfa, .inl (cI, 100, .inl fa))] := hD
  refine lv_iconst (v := 0) hx hb dX9_tripOf_5 (by decide) ?_
  refine lv_istore_n (lv' := [(2, .int 0), (0, .ref h0), (1, .int (nI (j)))]) hx hb dX9_tripOf_6 rfl hl (by decide) rfl (fun ls hl => ?_)
  suffices loop_7 : ∀ (n_7 : Nat) (i : Nat) (u8 : Int32) (H : Heap) (locs : List Loc) (ls : Array Slot), P - i < n_7 → (i ≤ P) → va_P D vwCl [(h0, .inr (9, [.ref ys, .ref yk, .ref yo, .ref yt, .int mk0, .ref yfa, .ref yfe, .int mL, .int u8, .int mM, .ref yro, .ref yhe, .ref ygr, .int mF, .int mC, .int mY, .ref yta, .int (nI (mz)), .int (nI (mf)), .int (nI (mt)), .int mv, .int mw, .ref ywa, .ref ybi, .ref ysi, .ref ynu, .ref ymo])), (ys, .inl (cI, 449, .inl ms)), (yfa, .inl (cI, 100, .inl fa))] H → va_D A [(h0, .inr (9, [.ref ys, .ref yk, .ref yo, .ref yt, .int mk0, .ref yfa, .ref yfe, .int mL, .int u8, .int mM, .ref yro, .ref yhe, .ref ygr, .int mF, .int mC, .int mY, .ref yta, .int (nI (mz)), .int (nI (mf)), .int (nI (mt)), .int mv, .int mw, .ref ywa, .ref ybi, .ref ysi, .ref ynu, .ref ymo])), (ys, .inl (cI, 449, .inl ms)), (yfa, .inl (cI, 100, .inl fa))] → va_S A s.heap H locs → lv_has ls 6 [(2, .int (nI (i))), (0, .ref h0), (1, .int (nI (j)))] → W p l e ({ frames := 1, cells := 0, slots := 0, locals := 21 }) s m ([.ref h0, .int (nI (j))] : List Value).toArray below meth c H locs 0 0 (MQ below (XQi (fun (r : Int32) (mS2 : Int32) => (True)) D (fun (mS2 : Int32) => [(h0, .inr (9, [.ref ys, .ref yk, .ref yo, .ref yt, .int mk0, .ref yfa, .ref yfe, .int mL, .int mS2, .int mM, .ref yro, .ref yhe, .ref ygr, .int mF, .int mC, .int mY, .ref yta, .int (nI (mz)), .int (nI (mf)), .int (nI (mt)), .int mv, .int mw, .ref ywa, .ref ybi, .ref ysi, .ref ynu, .ref ymo])), (ys, .inl (cI, 449, .inl ms)), (yfa, .inl (cI, 100, .inl fa))]) A) ([.ref h0, .int (nI (j))] : List Value).toArray s 0 0 A) (F0 m 7 ls []) by
    exact loop_7 _ 0 0 _ _ _ (Nat.lt_succ_self _) (by omega) hP hD hS (lv_sub hl [0, 1, 2] rfl)
  intro n_7
  induction n_7 with
  | zero =>
    intro i u8 H locs ls hm_7
    exact absurd hm_7 (Nat.not_lt_zero _)
  | succ n_7 ih_7 =>
    intro i u8 H locs ls hm_7 hi hP hD hS hl
    refine lv_iload_n hx hb dX9_tripOf_7 rfl (lv_at hl 0 rfl) ?_
    refine lv_aload_n hx hb dX9_tripOf_8 rfl (lv_at hl 1 rfl) ?_
    refine xg hF kf_X9_7 hK hP 0 rfl rfl dX9_tripOf_9 ?_
    refine lv_iconst (v := 0) hx hb dX9_tripOf_12 (by decide) ?_
    refine va_iald hx hb hK hP 1 0 rfl rfl (xin 0 449 (by decide) (by decide)) dX9_tripOf_13 ?_
    refine xl_i (y := nI (P)) hs0 ?_
    refine lv_icmp_ge (tgt := 92) hx hb dX9_tripOf_14 (by decide) (fun c_1 => ?_) (fun c_1 => ?_)
    · skip
      have nc_1 : P ≤ i := xn_le (a := P) (b := i) (by omega) (by omega) c_1
      refine lv_aload_n hx hb dX9_tripOf_92 rfl (lv_at hl 1 rfl) ?_
      refine xg hF kf_X9_126 hK hP 0 rfl rfl dX9_tripOf_93 ?_
      exact W.iret (v := u8) hx hb hr (fun t ht hW => ⟨⟨u8, u8, rfl, trivial, by rw [ht]; exact hP.sub [0, 1, 2] rfl, hD.sub [0, 1, 2] (by decide) rfl⟩, hS.F ht⟩) hS.2.2 dX9_tripOf_96 hlk
    · skip
      have nc_1 : i < P := xn_nle (a := P) (b := i) (by omega) (by omega) c_1
      refine lv_aload_n hx hb dX9_tripOf_17 rfl (lv_at hl 1 rfl) ?_
      refine xg hF kf_X9_7 hK hP 0 rfl rfl dX9_tripOf_18 ?_
      refine lv_iconst (v := 3) hx hb dX9_tripOf_21 (by decide) ?_
      refine lv_iload_n hx hb dX9_tripOf_22 rfl (lv_at hl 0 rfl) ?_
      refine lv_iadd hx hb dX9_tripOf_23 ?_
      refine xl_i (y := nI (3 + i)) (nI_add 3 i) ?_
      refine va_iald hx hb hK hP 1 0 rfl rfl (vp_in_nI (show 3 + i < 449 by omega) (by decide)) dX9_tripOf_24 ?_
      refine xl_i (y := ms (3 + i)) (congrArg ms (nI_clamp (show 3 + i < 2 ^ 31 by omega))) ?_
      refine lv_istore_n (lv' := [(3, .int (ms (3 + i))), (2, .int (nI (i))), (0, .ref h0), (1, .int (nI (j)))]) hx hb dX9_tripOf_25 rfl hl (by decide) rfl (fun ls hl => ?_)
      refine lv_iload_n hx hb dX9_tripOf_26 rfl (lv_at hl 0 rfl) ?_
      refine lv_if_le (tgt := 86) hx hb dX9_tripOf_27 (by decide) (fun c_2 => ?_) (fun c_2 => ?_)
      · skip
        refine lv_iinc (v := nI (i + 1)) (lv' := [(2, .int (nI (i + 1))), (3, .int (ms (3 + i))), (0, .ref h0), (1, .int (nI (j)))]) hx hb dX9_tripOf_86 hl (k := 1) rfl (nI_1 (i)) (by decide) rfl (fun ls hl => ?_)
        refine lv_goto (tgt := 7) hx hb dX9_tripOf_89 (by decide) ?_
        exact ih_7 (i + 1) u8 _ _ _ (by omega) (by omega) (hP.sub [0, 1, 2] rfl) (hD.sub [0, 1, 2] (by decide) rfl) hS (lv_sub hl [0, 2, 3] rfl)
      · skip
        refine lv_aload_n hx hb dX9_tripOf_30 rfl (lv_at hl 2 rfl) ?_
        refine xg hF kf_X9_22 hK hP 0 rfl rfl dX9_tripOf_31 ?_
        refine lv_bipush (v := 10) hx hb dX9_tripOf_34 (by decide) ?_
        refine lv_iload_n hx hb dX9_tripOf_36 rfl (lv_at hl 3 rfl) ?_
        refine lv_imul hx hb dX9_tripOf_37 ?_
        refine xl_i (y := nI (10 * j)) (pk_mul 10 j) ?_
        refine lv_iload_n hx hb dX9_tripOf_38 rfl (lv_at hl 1 rfl) ?_
        refine lv_iadd hx hb dX9_tripOf_39 ?_
        refine xl_i (y := nI (10 * j + i)) (nI_add (10 * j) i) ?_
        refine va_iald hx hb hK hP 2 0 rfl rfl (vp_in_nI (show 10 * j + i < 100 by omega) (by decide)) dX9_tripOf_40 ?_
        refine xl_i (y := fa (10 * j + i)) (congrArg fa (nI_clamp (show 10 * j + i < 2 ^ 31 by omega))) ?_
        refine lv_istore (lv' := [(4, .int (fa (10 * j + i))), (3, .int (ms (3 + i))), (2, .int (nI (i))), (0, .ref h0), (1, .int (nI (j)))]) hx hb dX9_tripOf_41 hl (by decide) rfl (fun ls hl => ?_)
        refine lv_aload_n hx hb dX9_tripOf_43 rfl (lv_at hl 3 rfl) ?_
        refine xg hF kf_X9_22 hK hP 0 rfl rfl dX9_tripOf_44 ?_
        refine lv_bipush (v := 10) hx hb dX9_tripOf_47 (by decide) ?_
        refine lv_iload_n hx hb dX9_tripOf_49 rfl (lv_at hl 2 rfl) ?_
        refine lv_imul hx hb dX9_tripOf_50 ?_
        refine xl_i (y := nI (10 * i)) (pk_mul 10 i) ?_
        refine lv_iload_n hx hb dX9_tripOf_51 rfl (lv_at hl 4 rfl) ?_
        refine lv_iadd hx hb dX9_tripOf_52 ?_
        refine xl_i (y := nI (10 * i + j)) (nI_add (10 * i) j) ?_
        refine va_iald hx hb hK hP 2 0 rfl rfl (vp_in_nI (show 10 * i + j < 100 by omega) (by decide)) dX9_tripOf_53 ?_
        refine xl_i (y := fa (10 * i + j)) (congrArg fa (nI_clamp (show 10 * i + j < 2 ^ 31 by omega))) ?_
        refine lv_istore (lv' := [(5, .int (fa (10 * i + j))), (4, .int (fa (10 * j + i))), (3, .int (ms (3 + i))), (2, .int (nI (i))), (0, .ref h0), (1, .int (nI (j)))]) hx hb dX9_tripOf_54 hl (by decide) rfl (fun ls hl => ?_)
        refine lv_aload_n hx hb dX9_tripOf_56 rfl (lv_at hl 4 rfl) ?_
        refine lv_iload hx hb dX9_tripOf_57 (lv_at hl 1 rfl) ?_
        refine lv_ldc (v := 100000000) hx hb hown (hu _ uw701) dX9_tripOf_59 ?_
        refine lv_icmp_eq (tgt := 71) hx hb dX9_tripOf_61 (by decide) (fun c_3 => ?_) (fun c_3 => ?_)
        · skip
          refine lv_ldc (v := 100000000) hx hb hown (hu _ uw701) dX9_tripOf_71 ?_
          refine lv_goto (tgt := 83) hx hb dX9_tripOf_73 (by decide) ?_
          refine xc_Vv (wr := [(ys, .inl (cI, 449, .inl ms)), (yfa, .inl (cI, 100, .inl fa))]) hF (c_X9_adds l D cI cJ cZ cS ta sa sv H.size h0 ys yk yo yt mk0 yfa yfe mL u8 mM yro yhe ygr mF mC mY yta mz mf mt mv mw ywa ybi ysi ynu ymo 100000000 ) kv_X9_130 ⟨rfl, rfl, Nat.le_of_ble_eq_true rfl, Nat.le_of_ble_eq_true rfl⟩ ⟨Nat.le_of_ble_eq_true rfl, Nat.le_of_ble_eq_true rfl⟩ hK hN hZ hP hD hS hA [0] [1, 2] rfl rfl rfl rfl (by decide) 0 rfl rfl rfl rfl hl.1 rfl (Nat.le_of_ble_eq_true rfl) dX9_tripOf_83 (fun u_r_4 H locs hw_r_4 hP hD hS => ?_)
          obtain ⟨mS2_5, rfl⟩ : ∃ z, z = u_r_4 := ⟨_, rfl⟩
          try dsimp only at hw_r_4
          have hP : va_P D vwCl [(ys, .inl (cI, 449, .inl ms)), (yfa, .inl (cI, 100, .inl fa)), (h0, .inr (9, [.ref ys, .ref yk, .ref yo, .ref yt, .int mk0, .ref yfa, .ref yfe, .int mL, .int mS2_5, .int mM, .ref yro, .ref yhe, .ref ygr, .int mF, .int mC, .int mY, .ref yta, .int (nI (mz)), .int (nI (mf)), .int (nI (mt)), .int mv, .int mw, .ref ywa, .ref ybi, .ref ysi, .ref ynu, .ref ymo]))] H := hP
          have hD : va_D A [(ys, .inl (cI, 449, .inl ms)), (yfa, .inl (cI, 100, .inl fa)), (h0, .inr (9, [.ref ys, .ref yk, .ref yo, .ref yt, .int mk0, .ref yfa, .ref yfe, .int mL, .int mS2_5, .int mM, .ref yro, .ref yhe, .ref ygr, .int mF, .int mC, .int mY, .ref yta, .int (nI (mz)), .int (nI (mf)), .int (nI (mt)), .int mv, .int mw, .ref ywa, .ref ybi, .ref ysi, .ref ynu, .ref ymo]))] := hD
          refine lv_iinc (v := nI (i + 1)) (lv' := [(2, .int (nI (i + 1))), (5, .int (fa (10 * i + j))), (4, .int (fa (10 * j + i))), (3, .int (ms (3 + i))), (0, .ref h0), (1, .int (nI (j)))]) hx hb dX9_tripOf_86 hl (k := 3) rfl (nI_1 (i)) (by decide) rfl (fun ls hl => ?_)
          refine lv_goto (tgt := 7) hx hb dX9_tripOf_89 (by decide) ?_
          exact ih_7 (i + 1) mS2_5 _ _ _ (by omega) (by omega) (hP.sub [2, 0, 1] rfl) (hD.sub [2, 0, 1] (by decide) rfl) hS (lv_sub hl [0, 4, 5] rfl)
        · skip
          refine lv_iload hx hb dX9_tripOf_64 (lv_at hl 0 rfl) ?_
          refine lv_ldc (v := 100000000) hx hb hown (hu _ uw701) dX9_tripOf_66 ?_
          refine lv_icmp_ne (tgt := 76) hx hb dX9_tripOf_68 (by decide) (fun c_6 => ?_) (fun c_6 => ?_)
          · skip
            refine lv_iload_n hx hb dX9_tripOf_76 rfl (lv_at hl 2 rfl) ?_
            refine lv_iload hx hb dX9_tripOf_77 (lv_at hl 1 rfl) ?_
            refine lv_iload hx hb dX9_tripOf_79 (lv_at hl 0 rfl) ?_
            refine lv_iadd hx hb dX9_tripOf_81 ?_
            refine lv_topi (fun x_7 ex_7 => ?_)
            refine lv_imul hx hb dX9_tripOf_82 ?_
            refine lv_topi (fun x_8 ex_8 => ?_)
            refine xc_Vv (wr := [(ys, .inl (cI, 449, .inl ms)), (yfa, .inl (cI, 100, .inl fa))]) hF (c_X9_adds l D cI cJ cZ cS ta sa sv H.size h0 ys yk yo yt mk0 yfa yfe mL u8 mM yro yhe ygr mF mC mY yta mz mf mt mv mw ywa ybi ysi ynu ymo x_8 ) kv_X9_130 ⟨rfl, rfl, Nat.le_of_ble_eq_true rfl, Nat.le_of_ble_eq_true rfl⟩ ⟨Nat.le_of_ble_eq_true rfl, Nat.le_of_ble_eq_true rfl⟩ hK hN hZ hP hD hS hA [0] [1, 2] rfl rfl rfl rfl (by decide) 0 rfl rfl rfl rfl hl.1 rfl (Nat.le_of_ble_eq_true rfl) dX9_tripOf_83 (fun u_r_9 H locs hw_r_9 hP hD hS => ?_)
            obtain ⟨mS2_10, rfl⟩ : ∃ z, z = u_r_9 := ⟨_, rfl⟩
            try dsimp only at hw_r_9
            have hP : va_P D vwCl [(ys, .inl (cI, 449, .inl ms)), (yfa, .inl (cI, 100, .inl fa)), (h0, .inr (9, [.ref ys, .ref yk, .ref yo, .ref yt, .int mk0, .ref yfa, .ref yfe, .int mL, .int mS2_10, .int mM, .ref yro, .ref yhe, .ref ygr, .int mF, .int mC, .int mY, .ref yta, .int (nI (mz)), .int (nI (mf)), .int (nI (mt)), .int mv, .int mw, .ref ywa, .ref ybi, .ref ysi, .ref ynu, .ref ymo]))] H := hP
            have hD : va_D A [(ys, .inl (cI, 449, .inl ms)), (yfa, .inl (cI, 100, .inl fa)), (h0, .inr (9, [.ref ys, .ref yk, .ref yo, .ref yt, .int mk0, .ref yfa, .ref yfe, .int mL, .int mS2_10, .int mM, .ref yro, .ref yhe, .ref ygr, .int mF, .int mC, .int mY, .ref yta, .int (nI (mz)), .int (nI (mf)), .int (nI (mt)), .int mv, .int mw, .ref ywa, .ref ybi, .ref ysi, .ref ynu, .ref ymo]))] := hD
            refine lv_iinc (v := nI (i + 1)) (lv' := [(2, .int (nI (i + 1))), (5, .int (fa (10 * i + j))), (4, .int (fa (10 * j + i))), (3, .int (ms (3 + i))), (0, .ref h0), (1, .int (nI (j)))]) hx hb dX9_tripOf_86 hl (k := 3) rfl (nI_1 (i)) (by decide) rfl (fun ls hl => ?_)
            refine lv_goto (tgt := 7) hx hb dX9_tripOf_89 (by decide) ?_
            exact ih_7 (i + 1) mS2_10 _ _ _ (by omega) (by omega) (hP.sub [2, 0, 1] rfl) (hD.sub [2, 0, 1] (by decide) rfl) hS (lv_sub hl [0, 4, 5] rfl)
          · skip
            refine lv_ldc (v := 100000000) hx hb hown (hu _ uw701) dX9_tripOf_71 ?_
            refine lv_goto (tgt := 83) hx hb dX9_tripOf_73 (by decide) ?_
            refine xc_Vv (wr := [(ys, .inl (cI, 449, .inl ms)), (yfa, .inl (cI, 100, .inl fa))]) hF (c_X9_adds l D cI cJ cZ cS ta sa sv H.size h0 ys yk yo yt mk0 yfa yfe mL u8 mM yro yhe ygr mF mC mY yta mz mf mt mv mw ywa ybi ysi ynu ymo 100000000 ) kv_X9_130 ⟨rfl, rfl, Nat.le_of_ble_eq_true rfl, Nat.le_of_ble_eq_true rfl⟩ ⟨Nat.le_of_ble_eq_true rfl, Nat.le_of_ble_eq_true rfl⟩ hK hN hZ hP hD hS hA [0] [1, 2] rfl rfl rfl rfl (by decide) 0 rfl rfl rfl rfl hl.1 rfl (Nat.le_of_ble_eq_true rfl) dX9_tripOf_83 (fun u_r_11 H locs hw_r_11 hP hD hS => ?_)
            obtain ⟨mS2_12, rfl⟩ : ∃ z, z = u_r_11 := ⟨_, rfl⟩
            try dsimp only at hw_r_11
            have hP : va_P D vwCl [(ys, .inl (cI, 449, .inl ms)), (yfa, .inl (cI, 100, .inl fa)), (h0, .inr (9, [.ref ys, .ref yk, .ref yo, .ref yt, .int mk0, .ref yfa, .ref yfe, .int mL, .int mS2_12, .int mM, .ref yro, .ref yhe, .ref ygr, .int mF, .int mC, .int mY, .ref yta, .int (nI (mz)), .int (nI (mf)), .int (nI (mt)), .int mv, .int mw, .ref ywa, .ref ybi, .ref ysi, .ref ynu, .ref ymo]))] H := hP
            have hD : va_D A [(ys, .inl (cI, 449, .inl ms)), (yfa, .inl (cI, 100, .inl fa)), (h0, .inr (9, [.ref ys, .ref yk, .ref yo, .ref yt, .int mk0, .ref yfa, .ref yfe, .int mL, .int mS2_12, .int mM, .ref yro, .ref yhe, .ref ygr, .int mF, .int mC, .int mY, .ref yta, .int (nI (mz)), .int (nI (mf)), .int (nI (mt)), .int mv, .int mw, .ref ywa, .ref ybi, .ref ysi, .ref ynu, .ref ymo]))] := hD
            refine lv_iinc (v := nI (i + 1)) (lv' := [(2, .int (nI (i + 1))), (5, .int (fa (10 * i + j))), (4, .int (fa (10 * j + i))), (3, .int (ms (3 + i))), (0, .ref h0), (1, .int (nI (j)))]) hx hb dX9_tripOf_86 hl (k := 3) rfl (nI_1 (i)) (by decide) rfl (fun ls hl => ?_)
            refine lv_goto (tgt := 7) hx hb dX9_tripOf_89 (by decide) ?_
            exact ih_7 (i + 1) mS2_12 _ _ _ (by omega) (by omega) (hP.sub [2, 0, 1] rfl) (hD.sub [2, 0, 1] (by decide) rfl) hS (lv_sub hl [0, 4, 5] rfl)
set_option maxHeartbeats 4000000 in
set_option maxRecDepth 100000 in
theorem c_X9_home (l : Launch) (D : va_G) (cI cJ cZ cS : ClassId) (ta : Nat) (sa sv : Nat → Nat) (sz : Nat) (h0 : Nat) (ys : Nat) (yk : Nat) (yo : Nat) (yt : Nat) (mk0 : Int32) (yfa : Nat) (yfe : Nat) (mL : Int32) (mS : Int32) (mM : Int32) (yro : Nat) (yhe : Nat) (ygr : Nat) (mF : Int32) (mC : Int32) (mY : Int32) (yta : Nat) (mz : Nat) (mf : Nat) (mt : Nat) (mv : Int32) (mw : Int32) (ywa : Nat) (ybi : Nat) (ysi : Nat) (ynu : Nat) (ymo : Nat) (ms : Nat → Int32) (fa : Nat → Int32) (P : Nat) (Rn : Nat) (Wn : Nat) (fae : Nat → Int32) (fal : Nat → Int32) (fau : Nat → Int32) (fao : Nat → Int32) (farn : Nat → Int32) (farp : Nat → Int32) (fak : Nat → Int32) (fawn : Nat → Int32) (fawp : Nat → Int32) (fat : Nat → Int32) (fas : Nat → Int32) (hs0 : ms 0 = nI P) (hs1 : ms 1 = nI Rn) (hs2 : ms 2 = nI Wn) (hsS : SI ms) (hsM : MI ms) (hsp : P ≤ 10) (hsr : Rn ≤ 8) (hsw : Wn ≤ 8) (hsR : RI Rn ms) (hsG : FR P ms fae fal fau fao farn farp fak fawn fawp fat fas) : Met l yX9_home (Cond.code yX9_home cX9_home 5 (some .int) :: wsU) ({ frames := 2, cells := 0, slots := 0, locals := 46 }) (va_Pc [.ref h0] (XW D (xT cI cJ cZ cS) ta sa sv [(h0, .inr (9, [.ref ys, .ref yk, .ref yo, .ref yt, .int mk0, .ref yfa, .ref yfe, .int mL, .int mS, .int mM, .ref yro, .ref yhe, .ref ygr, .int mF, .int mC, .int mY, .ref yta, .int (nI (mz)), .int (nI (mf)), .int (nI (mt)), .int mv, .int mw, .ref ywa, .ref ybi, .ref ysi, .ref ynu, .ref ymo])), (ys, .inl (cI, 449, .inl ms)), (yfa, .inl (cI, 100, .inl fa))] sz)) (XQi (fun (r : Int32) (mS2 : Int32) => ((r = (-1)) ∨ (∃ (y : Nat), r = nI (y) ∧ (y < P)))) D (fun (mS2 : Int32) => [(h0, .inr (9, [.ref ys, .ref yk, .ref yo, .ref yt, .int mk0, .ref yfa, .ref yfe, .int mL, .int mS2, .int mM, .ref yro, .ref yhe, .ref ygr, .int mF, .int mC, .int mY, .ref yta, .int (nI (mz)), .int (nI (mf)), .int (nI (mt)), .int mv, .int mw, .ref ywa, .ref ybi, .ref ysi, .ref ynu, .ref ymo])), (ys, .inl (cI, 449, .inl ms)), (yfa, .inl (cI, 100, .inl fa))]) (va_A [(h0, .inr (9, [.ref ys, .ref yk, .ref yo, .ref yt, .int mk0, .ref yfa, .ref yfe, .int mL, .int mS, .int mM, .ref yro, .ref yhe, .ref ygr, .int mF, .int mC, .int mY, .ref yta, .int (nI (mz)), .int (nI (mf)), .int (nI (mt)), .int mv, .int mw, .ref ywa, .ref ybi, .ref ysi, .ref ynu, .ref ymo])), (ys, .inl (cI, 449, .inl ms)), (yfa, .inl (cI, 100, .inl fa))] sz)) 0 0 (va_A [(h0, .inr (9, [.ref ys, .ref yk, .ref yo, .ref yt, .int mk0, .ref yfa, .ref yfe, .int mL, .int mS, .int mM, .ref yro, .ref yhe, .ref ygr, .int mF, .int mC, .int mY, .ref yta, .int (nI (mz)), .int (nI (mf)), .int (nI (mt)), .int mv, .int mw, .ref ywa, .ref ybi, .ref ysi, .ref ynu, .ref ymo])), (ys, .inl (cI, 449, .inl ms)), (yfa, .inl (cI, 100, .inl fa))] sz) := by
  refine xh (QA := fun A => XQi (fun (r : Int32) (mS2 : Int32) => ((r = (-1)) ∨ (∃ (y : Nat), r = nI (y) ∧ (y < P)))) D (fun (mS2 : Int32) => [(h0, .inr (9, [.ref ys, .ref yk, .ref yo, .ref yt, .int mk0, .ref yfa, .ref yfe, .int mL, .int mS2, .int mM, .ref yro, .ref yhe, .ref ygr, .int mF, .int mC, .int mY, .ref yta, .int (nI (mz)), .int (nI (mf)), .int (nI (mt)), .int mv, .int mw, .ref ywa, .ref ybi, .ref ysi, .ref ynu, .ref ymo])), (ys, .inl (cI, 449, .inl ms)), (yfa, .inl (cI, 100, .inl fa))]) A) (fr := fun A => A) (by decide) (Nat.le_of_ble_eq_true rfl) ?_
  intro p e s m below meth c ls A hF hr hlk hin hsz hP hK hD hN hZ hA hS hl
  have hF : CallFix p m c cX9_home 5 s _ _ RX9 := hF
  have hx := hF.1
  have hb := hF.2.1
  have hml := hF.2.2.1
  have hown := hF.2.2.2.1
  have hu : ∀ w ∈ wsU, w.before _ s = true := fun w h => hF.2.2.2.2 w (List.mem_cons_of_mem _ h)
  have hl : lv_has ls 5 [(0, .ref h0)] := hl
  refine lv_iconst (v := (-1)) hx hb dX9_home_0 (by decide) ?_
  refine lv_istore_n (lv' := [(1, .int (-1)), (0, .ref h0)]) hx hb dX9_home_1 rfl hl (by decide) rfl (fun ls hl => ?_)
  refine lv_ldc (v := 100000000) hx hb hown (hu _ uw701) dX9_home_2 ?_
  refine lv_istore_n (lv' := [(2, .int 100000000), (1, .int (-1)), (0, .ref h0)]) hx hb dX9_home_4 rfl hl (by decide) rfl (fun ls hl => ?_)
  refine lv_iconst (v := 0) hx hb dX9_home_5 (by decide) ?_
  refine lv_istore_n (lv' := [(3, .int 0), (2, .int 100000000), (1, .int (-1)), (0, .ref h0)]) hx hb dX9_home_6 rfl hl (by decide) rfl (fun ls hl => ?_)
  suffices loop_7 : ∀ (n_7 : Nat) (i : Nat) (x8 : Int32) (t8 : Int32) (u8 : Int32) (H : Heap) (locs : List Loc) (ls : Array Slot), P - i < n_7 → (i ≤ P) → (x8 = -1 ∨ ∃ y, y < P ∧ x8 = nI y) → va_P D vwCl [(h0, .inr (9, [.ref ys, .ref yk, .ref yo, .ref yt, .int mk0, .ref yfa, .ref yfe, .int mL, .int u8, .int mM, .ref yro, .ref yhe, .ref ygr, .int mF, .int mC, .int mY, .ref yta, .int (nI (mz)), .int (nI (mf)), .int (nI (mt)), .int mv, .int mw, .ref ywa, .ref ybi, .ref ysi, .ref ynu, .ref ymo])), (ys, .inl (cI, 449, .inl ms)), (yfa, .inl (cI, 100, .inl fa))] H → va_D A [(h0, .inr (9, [.ref ys, .ref yk, .ref yo, .ref yt, .int mk0, .ref yfa, .ref yfe, .int mL, .int u8, .int mM, .ref yro, .ref yhe, .ref ygr, .int mF, .int mC, .int mY, .ref yta, .int (nI (mz)), .int (nI (mf)), .int (nI (mt)), .int mv, .int mw, .ref ywa, .ref ybi, .ref ysi, .ref ynu, .ref ymo])), (ys, .inl (cI, 449, .inl ms)), (yfa, .inl (cI, 100, .inl fa))] → va_S A s.heap H locs → lv_has ls 5 [(3, .int (nI (i))), (2, .int t8), (1, .int x8), (0, .ref h0)] → W p l e ({ frames := 2, cells := 0, slots := 0, locals := 46 }) s m ([.ref h0] : List Value).toArray below meth c H locs 0 0 (MQ below (XQi (fun (r : Int32) (mS2 : Int32) => ((r = (-1)) ∨ (∃ (y : Nat), r = nI (y) ∧ (y < P)))) D (fun (mS2 : Int32) => [(h0, .inr (9, [.ref ys, .ref yk, .ref yo, .ref yt, .int mk0, .ref yfa, .ref yfe, .int mL, .int mS2, .int mM, .ref yro, .ref yhe, .ref ygr, .int mF, .int mC, .int mY, .ref yta, .int (nI (mz)), .int (nI (mf)), .int (nI (mt)), .int mv, .int mw, .ref ywa, .ref ybi, .ref ysi, .ref ynu, .ref ymo])), (ys, .inl (cI, 449, .inl ms)), (yfa, .inl (cI, 100, .inl fa))]) A) ([.ref h0] : List Value).toArray s 0 0 A) (F0 m 7 ls []) by
    exact loop_7 _ 0 (-1) 100000000 mS _ _ _ (Nat.lt_succ_self _) (by omega) (Or.inl rfl) hP hD hS (lv_sub hl [0, 1, 2, 3] rfl)
  intro n_7
  induction n_7 with
  | zero =>
    intro i x8 t8 u8 H locs ls hm_7
    exact absurd hm_7 (Nat.not_lt_zero _)
  | succ n_7 ih_7 =>
    intro i x8 t8 u8 H locs ls hm_7 hi hx8 hP hD hS hl
    refine lv_iload_n hx hb dX9_home_7 rfl (lv_at hl 0 rfl) ?_
    refine lv_aload_n hx hb dX9_home_8 rfl (lv_at hl 3 rfl) ?_
    refine xg hF kf_X9_7 hK hP 0 rfl rfl dX9_home_9 ?_
    refine lv_iconst (v := 0) hx hb dX9_home_12 (by decide) ?_
    refine va_iald hx hb hK hP 1 0 rfl rfl (xin 0 449 (by decide) (by decide)) dX9_home_13 ?_
    refine xl_i (y := nI (P)) hs0 ?_
    refine lv_icmp_ge (tgt := 41) hx hb dX9_home_14 (by decide) (fun c_1 => ?_) (fun c_1 => ?_)
    · skip
      have nc_1 : P ≤ i := xn_le (a := P) (b := i) (by omega) (by omega) c_1
      refine lv_iload_n hx hb dX9_home_41 rfl (lv_at hl 2 rfl) ?_
      exact W.iret (v := x8) hx hb hr (fun t ht hW => ⟨⟨x8, u8, rfl, (xoptp hx8), by rw [ht]; exact hP.sub [0, 1, 2] rfl, hD.sub [0, 1, 2] (by decide) rfl⟩, hS.F ht⟩) hS.2.2 dX9_home_42 hlk
    · skip
      have nc_1 : i < P := xn_nle (a := P) (b := i) (by omega) (by omega) c_1
      refine lv_aload_n hx hb dX9_home_17 rfl (lv_at hl 3 rfl) ?_
      refine lv_iload_n hx hb dX9_home_18 rfl (lv_at hl 0 rfl) ?_
      refine xc_Vi (wr := []) hF (c_X9_tripOf l D cI cJ cZ cS ta sa sv H.size h0 ys yk yo yt mk0 yfa yfe mL u8 mM yro yhe ygr mF mC mY yta mz mf mt mv mw ywa ybi ysi ynu ymo ms fa P Rn Wn fae fal fau fao farn farp fak fawn fawp fat fas i (by omega) hs0 hs1 hs2 hsS hsM hsp hsr hsw hsR hsG) kv_X9_168 ⟨rfl, rfl, Nat.le_of_ble_eq_true rfl, Nat.le_of_ble_eq_true rfl⟩ ⟨Nat.le_of_ble_eq_true rfl, Nat.le_of_ble_eq_true rfl⟩ hK hN hZ hP hD hS hA [0, 1, 2] [] rfl rfl rfl rfl (by decide) 0 rfl rfl rfl rfl hl.1 rfl (Nat.le_of_ble_eq_true rfl) dX9_home_19 (fun r_2 u_r_2 H locs hw_r_2 hP hD hS => ?_)
      obtain ⟨mS2_3, rfl⟩ : ∃ z, z = u_r_2 := ⟨_, rfl⟩
      try dsimp only at hw_r_2
      have hP : va_P D vwCl [(h0, .inr (9, [.ref ys, .ref yk, .ref yo, .ref yt, .int mk0, .ref yfa, .ref yfe, .int mL, .int mS2_3, .int mM, .ref yro, .ref yhe, .ref ygr, .int mF, .int mC, .int mY, .ref yta, .int (nI (mz)), .int (nI (mf)), .int (nI (mt)), .int mv, .int mw, .ref ywa, .ref ybi, .ref ysi, .ref ynu, .ref ymo])), (ys, .inl (cI, 449, .inl ms)), (yfa, .inl (cI, 100, .inl fa))] H := hP
      have hD : va_D A [(h0, .inr (9, [.ref ys, .ref yk, .ref yo, .ref yt, .int mk0, .ref yfa, .ref yfe, .int mL, .int mS2_3, .int mM, .ref yro, .ref yhe, .ref ygr, .int mF, .int mC, .int mY, .ref yta, .int (nI (mz)), .int (nI (mf)), .int (nI (mt)), .int mv, .int mw, .ref ywa, .ref ybi, .ref ysi, .ref ynu, .ref ymo])), (ys, .inl (cI, 449, .inl ms)), (yfa, .inl (cI, 100, .inl fa))] := hD
      refine lv_istore (lv' := [(4, .int r_2), (3, .int (nI (i))), (2, .int t8), (1, .int x8), (0, .ref h0)]) hx hb dX9_home_22 hl (by decide) rfl (fun ls hl => ?_)
      refine lv_iload hx hb dX9_home_24 (lv_at hl 0 rfl) ?_
      refine lv_iload_n hx hb dX9_home_26 rfl (lv_at hl 2 rfl) ?_
      refine lv_icmp_ge (tgt := 35) hx hb dX9_home_27 (by decide) (fun c_4 => ?_) (fun c_4 => ?_)
      · skip
        refine lv_iinc (v := nI (i + 1)) (lv' := [(3, .int (nI (i + 1))), (4, .int r_2), (2, .int t8), (1, .int x8), (0, .ref h0)]) hx hb dX9_home_35 hl (k := 1) rfl (nI_1 (i)) (by decide) rfl (fun ls hl => ?_)
        refine lv_goto (tgt := 7) hx hb dX9_home_38 (by decide) ?_
        exact ih_7 (i + 1) x8 t8 mS2_3 _ _ _ (by omega) (by omega) hx8 (hP.sub [0, 1, 2] rfl) (hD.sub [0, 1, 2] (by decide) rfl) hS (lv_sub hl [0, 2, 3, 4] rfl)
      · skip
        refine lv_iload_n hx hb dX9_home_30 rfl (lv_at hl 1 rfl) ?_
        refine lv_istore_n (lv' := [(1, .int (nI (i))), (4, .int r_2), (3, .int (nI (i))), (2, .int t8), (0, .ref h0)]) hx hb dX9_home_31 rfl hl (by decide) rfl (fun ls hl => ?_)
        refine lv_iload hx hb dX9_home_32 (lv_at hl 1 rfl) ?_
        refine lv_istore_n (lv' := [(2, .int r_2), (1, .int (nI (i))), (4, .int r_2), (3, .int (nI (i))), (0, .ref h0)]) hx hb dX9_home_34 rfl hl (by decide) rfl (fun ls hl => ?_)
        refine lv_iinc (v := nI (i + 1)) (lv' := [(3, .int (nI (i + 1))), (2, .int r_2), (1, .int (nI (i))), (4, .int r_2), (0, .ref h0)]) hx hb dX9_home_35 hl (k := 3) rfl (nI_1 (i)) (by decide) rfl (fun ls hl => ?_)
        refine lv_goto (tgt := 7) hx hb dX9_home_38 (by decide) ?_
        exact ih_7 (i + 1) (nI (i)) r_2 mS2_3 _ _ _ (by omega) (by omega) (Or.inr ⟨i, by omega, rfl⟩) (hP.sub [0, 1, 2] rfl) (hD.sub [0, 1, 2] (by decide) rfl) hS (lv_sub hl [0, 1, 2, 4] rfl)
set_option maxHeartbeats 4000000 in
set_option maxRecDepth 100000 in
theorem c_X9_live (l : Launch) (D : va_G) (cI cJ cZ cS : ClassId) (ta : Nat) (sa sv : Nat → Nat) (sz : Nat) (h0 : Nat) (ys : Nat) (yk : Nat) (yo : Nat) (yt : Nat) (mk0 : Int32) (yfa : Nat) (yfe : Nat) (mL : Int32) (mS : Int32) (mM : Int32) (yro : Nat) (yhe : Nat) (ygr : Nat) (mF : Int32) (mC : Int32) (mY : Int32) (yta : Nat) (mz : Nat) (mf : Nat) (mt : Nat) (mv : Int32) (mw : Int32) (ywa : Nat) (ybi : Nat) (ysi : Nat) (ynu : Nat) (ymo : Nat) (ms : Nat → Int32) (fa : Nat → Int32) (fe : Nat → Int32) (mq : Nat → Int32) (P : Nat) (Rn : Nat) (Wn : Nat) (fae : Nat → Int32) (fal : Nat → Int32) (fau : Nat → Int32) (fao : Nat → Int32) (farn : Nat → Int32) (farp : Nat → Int32) (fak : Nat → Int32) (fawn : Nat → Int32) (fawp : Nat → Int32) (fat : Nat → Int32) (fas : Nat → Int32) (hs0 : ms 0 = nI P) (hs1 : ms 1 = nI Rn) (hs2 : ms 2 = nI Wn) (hsS : SI ms) (hsM : MI ms) (hsp : P ≤ 10) (hsr : Rn ≤ 8) (hsw : Wn ≤ 8) (hsR : RI Rn ms) (hsG : FR P ms fae fal fau fao farn farp fak fawn fawp fat fas) : Met l yX9_live (Cond.code yX9_live cX9_live 2 (some .int) :: wsU) ({ frames := 3, cells := 0, slots := 0, locals := 70 }) (va_Pc [.ref h0] (XW D (xT cI cJ cZ cS) ta sa sv [(h0, .inr (9, [.ref ys, .ref yk, .ref yo, .ref yt, .int mk0, .ref yfa, .ref yfe, .int mL, .int mS, .int mM, .ref yro, .ref yhe, .ref ygr, .int mF, .int mC, .int mY, .ref yta, .int (nI (mz)), .int (nI (mf)), .int (nI (mt)), .int mv, .int mw, .ref ywa, .ref ybi, .ref ysi, .ref ynu, .ref ymo])), (ys, .inl (cI, 449, .inl ms)), (yfa, .inl (cI, 100, .inl fa)), (yfe, .inl (cI, 100, .inl fe)), (yt, .inl (cI, 7, .inl mq))] sz)) (XQi (fun (r : Int32) (u : Int32 × Int32 × (Nat → Int32) × (Nat → Int32) × (Nat → Int32)) => match u with | (mL2, mS2, fa2, fe2, mq2) => (True)) D (fun (u : Int32 × Int32 × (Nat → Int32) × (Nat → Int32) × (Nat → Int32)) => match u with | (mL2, mS2, fa2, fe2, mq2) => [(h0, .inr (9, [.ref ys, .ref yk, .ref yo, .ref yt, .int mk0, .ref yfa, .ref yfe, .int mL2, .int mS2, .int mM, .ref yro, .ref yhe, .ref ygr, .int mF, .int mC, .int mY, .ref yta, .int (nI (mz)), .int (nI (mf)), .int (nI (mt)), .int mv, .int mw, .ref ywa, .ref ybi, .ref ysi, .ref ynu, .ref ymo])), (ys, .inl (cI, 449, .inl ms)), (yfa, .inl (cI, 100, .inl fa2)), (yfe, .inl (cI, 100, .inl fe2)), (yt, .inl (cI, 7, .inl mq2))]) (va_A [(h0, .inr (9, [.ref ys, .ref yk, .ref yo, .ref yt, .int mk0, .ref yfa, .ref yfe, .int mL, .int mS, .int mM, .ref yro, .ref yhe, .ref ygr, .int mF, .int mC, .int mY, .ref yta, .int (nI (mz)), .int (nI (mf)), .int (nI (mt)), .int mv, .int mw, .ref ywa, .ref ybi, .ref ysi, .ref ynu, .ref ymo])), (ys, .inl (cI, 449, .inl ms)), (yfa, .inl (cI, 100, .inl fa)), (yfe, .inl (cI, 100, .inl fe)), (yt, .inl (cI, 7, .inl mq))] sz)) 0 0 (va_A [(h0, .inr (9, [.ref ys, .ref yk, .ref yo, .ref yt, .int mk0, .ref yfa, .ref yfe, .int mL, .int mS, .int mM, .ref yro, .ref yhe, .ref ygr, .int mF, .int mC, .int mY, .ref yta, .int (nI (mz)), .int (nI (mf)), .int (nI (mt)), .int mv, .int mw, .ref ywa, .ref ybi, .ref ysi, .ref ynu, .ref ymo])), (ys, .inl (cI, 449, .inl ms)), (yfa, .inl (cI, 100, .inl fa)), (yfe, .inl (cI, 100, .inl fe)), (yt, .inl (cI, 7, .inl mq))] sz) := by
  refine xh (QA := fun A => XQi (fun (r : Int32) (u : Int32 × Int32 × (Nat → Int32) × (Nat → Int32) × (Nat → Int32)) => match u with | (mL2, mS2, fa2, fe2, mq2) => (True)) D (fun (u : Int32 × Int32 × (Nat → Int32) × (Nat → Int32) × (Nat → Int32)) => match u with | (mL2, mS2, fa2, fe2, mq2) => [(h0, .inr (9, [.ref ys, .ref yk, .ref yo, .ref yt, .int mk0, .ref yfa, .ref yfe, .int mL2, .int mS2, .int mM, .ref yro, .ref yhe, .ref ygr, .int mF, .int mC, .int mY, .ref yta, .int (nI (mz)), .int (nI (mf)), .int (nI (mt)), .int mv, .int mw, .ref ywa, .ref ybi, .ref ysi, .ref ynu, .ref ymo])), (ys, .inl (cI, 449, .inl ms)), (yfa, .inl (cI, 100, .inl fa2)), (yfe, .inl (cI, 100, .inl fe2)), (yt, .inl (cI, 7, .inl mq2))]) A) (fr := fun A => A) (by decide) (Nat.le_of_ble_eq_true rfl) ?_
  intro p e s m below meth c ls A hF hr hlk hin hsz hP hK hD hN hZ hA hS hl
  have hF : CallFix p m c cX9_live 2 s _ _ RX9 := hF
  have hx := hF.1
  have hb := hF.2.1
  have hml := hF.2.2.1
  have hown := hF.2.2.2.1
  have hu : ∀ w ∈ wsU, w.before _ s = true := fun w h => hF.2.2.2.2 w (List.mem_cons_of_mem _ h)
  have hl : lv_has ls 2 [(0, .ref h0)] := hl
  refine lv_aload_n hx hb dX9_live_0 rfl (lv_at hl 0 rfl) ?_
  refine xc_Vv (wr := [(yt, .inl (cI, 7, .inl mq))]) hF (c_X9_findFar l D cI cJ cZ cS ta sa sv s.heap.size h0 ys yk yo yt mk0 yfa yfe mL mS mM yro yhe ygr mF mC mY yta mz mf mt mv mw ywa ybi ysi ynu ymo ms fa fe P Rn Wn fae fal fau fao farn farp fak fawn fawp fat fas hs0 hs1 hs2 hsS hsM hsp hsr hsw hsR hsG) kv_X9_113 ⟨rfl, rfl, Nat.le_of_ble_eq_true rfl, Nat.le_of_ble_eq_true rfl⟩ ⟨Nat.le_of_ble_eq_true rfl, Nat.le_of_ble_eq_true rfl⟩ hK hN hZ hP hD hS hA [0, 1, 2, 3] [4] rfl rfl rfl rfl (by decide) 0 rfl rfl rfl rfl hl.1 rfl (Nat.le_of_ble_eq_true rfl) dX9_live_1 (fun u_r_1 H locs hw_r_1 hP hD hS => ?_)
  obtain ⟨mL2_2, fa2_3, fe2_4⟩ := u_r_1
  try dsimp only at hw_r_1
  have i_5 := hw_r_1
  have hP : va_P D vwCl [(yt, .inl (cI, 7, .inl mq)), (h0, .inr (9, [.ref ys, .ref yk, .ref yo, .ref yt, .int mk0, .ref yfa, .ref yfe, .int mL2_2, .int mS, .int mM, .ref yro, .ref yhe, .ref ygr, .int mF, .int mC, .int mY, .ref yta, .int (nI (mz)), .int (nI (mf)), .int (nI (mt)), .int mv, .int mw, .ref ywa, .ref ybi, .ref ysi, .ref ynu, .ref ymo])), (ys, .inl (cI, 449, .inl ms)), (yfa, .inl (cI, 100, .inl fa2_3)), (yfe, .inl (cI, 100, .inl fe2_4))] H := hP
  have hD : va_D A [(yt, .inl (cI, 7, .inl mq)), (h0, .inr (9, [.ref ys, .ref yk, .ref yo, .ref yt, .int mk0, .ref yfa, .ref yfe, .int mL2_2, .int mS, .int mM, .ref yro, .ref yhe, .ref ygr, .int mF, .int mC, .int mY, .ref yta, .int (nI (mz)), .int (nI (mf)), .int (nI (mt)), .int mv, .int mw, .ref ywa, .ref ybi, .ref ysi, .ref ynu, .ref ymo])), (ys, .inl (cI, 449, .inl ms)), (yfa, .inl (cI, 100, .inl fa2_3)), (yfe, .inl (cI, 100, .inl fe2_4))] := hD
  refine lv_aload_n hx hb dX9_live_4 rfl (lv_at hl 0 rfl) ?_
  refine xg hF kf_X9_109 hK hP 1 rfl rfl dX9_live_5 ?_
  refine lv_if_eq (tgt := 18) hx hb dX9_live_8 (by decide) (fun c_6 => ?_) (fun c_6 => ?_)
  · skip
    refine lv_aload_n hx hb dX9_live_18 rfl (lv_at hl 0 rfl) ?_
    refine xc_Vi (wr := [(yt, .inl (cI, 7, .inl mq)), (yfe, .inl (cI, 100, .inl fe2_4))]) hF (c_X9_home l D cI cJ cZ cS ta sa sv H.size h0 ys yk yo yt mk0 yfa yfe mL2_2 mS mM yro yhe ygr mF mC mY yta mz mf mt mv mw ywa ybi ysi ynu ymo ms fa2_3 P Rn Wn fae fal fau fao farn farp fak fawn fawp fat fas hs0 hs1 hs2 hsS hsM hsp hsr hsw hsR hsG) kv_X9_171 ⟨rfl, rfl, Nat.le_of_ble_eq_true rfl, Nat.le_of_ble_eq_true rfl⟩ ⟨Nat.le_of_ble_eq_true rfl, Nat.le_of_ble_eq_true rfl⟩ hK hN hZ hP hD hS hA [1, 2, 3] [0, 4] rfl rfl rfl rfl (by decide) 0 rfl rfl rfl rfl hl.1 rfl (Nat.le_of_ble_eq_true rfl) dX9_live_19 (fun r_7 u_r_7 H locs hw_r_7 hP hD hS => ?_)
    obtain ⟨mS2_8, rfl⟩ : ∃ z, z = u_r_7 := ⟨_, rfl⟩
    try dsimp only at hw_r_7
    have hP : va_P D vwCl [(yt, .inl (cI, 7, .inl mq)), (yfe, .inl (cI, 100, .inl fe2_4)), (h0, .inr (9, [.ref ys, .ref yk, .ref yo, .ref yt, .int mk0, .ref yfa, .ref yfe, .int mL2_2, .int mS2_8, .int mM, .ref yro, .ref yhe, .ref ygr, .int mF, .int mC, .int mY, .ref yta, .int (nI (mz)), .int (nI (mf)), .int (nI (mt)), .int mv, .int mw, .ref ywa, .ref ybi, .ref ysi, .ref ynu, .ref ymo])), (ys, .inl (cI, 449, .inl ms)), (yfa, .inl (cI, 100, .inl fa2_3))] H := hP
    have hD : va_D A [(yt, .inl (cI, 7, .inl mq)), (yfe, .inl (cI, 100, .inl fe2_4)), (h0, .inr (9, [.ref ys, .ref yk, .ref yo, .ref yt, .int mk0, .ref yfa, .ref yfe, .int mL2_2, .int mS2_8, .int mM, .ref yro, .ref yhe, .ref ygr, .int mF, .int mC, .int mY, .ref yta, .int (nI (mz)), .int (nI (mf)), .int (nI (mt)), .int mv, .int mw, .ref ywa, .ref ybi, .ref ysi, .ref ynu, .ref ymo])), (ys, .inl (cI, 449, .inl ms)), (yfa, .inl (cI, 100, .inl fa2_3))] := hD
    rcases hw_r_7 with rfl | ⟨y_9, rfl, h_10⟩
    · skip
      refine lv_istore_n (lv' := [(1, .int (-1)), (0, .ref h0)]) hx hb dX9_live_22 rfl hl (by decide) rfl (fun ls hl => ?_)
      refine lv_iload_n hx hb dX9_live_23 rfl (lv_at hl 0 rfl) ?_
      refine lv_if_ge (tgt := 36) hx hb dX9_live_24 (by decide) (fun c_11 => absurd c_11 (by decide)) (fun c_11 => ?_)
      refine lv_aload_n hx hb dX9_live_27 rfl (lv_at hl 1 rfl) ?_
      refine lv_ldc (v := (-1000000004)) hx hb hown (hu _ uw699) dX9_live_28 ?_
      refine xc_Vi (wr := [(yfe, .inl (cI, 100, .inl fe2_4)), (ys, .inl (cI, 449, .inl ms)), (yfa, .inl (cI, 100, .inl fa2_3))]) hF (c_X9_finds_N l D cI cJ cZ cS ta sa sv H.size h0 ys yk yo yt mk0 yfa yfe mL2_2 mS2_8 mM yro yhe ygr mF mC mY yta mz mf mt mv mw ywa ybi ysi ynu ymo mq ) kv_X9_70 ⟨rfl, rfl, Nat.le_of_ble_eq_true rfl, Nat.le_of_ble_eq_true rfl⟩ ⟨Nat.le_of_ble_eq_true rfl, Nat.le_of_ble_eq_true rfl⟩ hK hN hZ hP hD hS hA [2, 0] [1, 3, 4] rfl rfl rfl rfl (by decide) 0 rfl rfl rfl rfl hl.1 rfl (Nat.le_of_ble_eq_true rfl) dX9_live_30 (fun r_12 u_r_12 H locs hw_r_12 hP hD hS => ?_)
      obtain ⟨mq2_13, rfl⟩ : ∃ z, z = u_r_12 := ⟨_, rfl⟩
      try dsimp only at hw_r_12
      have hP : va_P D vwCl [(yfe, .inl (cI, 100, .inl fe2_4)), (ys, .inl (cI, 449, .inl ms)), (yfa, .inl (cI, 100, .inl fa2_3)), (h0, .inr (9, [.ref ys, .ref yk, .ref yo, .ref yt, .int mk0, .ref yfa, .ref yfe, .int mL2_2, .int mS2_8, .int mM, .ref yro, .ref yhe, .ref ygr, .int mF, .int mC, .int mY, .ref yta, .int (nI (mz)), .int (nI (mf)), .int (nI (mt)), .int mv, .int mw, .ref ywa, .ref ybi, .ref ysi, .ref ynu, .ref ymo])), (yt, .inl (cI, 7, .inl mq2_13))] H := hP
      have hD : va_D A [(yfe, .inl (cI, 100, .inl fe2_4)), (ys, .inl (cI, 449, .inl ms)), (yfa, .inl (cI, 100, .inl fa2_3)), (h0, .inr (9, [.ref ys, .ref yk, .ref yo, .ref yt, .int mk0, .ref yfa, .ref yfe, .int mL2_2, .int mS2_8, .int mM, .ref yro, .ref yhe, .ref ygr, .int mF, .int mC, .int mY, .ref yta, .int (nI (mz)), .int (nI (mf)), .int (nI (mt)), .int mv, .int mw, .ref ywa, .ref ybi, .ref ysi, .ref ynu, .ref ymo])), (yt, .inl (cI, 7, .inl mq2_13))] := hD
      subst hw_r_12
      refine lv_goto (tgt := 37) hx hb dX9_live_33 (by decide) ?_
      exact W.iret (v := (-1000000004)) hx hb hr (fun t ht hW => ⟨⟨(-1000000004), (mL2_2, mS2_8, fa2_3, fe2_4, mq2_13), rfl, trivial, by rw [ht]; exact hP.sub [3, 1, 2, 0, 4] rfl, hD.sub [3, 1, 2, 0, 4] (by decide +kernel) rfl⟩, hS.F ht⟩) hS.2.2 dX9_live_37 hlk
    · skip
      refine lv_istore_n (lv' := [(1, .int (nI (y_9))), (0, .ref h0)]) hx hb dX9_live_22 rfl hl (by decide) rfl (fun ls hl => ?_)
      refine lv_iload_n hx hb dX9_live_23 rfl (lv_at hl 0 rfl) ?_
      refine lv_if_ge (tgt := 36) hx hb dX9_live_24 (by decide) (fun c_14 => ?_) (fun c_14 => by have nc_14 : y_9 < 0 := xn_nle (a := 0) (b := y_9) (by omega) (by omega) c_14; omega)
      have nc_14 : 0 ≤ y_9 := xn_le (a := 0) (b := y_9) (by omega) (by omega) c_14
      refine lv_iload_n hx hb dX9_live_36 rfl (lv_at hl 0 rfl) ?_
      exact W.iret (v := nI (y_9)) hx hb hr (fun t ht hW => ⟨⟨nI (y_9), (mL2_2, mS2_8, fa2_3, fe2_4, mq), rfl, trivial, by rw [ht]; exact hP.sub [2, 3, 4, 1, 0] rfl, hD.sub [2, 3, 4, 1, 0] (by decide +kernel) rfl⟩, hS.F ht⟩) hS.2.2 dX9_live_37 hlk
  · skip
    refine lv_aload_n hx hb dX9_live_11 rfl (lv_at hl 0 rfl) ?_
    refine lv_ldc (v := (-1000000005)) hx hb hown (hu _ uw716) dX9_live_12 ?_
    refine xc_Vi (wr := [(ys, .inl (cI, 449, .inl ms)), (yfa, .inl (cI, 100, .inl fa2_3)), (yfe, .inl (cI, 100, .inl fe2_4))]) hF (c_X9_finds_T l D cI cJ cZ cS ta sa sv H.size h0 ys yk yo yt mk0 yfa yfe mL2_2 mS mM yro yhe ygr mF mC mY yta mz mf mt mv mw ywa ybi ysi ynu ymo mq ) kv_X9_70 ⟨rfl, rfl, Nat.le_of_ble_eq_true rfl, Nat.le_of_ble_eq_true rfl⟩ ⟨Nat.le_of_ble_eq_true rfl, Nat.le_of_ble_eq_true rfl⟩ hK hN hZ hP hD hS hA [1, 0] [2, 3, 4] rfl rfl rfl rfl (by decide) 0 rfl rfl rfl rfl hl.1 rfl (Nat.le_of_ble_eq_true rfl) dX9_live_14 (fun r_15 u_r_15 H locs hw_r_15 hP hD hS => ?_)
    obtain ⟨mq2_16, rfl⟩ : ∃ z, z = u_r_15 := ⟨_, rfl⟩
    try dsimp only at hw_r_15
    have hP : va_P D vwCl [(ys, .inl (cI, 449, .inl ms)), (yfa, .inl (cI, 100, .inl fa2_3)), (yfe, .inl (cI, 100, .inl fe2_4)), (h0, .inr (9, [.ref ys, .ref yk, .ref yo, .ref yt, .int mk0, .ref yfa, .ref yfe, .int mL2_2, .int mS, .int mM, .ref yro, .ref yhe, .ref ygr, .int mF, .int mC, .int mY, .ref yta, .int (nI (mz)), .int (nI (mf)), .int (nI (mt)), .int mv, .int mw, .ref ywa, .ref ybi, .ref ysi, .ref ynu, .ref ymo])), (yt, .inl (cI, 7, .inl mq2_16))] H := hP
    have hD : va_D A [(ys, .inl (cI, 449, .inl ms)), (yfa, .inl (cI, 100, .inl fa2_3)), (yfe, .inl (cI, 100, .inl fe2_4)), (h0, .inr (9, [.ref ys, .ref yk, .ref yo, .ref yt, .int mk0, .ref yfa, .ref yfe, .int mL2_2, .int mS, .int mM, .ref yro, .ref yhe, .ref ygr, .int mF, .int mC, .int mY, .ref yta, .int (nI (mz)), .int (nI (mf)), .int (nI (mt)), .int mv, .int mw, .ref ywa, .ref ybi, .ref ysi, .ref ynu, .ref ymo])), (yt, .inl (cI, 7, .inl mq2_16))] := hD
    subst hw_r_15
    exact W.iret (v := (-1000000005)) hx hb hr (fun t ht hW => ⟨⟨(-1000000005), (mL2_2, mS, fa2_3, fe2_4, mq2_16), rfl, trivial, by rw [ht]; exact hP.sub [3, 0, 1, 2, 4] rfl, hD.sub [3, 0, 1, 2, 4] (by decide +kernel) rfl⟩, hS.F ht⟩) hS.2.2 dX9_live_17 hlk
set_option maxHeartbeats 4000000 in
set_option maxRecDepth 100000 in
theorem c_X9_trip (l : Launch) (D : va_G) (cI cJ cZ cS : ClassId) (ta : Nat) (sa sv : Nat → Nat) (sz : Nat) (h0 : Nat) (ys : Nat) (yk : Nat) (yo : Nat) (yt : Nat) (mk0 : Int32) (yfa : Nat) (yfe : Nat) (mL : Int32) (mS : Int32) (mM : Int32) (yro : Nat) (yhe : Nat) (ygr : Nat) (mF : Int32) (mC : Int32) (mY : Int32) (yta : Nat) (mz : Nat) (mf : Nat) (mt : Nat) (mv : Int32) (mw : Int32) (ywa : Nat) (ybi : Nat) (ysi : Nat) (ynu : Nat) (ymo : Nat) (ms : Nat → Int32) (fa : Nat → Int32) (fe : Nat → Int32) (mq : Nat → Int32) (P : Nat) (Rn : Nat) (Wn : Nat) (fae : Nat → Int32) (fal : Nat → Int32) (fau : Nat → Int32) (fao : Nat → Int32) (farn : Nat → Int32) (farp : Nat → Int32) (fak : Nat → Int32) (fawn : Nat → Int32) (fawp : Nat → Int32) (fat : Nat → Int32) (fas : Nat → Int32) (p0 : Int32) (hs0 : ms 0 = nI P) (hs1 : ms 1 = nI Rn) (hs2 : ms 2 = nI Wn) (hsS : SI ms) (hsM : MI ms) (hsp : P ≤ 10) (hsr : Rn ≤ 8) (hsw : Wn ≤ 8) (hsR : RI Rn ms) (hsG : FR P ms fae fal fau fao farn farp fak fawn fawp fat fas) : Met l yX9_trip (Cond.code yX9_trip cX9_trip 3 (some .int) :: wsU) ({ frames := 2, cells := 0, slots := 0, locals := 52 }) (va_Pc [.ref h0, .int p0] (XW D (xT cI cJ cZ cS) ta sa sv [(h0, .inr (9, [.ref ys, .ref yk, .ref yo, .ref yt, .int mk0, .ref yfa, .ref yfe, .int mL, .int mS, .int mM, .ref yro, .ref yhe, .ref ygr, .int mF, .int mC, .int mY, .ref yta, .int (nI (mz)), .int (nI (mf)), .int (nI (mt)), .int mv, .int mw, .ref ywa, .ref ybi, .ref ysi, .ref ynu, .ref ymo])), (ys, .inl (cI, 449, .inl ms)), (yfa, .inl (cI, 100, .inl fa)), (yfe, .inl (cI, 100, .inl fe)), (yt, .inl (cI, 7, .inl mq))] sz)) (XQi (fun (r : Int32) (u : Int32 × Int32 × (Nat → Int32) × (Nat → Int32) × (Nat → Int32)) => match u with | (mL2, mS2, fa2, fe2, mq2) => (True)) D (fun (u : Int32 × Int32 × (Nat → Int32) × (Nat → Int32) × (Nat → Int32)) => match u with | (mL2, mS2, fa2, fe2, mq2) => [(h0, .inr (9, [.ref ys, .ref yk, .ref yo, .ref yt, .int mk0, .ref yfa, .ref yfe, .int mL2, .int mS2, .int mM, .ref yro, .ref yhe, .ref ygr, .int mF, .int mC, .int mY, .ref yta, .int (nI (mz)), .int (nI (mf)), .int (nI (mt)), .int mv, .int mw, .ref ywa, .ref ybi, .ref ysi, .ref ynu, .ref ymo])), (ys, .inl (cI, 449, .inl ms)), (yfa, .inl (cI, 100, .inl fa2)), (yfe, .inl (cI, 100, .inl fe2)), (yt, .inl (cI, 7, .inl mq2))]) (va_A [(h0, .inr (9, [.ref ys, .ref yk, .ref yo, .ref yt, .int mk0, .ref yfa, .ref yfe, .int mL, .int mS, .int mM, .ref yro, .ref yhe, .ref ygr, .int mF, .int mC, .int mY, .ref yta, .int (nI (mz)), .int (nI (mf)), .int (nI (mt)), .int mv, .int mw, .ref ywa, .ref ybi, .ref ysi, .ref ynu, .ref ymo])), (ys, .inl (cI, 449, .inl ms)), (yfa, .inl (cI, 100, .inl fa)), (yfe, .inl (cI, 100, .inl fe)), (yt, .inl (cI, 7, .inl mq))] sz)) 0 0 (va_A [(h0, .inr (9, [.ref ys, .ref yk, .ref yo, .ref yt, .int mk0, .ref yfa, .ref yfe, .int mL, .int mS, .int mM, .ref yro, .ref yhe, .ref ygr, .int mF, .int mC, .int mY, .ref yta, .int (nI (mz)), .int (nI (mf)), .int (nI (mt)), .int mv, .int mw, .ref ywa, .ref ybi, .ref ysi, .ref ynu, .ref ymo])), (ys, .inl (cI, 449, .inl ms)), (yfa, .inl (cI, 100, .inl fa)), (yfe, .inl (cI, 100, .inl fe)), (yt, .inl (cI, 7, .inl mq))] sz) := by
  refine xh (QA := fun A => XQi (fun (r : Int32) (u : Int32 × Int32 × (Nat → Int32) × (Nat → Int32) × (Nat → Int32)) => match u with | (mL2, mS2, fa2, fe2, mq2) => (True)) D (fun (u : Int32 × Int32 × (Nat → Int32) × (Nat → Int32) × (Nat → Int32)) => match u with | (mL2, mS2, fa2, fe2, mq2) => [(h0, .inr (9, [.ref ys, .ref yk, .ref yo, .ref yt, .int mk0, .ref yfa, .ref yfe, .int mL2, .int mS2, .int mM, .ref yro, .ref yhe, .ref ygr, .int mF, .int mC, .int mY, .ref yta, .int (nI (mz)), .int (nI (mf)), .int (nI (mt)), .int mv, .int mw, .ref ywa, .ref ybi, .ref ysi, .ref ynu, .ref ymo])), (ys, .inl (cI, 449, .inl ms)), (yfa, .inl (cI, 100, .inl fa2)), (yfe, .inl (cI, 100, .inl fe2)), (yt, .inl (cI, 7, .inl mq2))]) A) (fr := fun A => A) (by decide) (Nat.le_of_ble_eq_true rfl) ?_
  intro p e s m below meth c ls A hF hr hlk hin hsz hP hK hD hN hZ hA hS hl
  have hF : CallFix p m c cX9_trip 3 s _ _ RX9 := hF
  have hx := hF.1
  have hb := hF.2.1
  have hml := hF.2.2.1
  have hown := hF.2.2.2.1
  have hu : ∀ w ∈ wsU, w.before _ s = true := fun w h => hF.2.2.2.2 w (List.mem_cons_of_mem _ h)
  have hl : lv_has ls 3 [(0, .ref h0), (1, .int p0)] := hl
  refine lv_aload_n hx hb dX9_trip_0 rfl (lv_at hl 0 rfl) ?_
  refine lv_iload_n hx hb dX9_trip_1 rfl (lv_at hl 1 rfl) ?_
  refine xc_Vr hF (c_X9_isPlace l D cI cJ cZ cS ta sa sv s.heap.size h0 ys yk yo yt mk0 yfa yfe mL mS mM yro yhe ygr mF mC mY yta mz mf mt mv mw ywa ybi ysi ynu ymo ms P Rn Wn fae fal fau fao farn farp fak fawn fawp fat fas p0 hs0 hs1 hs2 hsS hsM hsp hsr hsw hsR hsG) kv_X9_61 ⟨rfl, rfl, Nat.le_of_ble_eq_true rfl, Nat.le_of_ble_eq_true rfl⟩ ⟨Nat.le_of_ble_eq_true rfl, Nat.le_of_ble_eq_true rfl⟩ hK hN hZ hP hD hS hA [0, 1] rfl rfl 0 rfl rfl rfl rfl hl.1 rfl (Nat.le_of_ble_eq_true rfl) dX9_trip_2 (fun r_1 hw_r_1 => ?_)
  rcases hw_r_1 with ⟨k_2, rfl, rfl, h_4⟩ | ⟨rfl, h_5⟩
  · skip
    refine lv_if_ne (tgt := 15) hx hb dX9_trip_5 (by decide) (fun c_6 => ?_) (fun c_6 => absurd c_6 (by decide))
    refine lv_aload_n hx hb dX9_trip_15 rfl (lv_at hl 0 rfl) ?_
    refine xc_Vv (wr := [(yt, .inl (cI, 7, .inl mq))]) hF (c_X9_findFar l D cI cJ cZ cS ta sa sv s.heap.size h0 ys yk yo yt mk0 yfa yfe mL mS mM yro yhe ygr mF mC mY yta mz mf mt mv mw ywa ybi ysi ynu ymo ms fa fe P Rn Wn fae fal fau fao farn farp fak fawn fawp fat fas hs0 hs1 hs2 hsS hsM hsp hsr hsw hsR hsG) kv_X9_113 ⟨rfl, rfl, Nat.le_of_ble_eq_true rfl, Nat.le_of_ble_eq_true rfl⟩ ⟨Nat.le_of_ble_eq_true rfl, Nat.le_of_ble_eq_true rfl⟩ hK hN hZ hP hD hS hA [0, 1, 2, 3] [4] rfl rfl rfl rfl (by decide) 0 rfl rfl rfl rfl hl.1 rfl (Nat.le_of_ble_eq_true rfl) dX9_trip_16 (fun u_r_7 H locs hw_r_7 hP hD hS => ?_)
    obtain ⟨mL2_8, fa2_9, fe2_10⟩ := u_r_7
    try dsimp only at hw_r_7
    have i_11 := hw_r_7
    have hP : va_P D vwCl [(yt, .inl (cI, 7, .inl mq)), (h0, .inr (9, [.ref ys, .ref yk, .ref yo, .ref yt, .int mk0, .ref yfa, .ref yfe, .int mL2_8, .int mS, .int mM, .ref yro, .ref yhe, .ref ygr, .int mF, .int mC, .int mY, .ref yta, .int (nI (mz)), .int (nI (mf)), .int (nI (mt)), .int mv, .int mw, .ref ywa, .ref ybi, .ref ysi, .ref ynu, .ref ymo])), (ys, .inl (cI, 449, .inl ms)), (yfa, .inl (cI, 100, .inl fa2_9)), (yfe, .inl (cI, 100, .inl fe2_10))] H := hP
    have hD : va_D A [(yt, .inl (cI, 7, .inl mq)), (h0, .inr (9, [.ref ys, .ref yk, .ref yo, .ref yt, .int mk0, .ref yfa, .ref yfe, .int mL2_8, .int mS, .int mM, .ref yro, .ref yhe, .ref ygr, .int mF, .int mC, .int mY, .ref yta, .int (nI (mz)), .int (nI (mf)), .int (nI (mt)), .int mv, .int mw, .ref ywa, .ref ybi, .ref ysi, .ref ynu, .ref ymo])), (ys, .inl (cI, 449, .inl ms)), (yfa, .inl (cI, 100, .inl fa2_9)), (yfe, .inl (cI, 100, .inl fe2_10))] := hD
    refine lv_aload_n hx hb dX9_trip_19 rfl (lv_at hl 0 rfl) ?_
    refine xg hF kf_X9_109 hK hP 1 rfl rfl dX9_trip_20 ?_
    refine lv_if_eq (tgt := 33) hx hb dX9_trip_23 (by decide) (fun c_12 => ?_) (fun c_12 => ?_)
    · skip
      refine lv_aload_n hx hb dX9_trip_33 rfl (lv_at hl 0 rfl) ?_
      refine lv_iload_n hx hb dX9_trip_34 rfl (lv_at hl 1 rfl) ?_
      refine xc_Vi (wr := [(yt, .inl (cI, 7, .inl mq)), (yfe, .inl (cI, 100, .inl fe2_10))]) hF (c_X9_tripOf l D cI cJ cZ cS ta sa sv H.size h0 ys yk yo yt mk0 yfa yfe mL2_8 mS mM yro yhe ygr mF mC mY yta mz mf mt mv mw ywa ybi ysi ynu ymo ms fa2_9 P Rn Wn fae fal fau fao farn farp fak fawn fawp fat fas k_2 (by omega) hs0 hs1 hs2 hsS hsM hsp hsr hsw hsR hsG) kv_X9_168 ⟨rfl, rfl, Nat.le_of_ble_eq_true rfl, Nat.le_of_ble_eq_true rfl⟩ ⟨Nat.le_of_ble_eq_true rfl, Nat.le_of_ble_eq_true rfl⟩ hK hN hZ hP hD hS hA [1, 2, 3] [0, 4] rfl rfl rfl rfl (by decide) 0 rfl rfl rfl rfl hl.1 rfl (Nat.le_of_ble_eq_true rfl) dX9_trip_35 (fun r_13 u_r_13 H locs hw_r_13 hP hD hS => ?_)
      obtain ⟨mS2_14, rfl⟩ : ∃ z, z = u_r_13 := ⟨_, rfl⟩
      try dsimp only at hw_r_13
      have hP : va_P D vwCl [(yt, .inl (cI, 7, .inl mq)), (yfe, .inl (cI, 100, .inl fe2_10)), (h0, .inr (9, [.ref ys, .ref yk, .ref yo, .ref yt, .int mk0, .ref yfa, .ref yfe, .int mL2_8, .int mS2_14, .int mM, .ref yro, .ref yhe, .ref ygr, .int mF, .int mC, .int mY, .ref yta, .int (nI (mz)), .int (nI (mf)), .int (nI (mt)), .int mv, .int mw, .ref ywa, .ref ybi, .ref ysi, .ref ynu, .ref ymo])), (ys, .inl (cI, 449, .inl ms)), (yfa, .inl (cI, 100, .inl fa2_9))] H := hP
      have hD : va_D A [(yt, .inl (cI, 7, .inl mq)), (yfe, .inl (cI, 100, .inl fe2_10)), (h0, .inr (9, [.ref ys, .ref yk, .ref yo, .ref yt, .int mk0, .ref yfa, .ref yfe, .int mL2_8, .int mS2_14, .int mM, .ref yro, .ref yhe, .ref ygr, .int mF, .int mC, .int mY, .ref yta, .int (nI (mz)), .int (nI (mf)), .int (nI (mt)), .int mv, .int mw, .ref ywa, .ref ybi, .ref ysi, .ref ynu, .ref ymo])), (ys, .inl (cI, 449, .inl ms)), (yfa, .inl (cI, 100, .inl fa2_9))] := hD
      refine lv_istore_n (lv' := [(2, .int r_13), (0, .ref h0), (1, .int (nI (k_2)))]) hx hb dX9_trip_38 rfl hl (by decide) rfl (fun ls hl => ?_)
      refine lv_iload_n hx hb dX9_trip_39 rfl (lv_at hl 0 rfl) ?_
      refine lv_ldc (v := 100000000) hx hb hown (hu _ uw701) dX9_trip_40 ?_
      refine lv_icmp_ne (tgt := 54) hx hb dX9_trip_42 (by decide) (fun c_15 => ?_) (fun c_15 => ?_)
      · skip
        refine lv_iload_n hx hb dX9_trip_54 rfl (lv_at hl 0 rfl) ?_
        exact W.iret (v := r_13) hx hb hr (fun t ht hW => ⟨⟨r_13, (mL2_8, mS2_14, fa2_9, fe2_10, mq), rfl, trivial, by rw [ht]; exact hP.sub [2, 3, 4, 1, 0] rfl, hD.sub [2, 3, 4, 1, 0] (by decide +kernel) rfl⟩, hS.F ht⟩) hS.2.2 dX9_trip_55 hlk
      · skip
        refine lv_aload_n hx hb dX9_trip_45 rfl (lv_at hl 1 rfl) ?_
        refine lv_ldc (v := (-1000000004)) hx hb hown (hu _ uw699) dX9_trip_46 ?_
        refine xc_Vi (wr := [(yfe, .inl (cI, 100, .inl fe2_10)), (ys, .inl (cI, 449, .inl ms)), (yfa, .inl (cI, 100, .inl fa2_9))]) hF (c_X9_finds_N l D cI cJ cZ cS ta sa sv H.size h0 ys yk yo yt mk0 yfa yfe mL2_8 mS2_14 mM yro yhe ygr mF mC mY yta mz mf mt mv mw ywa ybi ysi ynu ymo mq ) kv_X9_70 ⟨rfl, rfl, Nat.le_of_ble_eq_true rfl, Nat.le_of_ble_eq_true rfl⟩ ⟨Nat.le_of_ble_eq_true rfl, Nat.le_of_ble_eq_true rfl⟩ hK hN hZ hP hD hS hA [2, 0] [1, 3, 4] rfl rfl rfl rfl (by decide) 0 rfl rfl rfl rfl hl.1 rfl (Nat.le_of_ble_eq_true rfl) dX9_trip_48 (fun r_16 u_r_16 H locs hw_r_16 hP hD hS => ?_)
        obtain ⟨mq2_17, rfl⟩ : ∃ z, z = u_r_16 := ⟨_, rfl⟩
        try dsimp only at hw_r_16
        have hP : va_P D vwCl [(yfe, .inl (cI, 100, .inl fe2_10)), (ys, .inl (cI, 449, .inl ms)), (yfa, .inl (cI, 100, .inl fa2_9)), (h0, .inr (9, [.ref ys, .ref yk, .ref yo, .ref yt, .int mk0, .ref yfa, .ref yfe, .int mL2_8, .int mS2_14, .int mM, .ref yro, .ref yhe, .ref ygr, .int mF, .int mC, .int mY, .ref yta, .int (nI (mz)), .int (nI (mf)), .int (nI (mt)), .int mv, .int mw, .ref ywa, .ref ybi, .ref ysi, .ref ynu, .ref ymo])), (yt, .inl (cI, 7, .inl mq2_17))] H := hP
        have hD : va_D A [(yfe, .inl (cI, 100, .inl fe2_10)), (ys, .inl (cI, 449, .inl ms)), (yfa, .inl (cI, 100, .inl fa2_9)), (h0, .inr (9, [.ref ys, .ref yk, .ref yo, .ref yt, .int mk0, .ref yfa, .ref yfe, .int mL2_8, .int mS2_14, .int mM, .ref yro, .ref yhe, .ref ygr, .int mF, .int mC, .int mY, .ref yta, .int (nI (mz)), .int (nI (mf)), .int (nI (mt)), .int mv, .int mw, .ref ywa, .ref ybi, .ref ysi, .ref ynu, .ref ymo])), (yt, .inl (cI, 7, .inl mq2_17))] := hD
        subst hw_r_16
        refine lv_goto (tgt := 55) hx hb dX9_trip_51 (by decide) ?_
        exact W.iret (v := (-1000000004)) hx hb hr (fun t ht hW => ⟨⟨(-1000000004), (mL2_8, mS2_14, fa2_9, fe2_10, mq2_17), rfl, trivial, by rw [ht]; exact hP.sub [3, 1, 2, 0, 4] rfl, hD.sub [3, 1, 2, 0, 4] (by decide +kernel) rfl⟩, hS.F ht⟩) hS.2.2 dX9_trip_55 hlk
    · skip
      refine lv_aload_n hx hb dX9_trip_26 rfl (lv_at hl 0 rfl) ?_
      refine lv_ldc (v := (-1000000005)) hx hb hown (hu _ uw716) dX9_trip_27 ?_
      refine xc_Vi (wr := [(ys, .inl (cI, 449, .inl ms)), (yfa, .inl (cI, 100, .inl fa2_9)), (yfe, .inl (cI, 100, .inl fe2_10))]) hF (c_X9_finds_T l D cI cJ cZ cS ta sa sv H.size h0 ys yk yo yt mk0 yfa yfe mL2_8 mS mM yro yhe ygr mF mC mY yta mz mf mt mv mw ywa ybi ysi ynu ymo mq ) kv_X9_70 ⟨rfl, rfl, Nat.le_of_ble_eq_true rfl, Nat.le_of_ble_eq_true rfl⟩ ⟨Nat.le_of_ble_eq_true rfl, Nat.le_of_ble_eq_true rfl⟩ hK hN hZ hP hD hS hA [1, 0] [2, 3, 4] rfl rfl rfl rfl (by decide) 0 rfl rfl rfl rfl hl.1 rfl (Nat.le_of_ble_eq_true rfl) dX9_trip_29 (fun r_18 u_r_18 H locs hw_r_18 hP hD hS => ?_)
      obtain ⟨mq2_19, rfl⟩ : ∃ z, z = u_r_18 := ⟨_, rfl⟩
      try dsimp only at hw_r_18
      have hP : va_P D vwCl [(ys, .inl (cI, 449, .inl ms)), (yfa, .inl (cI, 100, .inl fa2_9)), (yfe, .inl (cI, 100, .inl fe2_10)), (h0, .inr (9, [.ref ys, .ref yk, .ref yo, .ref yt, .int mk0, .ref yfa, .ref yfe, .int mL2_8, .int mS, .int mM, .ref yro, .ref yhe, .ref ygr, .int mF, .int mC, .int mY, .ref yta, .int (nI (mz)), .int (nI (mf)), .int (nI (mt)), .int mv, .int mw, .ref ywa, .ref ybi, .ref ysi, .ref ynu, .ref ymo])), (yt, .inl (cI, 7, .inl mq2_19))] H := hP
      have hD : va_D A [(ys, .inl (cI, 449, .inl ms)), (yfa, .inl (cI, 100, .inl fa2_9)), (yfe, .inl (cI, 100, .inl fe2_10)), (h0, .inr (9, [.ref ys, .ref yk, .ref yo, .ref yt, .int mk0, .ref yfa, .ref yfe, .int mL2_8, .int mS, .int mM, .ref yro, .ref yhe, .ref ygr, .int mF, .int mC, .int mY, .ref yta, .int (nI (mz)), .int (nI (mf)), .int (nI (mt)), .int mv, .int mw, .ref ywa, .ref ybi, .ref ysi, .ref ynu, .ref ymo])), (yt, .inl (cI, 7, .inl mq2_19))] := hD
      subst hw_r_18
      exact W.iret (v := (-1000000005)) hx hb hr (fun t ht hW => ⟨⟨(-1000000005), (mL2_8, mS, fa2_9, fe2_10, mq2_19), rfl, trivial, by rw [ht]; exact hP.sub [3, 0, 1, 2, 4] rfl, hD.sub [3, 0, 1, 2, 4] (by decide +kernel) rfl⟩, hS.F ht⟩) hS.2.2 dX9_trip_32 hlk
  · skip
    refine lv_if_ne (tgt := 15) hx hb dX9_trip_5 (by decide) (fun c_20 => absurd (by decide) c_20) (fun c_20 => ?_)
    refine lv_aload_n hx hb dX9_trip_8 rfl (lv_at hl 0 rfl) ?_
    refine lv_ldc (v := (-1000000001)) hx hb hown (hu _ uw648) dX9_trip_9 ?_
    refine xc_Vi (wr := [(ys, .inl (cI, 449, .inl ms)), (yfa, .inl (cI, 100, .inl fa)), (yfe, .inl (cI, 100, .inl fe))]) hF (c_X9_finds_B l D cI cJ cZ cS ta sa sv s.heap.size h0 ys yk yo yt mk0 yfa yfe mL mS mM yro yhe ygr mF mC mY yta mz mf mt mv mw ywa ybi ysi ynu ymo mq ) kv_X9_70 ⟨rfl, rfl, Nat.le_of_ble_eq_true rfl, Nat.le_of_ble_eq_true rfl⟩ ⟨Nat.le_of_ble_eq_true rfl, Nat.le_of_ble_eq_true rfl⟩ hK hN hZ hP hD hS hA [0, 4] [1, 2, 3] rfl rfl rfl rfl (by decide) 0 rfl rfl rfl rfl hl.1 rfl (Nat.le_of_ble_eq_true rfl) dX9_trip_11 (fun r_21 u_r_21 H locs hw_r_21 hP hD hS => ?_)
    obtain ⟨mq2_22, rfl⟩ : ∃ z, z = u_r_21 := ⟨_, rfl⟩
    try dsimp only at hw_r_21
    have hP : va_P D vwCl [(ys, .inl (cI, 449, .inl ms)), (yfa, .inl (cI, 100, .inl fa)), (yfe, .inl (cI, 100, .inl fe)), (h0, .inr (9, [.ref ys, .ref yk, .ref yo, .ref yt, .int mk0, .ref yfa, .ref yfe, .int mL, .int mS, .int mM, .ref yro, .ref yhe, .ref ygr, .int mF, .int mC, .int mY, .ref yta, .int (nI (mz)), .int (nI (mf)), .int (nI (mt)), .int mv, .int mw, .ref ywa, .ref ybi, .ref ysi, .ref ynu, .ref ymo])), (yt, .inl (cI, 7, .inl mq2_22))] H := hP
    have hD : va_D A [(ys, .inl (cI, 449, .inl ms)), (yfa, .inl (cI, 100, .inl fa)), (yfe, .inl (cI, 100, .inl fe)), (h0, .inr (9, [.ref ys, .ref yk, .ref yo, .ref yt, .int mk0, .ref yfa, .ref yfe, .int mL, .int mS, .int mM, .ref yro, .ref yhe, .ref ygr, .int mF, .int mC, .int mY, .ref yta, .int (nI (mz)), .int (nI (mf)), .int (nI (mt)), .int mv, .int mw, .ref ywa, .ref ybi, .ref ysi, .ref ynu, .ref ymo])), (yt, .inl (cI, 7, .inl mq2_22))] := hD
    subst hw_r_21
    exact W.iret (v := (-1000000001)) hx hb hr (fun t ht hW => ⟨⟨(-1000000001), (mL, mS, fa, fe, mq2_22), rfl, trivial, by rw [ht]; exact hP.sub [3, 0, 1, 2, 4] rfl, hD.sub [3, 0, 1, 2, 4] (by decide +kernel) rfl⟩, hS.F ht⟩) hS.2.2 dX9_trip_14 hlk
set_option maxHeartbeats 4000000 in
set_option maxRecDepth 100000 in
theorem c_X9_meeting (l : Launch) (D : va_G) (cI cJ cZ cS : ClassId) (ta : Nat) (sa sv : Nat → Nat) (sz : Nat) (h0 : Nat) (ys : Nat) (yk : Nat) (yo : Nat) (yt : Nat) (mk0 : Int32) (yfa : Nat) (yfe : Nat) (mL : Int32) (mS : Int32) (mM : Int32) (yro : Nat) (yhe : Nat) (ygr : Nat) (mF : Int32) (mC : Int32) (mY : Int32) (yta : Nat) (mz : Nat) (mf : Nat) (mt : Nat) (mv : Int32) (mw : Int32) (ywa : Nat) (ybi : Nat) (ysi : Nat) (ynu : Nat) (ymo : Nat) (fa : Nat → Int32) (j : Nat) (k : Nat) (j3 : Nat) (p0 : Int32) (hj : j < 10) (hj3 : j3 < 10) (hk : k < 10) : Met l yX9_meeting (Cond.code yX9_meeting cX9_meeting 9 (some .int) :: wsU) ({ frames := 0, cells := 0, slots := 0, locals := 0 }) (va_Pc [.ref h0, .int (nI (j)), .int (nI (k)), .int (nI (j3)), .int p0] (XW D (xT cI cJ cZ cS) ta sa sv [(h0, .inr (9, [.ref ys, .ref yk, .ref yo, .ref yt, .int mk0, .ref yfa, .ref yfe, .int mL, .int mS, .int mM, .ref yro, .ref yhe, .ref ygr, .int mF, .int mC, .int mY, .ref yta, .int (nI (mz)), .int (nI (mf)), .int (nI (mt)), .int mv, .int mw, .ref ywa, .ref ybi, .ref ysi, .ref ynu, .ref ymo])), (yfa, .inl (cI, 100, .inl fa))] sz)) (vp_Si (fun r : Int32 => True)) 0 0 (fun _ => False) := by
  refine xh (QA := fun _ => vp_Si (fun r : Int32 => True)) (fr := fun _ _ => False) (by decide) (Nat.le_of_ble_eq_true rfl) ?_
  intro p e s m below meth c ls A hF hr hlk hin hsz hP hK hD hN hZ hA hS hl
  have hF : CallFix p m c cX9_meeting 9 s _ _ RX9 := hF
  have hx := hF.1
  have hb := hF.2.1
  have hml := hF.2.2.1
  have hown := hF.2.2.2.1
  have hu : ∀ w ∈ wsU, w.before _ s = true := fun w h => hF.2.2.2.2 w (List.mem_cons_of_mem _ h)
  have hl : lv_has ls 9 [(0, .ref h0), (1, .int (nI (j))), (2, .int (nI (k))), (3, .int (nI (j3))), (4, .int p0)] := hl
  refine lv_aload_n hx hb dX9_meeting_0 rfl (lv_at hl 0 rfl) ?_
  refine xg hF kf_X9_22 hK hP 0 rfl rfl dX9_meeting_1 ?_
  refine lv_bipush (v := 10) hx hb dX9_meeting_4 (by decide) ?_
  refine lv_iload_n hx hb dX9_meeting_6 rfl (lv_at hl 1 rfl) ?_
  refine lv_imul hx hb dX9_meeting_7 ?_
  refine xl_i (y := nI (10 * j)) (pk_mul 10 j) ?_
  refine lv_iload_n hx hb dX9_meeting_8 rfl (lv_at hl 3 rfl) ?_
  refine lv_iadd hx hb dX9_meeting_9 ?_
  refine xl_i (y := nI (10 * j + j3)) (nI_add (10 * j) j3) ?_
  refine va_iald hx hb hK hP 1 0 rfl rfl (vp_in_nI (show 10 * j + j3 < 100 by omega) (by decide)) dX9_meeting_10 ?_
  refine xl_i (y := fa (10 * j + j3)) (congrArg fa (nI_clamp (show 10 * j + j3 < 2 ^ 31 by omega))) ?_
  refine lv_istore (lv' := [(5, .int (fa (10 * j + j3))), (0, .ref h0), (1, .int (nI (j))), (2, .int (nI (k))), (3, .int (nI (j3))), (4, .int p0)]) hx hb dX9_meeting_11 hl (by decide) rfl (fun ls hl => ?_)
  refine lv_aload_n hx hb dX9_meeting_13 rfl (lv_at hl 1 rfl) ?_
  refine xg hF kf_X9_22 hK hP 0 rfl rfl dX9_meeting_14 ?_
  refine lv_bipush (v := 10) hx hb dX9_meeting_17 (by decide) ?_
  refine lv_iload_n hx hb dX9_meeting_19 rfl (lv_at hl 3 rfl) ?_
  refine lv_imul hx hb dX9_meeting_20 ?_
  refine xl_i (y := nI (10 * k)) (pk_mul 10 k) ?_
  refine lv_iload_n hx hb dX9_meeting_21 rfl (lv_at hl 4 rfl) ?_
  refine lv_iadd hx hb dX9_meeting_22 ?_
  refine xl_i (y := nI (10 * k + j3)) (nI_add (10 * k) j3) ?_
  refine va_iald hx hb hK hP 1 0 rfl rfl (vp_in_nI (show 10 * k + j3 < 100 by omega) (by decide)) dX9_meeting_23 ?_
  refine xl_i (y := fa (10 * k + j3)) (congrArg fa (nI_clamp (show 10 * k + j3 < 2 ^ 31 by omega))) ?_
  refine lv_istore (lv' := [(6, .int (fa (10 * k + j3))), (5, .int (fa (10 * j + j3))), (0, .ref h0), (1, .int (nI (j))), (2, .int (nI (k))), (3, .int (nI (j3))), (4, .int p0)]) hx hb dX9_meeting_24 hl (by decide) rfl (fun ls hl => ?_)
  refine lv_aload_n hx hb dX9_meeting_26 rfl (lv_at hl 2 rfl) ?_
  refine xg hF kf_X9_22 hK hP 0 rfl rfl dX9_meeting_27 ?_
  refine lv_bipush (v := 10) hx hb dX9_meeting_30 (by decide) ?_
  refine lv_iload_n hx hb dX9_meeting_32 rfl (lv_at hl 5 rfl) ?_
  refine lv_imul hx hb dX9_meeting_33 ?_
  refine xl_i (y := nI (10 * j3)) (pk_mul 10 j3) ?_
  refine lv_iload_n hx hb dX9_meeting_34 rfl (lv_at hl 3 rfl) ?_
  refine lv_iadd hx hb dX9_meeting_35 ?_
  refine xl_i (y := nI (10 * j3 + j)) (nI_add (10 * j3) j) ?_
  refine va_iald hx hb hK hP 1 0 rfl rfl (vp_in_nI (show 10 * j3 + j < 100 by omega) (by decide)) dX9_meeting_36 ?_
  refine xl_i (y := fa (10 * j3 + j)) (congrArg fa (nI_clamp (show 10 * j3 + j < 2 ^ 31 by omega))) ?_
  refine lv_istore (lv' := [(7, .int (fa (10 * j3 + j))), (6, .int (fa (10 * k + j3))), (5, .int (fa (10 * j + j3))), (0, .ref h0), (1, .int (nI (j))), (2, .int (nI (k))), (3, .int (nI (j3))), (4, .int p0)]) hx hb dX9_meeting_37 hl (by decide) rfl (fun ls hl => ?_)
  refine lv_aload_n hx hb dX9_meeting_39 rfl (lv_at hl 3 rfl) ?_
  refine xg hF kf_X9_22 hK hP 0 rfl rfl dX9_meeting_40 ?_
  refine lv_bipush (v := 10) hx hb dX9_meeting_43 (by decide) ?_
  refine lv_iload_n hx hb dX9_meeting_45 rfl (lv_at hl 6 rfl) ?_
  refine lv_imul hx hb dX9_meeting_46 ?_
  refine xl_i (y := nI (10 * j3)) (pk_mul 10 j3) ?_
  refine lv_iload_n hx hb dX9_meeting_47 rfl (lv_at hl 5 rfl) ?_
  refine lv_iadd hx hb dX9_meeting_48 ?_
  refine xl_i (y := nI (10 * j3 + k)) (nI_add (10 * j3) k) ?_
  refine va_iald hx hb hK hP 1 0 rfl rfl (vp_in_nI (show 10 * j3 + k < 100 by omega) (by decide)) dX9_meeting_49 ?_
  refine xl_i (y := fa (10 * j3 + k)) (congrArg fa (nI_clamp (show 10 * j3 + k < 2 ^ 31 by omega))) ?_
  refine lv_istore (lv' := [(8, .int (fa (10 * j3 + k))), (7, .int (fa (10 * j3 + j))), (6, .int (fa (10 * k + j3))), (5, .int (fa (10 * j + j3))), (0, .ref h0), (1, .int (nI (j))), (2, .int (nI (k))), (3, .int (nI (j3))), (4, .int p0)]) hx hb dX9_meeting_50 hl (by decide) rfl (fun ls hl => ?_)
  refine lv_iload hx hb dX9_meeting_52 (lv_at hl 3 rfl) ?_
  refine lv_ldc (v := 100000000) hx hb hown (hu _ uw701) dX9_meeting_54 ?_
  refine lv_icmp_eq (tgt := 86) hx hb dX9_meeting_56 (by decide) (fun c_1 => ?_) (fun c_1 => ?_)
  · skip
    refine lv_ldc (v := 100000000) hx hb hown (hu _ uw701) dX9_meeting_86 ?_
    exact W.iret (v := 100000000) hx hb hr (fun t ht hW => ⟨100000000, rfl, trivial, ht⟩) (fun q h => by cases h) dX9_meeting_88 hlk
  · skip
    refine lv_iload hx hb dX9_meeting_59 (lv_at hl 2 rfl) ?_
    refine lv_ldc (v := 100000000) hx hb hown (hu _ uw701) dX9_meeting_61 ?_
    refine lv_icmp_eq (tgt := 86) hx hb dX9_meeting_63 (by decide) (fun c_2 => ?_) (fun c_2 => ?_)
    · skip
      refine lv_ldc (v := 100000000) hx hb hown (hu _ uw701) dX9_meeting_86 ?_
      exact W.iret (v := 100000000) hx hb hr (fun t ht hW => ⟨100000000, rfl, trivial, ht⟩) (fun q h => by cases h) dX9_meeting_88 hlk
    · skip
      refine lv_iload hx hb dX9_meeting_66 (lv_at hl 8 rfl) ?_
      refine lv_iconst (v := 2) hx hb dX9_meeting_68 (by decide) ?_
      refine lv_icmp_ne (tgt := 89) hx hb dX9_meeting_69 (by decide) (fun c_3 => ?_) (fun c_3 => ?_)
      · skip
        refine lv_iload hx hb dX9_meeting_89 (lv_at hl 8 rfl) ?_
        refine lv_if_ne (tgt := 102) hx hb dX9_meeting_91 (by decide) (fun c_4 => ?_) (fun c_4 => ?_)
        · skip
          refine lv_iload hx hb dX9_meeting_102 (lv_at hl 8 rfl) ?_
          refine lv_iconst (v := 1) hx hb dX9_meeting_104 (by decide) ?_
          refine lv_icmp_ne (tgt := 125) hx hb dX9_meeting_105 (by decide) (fun c_5 => ?_) (fun c_5 => ?_)
          · skip
            refine lv_iload hx hb dX9_meeting_125 (lv_at hl 3 rfl) ?_
            refine lv_iload hx hb dX9_meeting_127 (lv_at hl 2 rfl) ?_
            refine lv_iadd hx hb dX9_meeting_129 ?_
            refine lv_topi (fun x_6 ex_6 => ?_)
            refine lv_iload hx hb dX9_meeting_130 (lv_at hl 1 rfl) ?_
            refine lv_iadd hx hb dX9_meeting_132 ?_
            refine lv_topi (fun x_7 ex_7 => ?_)
            refine lv_iload hx hb dX9_meeting_133 (lv_at hl 0 rfl) ?_
            refine lv_iadd hx hb dX9_meeting_135 ?_
            refine lv_topi (fun x_8 ex_8 => ?_)
            exact W.iret (v := x_8) hx hb hr (fun t ht hW => ⟨x_8, rfl, trivial, ht⟩) (fun q h => by cases h) dX9_meeting_136 hlk
          · skip
            refine lv_iload hx hb dX9_meeting_108 (lv_at hl 3 rfl) ?_
            refine lv_iload hx hb dX9_meeting_110 (lv_at hl 2 rfl) ?_
            refine lv_icmp_le (tgt := 120) hx hb dX9_meeting_112 (by decide) (fun c_9 => ?_) (fun c_9 => ?_)
            · skip
              refine lv_iload hx hb dX9_meeting_120 (lv_at hl 2 rfl) ?_
              refine lv_goto (tgt := 136) hx hb dX9_meeting_122 (by decide) ?_
              exact W.iret (v := fa (10 * k + j3)) hx hb hr (fun t ht hW => ⟨fa (10 * k + j3), rfl, trivial, ht⟩) (fun q h => by cases h) dX9_meeting_136 hlk
            · skip
              refine lv_iload hx hb dX9_meeting_115 (lv_at hl 3 rfl) ?_
              refine lv_goto (tgt := 136) hx hb dX9_meeting_117 (by decide) ?_
              exact W.iret (v := fa (10 * j + j3)) hx hb hr (fun t ht hW => ⟨fa (10 * j + j3), rfl, trivial, ht⟩) (fun q h => by cases h) dX9_meeting_136 hlk
        · skip
          refine lv_iload hx hb dX9_meeting_94 (lv_at hl 3 rfl) ?_
          refine lv_iload hx hb dX9_meeting_96 (lv_at hl 2 rfl) ?_
          refine lv_iadd hx hb dX9_meeting_98 ?_
          refine lv_topi (fun x_10 ex_10 => ?_)
          refine lv_goto (tgt := 136) hx hb dX9_meeting_99 (by decide) ?_
          exact W.iret (v := x_10) hx hb hr (fun t ht hW => ⟨x_10, rfl, trivial, ht⟩) (fun q h => by cases h) dX9_meeting_136 hlk
      · skip
        refine lv_iload hx hb dX9_meeting_72 (lv_at hl 1 rfl) ?_
        refine lv_ldc (v := 100000000) hx hb hown (hu _ uw701) dX9_meeting_74 ?_
        refine lv_icmp_eq (tgt := 86) hx hb dX9_meeting_76 (by decide) (fun c_11 => ?_) (fun c_11 => ?_)
        · skip
          refine lv_ldc (v := 100000000) hx hb hown (hu _ uw701) dX9_meeting_86 ?_
          exact W.iret (v := 100000000) hx hb hr (fun t ht hW => ⟨100000000, rfl, trivial, ht⟩) (fun q h => by cases h) dX9_meeting_88 hlk
        · skip
          refine lv_iload hx hb dX9_meeting_79 (lv_at hl 0 rfl) ?_
          refine lv_ldc (v := 100000000) hx hb hown (hu _ uw701) dX9_meeting_81 ?_
          refine lv_icmp_ne (tgt := 89) hx hb dX9_meeting_83 (by decide) (fun c_12 => ?_) (fun c_12 => ?_)
          · skip
            refine lv_iload hx hb dX9_meeting_89 (lv_at hl 8 rfl) ?_
            refine lv_if_ne (tgt := 102) hx hb dX9_meeting_91 (by decide) (fun c_13 => ?_) (fun c_13 => ?_)
            · skip
              refine lv_iload hx hb dX9_meeting_102 (lv_at hl 8 rfl) ?_
              refine lv_iconst (v := 1) hx hb dX9_meeting_104 (by decide) ?_
              refine lv_icmp_ne (tgt := 125) hx hb dX9_meeting_105 (by decide) (fun c_14 => ?_) (fun c_14 => ?_)
              · skip
                refine lv_iload hx hb dX9_meeting_125 (lv_at hl 3 rfl) ?_
                refine lv_iload hx hb dX9_meeting_127 (lv_at hl 2 rfl) ?_
                refine lv_iadd hx hb dX9_meeting_129 ?_
                refine lv_topi (fun x_15 ex_15 => ?_)
                refine lv_iload hx hb dX9_meeting_130 (lv_at hl 1 rfl) ?_
                refine lv_iadd hx hb dX9_meeting_132 ?_
                refine lv_topi (fun x_16 ex_16 => ?_)
                refine lv_iload hx hb dX9_meeting_133 (lv_at hl 0 rfl) ?_
                refine lv_iadd hx hb dX9_meeting_135 ?_
                refine lv_topi (fun x_17 ex_17 => ?_)
                exact W.iret (v := x_17) hx hb hr (fun t ht hW => ⟨x_17, rfl, trivial, ht⟩) (fun q h => by cases h) dX9_meeting_136 hlk
              · skip
                refine lv_iload hx hb dX9_meeting_108 (lv_at hl 3 rfl) ?_
                refine lv_iload hx hb dX9_meeting_110 (lv_at hl 2 rfl) ?_
                refine lv_icmp_le (tgt := 120) hx hb dX9_meeting_112 (by decide) (fun c_18 => ?_) (fun c_18 => ?_)
                · skip
                  refine lv_iload hx hb dX9_meeting_120 (lv_at hl 2 rfl) ?_
                  refine lv_goto (tgt := 136) hx hb dX9_meeting_122 (by decide) ?_
                  exact W.iret (v := fa (10 * k + j3)) hx hb hr (fun t ht hW => ⟨fa (10 * k + j3), rfl, trivial, ht⟩) (fun q h => by cases h) dX9_meeting_136 hlk
                · skip
                  refine lv_iload hx hb dX9_meeting_115 (lv_at hl 3 rfl) ?_
                  refine lv_goto (tgt := 136) hx hb dX9_meeting_117 (by decide) ?_
                  exact W.iret (v := fa (10 * j + j3)) hx hb hr (fun t ht hW => ⟨fa (10 * j + j3), rfl, trivial, ht⟩) (fun q h => by cases h) dX9_meeting_136 hlk
            · skip
              refine lv_iload hx hb dX9_meeting_94 (lv_at hl 3 rfl) ?_
              refine lv_iload hx hb dX9_meeting_96 (lv_at hl 2 rfl) ?_
              refine lv_iadd hx hb dX9_meeting_98 ?_
              refine lv_topi (fun x_19 ex_19 => ?_)
              refine lv_goto (tgt := 136) hx hb dX9_meeting_99 (by decide) ?_
              exact W.iret (v := x_19) hx hb hr (fun t ht hW => ⟨x_19, rfl, trivial, ht⟩) (fun q h => by cases h) dX9_meeting_136 hlk
          · skip
            refine lv_ldc (v := 100000000) hx hb hown (hu _ uw701) dX9_meeting_86 ?_
            exact W.iret (v := 100000000) hx hb hr (fun t ht hW => ⟨100000000, rfl, trivial, ht⟩) (fun q h => by cases h) dX9_meeting_88 hlk
set_option maxHeartbeats 4000000 in
set_option maxRecDepth 100000 in
theorem c_X9_meet (l : Launch) (D : va_G) (cI cJ cZ cS : ClassId) (ta : Nat) (sa sv : Nat → Nat) (sz : Nat) (h0 : Nat) (ys : Nat) (yk : Nat) (yo : Nat) (yt : Nat) (mk0 : Int32) (yfa : Nat) (yfe : Nat) (mL : Int32) (mS : Int32) (mM : Int32) (yro : Nat) (yhe : Nat) (ygr : Nat) (mF : Int32) (mC : Int32) (mY : Int32) (yta : Nat) (mz : Nat) (mf : Nat) (mt : Nat) (mv : Int32) (mw : Int32) (ywa : Nat) (ybi : Nat) (ysi : Nat) (ynu : Nat) (ymo : Nat) (ms : Nat → Int32) (fa : Nat → Int32) (fe : Nat → Int32) (mq : Nat → Int32) (P : Nat) (Rn : Nat) (Wn : Nat) (fae : Nat → Int32) (fal : Nat → Int32) (fau : Nat → Int32) (fao : Nat → Int32) (farn : Nat → Int32) (farp : Nat → Int32) (fak : Nat → Int32) (fawn : Nat → Int32) (fawp : Nat → Int32) (fat : Nat → Int32) (fas : Nat → Int32) (p0 : Int32) (p1 : Int32) (p2 : Int32) (hs0 : ms 0 = nI P) (hs1 : ms 1 = nI Rn) (hs2 : ms 2 = nI Wn) (hsS : SI ms) (hsM : MI ms) (hsp : P ≤ 10) (hsr : Rn ≤ 8) (hsw : Wn ≤ 8) (hsR : RI Rn ms) (hsG : FR P ms fae fal fau fao farn farp fak fawn fawp fat fas) : Met l yX9_meet (Cond.code yX9_meet cX9_meet 8 (some .int) :: wsU) ({ frames := 2, cells := 0, slots := 0, locals := 52 }) (va_Pc [.ref h0, .int p0, .int p1, .int p2] (XW D (xT cI cJ cZ cS) ta sa sv [(h0, .inr (9, [.ref ys, .ref yk, .ref yo, .ref yt, .int mk0, .ref yfa, .ref yfe, .int mL, .int mS, .int mM, .ref yro, .ref yhe, .ref ygr, .int mF, .int mC, .int mY, .ref yta, .int (nI (mz)), .int (nI (mf)), .int (nI (mt)), .int mv, .int mw, .ref ywa, .ref ybi, .ref ysi, .ref ynu, .ref ymo])), (ys, .inl (cI, 449, .inl ms)), (yfa, .inl (cI, 100, .inl fa)), (yfe, .inl (cI, 100, .inl fe)), (yt, .inl (cI, 7, .inl mq))] sz)) (XQi (fun (r : Int32) (u : Int32 × (Nat → Int32) × (Nat → Int32) × (Nat → Int32)) => match u with | (mL2, fa2, fe2, mq2) => (True)) D (fun (u : Int32 × (Nat → Int32) × (Nat → Int32) × (Nat → Int32)) => match u with | (mL2, fa2, fe2, mq2) => [(h0, .inr (9, [.ref ys, .ref yk, .ref yo, .ref yt, .int mk0, .ref yfa, .ref yfe, .int mL2, .int mS, .int mM, .ref yro, .ref yhe, .ref ygr, .int mF, .int mC, .int mY, .ref yta, .int (nI (mz)), .int (nI (mf)), .int (nI (mt)), .int mv, .int mw, .ref ywa, .ref ybi, .ref ysi, .ref ynu, .ref ymo])), (ys, .inl (cI, 449, .inl ms)), (yfa, .inl (cI, 100, .inl fa2)), (yfe, .inl (cI, 100, .inl fe2)), (yt, .inl (cI, 7, .inl mq2))]) (va_A [(h0, .inr (9, [.ref ys, .ref yk, .ref yo, .ref yt, .int mk0, .ref yfa, .ref yfe, .int mL, .int mS, .int mM, .ref yro, .ref yhe, .ref ygr, .int mF, .int mC, .int mY, .ref yta, .int (nI (mz)), .int (nI (mf)), .int (nI (mt)), .int mv, .int mw, .ref ywa, .ref ybi, .ref ysi, .ref ynu, .ref ymo])), (ys, .inl (cI, 449, .inl ms)), (yfa, .inl (cI, 100, .inl fa)), (yfe, .inl (cI, 100, .inl fe)), (yt, .inl (cI, 7, .inl mq))] sz)) 0 0 (va_A [(h0, .inr (9, [.ref ys, .ref yk, .ref yo, .ref yt, .int mk0, .ref yfa, .ref yfe, .int mL, .int mS, .int mM, .ref yro, .ref yhe, .ref ygr, .int mF, .int mC, .int mY, .ref yta, .int (nI (mz)), .int (nI (mf)), .int (nI (mt)), .int mv, .int mw, .ref ywa, .ref ybi, .ref ysi, .ref ynu, .ref ymo])), (ys, .inl (cI, 449, .inl ms)), (yfa, .inl (cI, 100, .inl fa)), (yfe, .inl (cI, 100, .inl fe)), (yt, .inl (cI, 7, .inl mq))] sz) := by
  refine xh (QA := fun A => XQi (fun (r : Int32) (u : Int32 × (Nat → Int32) × (Nat → Int32) × (Nat → Int32)) => match u with | (mL2, fa2, fe2, mq2) => (True)) D (fun (u : Int32 × (Nat → Int32) × (Nat → Int32) × (Nat → Int32)) => match u with | (mL2, fa2, fe2, mq2) => [(h0, .inr (9, [.ref ys, .ref yk, .ref yo, .ref yt, .int mk0, .ref yfa, .ref yfe, .int mL2, .int mS, .int mM, .ref yro, .ref yhe, .ref ygr, .int mF, .int mC, .int mY, .ref yta, .int (nI (mz)), .int (nI (mf)), .int (nI (mt)), .int mv, .int mw, .ref ywa, .ref ybi, .ref ysi, .ref ynu, .ref ymo])), (ys, .inl (cI, 449, .inl ms)), (yfa, .inl (cI, 100, .inl fa2)), (yfe, .inl (cI, 100, .inl fe2)), (yt, .inl (cI, 7, .inl mq2))]) A) (fr := fun A => A) (by decide) (Nat.le_of_ble_eq_true rfl) ?_
  intro p e s m below meth c ls A hF hr hlk hin hsz hP hK hD hN hZ hA hS hl
  have hF : CallFix p m c cX9_meet 8 s _ _ RX9 := hF
  have hx := hF.1
  have hb := hF.2.1
  have hml := hF.2.2.1
  have hown := hF.2.2.2.1
  have hu : ∀ w ∈ wsU, w.before _ s = true := fun w h => hF.2.2.2.2 w (List.mem_cons_of_mem _ h)
  have hl : lv_has ls 8 [(0, .ref h0), (1, .int p0), (2, .int p1), (3, .int p2)] := hl
  refine lv_aload_n hx hb dX9_meet_0 rfl (lv_at hl 0 rfl) ?_
  refine lv_iload_n hx hb dX9_meet_1 rfl (lv_at hl 1 rfl) ?_
  refine xc_Vr hF (c_X9_isPlace l D cI cJ cZ cS ta sa sv s.heap.size h0 ys yk yo yt mk0 yfa yfe mL mS mM yro yhe ygr mF mC mY yta mz mf mt mv mw ywa ybi ysi ynu ymo ms P Rn Wn fae fal fau fao farn farp fak fawn fawp fat fas p0 hs0 hs1 hs2 hsS hsM hsp hsr hsw hsR hsG) kv_X9_61 ⟨rfl, rfl, Nat.le_of_ble_eq_true rfl, Nat.le_of_ble_eq_true rfl⟩ ⟨Nat.le_of_ble_eq_true rfl, Nat.le_of_ble_eq_true rfl⟩ hK hN hZ hP hD hS hA [0, 1] rfl rfl 0 rfl rfl rfl rfl hl.1 rfl (Nat.le_of_ble_eq_true rfl) dX9_meet_2 (fun r_1 hw_r_1 => ?_)
  rcases hw_r_1 with ⟨k_2, rfl, rfl, h_4⟩ | ⟨rfl, h_5⟩
  · skip
    refine lv_if_eq (tgt := 28) hx hb dX9_meet_5 (by decide) (fun c_6 => absurd c_6 (by decide)) (fun c_6 => ?_)
    refine lv_aload_n hx hb dX9_meet_8 rfl (lv_at hl 0 rfl) ?_
    refine lv_iload_n hx hb dX9_meet_9 rfl (lv_at hl 2 rfl) ?_
    refine xc_Vr hF (c_X9_isPlace l D cI cJ cZ cS ta sa sv s.heap.size h0 ys yk yo yt mk0 yfa yfe mL mS mM yro yhe ygr mF mC mY yta mz mf mt mv mw ywa ybi ysi ynu ymo ms P Rn Wn fae fal fau fao farn farp fak fawn fawp fat fas p1 hs0 hs1 hs2 hsS hsM hsp hsr hsw hsR hsG) kv_X9_61 ⟨rfl, rfl, Nat.le_of_ble_eq_true rfl, Nat.le_of_ble_eq_true rfl⟩ ⟨Nat.le_of_ble_eq_true rfl, Nat.le_of_ble_eq_true rfl⟩ hK hN hZ hP hD hS hA [0, 1] rfl rfl 0 rfl rfl rfl rfl hl.1 rfl (Nat.le_of_ble_eq_true rfl) dX9_meet_10 (fun r_7 hw_r_7 => ?_)
    rcases hw_r_7 with ⟨k_8, rfl, rfl, h_10⟩ | ⟨rfl, h_11⟩
    · skip
      refine lv_if_eq (tgt := 28) hx hb dX9_meet_13 (by decide) (fun c_12 => absurd c_12 (by decide)) (fun c_12 => ?_)
      refine lv_iload_n hx hb dX9_meet_16 rfl (lv_at hl 3 rfl) ?_
      refine lv_i2l (v := p2.toInt64) hx hb dX9_meet_17 rfl ?_
      refine lv_lconst (v := 0) hx hb dX9_meet_18 (by decide) ?_
      refine xl_l (y := (0 : Int32).toInt64) (by decide) ?_
      refine lv_ldc2 (v := 2) hx hb hown (hu _ uw694) dX9_meet_19 ?_
      refine xl_l (y := (2 : Int32).toInt64) (by decide) ?_
      refine xc_Sr hF (c_X9_in l D cI cJ cZ cS ta sa sv s.heap.size p2 0 2 ) ks_X9_57 ⟨rfl, rfl, Nat.le_of_ble_eq_true rfl, Nat.le_of_ble_eq_true rfl⟩ ⟨Nat.le_of_ble_eq_true rfl, Nat.le_of_ble_eq_true rfl⟩ hK hN hZ hP hD hS hA [] rfl rfl rfl hl.1 rfl (Nat.le_of_ble_eq_true rfl) dX9_meet_22 (fun r_13 hw_r_13 => ?_)
      rcases hw_r_13 with ⟨rfl, h_14, h_15⟩ | ⟨rfl, h_16⟩
      · skip
        refine lv_if_ne (tgt := 35) hx hb dX9_meet_25 (by decide) (fun c_17 => ?_) (fun c_17 => absurd c_17 (by decide))
        refine lv_aload_n hx hb dX9_meet_35 rfl (lv_at hl 0 rfl) ?_
        refine xc_Vv (wr := [(yt, .inl (cI, 7, .inl mq))]) hF (c_X9_findFar l D cI cJ cZ cS ta sa sv s.heap.size h0 ys yk yo yt mk0 yfa yfe mL mS mM yro yhe ygr mF mC mY yta mz mf mt mv mw ywa ybi ysi ynu ymo ms fa fe P Rn Wn fae fal fau fao farn farp fak fawn fawp fat fas hs0 hs1 hs2 hsS hsM hsp hsr hsw hsR hsG) kv_X9_113 ⟨rfl, rfl, Nat.le_of_ble_eq_true rfl, Nat.le_of_ble_eq_true rfl⟩ ⟨Nat.le_of_ble_eq_true rfl, Nat.le_of_ble_eq_true rfl⟩ hK hN hZ hP hD hS hA [0, 1, 2, 3] [4] rfl rfl rfl rfl (by decide) 0 rfl rfl rfl rfl hl.1 rfl (Nat.le_of_ble_eq_true rfl) dX9_meet_36 (fun u_r_18 H locs hw_r_18 hP hD hS => ?_)
        obtain ⟨mL2_19, fa2_20, fe2_21⟩ := u_r_18
        try dsimp only at hw_r_18
        have i_22 := hw_r_18
        have hP : va_P D vwCl [(yt, .inl (cI, 7, .inl mq)), (h0, .inr (9, [.ref ys, .ref yk, .ref yo, .ref yt, .int mk0, .ref yfa, .ref yfe, .int mL2_19, .int mS, .int mM, .ref yro, .ref yhe, .ref ygr, .int mF, .int mC, .int mY, .ref yta, .int (nI (mz)), .int (nI (mf)), .int (nI (mt)), .int mv, .int mw, .ref ywa, .ref ybi, .ref ysi, .ref ynu, .ref ymo])), (ys, .inl (cI, 449, .inl ms)), (yfa, .inl (cI, 100, .inl fa2_20)), (yfe, .inl (cI, 100, .inl fe2_21))] H := hP
        have hD : va_D A [(yt, .inl (cI, 7, .inl mq)), (h0, .inr (9, [.ref ys, .ref yk, .ref yo, .ref yt, .int mk0, .ref yfa, .ref yfe, .int mL2_19, .int mS, .int mM, .ref yro, .ref yhe, .ref ygr, .int mF, .int mC, .int mY, .ref yta, .int (nI (mz)), .int (nI (mf)), .int (nI (mt)), .int mv, .int mw, .ref ywa, .ref ybi, .ref ysi, .ref ynu, .ref ymo])), (ys, .inl (cI, 449, .inl ms)), (yfa, .inl (cI, 100, .inl fa2_20)), (yfe, .inl (cI, 100, .inl fe2_21))] := hD
        refine lv_aload_n hx hb dX9_meet_39 rfl (lv_at hl 0 rfl) ?_
        refine xg hF kf_X9_109 hK hP 1 rfl rfl dX9_meet_40 ?_
        refine lv_if_eq (tgt := 53) hx hb dX9_meet_43 (by decide) (fun c_23 => ?_) (fun c_23 => ?_)
        · skip
          refine lv_iconst (v := (-1)) hx hb dX9_meet_53 (by decide) ?_
          refine lv_istore (lv' := [(4, .int (-1)), (0, .ref h0), (1, .int (nI (k_2))), (2, .int (nI (k_8))), (3, .int p2)]) hx hb dX9_meet_54 hl (by decide) rfl (fun ls hl => ?_)
          refine lv_ldc (v := 100000000) hx hb hown (hu _ uw701) dX9_meet_56 ?_
          refine lv_istore (lv' := [(5, .int 100000000), (4, .int (-1)), (0, .ref h0), (1, .int (nI (k_2))), (2, .int (nI (k_8))), (3, .int p2)]) hx hb dX9_meet_58 hl (by decide) rfl (fun ls hl => ?_)
          refine lv_iconst (v := 0) hx hb dX9_meet_60 (by decide) ?_
          refine lv_istore (lv' := [(6, .int 0), (5, .int 100000000), (4, .int (-1)), (0, .ref h0), (1, .int (nI (k_2))), (2, .int (nI (k_8))), (3, .int p2)]) hx hb dX9_meet_61 hl (by decide) rfl (fun ls hl => ?_)
          suffices loop_63 : ∀ (n_63 : Nat) (i : Nat) (x8 : Int32) (t8 : Int32) (H : Heap) (locs : List Loc) (ls : Array Slot), P - i < n_63 → (i ≤ P) → va_P D vwCl [(yt, .inl (cI, 7, .inl mq)), (h0, .inr (9, [.ref ys, .ref yk, .ref yo, .ref yt, .int mk0, .ref yfa, .ref yfe, .int mL2_19, .int mS, .int mM, .ref yro, .ref yhe, .ref ygr, .int mF, .int mC, .int mY, .ref yta, .int (nI (mz)), .int (nI (mf)), .int (nI (mt)), .int mv, .int mw, .ref ywa, .ref ybi, .ref ysi, .ref ynu, .ref ymo])), (ys, .inl (cI, 449, .inl ms)), (yfa, .inl (cI, 100, .inl fa2_20)), (yfe, .inl (cI, 100, .inl fe2_21))] H → va_D A [(yt, .inl (cI, 7, .inl mq)), (h0, .inr (9, [.ref ys, .ref yk, .ref yo, .ref yt, .int mk0, .ref yfa, .ref yfe, .int mL2_19, .int mS, .int mM, .ref yro, .ref yhe, .ref ygr, .int mF, .int mC, .int mY, .ref yta, .int (nI (mz)), .int (nI (mf)), .int (nI (mt)), .int mv, .int mw, .ref ywa, .ref ybi, .ref ysi, .ref ynu, .ref ymo])), (ys, .inl (cI, 449, .inl ms)), (yfa, .inl (cI, 100, .inl fa2_20)), (yfe, .inl (cI, 100, .inl fe2_21))] → va_S A s.heap H locs → lv_has ls 8 [(6, .int (nI (i))), (5, .int t8), (4, .int x8), (0, .ref h0), (1, .int (nI (k_2))), (2, .int (nI (k_8))), (3, .int p2)] → W p l e ({ frames := 2, cells := 0, slots := 0, locals := 52 }) s m ([.ref h0, .int (nI (k_2)), .int (nI (k_8)), .int p2] : List Value).toArray below meth c H locs 0 0 (MQ below (XQi (fun (r : Int32) (u : Int32 × (Nat → Int32) × (Nat → Int32) × (Nat → Int32)) => match u with | (mL2, fa2, fe2, mq2) => (True)) D (fun (u : Int32 × (Nat → Int32) × (Nat → Int32) × (Nat → Int32)) => match u with | (mL2, fa2, fe2, mq2) => [(h0, .inr (9, [.ref ys, .ref yk, .ref yo, .ref yt, .int mk0, .ref yfa, .ref yfe, .int mL2, .int mS, .int mM, .ref yro, .ref yhe, .ref ygr, .int mF, .int mC, .int mY, .ref yta, .int (nI (mz)), .int (nI (mf)), .int (nI (mt)), .int mv, .int mw, .ref ywa, .ref ybi, .ref ysi, .ref ynu, .ref ymo])), (ys, .inl (cI, 449, .inl ms)), (yfa, .inl (cI, 100, .inl fa2)), (yfe, .inl (cI, 100, .inl fe2)), (yt, .inl (cI, 7, .inl mq2))]) A) ([.ref h0, .int (nI (k_2)), .int (nI (k_8)), .int p2] : List Value).toArray s 0 0 A) (F0 m 63 ls []) by
            exact loop_63 _ 0 (-1) 100000000 _ _ _ (Nat.lt_succ_self _) (by omega) hP hD hS (lv_sub hl [0, 1, 2, 3, 4, 5, 6] rfl)
          intro n_63
          induction n_63 with
          | zero =>
            intro i x8 t8 H locs ls hm_63
            exact absurd hm_63 (Nat.not_lt_zero _)
          | succ n_63 ih_63 =>
            intro i x8 t8 H locs ls hm_63 hi hP hD hS hl
            refine lv_iload hx hb dX9_meet_63 (lv_at hl 0 rfl) ?_
            refine lv_aload_n hx hb dX9_meet_65 rfl (lv_at hl 3 rfl) ?_
            refine xg hF kf_X9_7 hK hP 1 rfl rfl dX9_meet_66 ?_
            refine lv_iconst (v := 0) hx hb dX9_meet_69 (by decide) ?_
            refine va_iald hx hb hK hP 2 0 rfl rfl (xin 0 449 (by decide) (by decide)) dX9_meet_70 ?_
            refine xl_i (y := nI (P)) hs0 ?_
            refine lv_icmp_ge (tgt := 106) hx hb dX9_meet_71 (by decide) (fun c_24 => ?_) (fun c_24 => ?_)
            · skip
              have nc_24 : P ≤ i := xn_le (a := P) (b := i) (by omega) (by omega) c_24
              refine lv_iload hx hb dX9_meet_106 (lv_at hl 2 rfl) ?_
              refine lv_if_ge (tgt := 120) hx hb dX9_meet_108 (by decide) (fun c_25 => ?_) (fun c_25 => ?_)
              · skip
                refine lv_iload hx hb dX9_meet_120 (lv_at hl 2 rfl) ?_
                exact W.iret (v := x8) hx hb hr (fun t ht hW => ⟨⟨x8, (mL2_19, fa2_20, fe2_21, mq), rfl, trivial, by rw [ht]; exact hP.sub [1, 2, 3, 4, 0] rfl, hD.sub [1, 2, 3, 4, 0] (by decide +kernel) rfl⟩, hS.F ht⟩) hS.2.2 dX9_meet_122 hlk
              · skip
                refine lv_aload_n hx hb dX9_meet_111 rfl (lv_at hl 3 rfl) ?_
                refine lv_ldc (v := (-1000000004)) hx hb hown (hu _ uw699) dX9_meet_112 ?_
                refine xc_Vi (wr := [(ys, .inl (cI, 449, .inl ms)), (yfa, .inl (cI, 100, .inl fa2_20)), (yfe, .inl (cI, 100, .inl fe2_21))]) hF (c_X9_finds_N l D cI cJ cZ cS ta sa sv H.size h0 ys yk yo yt mk0 yfa yfe mL2_19 mS mM yro yhe ygr mF mC mY yta mz mf mt mv mw ywa ybi ysi ynu ymo mq ) kv_X9_70 ⟨rfl, rfl, Nat.le_of_ble_eq_true rfl, Nat.le_of_ble_eq_true rfl⟩ ⟨Nat.le_of_ble_eq_true rfl, Nat.le_of_ble_eq_true rfl⟩ hK hN hZ hP hD hS hA [1, 0] [2, 3, 4] rfl rfl rfl rfl (by decide) 0 rfl rfl rfl rfl hl.1 rfl (Nat.le_of_ble_eq_true rfl) dX9_meet_114 (fun r_26 u_r_26 H locs hw_r_26 hP hD hS => ?_)
                obtain ⟨mq2_27, rfl⟩ : ∃ z, z = u_r_26 := ⟨_, rfl⟩
                try dsimp only at hw_r_26
                have hP : va_P D vwCl [(ys, .inl (cI, 449, .inl ms)), (yfa, .inl (cI, 100, .inl fa2_20)), (yfe, .inl (cI, 100, .inl fe2_21)), (h0, .inr (9, [.ref ys, .ref yk, .ref yo, .ref yt, .int mk0, .ref yfa, .ref yfe, .int mL2_19, .int mS, .int mM, .ref yro, .ref yhe, .ref ygr, .int mF, .int mC, .int mY, .ref yta, .int (nI (mz)), .int (nI (mf)), .int (nI (mt)), .int mv, .int mw, .ref ywa, .ref ybi, .ref ysi, .ref ynu, .ref ymo])), (yt, .inl (cI, 7, .inl mq2_27))] H := hP
                have hD : va_D A [(ys, .inl (cI, 449, .inl ms)), (yfa, .inl (cI, 100, .inl fa2_20)), (yfe, .inl (cI, 100, .inl fe2_21)), (h0, .inr (9, [.ref ys, .ref yk, .ref yo, .ref yt, .int mk0, .ref yfa, .ref yfe, .int mL2_19, .int mS, .int mM, .ref yro, .ref yhe, .ref ygr, .int mF, .int mC, .int mY, .ref yta, .int (nI (mz)), .int (nI (mf)), .int (nI (mt)), .int mv, .int mw, .ref ywa, .ref ybi, .ref ysi, .ref ynu, .ref ymo])), (yt, .inl (cI, 7, .inl mq2_27))] := hD
                subst hw_r_26
                refine lv_goto (tgt := 122) hx hb dX9_meet_117 (by decide) ?_
                exact W.iret (v := (-1000000004)) hx hb hr (fun t ht hW => ⟨⟨(-1000000004), (mL2_19, fa2_20, fe2_21, mq2_27), rfl, trivial, by rw [ht]; exact hP.sub [3, 0, 1, 2, 4] rfl, hD.sub [3, 0, 1, 2, 4] (by decide +kernel) rfl⟩, hS.F ht⟩) hS.2.2 dX9_meet_122 hlk
            · skip
              have nc_24 : i < P := xn_nle (a := P) (b := i) (by omega) (by omega) c_24
              refine lv_aload_n hx hb dX9_meet_74 rfl (lv_at hl 3 rfl) ?_
              refine lv_iload_n hx hb dX9_meet_75 rfl (lv_at hl 4 rfl) ?_
              refine lv_iload_n hx hb dX9_meet_76 rfl (lv_at hl 5 rfl) ?_
              refine lv_iload hx hb dX9_meet_77 (lv_at hl 0 rfl) ?_
              refine lv_iload_n hx hb dX9_meet_79 rfl (lv_at hl 6 rfl) ?_
              refine xc_Vr hF (c_X9_meeting l D cI cJ cZ cS ta sa sv H.size h0 ys yk yo yt mk0 yfa yfe mL2_19 mS mM yro yhe ygr mF mC mY yta mz mf mt mv mw ywa ybi ysi ynu ymo fa2_20 k_2 k_8 i p2 (by omega) (by omega) (by omega)) kv_X9_174 ⟨rfl, rfl, Nat.le_of_ble_eq_true rfl, Nat.le_of_ble_eq_true rfl⟩ ⟨Nat.le_of_ble_eq_true rfl, Nat.le_of_ble_eq_true rfl⟩ hK hN hZ hP hD hS hA [1, 3] rfl rfl 0 rfl rfl rfl rfl hl.1 rfl (Nat.le_of_ble_eq_true rfl) dX9_meet_80 (fun r_28 hw_r_28 => ?_)
              refine lv_istore (lv' := [(7, .int r_28), (6, .int (nI (i))), (5, .int t8), (4, .int x8), (0, .ref h0), (1, .int (nI (k_2))), (2, .int (nI (k_8))), (3, .int p2)]) hx hb dX9_meet_83 hl (by decide) rfl (fun ls hl => ?_)
              refine lv_iload hx hb dX9_meet_85 (lv_at hl 0 rfl) ?_
              refine lv_iload hx hb dX9_meet_87 (lv_at hl 2 rfl) ?_
              refine lv_icmp_ge (tgt := 100) hx hb dX9_meet_89 (by decide) (fun c_29 => ?_) (fun c_29 => ?_)
              · skip
                refine lv_iinc (v := nI (i + 1)) (lv' := [(6, .int (nI (i + 1))), (7, .int r_28), (5, .int t8), (4, .int x8), (0, .ref h0), (1, .int (nI (k_2))), (2, .int (nI (k_8))), (3, .int p2)]) hx hb dX9_meet_100 hl (k := 1) rfl (nI_1 (i)) (by decide) rfl (fun ls hl => ?_)
                refine lv_goto (tgt := 63) hx hb dX9_meet_103 (by decide) ?_
                exact ih_63 (i + 1) x8 t8 _ _ _ (by omega) (by omega) (hP.sub [0, 1, 2, 3, 4] rfl) (hD.sub [0, 1, 2, 3, 4] (by decide +kernel) rfl) hS (lv_sub hl [0, 2, 3, 4, 5, 6, 7] rfl)
              · skip
                refine lv_iload hx hb dX9_meet_92 (lv_at hl 1 rfl) ?_
                refine lv_istore (lv' := [(4, .int (nI (i))), (7, .int r_28), (6, .int (nI (i))), (5, .int t8), (0, .ref h0), (1, .int (nI (k_2))), (2, .int (nI (k_8))), (3, .int p2)]) hx hb dX9_meet_94 hl (by decide) rfl (fun ls hl => ?_)
                refine lv_iload hx hb dX9_meet_96 (lv_at hl 1 rfl) ?_
                refine lv_istore (lv' := [(5, .int r_28), (4, .int (nI (i))), (7, .int r_28), (6, .int (nI (i))), (0, .ref h0), (1, .int (nI (k_2))), (2, .int (nI (k_8))), (3, .int p2)]) hx hb dX9_meet_98 hl (by decide) rfl (fun ls hl => ?_)
                refine lv_iinc (v := nI (i + 1)) (lv' := [(6, .int (nI (i + 1))), (5, .int r_28), (4, .int (nI (i))), (7, .int r_28), (0, .ref h0), (1, .int (nI (k_2))), (2, .int (nI (k_8))), (3, .int p2)]) hx hb dX9_meet_100 hl (k := 3) rfl (nI_1 (i)) (by decide) rfl (fun ls hl => ?_)
                refine lv_goto (tgt := 63) hx hb dX9_meet_103 (by decide) ?_
                exact ih_63 (i + 1) (nI (i)) r_28 _ _ _ (by omega) (by omega) (hP.sub [0, 1, 2, 3, 4] rfl) (hD.sub [0, 1, 2, 3, 4] (by decide +kernel) rfl) hS (lv_sub hl [0, 1, 2, 4, 5, 6, 7] rfl)
        · skip
          refine lv_aload_n hx hb dX9_meet_46 rfl (lv_at hl 0 rfl) ?_
          refine lv_ldc (v := (-1000000005)) hx hb hown (hu _ uw716) dX9_meet_47 ?_
          refine xc_Vi (wr := [(ys, .inl (cI, 449, .inl ms)), (yfa, .inl (cI, 100, .inl fa2_20)), (yfe, .inl (cI, 100, .inl fe2_21))]) hF (c_X9_finds_T l D cI cJ cZ cS ta sa sv H.size h0 ys yk yo yt mk0 yfa yfe mL2_19 mS mM yro yhe ygr mF mC mY yta mz mf mt mv mw ywa ybi ysi ynu ymo mq ) kv_X9_70 ⟨rfl, rfl, Nat.le_of_ble_eq_true rfl, Nat.le_of_ble_eq_true rfl⟩ ⟨Nat.le_of_ble_eq_true rfl, Nat.le_of_ble_eq_true rfl⟩ hK hN hZ hP hD hS hA [1, 0] [2, 3, 4] rfl rfl rfl rfl (by decide) 0 rfl rfl rfl rfl hl.1 rfl (Nat.le_of_ble_eq_true rfl) dX9_meet_49 (fun r_30 u_r_30 H locs hw_r_30 hP hD hS => ?_)
          obtain ⟨mq2_31, rfl⟩ : ∃ z, z = u_r_30 := ⟨_, rfl⟩
          try dsimp only at hw_r_30
          have hP : va_P D vwCl [(ys, .inl (cI, 449, .inl ms)), (yfa, .inl (cI, 100, .inl fa2_20)), (yfe, .inl (cI, 100, .inl fe2_21)), (h0, .inr (9, [.ref ys, .ref yk, .ref yo, .ref yt, .int mk0, .ref yfa, .ref yfe, .int mL2_19, .int mS, .int mM, .ref yro, .ref yhe, .ref ygr, .int mF, .int mC, .int mY, .ref yta, .int (nI (mz)), .int (nI (mf)), .int (nI (mt)), .int mv, .int mw, .ref ywa, .ref ybi, .ref ysi, .ref ynu, .ref ymo])), (yt, .inl (cI, 7, .inl mq2_31))] H := hP
          have hD : va_D A [(ys, .inl (cI, 449, .inl ms)), (yfa, .inl (cI, 100, .inl fa2_20)), (yfe, .inl (cI, 100, .inl fe2_21)), (h0, .inr (9, [.ref ys, .ref yk, .ref yo, .ref yt, .int mk0, .ref yfa, .ref yfe, .int mL2_19, .int mS, .int mM, .ref yro, .ref yhe, .ref ygr, .int mF, .int mC, .int mY, .ref yta, .int (nI (mz)), .int (nI (mf)), .int (nI (mt)), .int mv, .int mw, .ref ywa, .ref ybi, .ref ysi, .ref ynu, .ref ymo])), (yt, .inl (cI, 7, .inl mq2_31))] := hD
          subst hw_r_30
          exact W.iret (v := (-1000000005)) hx hb hr (fun t ht hW => ⟨⟨(-1000000005), (mL2_19, fa2_20, fe2_21, mq2_31), rfl, trivial, by rw [ht]; exact hP.sub [3, 0, 1, 2, 4] rfl, hD.sub [3, 0, 1, 2, 4] (by decide +kernel) rfl⟩, hS.F ht⟩) hS.2.2 dX9_meet_52 hlk
      · skip
        refine lv_if_ne (tgt := 35) hx hb dX9_meet_25 (by decide) (fun c_32 => absurd (by decide) c_32) (fun c_32 => ?_)
        refine lv_aload_n hx hb dX9_meet_28 rfl (lv_at hl 0 rfl) ?_
        refine lv_ldc (v := (-1000000001)) hx hb hown (hu _ uw648) dX9_meet_29 ?_
        refine xc_Vi (wr := [(ys, .inl (cI, 449, .inl ms)), (yfa, .inl (cI, 100, .inl fa)), (yfe, .inl (cI, 100, .inl fe))]) hF (c_X9_finds_B l D cI cJ cZ cS ta sa sv s.heap.size h0 ys yk yo yt mk0 yfa yfe mL mS mM yro yhe ygr mF mC mY yta mz mf mt mv mw ywa ybi ysi ynu ymo mq ) kv_X9_70 ⟨rfl, rfl, Nat.le_of_ble_eq_true rfl, Nat.le_of_ble_eq_true rfl⟩ ⟨Nat.le_of_ble_eq_true rfl, Nat.le_of_ble_eq_true rfl⟩ hK hN hZ hP hD hS hA [0, 4] [1, 2, 3] rfl rfl rfl rfl (by decide) 0 rfl rfl rfl rfl hl.1 rfl (Nat.le_of_ble_eq_true rfl) dX9_meet_31 (fun r_33 u_r_33 H locs hw_r_33 hP hD hS => ?_)
        obtain ⟨mq2_34, rfl⟩ : ∃ z, z = u_r_33 := ⟨_, rfl⟩
        try dsimp only at hw_r_33
        have hP : va_P D vwCl [(ys, .inl (cI, 449, .inl ms)), (yfa, .inl (cI, 100, .inl fa)), (yfe, .inl (cI, 100, .inl fe)), (h0, .inr (9, [.ref ys, .ref yk, .ref yo, .ref yt, .int mk0, .ref yfa, .ref yfe, .int mL, .int mS, .int mM, .ref yro, .ref yhe, .ref ygr, .int mF, .int mC, .int mY, .ref yta, .int (nI (mz)), .int (nI (mf)), .int (nI (mt)), .int mv, .int mw, .ref ywa, .ref ybi, .ref ysi, .ref ynu, .ref ymo])), (yt, .inl (cI, 7, .inl mq2_34))] H := hP
        have hD : va_D A [(ys, .inl (cI, 449, .inl ms)), (yfa, .inl (cI, 100, .inl fa)), (yfe, .inl (cI, 100, .inl fe)), (h0, .inr (9, [.ref ys, .ref yk, .ref yo, .ref yt, .int mk0, .ref yfa, .ref yfe, .int mL, .int mS, .int mM, .ref yro, .ref yhe, .ref ygr, .int mF, .int mC, .int mY, .ref yta, .int (nI (mz)), .int (nI (mf)), .int (nI (mt)), .int mv, .int mw, .ref ywa, .ref ybi, .ref ysi, .ref ynu, .ref ymo])), (yt, .inl (cI, 7, .inl mq2_34))] := hD
        subst hw_r_33
        exact W.iret (v := (-1000000001)) hx hb hr (fun t ht hW => ⟨⟨(-1000000001), (mL, fa, fe, mq2_34), rfl, trivial, by rw [ht]; exact hP.sub [3, 0, 1, 2, 4] rfl, hD.sub [3, 0, 1, 2, 4] (by decide +kernel) rfl⟩, hS.F ht⟩) hS.2.2 dX9_meet_34 hlk
    · skip
      refine lv_if_eq (tgt := 28) hx hb dX9_meet_13 (by decide) (fun c_35 => ?_) (fun c_35 => absurd (by decide) c_35)
      refine lv_aload_n hx hb dX9_meet_28 rfl (lv_at hl 0 rfl) ?_
      refine lv_ldc (v := (-1000000001)) hx hb hown (hu _ uw648) dX9_meet_29 ?_
      refine xc_Vi (wr := [(ys, .inl (cI, 449, .inl ms)), (yfa, .inl (cI, 100, .inl fa)), (yfe, .inl (cI, 100, .inl fe))]) hF (c_X9_finds_B l D cI cJ cZ cS ta sa sv s.heap.size h0 ys yk yo yt mk0 yfa yfe mL mS mM yro yhe ygr mF mC mY yta mz mf mt mv mw ywa ybi ysi ynu ymo mq ) kv_X9_70 ⟨rfl, rfl, Nat.le_of_ble_eq_true rfl, Nat.le_of_ble_eq_true rfl⟩ ⟨Nat.le_of_ble_eq_true rfl, Nat.le_of_ble_eq_true rfl⟩ hK hN hZ hP hD hS hA [0, 4] [1, 2, 3] rfl rfl rfl rfl (by decide) 0 rfl rfl rfl rfl hl.1 rfl (Nat.le_of_ble_eq_true rfl) dX9_meet_31 (fun r_36 u_r_36 H locs hw_r_36 hP hD hS => ?_)
      obtain ⟨mq2_37, rfl⟩ : ∃ z, z = u_r_36 := ⟨_, rfl⟩
      try dsimp only at hw_r_36
      have hP : va_P D vwCl [(ys, .inl (cI, 449, .inl ms)), (yfa, .inl (cI, 100, .inl fa)), (yfe, .inl (cI, 100, .inl fe)), (h0, .inr (9, [.ref ys, .ref yk, .ref yo, .ref yt, .int mk0, .ref yfa, .ref yfe, .int mL, .int mS, .int mM, .ref yro, .ref yhe, .ref ygr, .int mF, .int mC, .int mY, .ref yta, .int (nI (mz)), .int (nI (mf)), .int (nI (mt)), .int mv, .int mw, .ref ywa, .ref ybi, .ref ysi, .ref ynu, .ref ymo])), (yt, .inl (cI, 7, .inl mq2_37))] H := hP
      have hD : va_D A [(ys, .inl (cI, 449, .inl ms)), (yfa, .inl (cI, 100, .inl fa)), (yfe, .inl (cI, 100, .inl fe)), (h0, .inr (9, [.ref ys, .ref yk, .ref yo, .ref yt, .int mk0, .ref yfa, .ref yfe, .int mL, .int mS, .int mM, .ref yro, .ref yhe, .ref ygr, .int mF, .int mC, .int mY, .ref yta, .int (nI (mz)), .int (nI (mf)), .int (nI (mt)), .int mv, .int mw, .ref ywa, .ref ybi, .ref ysi, .ref ynu, .ref ymo])), (yt, .inl (cI, 7, .inl mq2_37))] := hD
      subst hw_r_36
      exact W.iret (v := (-1000000001)) hx hb hr (fun t ht hW => ⟨⟨(-1000000001), (mL, fa, fe, mq2_37), rfl, trivial, by rw [ht]; exact hP.sub [3, 0, 1, 2, 4] rfl, hD.sub [3, 0, 1, 2, 4] (by decide +kernel) rfl⟩, hS.F ht⟩) hS.2.2 dX9_meet_34 hlk
  · skip
    refine lv_if_eq (tgt := 28) hx hb dX9_meet_5 (by decide) (fun c_38 => ?_) (fun c_38 => absurd (by decide) c_38)
    refine lv_aload_n hx hb dX9_meet_28 rfl (lv_at hl 0 rfl) ?_
    refine lv_ldc (v := (-1000000001)) hx hb hown (hu _ uw648) dX9_meet_29 ?_
    refine xc_Vi (wr := [(ys, .inl (cI, 449, .inl ms)), (yfa, .inl (cI, 100, .inl fa)), (yfe, .inl (cI, 100, .inl fe))]) hF (c_X9_finds_B l D cI cJ cZ cS ta sa sv s.heap.size h0 ys yk yo yt mk0 yfa yfe mL mS mM yro yhe ygr mF mC mY yta mz mf mt mv mw ywa ybi ysi ynu ymo mq ) kv_X9_70 ⟨rfl, rfl, Nat.le_of_ble_eq_true rfl, Nat.le_of_ble_eq_true rfl⟩ ⟨Nat.le_of_ble_eq_true rfl, Nat.le_of_ble_eq_true rfl⟩ hK hN hZ hP hD hS hA [0, 4] [1, 2, 3] rfl rfl rfl rfl (by decide) 0 rfl rfl rfl rfl hl.1 rfl (Nat.le_of_ble_eq_true rfl) dX9_meet_31 (fun r_39 u_r_39 H locs hw_r_39 hP hD hS => ?_)
    obtain ⟨mq2_40, rfl⟩ : ∃ z, z = u_r_39 := ⟨_, rfl⟩
    try dsimp only at hw_r_39
    have hP : va_P D vwCl [(ys, .inl (cI, 449, .inl ms)), (yfa, .inl (cI, 100, .inl fa)), (yfe, .inl (cI, 100, .inl fe)), (h0, .inr (9, [.ref ys, .ref yk, .ref yo, .ref yt, .int mk0, .ref yfa, .ref yfe, .int mL, .int mS, .int mM, .ref yro, .ref yhe, .ref ygr, .int mF, .int mC, .int mY, .ref yta, .int (nI (mz)), .int (nI (mf)), .int (nI (mt)), .int mv, .int mw, .ref ywa, .ref ybi, .ref ysi, .ref ynu, .ref ymo])), (yt, .inl (cI, 7, .inl mq2_40))] H := hP
    have hD : va_D A [(ys, .inl (cI, 449, .inl ms)), (yfa, .inl (cI, 100, .inl fa)), (yfe, .inl (cI, 100, .inl fe)), (h0, .inr (9, [.ref ys, .ref yk, .ref yo, .ref yt, .int mk0, .ref yfa, .ref yfe, .int mL, .int mS, .int mM, .ref yro, .ref yhe, .ref ygr, .int mF, .int mC, .int mY, .ref yta, .int (nI (mz)), .int (nI (mf)), .int (nI (mt)), .int mv, .int mw, .ref ywa, .ref ybi, .ref ysi, .ref ynu, .ref ymo])), (yt, .inl (cI, 7, .inl mq2_40))] := hD
    subst hw_r_39
    exact W.iret (v := (-1000000001)) hx hb hr (fun t ht hW => ⟨⟨(-1000000001), (mL, fa, fe, mq2_40), rfl, trivial, by rw [ht]; exact hP.sub [3, 0, 1, 2, 4] rfl, hD.sub [3, 0, 1, 2, 4] (by decide +kernel) rfl⟩, hS.F ht⟩) hS.2.2 dX9_meet_34 hlk
