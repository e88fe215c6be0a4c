def LRX9_newWalk_6 : List UInt8 := []
def LBX9_newWalk_5 : List UInt8 := [0x04, 0x64, 0xac]
def LRX9_newWalk_5 : List UInt8 := LBX9_newWalk_5 ++ LRX9_newWalk_6
def LBX9_newWalk_4 : List UInt8 := [0x2a, 0xb4, 0x00, 0x07, 0x05, 0x5c, 0x2e, 0x04, 0x60, 0x4f, 0x2a, 0xb4, 0x00, 0x07, 0x05, 0x2e]
def LRX9_newWalk_4 : List UInt8 := LBX9_newWalk_4 ++ LRX9_newWalk_5
def LBX9_newWalk_3 : List UInt8 := [0x15, 0x05, 0x06, 0x60, 0x1b, 0x4f, 0x2a, 0xb4, 0x00, 0x07, 0x15, 0x05, 0x07, 0x60, 0x1c, 0x4f]
def LRX9_newWalk_3 : List UInt8 := LBX9_newWalk_3 ++ LRX9_newWalk_4
def LBX9_newWalk_2 : List UInt8 := [0x4f, 0x2a, 0xb4, 0x00, 0x07, 0x15, 0x05, 0x05, 0x60, 0x15, 0x04, 0x4f, 0x2a, 0xb4, 0x00, 0x07]
def LRX9_newWalk_2 : List UInt8 := LBX9_newWalk_2 ++ LRX9_newWalk_3
def LBX9_newWalk_1 : List UInt8 := [0xb4, 0x00, 0x07, 0x15, 0x05, 0x05, 0x4f, 0x2a, 0xb4, 0x00, 0x07, 0x15, 0x05, 0x04, 0x60, 0x1d]
def LRX9_newWalk_1 : List UInt8 := LBX9_newWalk_1 ++ LRX9_newWalk_2
def LBX9_newWalk_0 : List UInt8 := [0x11, 0x01, 0x79, 0x10, 0x09, 0x2a, 0xb4, 0x00, 0x07, 0x05, 0x2e, 0x68, 0x60, 0x36, 0x05, 0x2a]
def LRX9_newWalk_0 : List UInt8 := LBX9_newWalk_0 ++ LRX9_newWalk_1
set_option maxRecDepth 100000 in
theorem LBX9_newWalk_eq : cX9_newWalk.data.toList = LRX9_newWalk_0 := by decide +kernel
theorem LBX9_newWalkr_0 (k : Nat) : cX9_newWalk.data.toList[0 + k]? = LRX9_newWalk_0[k]? := by rw [LBX9_newWalk_eq, Nat.zero_add]
theorem LBX9_newWalkr_1 (k : Nat) : cX9_newWalk.data.toList[16 + k]? = LRX9_newWalk_1[k]? := by
  have h := LBX9_newWalkr_0 (16 + k)
  rw [show 0 + (16 + k) = 16 + k by omega] at h
  rw [h]
  exact (List.getElem?_append_right (l₁ := LBX9_newWalk_0) (l₂ := LRX9_newWalk_1) (show 16 ≤ 16 + k by omega)).trans (congrArg (fun i => LRX9_newWalk_1[i]?) (show 16 + k - 16 = k by omega))
theorem LBX9_newWalkr_2 (k : Nat) : cX9_newWalk.data.toList[32 + k]? = LRX9_newWalk_2[k]? := by
  have h := LBX9_newWalkr_1 (16 + k)
  rw [show 16 + (16 + k) = 32 + k by omega] at h
  rw [h]
  exact (List.getElem?_append_right (l₁ := LBX9_newWalk_1) (l₂ := LRX9_newWalk_2) (show 16 ≤ 16 + k by omega)).trans (congrArg (fun i => LRX9_newWalk_2[i]?) (show 16 + k - 16 = k by omega))
theorem LBX9_newWalkr_3 (k : Nat) : cX9_newWalk.data.toList[48 + k]? = LRX9_newWalk_3[k]? := by
  have h := LBX9_newWalkr_2 (16 + k)
  rw [show 32 + (16 + k) = 48 + k by omega] at h
  rw [h]
  exact (List.getElem?_append_right (l₁ := LBX9_newWalk_2) (l₂ := LRX9_newWalk_3) (show 16 ≤ 16 + k by omega)).trans (congrArg (fun i => LRX9_newWalk_3[i]?) (show 16 + k - 16 = k by omega))
theorem LBX9_newWalkr_4 (k : Nat) : cX9_newWalk.data.toList[64 + k]? = LRX9_newWalk_4[k]? := by
  have h := LBX9_newWalkr_3 (16 + k)
  rw [show 48 + (16 + k) = 64 + k by omega] at h
  rw [h]
  exact (List.getElem?_append_right (l₁ := LBX9_newWalk_3) (l₂ := LRX9_newWalk_4) (show 16 ≤ 16 + k by omega)).trans (congrArg (fun i => LRX9_newWalk_4[i]?) (show 16 + k - 16 = k by omega))
theorem LBX9_newWalkr_5 (k : Nat) : cX9_newWalk.data.toList[80 + k]? = LRX9_newWalk_5[k]? := by
  have h := LBX9_newWalkr_4 (16 + k)
  rw [show 64 + (16 + k) = 80 + k by omega] at h
  rw [h]
  exact (List.getElem?_append_right (l₁ := LBX9_newWalk_4) (l₂ := LRX9_newWalk_5) (show 16 ≤ 16 + k by omega)).trans (congrArg (fun i => LRX9_newWalk_5[i]?) (show 16 + k - 16 = k by omega))
theorem dX9_newWalk_0 : decode cX9_newWalk 0 = .ok (.sipush 377, 3) := dk_17_ (show cX9_newWalk.data.toList[0]? = some 0x11 from (LBX9_newWalkr_0 0).trans (by decide +kernel)) (show cX9_newWalk.data.toList[1]? = some 0x01 from (LBX9_newWalkr_0 1).trans (by decide +kernel)) (show cX9_newWalk.data.toList[2]? = some 0x79 from (LBX9_newWalkr_0 2).trans (by decide +kernel)) (by decide)
theorem dX9_newWalk_3 : decode cX9_newWalk 3 = .ok (.bipush 9, 2) := dk_16_ (show cX9_newWalk.data.toList[3]? = some 0x10 from (LBX9_newWalkr_0 3).trans (by decide +kernel)) (show cX9_newWalk.data.toList[4]? = some 0x09 from (LBX9_newWalkr_0 4).trans (by decide +kernel)) (by decide)
theorem dX9_newWalk_5 : decode cX9_newWalk 5 = .ok (.aload_n 0, 1) := dk_42_ (show cX9_newWalk.data.toList[5]? = some 0x2a from (LBX9_newWalkr_0 5).trans (by decide +kernel))
theorem dX9_newWalk_6 : decode cX9_newWalk 6 = .ok (.getfield 7, 3) := dk_180_ (show cX9_newWalk.data.toList[6]? = some 0xb4 from (LBX9_newWalkr_0 6).trans (by decide +kernel)) (show cX9_newWalk.data.toList[7]? = some 0x00 from (LBX9_newWalkr_0 7).trans (by decide +kernel)) (show cX9_newWalk.data.toList[8]? = some 0x07 from (LBX9_newWalkr_0 8).trans (by decide +kernel)) (by decide)
theorem dX9_newWalk_9 : decode cX9_newWalk 9 = .ok (.iconst 2, 1) := dk_5_ (show cX9_newWalk.data.toList[9]? = some 0x05 from (LBX9_newWalkr_0 9).trans (by decide +kernel))
theorem dX9_newWalk_10 : decode cX9_newWalk 10 = .ok (.iaload, 1) := dk_46_ (show cX9_newWalk.data.toList[10]? = some 0x2e from (LBX9_newWalkr_0 10).trans (by decide +kernel))
theorem dX9_newWalk_11 : decode cX9_newWalk 11 = .ok (.imul, 1) := dk_104_ (show cX9_newWalk.data.toList[11]? = some 0x68 from (LBX9_newWalkr_0 11).trans (by decide +kernel))
theorem dX9_newWalk_12 : decode cX9_newWalk 12 = .ok (.iadd, 1) := dk_96_ (show cX9_newWalk.data.toList[12]? = some 0x60 from (LBX9_newWalkr_0 12).trans (by decide +kernel))
theorem dX9_newWalk_13 : decode cX9_newWalk 13 = .ok (.istore 5, 2) := dk_54_ (show cX9_newWalk.data.toList[13]? = some 0x36 from (LBX9_newWalkr_0 13).trans (by decide +kernel)) (show cX9_newWalk.data.toList[14]? = some 0x05 from (LBX9_newWalkr_0 14).trans (by decide +kernel)) (by decide)
theorem dX9_newWalk_15 : decode cX9_newWalk 15 = .ok (.aload_n 0, 1) := dk_42_ (show cX9_newWalk.data.toList[15]? = some 0x2a from (LBX9_newWalkr_0 15).trans (by decide +kernel))
theorem dX9_newWalk_16 : decode cX9_newWalk 16 = .ok (.getfield 7, 3) := dk_180_ (show cX9_newWalk.data.toList[16]? = some 0xb4 from (LBX9_newWalkr_1 0).trans (by decide +kernel)) (show cX9_newWalk.data.toList[17]? = some 0x00 from (LBX9_newWalkr_1 1).trans (by decide +kernel)) (show cX9_newWalk.data.toList[18]? = some 0x07 from (LBX9_newWalkr_1 2).trans (by decide +kernel)) (by decide)
theorem dX9_newWalk_19 : decode cX9_newWalk 19 = .ok (.iload 5, 2) := dk_21_ (show cX9_newWalk.data.toList[19]? = some 0x15 from (LBX9_newWalkr_1 3).trans (by decide +kernel)) (show cX9_newWalk.data.toList[20]? = some 0x05 from (LBX9_newWalkr_1 4).trans (by decide +kernel)) (by decide)
theorem dX9_newWalk_21 : decode cX9_newWalk 21 = .ok (.iconst 2, 1) := dk_5_ (show cX9_newWalk.data.toList[21]? = some 0x05 from (LBX9_newWalkr_1 5).trans (by decide +kernel))
theorem dX9_newWalk_22 : decode cX9_newWalk 22 = .ok (.iastore, 1) := dk_79_ (show cX9_newWalk.data.toList[22]? = some 0x4f from (LBX9_newWalkr_1 6).trans (by decide +kernel))
theorem dX9_newWalk_23 : decode cX9_newWalk 23 = .ok (.aload_n 0, 1) := dk_42_ (show cX9_newWalk.data.toList[23]? = some 0x2a from (LBX9_newWalkr_1 7).trans (by decide +kernel))
theorem dX9_newWalk_24 : decode cX9_newWalk 24 = .ok (.getfield 7, 3) := dk_180_ (show cX9_newWalk.data.toList[24]? = some 0xb4 from (LBX9_newWalkr_1 8).trans (by decide +kernel)) (show cX9_newWalk.data.toList[25]? = some 0x00 from (LBX9_newWalkr_1 9).trans (by decide +kernel)) (show cX9_newWalk.data.toList[26]? = some 0x07 from (LBX9_newWalkr_1 10).trans (by decide +kernel)) (by decide)
theorem dX9_newWalk_27 : decode cX9_newWalk 27 = .ok (.iload 5, 2) := dk_21_ (show cX9_newWalk.data.toList[27]? = some 0x15 from (LBX9_newWalkr_1 11).trans (by decide +kernel)) (show cX9_newWalk.data.toList[28]? = some 0x05 from (LBX9_newWalkr_1 12).trans (by decide +kernel)) (by decide)
theorem dX9_newWalk_29 : decode cX9_newWalk 29 = .ok (.iconst 1, 1) := dk_4_ (show cX9_newWalk.data.toList[29]? = some 0x04 from (LBX9_newWalkr_1 13).trans (by decide +kernel))
theorem dX9_newWalk_30 : decode cX9_newWalk 30 = .ok (.iadd, 1) := dk_96_ (show cX9_newWalk.data.toList[30]? = some 0x60 from (LBX9_newWalkr_1 14).trans (by decide +kernel))
theorem dX9_newWalk_31 : decode cX9_newWalk 31 = .ok (.iload_n 3, 1) := dk_29_ (show cX9_newWalk.data.toList[31]? = some 0x1d from (LBX9_newWalkr_1 15).trans (by decide +kernel))
theorem dX9_newWalk_32 : decode cX9_newWalk 32 = .ok (.iastore, 1) := dk_79_ (show cX9_newWalk.data.toList[32]? = some 0x4f from (LBX9_newWalkr_2 0).trans (by decide +kernel))
theorem dX9_newWalk_33 : decode cX9_newWalk 33 = .ok (.aload_n 0, 1) := dk_42_ (show cX9_newWalk.data.toList[33]? = some 0x2a from (LBX9_newWalkr_2 1).trans (by decide +kernel))
theorem dX9_newWalk_34 : decode cX9_newWalk 34 = .ok (.getfield 7, 3) := dk_180_ (show cX9_newWalk.data.toList[34]? = some 0xb4 from (LBX9_newWalkr_2 2).trans (by decide +kernel)) (show cX9_newWalk.data.toList[35]? = some 0x00 from (LBX9_newWalkr_2 3).trans (by decide +kernel)) (show cX9_newWalk.data.toList[36]? = some 0x07 from (LBX9_newWalkr_2 4).trans (by decide +kernel)) (by decide)
theorem dX9_newWalk_37 : decode cX9_newWalk 37 = .ok (.iload 5, 2) := dk_21_ (show cX9_newWalk.data.toList[37]? = some 0x15 from (LBX9_newWalkr_2 5).trans (by decide +kernel)) (show cX9_newWalk.data.toList[38]? = some 0x05 from (LBX9_newWalkr_2 6).trans (by decide +kernel)) (by decide)
theorem dX9_newWalk_39 : decode cX9_newWalk 39 = .ok (.iconst 2, 1) := dk_5_ (show cX9_newWalk.data.toList[39]? = some 0x05 from (LBX9_newWalkr_2 7).trans (by decide +kernel))
theorem dX9_newWalk_40 : decode cX9_newWalk 40 = .ok (.iadd, 1) := dk_96_ (show cX9_newWalk.data.toList[40]? = some 0x60 from (LBX9_newWalkr_2 8).trans (by decide +kernel))
theorem dX9_newWalk_41 : decode cX9_newWalk 41 = .ok (.iload 4, 2) := dk_21_ (show cX9_newWalk.data.toList[41]? = some 0x15 from (LBX9_newWalkr_2 9).trans (by decide +kernel)) (show cX9_newWalk.data.toList[42]? = some 0x04 from (LBX9_newWalkr_2 10).trans (by decide +kernel)) (by decide)
theorem dX9_newWalk_43 : decode cX9_newWalk 43 = .ok (.iastore, 1) := dk_79_ (show cX9_newWalk.data.toList[43]? = some 0x4f from (LBX9_newWalkr_2 11).trans (by decide +kernel))
theorem dX9_newWalk_44 : decode cX9_newWalk 44 = .ok (.aload_n 0, 1) := dk_42_ (show cX9_newWalk.data.toList[44]? = some 0x2a from (LBX9_newWalkr_2 12).trans (by decide +kernel))
theorem dX9_newWalk_45 : decode cX9_newWalk 45 = .ok (.getfield 7, 3) := dk_180_ (show cX9_newWalk.data.toList[45]? = some 0xb4 from (LBX9_newWalkr_2 13).trans (by decide +kernel)) (show cX9_newWalk.data.toList[46]? = some 0x00 from (LBX9_newWalkr_2 14).trans (by decide +kernel)) (show cX9_newWalk.data.toList[47]? = some 0x07 from (LBX9_newWalkr_2 15).trans (by decide +kernel)) (by decide)
theorem dX9_newWalk_48 : decode cX9_newWalk 48 = .ok (.iload 5, 2) := dk_21_ (show cX9_newWalk.data.toList[48]? = some 0x15 from (LBX9_newWalkr_3 0).trans (by decide +kernel)) (show cX9_newWalk.data.toList[49]? = some 0x05 from (LBX9_newWalkr_3 1).trans (by decide +kernel)) (by decide)
theorem dX9_newWalk_50 : decode cX9_newWalk 50 = .ok (.iconst 3, 1) := dk_6_ (show cX9_newWalk.data.toList[50]? = some 0x06 from (LBX9_newWalkr_3 2).trans (by decide +kernel))
theorem dX9_newWalk_51 : decode cX9_newWalk 51 = .ok (.iadd, 1) := dk_96_ (show cX9_newWalk.data.toList[51]? = some 0x60 from (LBX9_newWalkr_3 3).trans (by decide +kernel))
theorem dX9_newWalk_52 : decode cX9_newWalk 52 = .ok (.iload_n 1, 1) := dk_27_ (show cX9_newWalk.data.toList[52]? = some 0x1b from (LBX9_newWalkr_3 4).trans (by decide +kernel))
theorem dX9_newWalk_53 : decode cX9_newWalk 53 = .ok (.iastore, 1) := dk_79_ (show cX9_newWalk.data.toList[53]? = some 0x4f from (LBX9_newWalkr_3 5).trans (by decide +kernel))
theorem dX9_newWalk_54 : decode cX9_newWalk 54 = .ok (.aload_n 0, 1) := dk_42_ (show cX9_newWalk.data.toList[54]? = some 0x2a from (LBX9_newWalkr_3 6).trans (by decide +kernel))
theorem dX9_newWalk_55 : decode cX9_newWalk 55 = .ok (.getfield 7, 3) := dk_180_ (show cX9_newWalk.data.toList[55]? = some 0xb4 from (LBX9_newWalkr_3 7).trans (by decide +kernel)) (show cX9_newWalk.data.toList[56]? = some 0x00 from (LBX9_newWalkr_3 8).trans (by decide +kernel)) (show cX9_newWalk.data.toList[57]? = some 0x07 from (LBX9_newWalkr_3 9).trans (by decide +kernel)) (by decide)
theorem dX9_newWalk_58 : decode cX9_newWalk 58 = .ok (.iload 5, 2) := dk_21_ (show cX9_newWalk.data.toList[58]? = some 0x15 from (LBX9_newWalkr_3 10).trans (by decide +kernel)) (show cX9_newWalk.data.toList[59]? = some 0x05 from (LBX9_newWalkr_3 11).trans (by decide +kernel)) (by decide)
theorem dX9_newWalk_60 : decode cX9_newWalk 60 = .ok (.iconst 4, 1) := dk_7_ (show cX9_newWalk.data.toList[60]? = some 0x07 from (LBX9_newWalkr_3 12).trans (by decide +kernel))
theorem dX9_newWalk_61 : decode cX9_newWalk 61 = .ok (.iadd, 1) := dk_96_ (show cX9_newWalk.data.toList[61]? = some 0x60 from (LBX9_newWalkr_3 13).trans (by decide +kernel))
theorem dX9_newWalk_62 : decode cX9_newWalk 62 = .ok (.iload_n 2, 1) := dk_28_ (show cX9_newWalk.data.toList[62]? = some 0x1c from (LBX9_newWalkr_3 14).trans (by decide +kernel))
theorem dX9_newWalk_63 : decode cX9_newWalk 63 = .ok (.iastore, 1) := dk_79_ (show cX9_newWalk.data.toList[63]? = some 0x4f from (LBX9_newWalkr_3 15).trans (by decide +kernel))
theorem dX9_newWalk_64 : decode cX9_newWalk 64 = .ok (.aload_n 0, 1) := dk_42_ (show cX9_newWalk.data.toList[64]? = some 0x2a from (LBX9_newWalkr_4 0).trans (by decide +kernel))
theorem dX9_newWalk_65 : decode cX9_newWalk 65 = .ok (.getfield 7, 3) := dk_180_ (show cX9_newWalk.data.toList[65]? = some 0xb4 from (LBX9_newWalkr_4 1).trans (by decide +kernel)) (show cX9_newWalk.data.toList[66]? = some 0x00 from (LBX9_newWalkr_4 2).trans (by decide +kernel)) (show cX9_newWalk.data.toList[67]? = some 0x07 from (LBX9_newWalkr_4 3).trans (by decide +kernel)) (by decide)
theorem dX9_newWalk_68 : decode cX9_newWalk 68 = .ok (.iconst 2, 1) := dk_5_ (show cX9_newWalk.data.toList[68]? = some 0x05 from (LBX9_newWalkr_4 4).trans (by decide +kernel))
theorem dX9_newWalk_69 : decode cX9_newWalk 69 = .ok (.dup2, 1) := dk_92_ (show cX9_newWalk.data.toList[69]? = some 0x5c from (LBX9_newWalkr_4 5).trans (by decide +kernel))
theorem dX9_newWalk_70 : decode cX9_newWalk 70 = .ok (.iaload, 1) := dk_46_ (show cX9_newWalk.data.toList[70]? = some 0x2e from (LBX9_newWalkr_4 6).trans (by decide +kernel))
theorem dX9_newWalk_71 : decode cX9_newWalk 71 = .ok (.iconst 1, 1) := dk_4_ (show cX9_newWalk.data.toList[71]? = some 0x04 from (LBX9_newWalkr_4 7).trans (by decide +kernel))
theorem dX9_newWalk_72 : decode cX9_newWalk 72 = .ok (.iadd, 1) := dk_96_ (show cX9_newWalk.data.toList[72]? = some 0x60 from (LBX9_newWalkr_4 8).trans (by decide +kernel))
theorem dX9_newWalk_73 : decode cX9_newWalk 73 = .ok (.iastore, 1) := dk_79_ (show cX9_newWalk.data.toList[73]? = some 0x4f from (LBX9_newWalkr_4 9).trans (by decide +kernel))
theorem dX9_newWalk_74 : decode cX9_newWalk 74 = .ok (.aload_n 0, 1) := dk_42_ (show cX9_newWalk.data.toList[74]? = some 0x2a from (LBX9_newWalkr_4 10).trans (by decide +kernel))
theorem dX9_newWalk_75 : decode cX9_newWalk 75 = .ok (.getfield 7, 3) := dk_180_ (show cX9_newWalk.data.toList[75]? = some 0xb4 from (LBX9_newWalkr_4 11).trans (by decide +kernel)) (show cX9_newWalk.data.toList[76]? = some 0x00 from (LBX9_newWalkr_4 12).trans (by decide +kernel)) (show cX9_newWalk.data.toList[77]? = some 0x07 from (LBX9_newWalkr_4 13).trans (by decide +kernel)) (by decide)
theorem dX9_newWalk_78 : decode cX9_newWalk 78 = .ok (.iconst 2, 1) := dk_5_ (show cX9_newWalk.data.toList[78]? = some 0x05 from (LBX9_newWalkr_4 14).trans (by decide +kernel))
theorem dX9_newWalk_79 : decode cX9_newWalk 79 = .ok (.iaload, 1) := dk_46_ (show cX9_newWalk.data.toList[79]? = some 0x2e from (LBX9_newWalkr_4 15).trans (by decide +kernel))
theorem dX9_newWalk_80 : decode cX9_newWalk 80 = .ok (.iconst 1, 1) := dk_4_ (show cX9_newWalk.data.toList[80]? = some 0x04 from (LBX9_newWalkr_5 0).trans (by decide +kernel))
theorem dX9_newWalk_81 : decode cX9_newWalk 81 = .ok (.isub, 1) := dk_100_ (show cX9_newWalk.data.toList[81]? = some 0x64 from (LBX9_newWalkr_5 1).trans (by decide +kernel))
theorem dX9_newWalk_82 : decode cX9_newWalk 82 = .ok (.ireturn, 1) := dk_172_ (show cX9_newWalk.data.toList[82]? = some 0xac from (LBX9_newWalkr_5 2).trans (by decide +kernel))
def LRX9_walk_5 : List UInt8 := []
def LBX9_walk_4 : List UInt8 := [0xc4, 0xac]
def LRX9_walk_4 : List UInt8 := LBX9_walk_4 ++ LRX9_walk_5
def LBX9_walk_3 : List UInt8 := [0x12, 0x45, 0xb6, 0x00, 0x46, 0xa7, 0x00, 0x0c, 0x2a, 0x1b, 0x1c, 0x1d, 0x15, 0x04, 0xb6, 0x00]
def LRX9_walk_3 : List UInt8 := LBX9_walk_3 ++ LRX9_walk_4
def LBX9_walk_2 : List UInt8 := [0xb6, 0x00, 0x46, 0xac, 0x2a, 0xb4, 0x00, 0x07, 0x05, 0x2e, 0x10, 0x08, 0xa0, 0x00, 0x0c, 0x2a]
def LRX9_walk_2 : List UInt8 := LBX9_walk_2 ++ LRX9_walk_3
def LBX9_walk_1 : List UInt8 := [0x15, 0x04, 0x85, 0x09, 0x14, 0x00, 0x4e, 0xb8, 0x00, 0x39, 0x9a, 0x00, 0x0a, 0x2a, 0x12, 0x38]
def LRX9_walk_1 : List UInt8 := LBX9_walk_1 ++ LRX9_walk_2
def LBX9_walk_0 : List UInt8 := [0x2a, 0x1b, 0x1c, 0xb6, 0x00, 0x50, 0x99, 0x00, 0x17, 0x1d, 0xb8, 0x00, 0xc1, 0x99, 0x00, 0x10]
def LRX9_walk_0 : List UInt8 := LBX9_walk_0 ++ LRX9_walk_1
set_option maxRecDepth 100000 in
theorem LBX9_walk_eq : cX9_walk.data.toList = LRX9_walk_0 := by decide +kernel
theorem LBX9_walkr_0 (k : Nat) : cX9_walk.data.toList[0 + k]? = LRX9_walk_0[k]? := by rw [LBX9_walk_eq, Nat.zero_add]
theorem LBX9_walkr_1 (k : Nat) : cX9_walk.data.toList[16 + k]? = LRX9_walk_1[k]? := by
  have h := LBX9_walkr_0 (16 + k)
  rw [show 0 + (16 + k) = 16 + k by omega] at h
  rw [h]
  exact (List.getElem?_append_right (l₁ := LBX9_walk_0) (l₂ := LRX9_walk_1) (show 16 ≤ 16 + k by omega)).trans (congrArg (fun i => LRX9_walk_1[i]?) (show 16 + k - 16 = k by omega))
theorem LBX9_walkr_2 (k : Nat) : cX9_walk.data.toList[32 + k]? = LRX9_walk_2[k]? := by
  have h := LBX9_walkr_1 (16 + k)
  rw [show 16 + (16 + k) = 32 + k by omega] at h
  rw [h]
  exact (List.getElem?_append_right (l₁ := LBX9_walk_1) (l₂ := LRX9_walk_2) (show 16 ≤ 16 + k by omega)).trans (congrArg (fun i => LRX9_walk_2[i]?) (show 16 + k - 16 = k by omega))
theorem LBX9_walkr_3 (k : Nat) : cX9_walk.data.toList[48 + k]? = LRX9_walk_3[k]? := by
  have h := LBX9_walkr_2 (16 + k)
  rw [show 32 + (16 + k) = 48 + k by omega] at h
  rw [h]
  exact (List.getElem?_append_right (l₁ := LBX9_walk_2) (l₂ := LRX9_walk_3) (show 16 ≤ 16 + k by omega)).trans (congrArg (fun i => LRX9_walk_3[i]?) (show 16 + k - 16 = k by omega))
theorem LBX9_walkr_4 (k : Nat) : cX9_walk.data.toList[64 + k]? = LRX9_walk_4[k]? := by
  have h := LBX9_walkr_3 (16 + k)
  rw [show 48 + (16 + k) = 64 + k by omega] at h
  rw [h]
  exact (List.getElem?_append_right (l₁ := LBX9_walk_3) (l₂ := LRX9_walk_4) (show 16 ≤ 16 + k by omega)).trans (congrArg (fun i => LRX9_walk_4[i]?) (show 16 + k - 16 = k by omega))
theorem dX9_walk_0 : decode cX9_walk 0 = .ok (.aload_n 0, 1) := dk_42_ (show cX9_walk.data.toList[0]? = some 0x2a from (LBX9_walkr_0 0).trans (by decide +kernel))
theorem dX9_walk_1 : decode cX9_walk 1 = .ok (.iload_n 1, 1) := dk_27_ (show cX9_walk.data.toList[1]? = some 0x1b from (LBX9_walkr_0 1).trans (by decide +kernel))
theorem dX9_walk_2 : decode cX9_walk 2 = .ok (.iload_n 2, 1) := dk_28_ (show cX9_walk.data.toList[2]? = some 0x1c from (LBX9_walkr_0 2).trans (by decide +kernel))
theorem dX9_walk_3 : decode cX9_walk 3 = .ok (.invokevirtual 80, 3) := dk_182_ (show cX9_walk.data.toList[3]? = some 0xb6 from (LBX9_walkr_0 3).trans (by decide +kernel)) (show cX9_walk.data.toList[4]? = some 0x00 from (LBX9_walkr_0 4).trans (by decide +kernel)) (show cX9_walk.data.toList[5]? = some 0x50 from (LBX9_walkr_0 5).trans (by decide +kernel)) (by decide)
theorem dX9_walk_6 : decode cX9_walk 6 = .ok (.ifCond .eq 23, 3) := dk_153_ (show cX9_walk.data.toList[6]? = some 0x99 from (LBX9_walkr_0 6).trans (by decide +kernel)) (show cX9_walk.data.toList[7]? = some 0x00 from (LBX9_walkr_0 7).trans (by decide +kernel)) (show cX9_walk.data.toList[8]? = some 0x17 from (LBX9_walkr_0 8).trans (by decide +kernel)) (by decide)
theorem dX9_walk_9 : decode cX9_walk 9 = .ok (.iload_n 3, 1) := dk_29_ (show cX9_walk.data.toList[9]? = some 0x1d from (LBX9_walkr_0 9).trans (by decide +kernel))
theorem dX9_walk_10 : decode cX9_walk 10 = .ok (.invokestatic 193, 3) := dk_184_ (show cX9_walk.data.toList[10]? = some 0xb8 from (LBX9_walkr_0 10).trans (by decide +kernel)) (show cX9_walk.data.toList[11]? = some 0x00 from (LBX9_walkr_0 11).trans (by decide +kernel)) (show cX9_walk.data.toList[12]? = some 0xc1 from (LBX9_walkr_0 12).trans (by decide +kernel)) (by decide)
theorem dX9_walk_13 : decode cX9_walk 13 = .ok (.ifCond .eq 16, 3) := dk_153_ (show cX9_walk.data.toList[13]? = some 0x99 from (LBX9_walkr_0 13).trans (by decide +kernel)) (show cX9_walk.data.toList[14]? = some 0x00 from (LBX9_walkr_0 14).trans (by decide +kernel)) (show cX9_walk.data.toList[15]? = some 0x10 from (LBX9_walkr_0 15).trans (by decide +kernel)) (by decide)
theorem dX9_walk_16 : decode cX9_walk 16 = .ok (.iload 4, 2) := dk_21_ (show cX9_walk.data.toList[16]? = some 0x15 from (LBX9_walkr_1 0).trans (by decide +kernel)) (show cX9_walk.data.toList[17]? = some 0x04 from (LBX9_walkr_1 1).trans (by decide +kernel)) (by decide)
theorem dX9_walk_18 : decode cX9_walk 18 = .ok (.i2l, 1) := dk_133_ (show cX9_walk.data.toList[18]? = some 0x85 from (LBX9_walkr_1 2).trans (by decide +kernel))
theorem dX9_walk_19 : decode cX9_walk 19 = .ok (.lconst 0, 1) := dk_9_ (show cX9_walk.data.toList[19]? = some 0x09 from (LBX9_walkr_1 3).trans (by decide +kernel))
theorem dX9_walk_20 : decode cX9_walk 20 = .ok (.ldc2_w 78, 3) := dk_20_ (show cX9_walk.data.toList[20]? = some 0x14 from (LBX9_walkr_1 4).trans (by decide +kernel)) (show cX9_walk.data.toList[21]? = some 0x00 from (LBX9_walkr_1 5).trans (by decide +kernel)) (show cX9_walk.data.toList[22]? = some 0x4e from (LBX9_walkr_1 6).trans (by decide +kernel)) (by decide)
theorem dX9_walk_23 : decode cX9_walk 23 = .ok (.invokestatic 57, 3) := dk_184_ (show cX9_walk.data.toList[23]? = some 0xb8 from (LBX9_walkr_1 7).trans (by decide +kernel)) (show cX9_walk.data.toList[24]? = some 0x00 from (LBX9_walkr_1 8).trans (by decide +kernel)) (show cX9_walk.data.toList[25]? = some 0x39 from (LBX9_walkr_1 9).trans (by decide +kernel)) (by decide)
theorem dX9_walk_26 : decode cX9_walk 26 = .ok (.ifCond .ne 10, 3) := dk_154_ (show cX9_walk.data.toList[26]? = some 0x9a from (LBX9_walkr_1 10).trans (by decide +kernel)) (show cX9_walk.data.toList[27]? = some 0x00 from (LBX9_walkr_1 11).trans (by decide +kernel)) (show cX9_walk.data.toList[28]? = some 0x0a from (LBX9_walkr_1 12).trans (by decide +kernel)) (by decide)
theorem dX9_walk_29 : decode cX9_walk 29 = .ok (.aload_n 0, 1) := dk_42_ (show cX9_walk.data.toList[29]? = some 0x2a from (LBX9_walkr_1 13).trans (by decide +kernel))
theorem dX9_walk_30 : decode cX9_walk 30 = .ok (.ldc 56, 2) := dk_18_ (show cX9_walk.data.toList[30]? = some 0x12 from (LBX9_walkr_1 14).trans (by decide +kernel)) (show cX9_walk.data.toList[31]? = some 0x38 from (LBX9_walkr_1 15).trans (by decide +kernel)) (by decide)
theorem dX9_walk_32 : decode cX9_walk 32 = .ok (.invokevirtual 70, 3) := dk_182_ (show cX9_walk.data.toList[32]? = some 0xb6 from (LBX9_walkr_2 0).trans (by decide +kernel)) (show cX9_walk.data.toList[33]? = some 0x00 from (LBX9_walkr_2 1).trans (by decide +kernel)) (show cX9_walk.data.toList[34]? = some 0x46 from (LBX9_walkr_2 2).trans (by decide +kernel)) (by decide)
theorem dX9_walk_35 : decode cX9_walk 35 = .ok (.ireturn, 1) := dk_172_ (show cX9_walk.data.toList[35]? = some 0xac from (LBX9_walkr_2 3).trans (by decide +kernel))
theorem dX9_walk_36 : decode cX9_walk 36 = .ok (.aload_n 0, 1) := dk_42_ (show cX9_walk.data.toList[36]? = some 0x2a from (LBX9_walkr_2 4).trans (by decide +kernel))
theorem dX9_walk_37 : decode cX9_walk 37 = .ok (.getfield 7, 3) := dk_180_ (show cX9_walk.data.toList[37]? = some 0xb4 from (LBX9_walkr_2 5).trans (by decide +kernel)) (show cX9_walk.data.toList[38]? = some 0x00 from (LBX9_walkr_2 6).trans (by decide +kernel)) (show cX9_walk.data.toList[39]? = some 0x07 from (LBX9_walkr_2 7).trans (by decide +kernel)) (by decide)
theorem dX9_walk_40 : decode cX9_walk 40 = .ok (.iconst 2, 1) := dk_5_ (show cX9_walk.data.toList[40]? = some 0x05 from (LBX9_walkr_2 8).trans (by decide +kernel))
theorem dX9_walk_41 : decode cX9_walk 41 = .ok (.iaload, 1) := dk_46_ (show cX9_walk.data.toList[41]? = some 0x2e from (LBX9_walkr_2 9).trans (by decide +kernel))
theorem dX9_walk_42 : decode cX9_walk 42 = .ok (.bipush 8, 2) := dk_16_ (show cX9_walk.data.toList[42]? = some 0x10 from (LBX9_walkr_2 10).trans (by decide +kernel)) (show cX9_walk.data.toList[43]? = some 0x08 from (LBX9_walkr_2 11).trans (by decide +kernel)) (by decide)
theorem dX9_walk_44 : decode cX9_walk 44 = .ok (.if_icmp .ne 12, 3) := dk_160_ (show cX9_walk.data.toList[44]? = some 0xa0 from (LBX9_walkr_2 12).trans (by decide +kernel)) (show cX9_walk.data.toList[45]? = some 0x00 from (LBX9_walkr_2 13).trans (by decide +kernel)) (show cX9_walk.data.toList[46]? = some 0x0c from (LBX9_walkr_2 14).trans (by decide +kernel)) (by decide)
theorem dX9_walk_47 : decode cX9_walk 47 = .ok (.aload_n 0, 1) := dk_42_ (show cX9_walk.data.toList[47]? = some 0x2a from (LBX9_walkr_2 15).trans (by decide +kernel))
theorem dX9_walk_48 : decode cX9_walk 48 = .ok (.ldc 69, 2) := dk_18_ (show cX9_walk.data.toList[48]? = some 0x12 from (LBX9_walkr_3 0).trans (by decide +kernel)) (show cX9_walk.data.toList[49]? = some 0x45 from (LBX9_walkr_3 1).trans (by decide +kernel)) (by decide)
theorem dX9_walk_50 : decode cX9_walk 50 = .ok (.invokevirtual 70, 3) := dk_182_ (show cX9_walk.data.toList[50]? = some 0xb6 from (LBX9_walkr_3 2).trans (by decide +kernel)) (show cX9_walk.data.toList[51]? = some 0x00 from (LBX9_walkr_3 3).trans (by decide +kernel)) (show cX9_walk.data.toList[52]? = some 0x46 from (LBX9_walkr_3 4).trans (by decide +kernel)) (by decide)
theorem dX9_walk_53 : decode cX9_walk 53 = .ok (.goto 12, 3) := dk_167_ (show cX9_walk.data.toList[53]? = some 0xa7 from (LBX9_walkr_3 5).trans (by decide +kernel)) (show cX9_walk.data.toList[54]? = some 0x00 from (LBX9_walkr_3 6).trans (by decide +kernel)) (show cX9_walk.data.toList[55]? = some 0x0c from (LBX9_walkr_3 7).trans (by decide +kernel)) (by decide)
theorem dX9_walk_56 : decode cX9_walk 56 = .ok (.aload_n 0, 1) := dk_42_ (show cX9_walk.data.toList[56]? = some 0x2a from (LBX9_walkr_3 8).trans (by decide +kernel))
theorem dX9_walk_57 : decode cX9_walk 57 = .ok (.iload_n 1, 1) := dk_27_ (show cX9_walk.data.toList[57]? = some 0x1b from (LBX9_walkr_3 9).trans (by decide +kernel))
theorem dX9_walk_58 : decode cX9_walk 58 = .ok (.iload_n 2, 1) := dk_28_ (show cX9_walk.data.toList[58]? = some 0x1c from (LBX9_walkr_3 10).trans (by decide +kernel))
theorem dX9_walk_59 : decode cX9_walk 59 = .ok (.iload_n 3, 1) := dk_29_ (show cX9_walk.data.toList[59]? = some 0x1d from (LBX9_walkr_3 11).trans (by decide +kernel))
theorem dX9_walk_60 : decode cX9_walk 60 = .ok (.iload 4, 2) := dk_21_ (show cX9_walk.data.toList[60]? = some 0x15 from (LBX9_walkr_3 12).trans (by decide +kernel)) (show cX9_walk.data.toList[61]? = some 0x04 from (LBX9_walkr_3 13).trans (by decide +kernel)) (by decide)
theorem dX9_walk_62 : decode cX9_walk 62 = .ok (.invokevirtual 196, 3) := dk_182_ (show cX9_walk.data.toList[62]? = some 0xb6 from (LBX9_walkr_3 14).trans (by decide +kernel)) (show cX9_walk.data.toList[63]? = some 0x00 from (LBX9_walkr_3 15).trans (by decide +kernel)) (show cX9_walk.data.toList[64]? = some 0xc4 from (LBX9_walkr_4 0).trans (by decide +kernel)) (by decide)
theorem dX9_walk_65 : decode cX9_walk 65 = .ok (.ireturn, 1) := dk_172_ (show cX9_walk.data.toList[65]? = some 0xac from (LBX9_walkr_4 1).trans (by decide +kernel))
def LRX9_on_8 : List UInt8 := []
def LBX9_on_7 : List UInt8 := [0x07, 0x1d, 0x5c, 0x2e, 0x04, 0x60, 0x4f, 0x2a, 0xb4, 0x00, 0x07, 0x1d, 0x2e, 0xac]
def LRX9_on_7 : List UInt8 := LBX9_on_7 ++ LRX9_on_8
def LBX9_on_6 : List UInt8 := [0x07, 0x1d, 0x06, 0x60, 0x2a, 0xb4, 0x00, 0x07, 0x1d, 0x2e, 0x60, 0x1c, 0x4f, 0x2a, 0xb4, 0x00]
def LRX9_on_6 : List UInt8 := LBX9_on_6 ++ LRX9_on_7
def LBX9_on_5 : List UInt8 := [0x2e, 0x10, 0x06, 0xa0, 0x00, 0x0a, 0x2a, 0x12, 0x45, 0xb6, 0x00, 0x46, 0xac, 0x2a, 0xb4, 0x00]
def LRX9_on_5 : List UInt8 := LBX9_on_5 ++ LRX9_on_6
def LBX9_on_4 : List UInt8 := [0x46, 0xac, 0x11, 0x01, 0x79, 0x10, 0x09, 0x1b, 0x68, 0x60, 0x3e, 0x2a, 0xb4, 0x00, 0x07, 0x1d]
def LRX9_on_4 : List UInt8 := LBX9_on_4 ++ LRX9_on_5
def LBX9_on_3 : List UInt8 := [0x09, 0x1b, 0x68, 0x60, 0x2e, 0x60, 0x2e, 0x1c, 0xa0, 0x00, 0x0a, 0x2a, 0x12, 0x38, 0xb6, 0x00]
def LRX9_on_3 : List UInt8 := LBX9_on_3 ++ LRX9_on_4
def LBX9_on_2 : List UInt8 := [0x79, 0x10, 0x09, 0x1b, 0x68, 0x60, 0x05, 0x60, 0x2a, 0xb4, 0x00, 0x07, 0x11, 0x01, 0x79, 0x10]
def LRX9_on_2 : List UInt8 := LBX9_on_2 ++ LRX9_on_3
def LBX9_on_1 : List UInt8 := [0x00, 0x2c, 0x2a, 0x1c, 0xb6, 0x00, 0x3d, 0x99, 0x00, 0x24, 0x2a, 0xb4, 0x00, 0x07, 0x11, 0x01]
def LRX9_on_1 : List UInt8 := LBX9_on_1 ++ LRX9_on_2
def LBX9_on_0 : List UInt8 := [0x1b, 0x85, 0x09, 0x2a, 0xb4, 0x00, 0x07, 0x05, 0x2e, 0x04, 0x64, 0x85, 0xb8, 0x00, 0x39, 0x99]
def LRX9_on_0 : List UInt8 := LBX9_on_0 ++ LRX9_on_1
set_option maxRecDepth 100000 in
theorem LBX9_on_eq : cX9_on.data.toList = LRX9_on_0 := by decide +kernel
theorem LBX9_onr_0 (k : Nat) : cX9_on.data.toList[0 + k]? = LRX9_on_0[k]? := by rw [LBX9_on_eq, Nat.zero_add]
theorem LBX9_onr_1 (k : Nat) : cX9_on.data.toList[16 + k]? = LRX9_on_1[k]? := by
  have h := LBX9_onr_0 (16 + k)
  rw [show 0 + (16 + k) = 16 + k by omega] at h
  rw [h]
  exact (List.getElem?_append_right (l₁ := LBX9_on_0) (l₂ := LRX9_on_1) (show 16 ≤ 16 + k by omega)).trans (congrArg (fun i => LRX9_on_1[i]?) (show 16 + k - 16 = k by omega))
theorem LBX9_onr_2 (k : Nat) : cX9_on.data.toList[32 + k]? = LRX9_on_2[k]? := by
  have h := LBX9_onr_1 (16 + k)
  rw [show 16 + (16 + k) = 32 + k by omega] at h
  rw [h]
  exact (List.getElem?_append_right (l₁ := LBX9_on_1) (l₂ := LRX9_on_2) (show 16 ≤ 16 + k by omega)).trans (congrArg (fun i => LRX9_on_2[i]?) (show 16 + k - 16 = k by omega))
theorem LBX9_onr_3 (k : Nat) : cX9_on.data.toList[48 + k]? = LRX9_on_3[k]? := by
  have h := LBX9_onr_2 (16 + k)
  rw [show 32 + (16 + k) = 48 + k by omega] at h
  rw [h]
  exact (List.getElem?_append_right (l₁ := LBX9_on_2) (l₂ := LRX9_on_3) (show 16 ≤ 16 + k by omega)).trans (congrArg (fun i => LRX9_on_3[i]?) (show 16 + k - 16 = k by omega))
theorem LBX9_onr_4 (k : Nat) : cX9_on.data.toList[64 + k]? = LRX9_on_4[k]? := by
  have h := LBX9_onr_3 (16 + k)
  rw [show 48 + (16 + k) = 64 + k by omega] at h
  rw [h]
  exact (List.getElem?_append_right (l₁ := LBX9_on_3) (l₂ := LRX9_on_4) (show 16 ≤ 16 + k by omega)).trans (congrArg (fun i => LRX9_on_4[i]?) (show 16 + k - 16 = k by omega))
theorem LBX9_onr_5 (k : Nat) : cX9_on.data.toList[80 + k]? = LRX9_on_5[k]? := by
  have h := LBX9_onr_4 (16 + k)
  rw [show 64 + (16 + k) = 80 + k by omega] at h
  rw [h]
  exact (List.getElem?_append_right (l₁ := LBX9_on_4) (l₂ := LRX9_on_5) (show 16 ≤ 16 + k by omega)).trans (congrArg (fun i => LRX9_on_5[i]?) (show 16 + k - 16 = k by omega))
theorem LBX9_onr_6 (k : Nat) : cX9_on.data.toList[96 + k]? = LRX9_on_6[k]? := by
  have h := LBX9_onr_5 (16 + k)
  rw [show 80 + (16 + k) = 96 + k by omega] at h
  rw [h]
  exact (List.getElem?_append_right (l₁ := LBX9_on_5) (l₂ := LRX9_on_6) (show 16 ≤ 16 + k by omega)).trans (congrArg (fun i => LRX9_on_6[i]?) (show 16 + k - 16 = k by omega))
theorem LBX9_onr_7 (k : Nat) : cX9_on.data.toList[112 + k]? = LRX9_on_7[k]? := by
  have h := LBX9_onr_6 (16 + k)
  rw [show 96 + (16 + k) = 112 + k by omega] at h
  rw [h]
  exact (List.getElem?_append_right (l₁ := LBX9_on_6) (l₂ := LRX9_on_7) (show 16 ≤ 16 + k by omega)).trans (congrArg (fun i => LRX9_on_7[i]?) (show 16 + k - 16 = k by omega))
theorem dX9_on_0 : decode cX9_on 0 = .ok (.iload_n 1, 1) := dk_27_ (show cX9_on.data.toList[0]? = some 0x1b from (LBX9_onr_0 0).trans (by decide +kernel))
theorem dX9_on_1 : decode cX9_on 1 = .ok (.i2l, 1) := dk_133_ (show cX9_on.data.toList[1]? = some 0x85 from (LBX9_onr_0 1).trans (by decide +kernel))
theorem dX9_on_2 : decode cX9_on 2 = .ok (.lconst 0, 1) := dk_9_ (show cX9_on.data.toList[2]? = some 0x09 from (LBX9_onr_0 2).trans (by decide +kernel))
theorem dX9_on_3 : decode cX9_on 3 = .ok (.aload_n 0, 1) := dk_42_ (show cX9_on.data.toList[3]? = some 0x2a from (LBX9_onr_0 3).trans (by decide +kernel))
theorem dX9_on_4 : decode cX9_on 4 = .ok (.getfield 7, 3) := dk_180_ (show cX9_on.data.toList[4]? = some 0xb4 from (LBX9_onr_0 4).trans (by decide +kernel)) (show cX9_on.data.toList[5]? = some 0x00 from (LBX9_onr_0 5).trans (by decide +kernel)) (show cX9_on.data.toList[6]? = some 0x07 from (LBX9_onr_0 6).trans (by decide +kernel)) (by decide)
theorem dX9_on_7 : decode cX9_on 7 = .ok (.iconst 2, 1) := dk_5_ (show cX9_on.data.toList[7]? = some 0x05 from (LBX9_onr_0 7).trans (by decide +kernel))
theorem dX9_on_8 : decode cX9_on 8 = .ok (.iaload, 1) := dk_46_ (show cX9_on.data.toList[8]? = some 0x2e from (LBX9_onr_0 8).trans (by decide +kernel))
theorem dX9_on_9 : decode cX9_on 9 = .ok (.iconst 1, 1) := dk_4_ (show cX9_on.data.toList[9]? = some 0x04 from (LBX9_onr_0 9).trans (by decide +kernel))
theorem dX9_on_10 : decode cX9_on 10 = .ok (.isub, 1) := dk_100_ (show cX9_on.data.toList[10]? = some 0x64 from (LBX9_onr_0 10).trans (by decide +kernel))
theorem dX9_on_11 : decode cX9_on 11 = .ok (.i2l, 1) := dk_133_ (show cX9_on.data.toList[11]? = some 0x85 from (LBX9_onr_0 11).trans (by decide +kernel))
theorem dX9_on_12 : decode cX9_on 12 = .ok (.invokestatic 57, 3) := dk_184_ (show cX9_on.data.toList[12]? = some 0xb8 from (LBX9_onr_0 12).trans (by decide +kernel)) (show cX9_on.data.toList[13]? = some 0x00 from (LBX9_onr_0 13).trans (by decide +kernel)) (show cX9_on.data.toList[14]? = some 0x39 from (LBX9_onr_0 14).trans (by decide +kernel)) (by decide)
theorem dX9_on_15 : decode cX9_on 15 = .ok (.ifCond .eq 44, 3) := dk_153_ (show cX9_on.data.toList[15]? = some 0x99 from (LBX9_onr_0 15).trans (by decide +kernel)) (show cX9_on.data.toList[16]? = some 0x00 from (LBX9_onr_1 0).trans (by decide +kernel)) (show cX9_on.data.toList[17]? = some 0x2c from (LBX9_onr_1 1).trans (by decide +kernel)) (by decide)
theorem dX9_on_18 : decode cX9_on 18 = .ok (.aload_n 0, 1) := dk_42_ (show cX9_on.data.toList[18]? = some 0x2a from (LBX9_onr_1 2).trans (by decide +kernel))
theorem dX9_on_19 : decode cX9_on 19 = .ok (.iload_n 2, 1) := dk_28_ (show cX9_on.data.toList[19]? = some 0x1c from (LBX9_onr_1 3).trans (by decide +kernel))
theorem dX9_on_20 : decode cX9_on 20 = .ok (.invokevirtual 61, 3) := dk_182_ (show cX9_on.data.toList[20]? = some 0xb6 from (LBX9_onr_1 4).trans (by decide +kernel)) (show cX9_on.data.toList[21]? = some 0x00 from (LBX9_onr_1 5).trans (by decide +kernel)) (show cX9_on.data.toList[22]? = some 0x3d from (LBX9_onr_1 6).trans (by decide +kernel)) (by decide)
theorem dX9_on_23 : decode cX9_on 23 = .ok (.ifCond .eq 36, 3) := dk_153_ (show cX9_on.data.toList[23]? = some 0x99 from (LBX9_onr_1 7).trans (by decide +kernel)) (show cX9_on.data.toList[24]? = some 0x00 from (LBX9_onr_1 8).trans (by decide +kernel)) (show cX9_on.data.toList[25]? = some 0x24 from (LBX9_onr_1 9).trans (by decide +kernel)) (by decide)
theorem dX9_on_26 : decode cX9_on 26 = .ok (.aload_n 0, 1) := dk_42_ (show cX9_on.data.toList[26]? = some 0x2a from (LBX9_onr_1 10).trans (by decide +kernel))
theorem dX9_on_27 : decode cX9_on 27 = .ok (.getfield 7, 3) := dk_180_ (show cX9_on.data.toList[27]? = some 0xb4 from (LBX9_onr_1 11).trans (by decide +kernel)) (show cX9_on.data.toList[28]? = some 0x00 from (LBX9_onr_1 12).trans (by decide +kernel)) (show cX9_on.data.toList[29]? = some 0x07 from (LBX9_onr_1 13).trans (by decide +kernel)) (by decide)
theorem dX9_on_30 : decode cX9_on 30 = .ok (.sipush 377, 3) := dk_17_ (show cX9_on.data.toList[30]? = some 0x11 from (LBX9_onr_1 14).trans (by decide +kernel)) (show cX9_on.data.toList[31]? = some 0x01 from (LBX9_onr_1 15).trans (by decide +kernel)) (show cX9_on.data.toList[32]? = some 0x79 from (LBX9_onr_2 0).trans (by decide +kernel)) (by decide)
theorem dX9_on_33 : decode cX9_on 33 = .ok (.bipush 9, 2) := dk_16_ (show cX9_on.data.toList[33]? = some 0x10 from (LBX9_onr_2 1).trans (by decide +kernel)) (show cX9_on.data.toList[34]? = some 0x09 from (LBX9_onr_2 2).trans (by decide +kernel)) (by decide)
theorem dX9_on_35 : decode cX9_on 35 = .ok (.iload_n 1, 1) := dk_27_ (show cX9_on.data.toList[35]? = some 0x1b from (LBX9_onr_2 3).trans (by decide +kernel))
theorem dX9_on_36 : decode cX9_on 36 = .ok (.imul, 1) := dk_104_ (show cX9_on.data.toList[36]? = some 0x68 from (LBX9_onr_2 4).trans (by decide +kernel))
theorem dX9_on_37 : decode cX9_on 37 = .ok (.iadd, 1) := dk_96_ (show cX9_on.data.toList[37]? = some 0x60 from (LBX9_onr_2 5).trans (by decide +kernel))
theorem dX9_on_38 : decode cX9_on 38 = .ok (.iconst 2, 1) := dk_5_ (show cX9_on.data.toList[38]? = some 0x05 from (LBX9_onr_2 6).trans (by decide +kernel))
theorem dX9_on_39 : decode cX9_on 39 = .ok (.iadd, 1) := dk_96_ (show cX9_on.data.toList[39]? = some 0x60 from (LBX9_onr_2 7).trans (by decide +kernel))
theorem dX9_on_40 : decode cX9_on 40 = .ok (.aload_n 0, 1) := dk_42_ (show cX9_on.data.toList[40]? = some 0x2a from (LBX9_onr_2 8).trans (by decide +kernel))
theorem dX9_on_41 : decode cX9_on 41 = .ok (.getfield 7, 3) := dk_180_ (show cX9_on.data.toList[41]? = some 0xb4 from (LBX9_onr_2 9).trans (by decide +kernel)) (show cX9_on.data.toList[42]? = some 0x00 from (LBX9_onr_2 10).trans (by decide +kernel)) (show cX9_on.data.toList[43]? = some 0x07 from (LBX9_onr_2 11).trans (by decide +kernel)) (by decide)
theorem dX9_on_44 : decode cX9_on 44 = .ok (.sipush 377, 3) := dk_17_ (show cX9_on.data.toList[44]? = some 0x11 from (LBX9_onr_2 12).trans (by decide +kernel)) (show cX9_on.data.toList[45]? = some 0x01 from (LBX9_onr_2 13).trans (by decide +kernel)) (show cX9_on.data.toList[46]? = some 0x79 from (LBX9_onr_2 14).trans (by decide +kernel)) (by decide)
theorem dX9_on_47 : decode cX9_on 47 = .ok (.bipush 9, 2) := dk_16_ (show cX9_on.data.toList[47]? = some 0x10 from (LBX9_onr_2 15).trans (by decide +kernel)) (show cX9_on.data.toList[48]? = some 0x09 from (LBX9_onr_3 0).trans (by decide +kernel)) (by decide)
theorem dX9_on_49 : decode cX9_on 49 = .ok (.iload_n 1, 1) := dk_27_ (show cX9_on.data.toList[49]? = some 0x1b from (LBX9_onr_3 1).trans (by decide +kernel))
theorem dX9_on_50 : decode cX9_on 50 = .ok (.imul, 1) := dk_104_ (show cX9_on.data.toList[50]? = some 0x68 from (LBX9_onr_3 2).trans (by decide +kernel))
theorem dX9_on_51 : decode cX9_on 51 = .ok (.iadd, 1) := dk_96_ (show cX9_on.data.toList[51]? = some 0x60 from (LBX9_onr_3 3).trans (by decide +kernel))
theorem dX9_on_52 : decode cX9_on 52 = .ok (.iaload, 1) := dk_46_ (show cX9_on.data.toList[52]? = some 0x2e from (LBX9_onr_3 4).trans (by decide +kernel))
theorem dX9_on_53 : decode cX9_on 53 = .ok (.iadd, 1) := dk_96_ (show cX9_on.data.toList[53]? = some 0x60 from (LBX9_onr_3 5).trans (by decide +kernel))
theorem dX9_on_54 : decode cX9_on 54 = .ok (.iaload, 1) := dk_46_ (show cX9_on.data.toList[54]? = some 0x2e from (LBX9_onr_3 6).trans (by decide +kernel))
theorem dX9_on_55 : decode cX9_on 55 = .ok (.iload_n 2, 1) := dk_28_ (show cX9_on.data.toList[55]? = some 0x1c from (LBX9_onr_3 7).trans (by decide +kernel))
theorem dX9_on_56 : decode cX9_on 56 = .ok (.if_icmp .ne 10, 3) := dk_160_ (show cX9_on.data.toList[56]? = some 0xa0 from (LBX9_onr_3 8).trans (by decide +kernel)) (show cX9_on.data.toList[57]? = some 0x00 from (LBX9_onr_3 9).trans (by decide +kernel)) (show cX9_on.data.toList[58]? = some 0x0a from (LBX9_onr_3 10).trans (by decide +kernel)) (by decide)
theorem dX9_on_59 : decode cX9_on 59 = .ok (.aload_n 0, 1) := dk_42_ (show cX9_on.data.toList[59]? = some 0x2a from (LBX9_onr_3 11).trans (by decide +kernel))
theorem dX9_on_60 : decode cX9_on 60 = .ok (.ldc 56, 2) := dk_18_ (show cX9_on.data.toList[60]? = some 0x12 from (LBX9_onr_3 12).trans (by decide +kernel)) (show cX9_on.data.toList[61]? = some 0x38 from (LBX9_onr_3 13).trans (by decide +kernel)) (by decide)
theorem dX9_on_62 : decode cX9_on 62 = .ok (.invokevirtual 70, 3) := dk_182_ (show cX9_on.data.toList[62]? = some 0xb6 from (LBX9_onr_3 14).trans (by decide +kernel)) (show cX9_on.data.toList[63]? = some 0x00 from (LBX9_onr_3 15).trans (by decide +kernel)) (show cX9_on.data.toList[64]? = some 0x46 from (LBX9_onr_4 0).trans (by decide +kernel)) (by decide)
theorem dX9_on_65 : decode cX9_on 65 = .ok (.ireturn, 1) := dk_172_ (show cX9_on.data.toList[65]? = some 0xac from (LBX9_onr_4 1).trans (by decide +kernel))
theorem dX9_on_66 : decode cX9_on 66 = .ok (.sipush 377, 3) := dk_17_ (show cX9_on.data.toList[66]? = some 0x11 from (LBX9_onr_4 2).trans (by decide +kernel)) (show cX9_on.data.toList[67]? = some 0x01 from (LBX9_onr_4 3).trans (by decide +kernel)) (show cX9_on.data.toList[68]? = some 0x79 from (LBX9_onr_4 4).trans (by decide +kernel)) (by decide)
theorem dX9_on_69 : decode cX9_on 69 = .ok (.bipush 9, 2) := dk_16_ (show cX9_on.data.toList[69]? = some 0x10 from (LBX9_onr_4 5).trans (by decide +kernel)) (show cX9_on.data.toList[70]? = some 0x09 from (LBX9_onr_4 6).trans (by decide +kernel)) (by decide)
theorem dX9_on_71 : decode cX9_on 71 = .ok (.iload_n 1, 1) := dk_27_ (show cX9_on.data.toList[71]? = some 0x1b from (LBX9_onr_4 7).trans (by decide +kernel))
theorem dX9_on_72 : decode cX9_on 72 = .ok (.imul, 1) := dk_104_ (show cX9_on.data.toList[72]? = some 0x68 from (LBX9_onr_4 8).trans (by decide +kernel))
theorem dX9_on_73 : decode cX9_on 73 = .ok (.iadd, 1) := dk_96_ (show cX9_on.data.toList[73]? = some 0x60 from (LBX9_onr_4 9).trans (by decide +kernel))
theorem dX9_on_74 : decode cX9_on 74 = .ok (.istore_n 3, 1) := dk_62_ (show cX9_on.data.toList[74]? = some 0x3e from (LBX9_onr_4 10).trans (by decide +kernel))
theorem dX9_on_75 : decode cX9_on 75 = .ok (.aload_n 0, 1) := dk_42_ (show cX9_on.data.toList[75]? = some 0x2a from (LBX9_onr_4 11).trans (by decide +kernel))
theorem dX9_on_76 : decode cX9_on 76 = .ok (.getfield 7, 3) := dk_180_ (show cX9_on.data.toList[76]? = some 0xb4 from (LBX9_onr_4 12).trans (by decide +kernel)) (show cX9_on.data.toList[77]? = some 0x00 from (LBX9_onr_4 13).trans (by decide +kernel)) (show cX9_on.data.toList[78]? = some 0x07 from (LBX9_onr_4 14).trans (by decide +kernel)) (by decide)
theorem dX9_on_79 : decode cX9_on 79 = .ok (.iload_n 3, 1) := dk_29_ (show cX9_on.data.toList[79]? = some 0x1d from (LBX9_onr_4 15).trans (by decide +kernel))
theorem dX9_on_80 : decode cX9_on 80 = .ok (.iaload, 1) := dk_46_ (show cX9_on.data.toList[80]? = some 0x2e from (LBX9_onr_5 0).trans (by decide +kernel))
theorem dX9_on_81 : decode cX9_on 81 = .ok (.bipush 6, 2) := dk_16_ (show cX9_on.data.toList[81]? = some 0x10 from (LBX9_onr_5 1).trans (by decide +kernel)) (show cX9_on.data.toList[82]? = some 0x06 from (LBX9_onr_5 2).trans (by decide +kernel)) (by decide)
theorem dX9_on_83 : decode cX9_on 83 = .ok (.if_icmp .ne 10, 3) := dk_160_ (show cX9_on.data.toList[83]? = some 0xa0 from (LBX9_onr_5 3).trans (by decide +kernel)) (show cX9_on.data.toList[84]? = some 0x00 from (LBX9_onr_5 4).trans (by decide +kernel)) (show cX9_on.data.toList[85]? = some 0x0a from (LBX9_onr_5 5).trans (by decide +kernel)) (by decide)
theorem dX9_on_86 : decode cX9_on 86 = .ok (.aload_n 0, 1) := dk_42_ (show cX9_on.data.toList[86]? = some 0x2a from (LBX9_onr_5 6).trans (by decide +kernel))
theorem dX9_on_87 : decode cX9_on 87 = .ok (.ldc 69, 2) := dk_18_ (show cX9_on.data.toList[87]? = some 0x12 from (LBX9_onr_5 7).trans (by decide +kernel)) (show cX9_on.data.toList[88]? = some 0x45 from (LBX9_onr_5 8).trans (by decide +kernel)) (by decide)
theorem dX9_on_89 : decode cX9_on 89 = .ok (.invokevirtual 70, 3) := dk_182_ (show cX9_on.data.toList[89]? = some 0xb6 from (LBX9_onr_5 9).trans (by decide +kernel)) (show cX9_on.data.toList[90]? = some 0x00 from (LBX9_onr_5 10).trans (by decide +kernel)) (show cX9_on.data.toList[91]? = some 0x46 from (LBX9_onr_5 11).trans (by decide +kernel)) (by decide)
theorem dX9_on_92 : decode cX9_on 92 = .ok (.ireturn, 1) := dk_172_ (show cX9_on.data.toList[92]? = some 0xac from (LBX9_onr_5 12).trans (by decide +kernel))
theorem dX9_on_93 : decode cX9_on 93 = .ok (.aload_n 0, 1) := dk_42_ (show cX9_on.data.toList[93]? = some 0x2a from (LBX9_onr_5 13).trans (by decide +kernel))
theorem dX9_on_94 : decode cX9_on 94 = .ok (.getfield 7, 3) := dk_180_ (show cX9_on.data.toList[94]? = some 0xb4 from (LBX9_onr_5 14).trans (by decide +kernel)) (show cX9_on.data.toList[95]? = some 0x00 from (LBX9_onr_5 15).trans (by decide +kernel)) (show cX9_on.data.toList[96]? = some 0x07 from (LBX9_onr_6 0).trans (by decide +kernel)) (by decide)
theorem dX9_on_97 : decode cX9_on 97 = .ok (.iload_n 3, 1) := dk_29_ (show cX9_on.data.toList[97]? = some 0x1d from (LBX9_onr_6 1).trans (by decide +kernel))
theorem dX9_on_98 : decode cX9_on 98 = .ok (.iconst 3, 1) := dk_6_ (show cX9_on.data.toList[98]? = some 0x06 from (LBX9_onr_6 2).trans (by decide +kernel))
theorem dX9_on_99 : decode cX9_on 99 = .ok (.iadd, 1) := dk_96_ (show cX9_on.data.toList[99]? = some 0x60 from (LBX9_onr_6 3).trans (by decide +kernel))
theorem dX9_on_100 : decode cX9_on 100 = .ok (.aload_n 0, 1) := dk_42_ (show cX9_on.data.toList[100]? = some 0x2a from (LBX9_onr_6 4).trans (by decide +kernel))
theorem dX9_on_101 : decode cX9_on 101 = .ok (.getfield 7, 3) := dk_180_ (show cX9_on.data.toList[101]? = some 0xb4 from (LBX9_onr_6 5).trans (by decide +kernel)) (show cX9_on.data.toList[102]? = some 0x00 from (LBX9_onr_6 6).trans (by decide +kernel)) (show cX9_on.data.toList[103]? = some 0x07 from (LBX9_onr_6 7).trans (by decide +kernel)) (by decide)
theorem dX9_on_104 : decode cX9_on 104 = .ok (.iload_n 3, 1) := dk_29_ (show cX9_on.data.toList[104]? = some 0x1d from (LBX9_onr_6 8).trans (by decide +kernel))
theorem dX9_on_105 : decode cX9_on 105 = .ok (.iaload, 1) := dk_46_ (show cX9_on.data.toList[105]? = some 0x2e from (LBX9_onr_6 9).trans (by decide +kernel))
theorem dX9_on_106 : decode cX9_on 106 = .ok (.iadd, 1) := dk_96_ (show cX9_on.data.toList[106]? = some 0x60 from (LBX9_onr_6 10).trans (by decide +kernel))
theorem dX9_on_107 : decode cX9_on 107 = .ok (.iload_n 2, 1) := dk_28_ (show cX9_on.data.toList[107]? = some 0x1c from (LBX9_onr_6 11).trans (by decide +kernel))
theorem dX9_on_108 : decode cX9_on 108 = .ok (.iastore, 1) := dk_79_ (show cX9_on.data.toList[108]? = some 0x4f from (LBX9_onr_6 12).trans (by decide +kernel))
theorem dX9_on_109 : decode cX9_on 109 = .ok (.aload_n 0, 1) := dk_42_ (show cX9_on.data.toList[109]? = some 0x2a from (LBX9_onr_6 13).trans (by decide +kernel))
theorem dX9_on_110 : decode cX9_on 110 = .ok (.getfield 7, 3) := dk_180_ (show cX9_on.data.toList[110]? = some 0xb4 from (LBX9_onr_6 14).trans (by decide +kernel)) (show cX9_on.data.toList[111]? = some 0x00 from (LBX9_onr_6 15).trans (by decide +kernel)) (show cX9_on.data.toList[112]? = some 0x07 from (LBX9_onr_7 0).trans (by decide +kernel)) (by decide)
theorem dX9_on_113 : decode cX9_on 113 = .ok (.iload_n 3, 1) := dk_29_ (show cX9_on.data.toList[113]? = some 0x1d from (LBX9_onr_7 1).trans (by decide +kernel))
theorem dX9_on_114 : decode cX9_on 114 = .ok (.dup2, 1) := dk_92_ (show cX9_on.data.toList[114]? = some 0x5c from (LBX9_onr_7 2).trans (by decide +kernel))
theorem dX9_on_115 : decode cX9_on 115 = .ok (.iaload, 1) := dk_46_ (show cX9_on.data.toList[115]? = some 0x2e from (LBX9_onr_7 3).trans (by decide +kernel))
theorem dX9_on_116 : decode cX9_on 116 = .ok (.iconst 1, 1) := dk_4_ (show cX9_on.data.toList[116]? = some 0x04 from (LBX9_onr_7 4).trans (by decide +kernel))
theorem dX9_on_117 : decode cX9_on 117 = .ok (.iadd, 1) := dk_96_ (show cX9_on.data.toList[117]? = some 0x60 from (LBX9_onr_7 5).trans (by decide +kernel))
theorem dX9_on_118 : decode cX9_on 118 = .ok (.iastore, 1) := dk_79_ (show cX9_on.data.toList[118]? = some 0x4f from (LBX9_onr_7 6).trans (by decide +kernel))
theorem dX9_on_119 : decode cX9_on 119 = .ok (.aload_n 0, 1) := dk_42_ (show cX9_on.data.toList[119]? = some 0x2a from (LBX9_onr_7 7).trans (by decide +kernel))
theorem dX9_on_120 : decode cX9_on 120 = .ok (.getfield 7, 3) := dk_180_ (show cX9_on.data.toList[120]? = some 0xb4 from (LBX9_onr_7 8).trans (by decide +kernel)) (show cX9_on.data.toList[121]? = some 0x00 from (LBX9_onr_7 9).trans (by decide +kernel)) (show cX9_on.data.toList[122]? = some 0x07 from (LBX9_onr_7 10).trans (by decide +kernel)) (by decide)
theorem dX9_on_123 : decode cX9_on 123 = .ok (.iload_n 3, 1) := dk_29_ (show cX9_on.data.toList[123]? = some 0x1d from (LBX9_onr_7 11).trans (by decide +kernel))
theorem dX9_on_124 : decode cX9_on 124 = .ok (.iaload, 1) := dk_46_ (show cX9_on.data.toList[124]? = some 0x2e from (LBX9_onr_7 12).trans (by decide +kernel))
theorem dX9_on_125 : decode cX9_on 125 = .ok (.ireturn, 1) := dk_172_ (show cX9_on.data.toList[125]? = some 0xac from (LBX9_onr_7 13).trans (by decide +kernel))
def LRX9_wayAt_3 : List UInt8 := []
def LBX9_wayAt_2 : List UInt8 := [0x07, 0x60, 0x1c, 0x60, 0x2e, 0x60, 0xac]
def LRX9_wayAt_2 : List UInt8 := LBX9_wayAt_2 ++ LRX9_wayAt_3
def LBX9_wayAt_1 : List UInt8 := [0x1c, 0x60, 0x2e, 0x68, 0x2a, 0xb4, 0x00, 0x07, 0x11, 0x01, 0x79, 0x10, 0x09, 0x1b, 0x68, 0x60]
def LRX9_wayAt_1 : List UInt8 := LBX9_wayAt_1 ++ LRX9_wayAt_2
def LBX9_wayAt_0 : List UInt8 := [0x10, 0x0a, 0x2a, 0xb4, 0x00, 0x07, 0x11, 0x01, 0x79, 0x10, 0x09, 0x1b, 0x68, 0x60, 0x06, 0x60]
def LRX9_wayAt_0 : List UInt8 := LBX9_wayAt_0 ++ LRX9_wayAt_1
set_option maxRecDepth 100000 in
theorem LBX9_wayAt_eq : cX9_wayAt.data.toList = LRX9_wayAt_0 := by decide +kernel
theorem LBX9_wayAtr_0 (k : Nat) : cX9_wayAt.data.toList[0 + k]? = LRX9_wayAt_0[k]? := by rw [LBX9_wayAt_eq, Nat.zero_add]
theorem LBX9_wayAtr_1 (k : Nat) : cX9_wayAt.data.toList[16 + k]? = LRX9_wayAt_1[k]? := by
  have h := LBX9_wayAtr_0 (16 + k)
  rw [show 0 + (16 + k) = 16 + k by omega] at h
  rw [h]
  exact (List.getElem?_append_right (l₁ := LBX9_wayAt_0) (l₂ := LRX9_wayAt_1) (show 16 ≤ 16 + k by omega)).trans (congrArg (fun i => LRX9_wayAt_1[i]?) (show 16 + k - 16 = k by omega))
theorem LBX9_wayAtr_2 (k : Nat) : cX9_wayAt.data.toList[32 + k]? = LRX9_wayAt_2[k]? := by
  have h := LBX9_wayAtr_1 (16 + k)
  rw [show 16 + (16 + k) = 32 + k by omega] at h
  rw [h]
  exact (List.getElem?_append_right (l₁ := LBX9_wayAt_1) (l₂ := LRX9_wayAt_2) (show 16 ≤ 16 + k by omega)).trans (congrArg (fun i => LRX9_wayAt_2[i]?) (show 16 + k - 16 = k by omega))
theorem dX9_wayAt_0 : decode cX9_wayAt 0 = .ok (.bipush 10, 2) := dk_16_ (show cX9_wayAt.data.toList[0]? = some 0x10 from (LBX9_wayAtr_0 0).trans (by decide +kernel)) (show cX9_wayAt.data.toList[1]? = some 0x0a from (LBX9_wayAtr_0 1).trans (by decide +kernel)) (by decide)
theorem dX9_wayAt_2 : decode cX9_wayAt 2 = .ok (.aload_n 0, 1) := dk_42_ (show cX9_wayAt.data.toList[2]? = some 0x2a from (LBX9_wayAtr_0 2).trans (by decide +kernel))
theorem dX9_wayAt_3 : decode cX9_wayAt 3 = .ok (.getfield 7, 3) := dk_180_ (show cX9_wayAt.data.toList[3]? = some 0xb4 from (LBX9_wayAtr_0 3).trans (by decide +kernel)) (show cX9_wayAt.data.toList[4]? = some 0x00 from (LBX9_wayAtr_0 4).trans (by decide +kernel)) (show cX9_wayAt.data.toList[5]? = some 0x07 from (LBX9_wayAtr_0 5).trans (by decide +kernel)) (by decide)
theorem dX9_wayAt_6 : decode cX9_wayAt 6 = .ok (.sipush 377, 3) := dk_17_ (show cX9_wayAt.data.toList[6]? = some 0x11 from (LBX9_wayAtr_0 6).trans (by decide +kernel)) (show cX9_wayAt.data.toList[7]? = some 0x01 from (LBX9_wayAtr_0 7).trans (by decide +kernel)) (show cX9_wayAt.data.toList[8]? = some 0x79 from (LBX9_wayAtr_0 8).trans (by decide +kernel)) (by decide)
theorem dX9_wayAt_9 : decode cX9_wayAt 9 = .ok (.bipush 9, 2) := dk_16_ (show cX9_wayAt.data.toList[9]? = some 0x10 from (LBX9_wayAtr_0 9).trans (by decide +kernel)) (show cX9_wayAt.data.toList[10]? = some 0x09 from (LBX9_wayAtr_0 10).trans (by decide +kernel)) (by decide)
theorem dX9_wayAt_11 : decode cX9_wayAt 11 = .ok (.iload_n 1, 1) := dk_27_ (show cX9_wayAt.data.toList[11]? = some 0x1b from (LBX9_wayAtr_0 11).trans (by decide +kernel))
theorem dX9_wayAt_12 : decode cX9_wayAt 12 = .ok (.imul, 1) := dk_104_ (show cX9_wayAt.data.toList[12]? = some 0x68 from (LBX9_wayAtr_0 12).trans (by decide +kernel))
theorem dX9_wayAt_13 : decode cX9_wayAt 13 = .ok (.iadd, 1) := dk_96_ (show cX9_wayAt.data.toList[13]? = some 0x60 from (LBX9_wayAtr_0 13).trans (by decide +kernel))
theorem dX9_wayAt_14 : decode cX9_wayAt 14 = .ok (.iconst 3, 1) := dk_6_ (show cX9_wayAt.data.toList[14]? = some 0x06 from (LBX9_wayAtr_0 14).trans (by decide +kernel))
theorem dX9_wayAt_15 : decode cX9_wayAt 15 = .ok (.iadd, 1) := dk_96_ (show cX9_wayAt.data.toList[15]? = some 0x60 from (LBX9_wayAtr_0 15).trans (by decide +kernel))
theorem dX9_wayAt_16 : decode cX9_wayAt 16 = .ok (.iload_n 2, 1) := dk_28_ (show cX9_wayAt.data.toList[16]? = some 0x1c from (LBX9_wayAtr_1 0).trans (by decide +kernel))
theorem dX9_wayAt_17 : decode cX9_wayAt 17 = .ok (.iadd, 1) := dk_96_ (show cX9_wayAt.data.toList[17]? = some 0x60 from (LBX9_wayAtr_1 1).trans (by decide +kernel))
theorem dX9_wayAt_18 : decode cX9_wayAt 18 = .ok (.iaload, 1) := dk_46_ (show cX9_wayAt.data.toList[18]? = some 0x2e from (LBX9_wayAtr_1 2).trans (by decide +kernel))
theorem dX9_wayAt_19 : decode cX9_wayAt 19 = .ok (.imul, 1) := dk_104_ (show cX9_wayAt.data.toList[19]? = some 0x68 from (LBX9_wayAtr_1 3).trans (by decide +kernel))
theorem dX9_wayAt_20 : decode cX9_wayAt 20 = .ok (.aload_n 0, 1) := dk_42_ (show cX9_wayAt.data.toList[20]? = some 0x2a from (LBX9_wayAtr_1 4).trans (by decide +kernel))
theorem dX9_wayAt_21 : decode cX9_wayAt 21 = .ok (.getfield 7, 3) := dk_180_ (show cX9_wayAt.data.toList[21]? = some 0xb4 from (LBX9_wayAtr_1 5).trans (by decide +kernel)) (show cX9_wayAt.data.toList[22]? = some 0x00 from (LBX9_wayAtr_1 6).trans (by decide +kernel)) (show cX9_wayAt.data.toList[23]? = some 0x07 from (LBX9_wayAtr_1 7).trans (by decide +kernel)) (by decide)
theorem dX9_wayAt_24 : decode cX9_wayAt 24 = .ok (.sipush 377, 3) := dk_17_ (show cX9_wayAt.data.toList[24]? = some 0x11 from (LBX9_wayAtr_1 8).trans (by decide +kernel)) (show cX9_wayAt.data.toList[25]? = some 0x01 from (LBX9_wayAtr_1 9).trans (by decide +kernel)) (show cX9_wayAt.data.toList[26]? = some 0x79 from (LBX9_wayAtr_1 10).trans (by decide +kernel)) (by decide)
theorem dX9_wayAt_27 : decode cX9_wayAt 27 = .ok (.bipush 9, 2) := dk_16_ (show cX9_wayAt.data.toList[27]? = some 0x10 from (LBX9_wayAtr_1 11).trans (by decide +kernel)) (show cX9_wayAt.data.toList[28]? = some 0x09 from (LBX9_wayAtr_1 12).trans (by decide +kernel)) (by decide)
theorem dX9_wayAt_29 : decode cX9_wayAt 29 = .ok (.iload_n 1, 1) := dk_27_ (show cX9_wayAt.data.toList[29]? = some 0x1b from (LBX9_wayAtr_1 13).trans (by decide +kernel))
theorem dX9_wayAt_30 : decode cX9_wayAt 30 = .ok (.imul, 1) := dk_104_ (show cX9_wayAt.data.toList[30]? = some 0x68 from (LBX9_wayAtr_1 14).trans (by decide +kernel))
theorem dX9_wayAt_31 : decode cX9_wayAt 31 = .ok (.iadd, 1) := dk_96_ (show cX9_wayAt.data.toList[31]? = some 0x60 from (LBX9_wayAtr_1 15).trans (by decide +kernel))
theorem dX9_wayAt_32 : decode cX9_wayAt 32 = .ok (.iconst 4, 1) := dk_7_ (show cX9_wayAt.data.toList[32]? = some 0x07 from (LBX9_wayAtr_2 0).trans (by decide +kernel))
theorem dX9_wayAt_33 : decode cX9_wayAt 33 = .ok (.iadd, 1) := dk_96_ (show cX9_wayAt.data.toList[33]? = some 0x60 from (LBX9_wayAtr_2 1).trans (by decide +kernel))
theorem dX9_wayAt_34 : decode cX9_wayAt 34 = .ok (.iload_n 2, 1) := dk_28_ (show cX9_wayAt.data.toList[34]? = some 0x1c from (LBX9_wayAtr_2 2).trans (by decide +kernel))
theorem dX9_wayAt_35 : decode cX9_wayAt 35 = .ok (.iadd, 1) := dk_96_ (show cX9_wayAt.data.toList[35]? = some 0x60 from (LBX9_wayAtr_2 3).trans (by decide +kernel))
theorem dX9_wayAt_36 : decode cX9_wayAt 36 = .ok (.iaload, 1) := dk_46_ (show cX9_wayAt.data.toList[36]? = some 0x2e from (LBX9_wayAtr_2 4).trans (by decide +kernel))
theorem dX9_wayAt_37 : decode cX9_wayAt 37 = .ok (.iadd, 1) := dk_96_ (show cX9_wayAt.data.toList[37]? = some 0x60 from (LBX9_wayAtr_2 5).trans (by decide +kernel))
theorem dX9_wayAt_38 : decode cX9_wayAt 38 = .ok (.ireturn, 1) := dk_172_ (show cX9_wayAt.data.toList[38]? = some 0xac from (LBX9_wayAtr_2 6).trans (by decide +kernel))
def LRX9_isWalked_4 : List UInt8 := []
def LBX9_isWalked_3 : List UInt8 := [0x04, 0x03, 0x3d, 0x84, 0x03, 0x01, 0xa7, 0xff, 0xce, 0x1c, 0xac]
def LRX9_isWalked_3 : List UInt8 := LBX9_isWalked_3 ++ LRX9_isWalked_4
def LBX9_isWalked_2 : List UInt8 := [0x00, 0xd5, 0x2a, 0x1b, 0x1d, 0xb6, 0x00, 0xc7, 0x60, 0x2e, 0x9e, 0x00, 0x07, 0x04, 0xa7, 0x00]
def LRX9_isWalked_2 : List UInt8 := LBX9_isWalked_2 ++ LRX9_isWalked_3
def LBX9_isWalked_1 : List UInt8 := [0x60, 0x2e, 0x04, 0x64, 0xa2, 0x00, 0x25, 0x1c, 0x99, 0x00, 0x19, 0x2a, 0xb4, 0x00, 0x07, 0x11]
def LRX9_isWalked_1 : List UInt8 := LBX9_isWalked_1 ++ LRX9_isWalked_2
def LBX9_isWalked_0 : List UInt8 := [0x04, 0x3d, 0x03, 0x3e, 0x1d, 0x2a, 0xb4, 0x00, 0x07, 0x11, 0x01, 0x79, 0x10, 0x09, 0x1b, 0x68]
def LRX9_isWalked_0 : List UInt8 := LBX9_isWalked_0 ++ LRX9_isWalked_1
set_option maxRecDepth 100000 in
theorem LBX9_isWalked_eq : cX9_isWalked.data.toList = LRX9_isWalked_0 := by decide +kernel
theorem LBX9_isWalkedr_0 (k : Nat) : cX9_isWalked.data.toList[0 + k]? = LRX9_isWalked_0[k]? := by rw [LBX9_isWalked_eq, Nat.zero_add]
theorem LBX9_isWalkedr_1 (k : Nat) : cX9_isWalked.data.toList[16 + k]? = LRX9_isWalked_1[k]? := by
  have h := LBX9_isWalkedr_0 (16 + k)
  rw [show 0 + (16 + k) = 16 + k by omega] at h
  rw [h]
  exact (List.getElem?_append_right (l₁ := LBX9_isWalked_0) (l₂ := LRX9_isWalked_1) (show 16 ≤ 16 + k by omega)).trans (congrArg (fun i => LRX9_isWalked_1[i]?) (show 16 + k - 16 = k by omega))
theorem LBX9_isWalkedr_2 (k : Nat) : cX9_isWalked.data.toList[32 + k]? = LRX9_isWalked_2[k]? := by
  have h := LBX9_isWalkedr_1 (16 + k)
  rw [show 16 + (16 + k) = 32 + k by omega] at h
  rw [h]
  exact (List.getElem?_append_right (l₁ := LBX9_isWalked_1) (l₂ := LRX9_isWalked_2) (show 16 ≤ 16 + k by omega)).trans (congrArg (fun i => LRX9_isWalked_2[i]?) (show 16 + k - 16 = k by omega))
theorem LBX9_isWalkedr_3 (k : Nat) : cX9_isWalked.data.toList[48 + k]? = LRX9_isWalked_3[k]? := by
  have h := LBX9_isWalkedr_2 (16 + k)
  rw [show 32 + (16 + k) = 48 + k by omega] at h
  rw [h]
  exact (List.getElem?_append_right (l₁ := LBX9_isWalked_2) (l₂ := LRX9_isWalked_3) (show 16 ≤ 16 + k by omega)).trans (congrArg (fun i => LRX9_isWalked_3[i]?) (show 16 + k - 16 = k by omega))
theorem dX9_isWalked_0 : decode cX9_isWalked 0 = .ok (.iconst 1, 1) := dk_4_ (show cX9_isWalked.data.toList[0]? = some 0x04 from (LBX9_isWalkedr_0 0).trans (by decide +kernel))
theorem dX9_isWalked_1 : decode cX9_isWalked 1 = .ok (.istore_n 2, 1) := dk_61_ (show cX9_isWalked.data.toList[1]? = some 0x3d from (LBX9_isWalkedr_0 1).trans (by decide +kernel))
theorem dX9_isWalked_2 : decode cX9_isWalked 2 = .ok (.iconst 0, 1) := dk_3_ (show cX9_isWalked.data.toList[2]? = some 0x03 from (LBX9_isWalkedr_0 2).trans (by decide +kernel))
theorem dX9_isWalked_3 : decode cX9_isWalked 3 = .ok (.istore_n 3, 1) := dk_62_ (show cX9_isWalked.data.toList[3]? = some 0x3e from (LBX9_isWalkedr_0 3).trans (by decide +kernel))
theorem dX9_isWalked_4 : decode cX9_isWalked 4 = .ok (.iload_n 3, 1) := dk_29_ (show cX9_isWalked.data.toList[4]? = some 0x1d from (LBX9_isWalkedr_0 4).trans (by decide +kernel))
theorem dX9_isWalked_5 : decode cX9_isWalked 5 = .ok (.aload_n 0, 1) := dk_42_ (show cX9_isWalked.data.toList[5]? = some 0x2a from (LBX9_isWalkedr_0 5).trans (by decide +kernel))
theorem dX9_isWalked_6 : decode cX9_isWalked 6 = .ok (.getfield 7, 3) := dk_180_ (show cX9_isWalked.data.toList[6]? = some 0xb4 from (LBX9_isWalkedr_0 6).trans (by decide +kernel)) (show cX9_isWalked.data.toList[7]? = some 0x00 from (LBX9_isWalkedr_0 7).trans (by decide +kernel)) (show cX9_isWalked.data.toList[8]? = some 0x07 from (LBX9_isWalkedr_0 8).trans (by decide +kernel)) (by decide)
theorem dX9_isWalked_9 : decode cX9_isWalked 9 = .ok (.sipush 377, 3) := dk_17_ (show cX9_isWalked.data.toList[9]? = some 0x11 from (LBX9_isWalkedr_0 9).trans (by decide +kernel)) (show cX9_isWalked.data.toList[10]? = some 0x01 from (LBX9_isWalkedr_0 10).trans (by decide +kernel)) (show cX9_isWalked.data.toList[11]? = some 0x79 from (LBX9_isWalkedr_0 11).trans (by decide +kernel)) (by decide)
theorem dX9_isWalked_12 : decode cX9_isWalked 12 = .ok (.bipush 9, 2) := dk_16_ (show cX9_isWalked.data.toList[12]? = some 0x10 from (LBX9_isWalkedr_0 12).trans (by decide +kernel)) (show cX9_isWalked.data.toList[13]? = some 0x09 from (LBX9_isWalkedr_0 13).trans (by decide +kernel)) (by decide)
theorem dX9_isWalked_14 : decode cX9_isWalked 14 = .ok (.iload_n 1, 1) := dk_27_ (show cX9_isWalked.data.toList[14]? = some 0x1b from (LBX9_isWalkedr_0 14).trans (by decide +kernel))
theorem dX9_isWalked_15 : decode cX9_isWalked 15 = .ok (.imul, 1) := dk_104_ (show cX9_isWalked.data.toList[15]? = some 0x68 from (LBX9_isWalkedr_0 15).trans (by decide +kernel))
theorem dX9_isWalked_16 : decode cX9_isWalked 16 = .ok (.iadd, 1) := dk_96_ (show cX9_isWalked.data.toList[16]? = some 0x60 from (LBX9_isWalkedr_1 0).trans (by decide +kernel))
theorem dX9_isWalked_17 : decode cX9_isWalked 17 = .ok (.iaload, 1) := dk_46_ (show cX9_isWalked.data.toList[17]? = some 0x2e from (LBX9_isWalkedr_1 1).trans (by decide +kernel))
theorem dX9_isWalked_18 : decode cX9_isWalked 18 = .ok (.iconst 1, 1) := dk_4_ (show cX9_isWalked.data.toList[18]? = some 0x04 from (LBX9_isWalkedr_1 2).trans (by decide +kernel))
theorem dX9_isWalked_19 : decode cX9_isWalked 19 = .ok (.isub, 1) := dk_100_ (show cX9_isWalked.data.toList[19]? = some 0x64 from (LBX9_isWalkedr_1 3).trans (by decide +kernel))
theorem dX9_isWalked_20 : decode cX9_isWalked 20 = .ok (.if_icmp .ge 37, 3) := dk_162_ (show cX9_isWalked.data.toList[20]? = some 0xa2 from (LBX9_isWalkedr_1 4).trans (by decide +kernel)) (show cX9_isWalked.data.toList[21]? = some 0x00 from (LBX9_isWalkedr_1 5).trans (by decide +kernel)) (show cX9_isWalked.data.toList[22]? = some 0x25 from (LBX9_isWalkedr_1 6).trans (by decide +kernel)) (by decide)
theorem dX9_isWalked_23 : decode cX9_isWalked 23 = .ok (.iload_n 2, 1) := dk_28_ (show cX9_isWalked.data.toList[23]? = some 0x1c from (LBX9_isWalkedr_1 7).trans (by decide +kernel))
theorem dX9_isWalked_24 : decode cX9_isWalked 24 = .ok (.ifCond .eq 25, 3) := dk_153_ (show cX9_isWalked.data.toList[24]? = some 0x99 from (LBX9_isWalkedr_1 8).trans (by decide +kernel)) (show cX9_isWalked.data.toList[25]? = some 0x00 from (LBX9_isWalkedr_1 9).trans (by decide +kernel)) (show cX9_isWalked.data.toList[26]? = some 0x19 from (LBX9_isWalkedr_1 10).trans (by decide +kernel)) (by decide)
theorem dX9_isWalked_27 : decode cX9_isWalked 27 = .ok (.aload_n 0, 1) := dk_42_ (show cX9_isWalked.data.toList[27]? = some 0x2a from (LBX9_isWalkedr_1 11).trans (by decide +kernel))
theorem dX9_isWalked_28 : decode cX9_isWalked 28 = .ok (.getfield 7, 3) := dk_180_ (show cX9_isWalked.data.toList[28]? = some 0xb4 from (LBX9_isWalkedr_1 12).trans (by decide +kernel)) (show cX9_isWalked.data.toList[29]? = some 0x00 from (LBX9_isWalkedr_1 13).trans (by decide +kernel)) (show cX9_isWalked.data.toList[30]? = some 0x07 from (LBX9_isWalkedr_1 14).trans (by decide +kernel)) (by decide)
theorem dX9_isWalked_31 : decode cX9_isWalked 31 = .ok (.sipush 213, 3) := dk_17_ (show cX9_isWalked.data.toList[31]? = some 0x11 from (LBX9_isWalkedr_1 15).trans (by decide +kernel)) (show cX9_isWalked.data.toList[32]? = some 0x00 from (LBX9_isWalkedr_2 0).trans (by decide +kernel)) (show cX9_isWalked.data.toList[33]? = some 0xd5 from (LBX9_isWalkedr_2 1).trans (by decide +kernel)) (by decide)
theorem dX9_isWalked_34 : decode cX9_isWalked 34 = .ok (.aload_n 0, 1) := dk_42_ (show cX9_isWalked.data.toList[34]? = some 0x2a from (LBX9_isWalkedr_2 2).trans (by decide +kernel))
theorem dX9_isWalked_35 : decode cX9_isWalked 35 = .ok (.iload_n 1, 1) := dk_27_ (show cX9_isWalked.data.toList[35]? = some 0x1b from (LBX9_isWalkedr_2 3).trans (by decide +kernel))
theorem dX9_isWalked_36 : decode cX9_isWalked 36 = .ok (.iload_n 3, 1) := dk_29_ (show cX9_isWalked.data.toList[36]? = some 0x1d from (LBX9_isWalkedr_2 4).trans (by decide +kernel))
theorem dX9_isWalked_37 : decode cX9_isWalked 37 = .ok (.invokevirtual 199, 3) := dk_182_ (show cX9_isWalked.data.toList[37]? = some 0xb6 from (LBX9_isWalkedr_2 5).trans (by decide +kernel)) (show cX9_isWalked.data.toList[38]? = some 0x00 from (LBX9_isWalkedr_2 6).trans (by decide +kernel)) (show cX9_isWalked.data.toList[39]? = some 0xc7 from (LBX9_isWalkedr_2 7).trans (by decide +kernel)) (by decide)
theorem dX9_isWalked_40 : decode cX9_isWalked 40 = .ok (.iadd, 1) := dk_96_ (show cX9_isWalked.data.toList[40]? = some 0x60 from (LBX9_isWalkedr_2 8).trans (by decide +kernel))
theorem dX9_isWalked_41 : decode cX9_isWalked 41 = .ok (.iaload, 1) := dk_46_ (show cX9_isWalked.data.toList[41]? = some 0x2e from (LBX9_isWalkedr_2 9).trans (by decide +kernel))
theorem dX9_isWalked_42 : decode cX9_isWalked 42 = .ok (.ifCond .le 7, 3) := dk_158_ (show cX9_isWalked.data.toList[42]? = some 0x9e from (LBX9_isWalkedr_2 10).trans (by decide +kernel)) (show cX9_isWalked.data.toList[43]? = some 0x00 from (LBX9_isWalkedr_2 11).trans (by decide +kernel)) (show cX9_isWalked.data.toList[44]? = some 0x07 from (LBX9_isWalkedr_2 12).trans (by decide +kernel)) (by decide)
theorem dX9_isWalked_45 : decode cX9_isWalked 45 = .ok (.iconst 1, 1) := dk_4_ (show cX9_isWalked.data.toList[45]? = some 0x04 from (LBX9_isWalkedr_2 13).trans (by decide +kernel))
theorem dX9_isWalked_46 : decode cX9_isWalked 46 = .ok (.goto 4, 3) := dk_167_ (show cX9_isWalked.data.toList[46]? = some 0xa7 from (LBX9_isWalkedr_2 14).trans (by decide +kernel)) (show cX9_isWalked.data.toList[47]? = some 0x00 from (LBX9_isWalkedr_2 15).trans (by decide +kernel)) (show cX9_isWalked.data.toList[48]? = some 0x04 from (LBX9_isWalkedr_3 0).trans (by decide +kernel)) (by decide)
theorem dX9_isWalked_49 : decode cX9_isWalked 49 = .ok (.iconst 0, 1) := dk_3_ (show cX9_isWalked.data.toList[49]? = some 0x03 from (LBX9_isWalkedr_3 1).trans (by decide +kernel))
theorem dX9_isWalked_50 : decode cX9_isWalked 50 = .ok (.istore_n 2, 1) := dk_61_ (show cX9_isWalked.data.toList[50]? = some 0x3d from (LBX9_isWalkedr_3 2).trans (by decide +kernel))
theorem dX9_isWalked_51 : decode cX9_isWalked 51 = .ok (.iinc 3 1, 3) := dk_132_ (show cX9_isWalked.data.toList[51]? = some 0x84 from (LBX9_isWalkedr_3 3).trans (by decide +kernel)) (show cX9_isWalked.data.toList[52]? = some 0x03 from (LBX9_isWalkedr_3 4).trans (by decide +kernel)) (show cX9_isWalked.data.toList[53]? = some 0x01 from (LBX9_isWalkedr_3 5).trans (by decide +kernel)) (by decide) (by decide)
theorem dX9_isWalked_54 : decode cX9_isWalked 54 = .ok (.goto (-50), 3) := dk_167_ (show cX9_isWalked.data.toList[54]? = some 0xa7 from (LBX9_isWalkedr_3 6).trans (by decide +kernel)) (show cX9_isWalked.data.toList[55]? = some 0xff from (LBX9_isWalkedr_3 7).trans (by decide +kernel)) (show cX9_isWalked.data.toList[56]? = some 0xce from (LBX9_isWalkedr_3 8).trans (by decide +kernel)) (by decide)
theorem dX9_isWalked_57 : decode cX9_isWalked 57 = .ok (.iload_n 2, 1) := dk_28_ (show cX9_isWalked.data.toList[57]? = some 0x1c from (LBX9_isWalkedr_3 9).trans (by decide +kernel))
theorem dX9_isWalked_58 : decode cX9_isWalked 58 = .ok (.ireturn, 1) := dk_172_ (show cX9_isWalked.data.toList[58]? = some 0xac from (LBX9_isWalkedr_3 10).trans (by decide +kernel))
def LRX9_learns_24 : List UInt8 := []
def LBX9_learns_23 : List UInt8 := [0xa7, 0xfe, 0xce, 0x04, 0xac]
def LRX9_learns_23 : List UInt8 := LBX9_learns_23 ++ LRX9_learns_24
def LBX9_learns_22 : List UInt8 := [0x4f, 0x2a, 0xb4, 0x00, 0x07, 0x10, 0x0d, 0x15, 0x06, 0x60, 0x15, 0x0b, 0x4f, 0x84, 0x05, 0x01]
def LRX9_learns_22 : List UInt8 := LBX9_learns_22 ++ LRX9_learns_23
def LBX9_learns_21 : List UInt8 := [0x04, 0x03, 0xb5, 0x00, 0xcd, 0x2a, 0xb4, 0x00, 0x07, 0x10, 0x71, 0x15, 0x06, 0x60, 0x15, 0x0a]
def LRX9_learns_21 : List UInt8 := LBX9_learns_21 ++ LRX9_learns_22
def LBX9_learns_20 : List UInt8 := [0x2a, 0xb4, 0x00, 0x07, 0x10, 0x0d, 0x15, 0x06, 0x60, 0x2e, 0x9f, 0x00, 0x07, 0x04, 0xa7, 0x00]
def LRX9_learns_20 : List UInt8 := LBX9_learns_20 ++ LRX9_learns_21
def LBX9_learns_19 : List UInt8 := [0x0a, 0x2a, 0xb4, 0x00, 0x07, 0x10, 0x71, 0x15, 0x06, 0x60, 0x2e, 0xa0, 0x00, 0x12, 0x15, 0x0b]
def LRX9_learns_19 : List UInt8 := LBX9_learns_19 ++ LRX9_learns_20
def LBX9_learns_18 : List UInt8 := [0x00, 0x54, 0x9a, 0x00, 0x05, 0x03, 0xac, 0x2a, 0x2a, 0xb4, 0x00, 0xcd, 0x9a, 0x00, 0x21, 0x15]
def LRX9_learns_18 : List UInt8 := LBX9_learns_18 ++ LRX9_learns_19
def LBX9_learns_17 : List UInt8 := [0xb4, 0x00, 0x07, 0x10, 0x0d, 0x15, 0x06, 0x60, 0x2e, 0x36, 0x0b, 0x15, 0x0b, 0x15, 0x0a, 0xb8]
def LRX9_learns_17 : List UInt8 := LBX9_learns_17 ++ LRX9_learns_18
def LBX9_learns_16 : List UInt8 := [0x60, 0x2e, 0xa4, 0x00, 0x0d, 0x1d, 0x15, 0x04, 0x64, 0x15, 0x09, 0x64, 0xa7, 0x00, 0x0d, 0x2a]
def LRX9_learns_16 : List UInt8 := LBX9_learns_16 ++ LRX9_learns_17
def LBX9_learns_15 : List UInt8 := [0x0a, 0x1d, 0x15, 0x04, 0x64, 0x15, 0x09, 0x64, 0x2a, 0xb4, 0x00, 0x07, 0x10, 0x0d, 0x15, 0x06]
def LRX9_learns_15 : List UInt8 := LBX9_learns_15 ++ LRX9_learns_16
def LBX9_learns_14 : List UInt8 := [0x08, 0x64, 0xa7, 0x00, 0x0d, 0x2a, 0xb4, 0x00, 0x07, 0x10, 0x71, 0x15, 0x06, 0x60, 0x2e, 0x36]
def LRX9_learns_14 : List UInt8 := LBX9_learns_14 ++ LRX9_learns_15
def LBX9_learns_13 : List UInt8 := [0x00, 0x07, 0x10, 0x71, 0x15, 0x06, 0x60, 0x2e, 0xa2, 0x00, 0x0d, 0x1d, 0x15, 0x04, 0x60, 0x15]
def LRX9_learns_13 : List UInt8 := LBX9_learns_13 ++ LRX9_learns_14
def LBX9_learns_12 : List UInt8 := [0x9b, 0x15, 0x07, 0x04, 0xa0, 0x00, 0xa9, 0x1d, 0x15, 0x04, 0x60, 0x15, 0x08, 0x64, 0x2a, 0xb4]
def LRX9_learns_12 : List UInt8 := LBX9_learns_12 ++ LRX9_learns_13
def LBX9_learns_11 : List UInt8 := [0x1b, 0x15, 0x0a, 0xb6, 0x00, 0xc7, 0x60, 0x2e, 0x60, 0x36, 0x09, 0x84, 0x0a, 0x01, 0xa7, 0xff]
def LRX9_learns_11 : List UInt8 := LBX9_learns_11 ++ LRX9_learns_12
def LBX9_learns_10 : List UInt8 := [0x15, 0x0b, 0x99, 0x00, 0x07, 0x03, 0xa7, 0x00, 0x12, 0x2a, 0xb4, 0x00, 0x07, 0x10, 0x71, 0x2a]
def LRX9_learns_10 : List UInt8 := LBX9_learns_10 ++ LRX9_learns_11
def LBX9_learns_9 : List UInt8 := [0x10, 0x0d, 0x2a, 0x1b, 0x15, 0x0a, 0xb6, 0x00, 0xc7, 0x60, 0x2e, 0x60, 0x36, 0x08, 0x15, 0x09]
def LRX9_learns_9 : List UInt8 := LBX9_learns_9 ++ LRX9_learns_10
def LBX9_learns_8 : List UInt8 := [0x07, 0x15, 0x08, 0x15, 0x0b, 0x99, 0x00, 0x07, 0x03, 0xa7, 0x00, 0x12, 0x2a, 0xb4, 0x00, 0x07]
def LRX9_learns_8 : List UInt8 := LBX9_learns_8 ++ LRX9_learns_9
def LBX9_learns_7 : List UInt8 := [0x36, 0x0b, 0x15, 0x07, 0x15, 0x0b, 0x99, 0x00, 0x07, 0x04, 0xa7, 0x00, 0x04, 0x03, 0x60, 0x36]
def LRX9_learns_7 : List UInt8 := LBX9_learns_7 ++ LRX9_learns_8
def LBX9_learns_6 : List UInt8 := [0x1b, 0x15, 0x0a, 0xb6, 0x00, 0xc7, 0x15, 0x06, 0xa0, 0x00, 0x07, 0x04, 0xa7, 0x00, 0x04, 0x03]
def LRX9_learns_6 : List UInt8 := LBX9_learns_6 ++ LRX9_learns_7
def LBX9_learns_5 : List UInt8 := [0x03, 0x36, 0x08, 0x03, 0x36, 0x09, 0x03, 0x36, 0x0a, 0x15, 0x0a, 0x1c, 0xa2, 0x00, 0x65, 0x2a]
def LRX9_learns_5 : List UInt8 := LBX9_learns_5 ++ LRX9_learns_6
def LBX9_learns_4 : List UInt8 := [0x1c, 0xa2, 0x01, 0x32, 0x2a, 0x1b, 0x15, 0x05, 0xb6, 0x00, 0xc7, 0x36, 0x06, 0x03, 0x36, 0x07]
def LRX9_learns_4 : List UInt8 := LBX9_learns_4 ++ LRX9_learns_5
def LBX9_learns_3 : List UInt8 := [0x79, 0x10, 0x09, 0x1b, 0x68, 0x60, 0x05, 0x60, 0x2e, 0x36, 0x04, 0x03, 0x36, 0x05, 0x15, 0x05]
def LRX9_learns_3 : List UInt8 := LBX9_learns_3 ++ LRX9_learns_4
def LBX9_learns_2 : List UInt8 := [0x79, 0x10, 0x09, 0x1b, 0x68, 0x60, 0x04, 0x60, 0x2e, 0x3e, 0x2a, 0xb4, 0x00, 0x07, 0x11, 0x01]
def LRX9_learns_2 : List UInt8 := LBX9_learns_2 ++ LRX9_learns_3
def LBX9_learns_1 : List UInt8 := [0x79, 0x10, 0x09, 0x1b, 0x68, 0x60, 0x2e, 0x04, 0x64, 0x3d, 0x2a, 0xb4, 0x00, 0x07, 0x11, 0x01]
def LRX9_learns_1 : List UInt8 := LBX9_learns_1 ++ LRX9_learns_2
def LBX9_learns_0 : List UInt8 := [0x2a, 0x1b, 0xb6, 0x00, 0xca, 0x9a, 0x00, 0x05, 0x03, 0xac, 0x2a, 0xb4, 0x00, 0x07, 0x11, 0x01]
def LRX9_learns_0 : List UInt8 := LBX9_learns_0 ++ LRX9_learns_1
set_option maxRecDepth 100000 in
theorem LBX9_learns_eq : cX9_learns.data.toList = LRX9_learns_0 := by decide +kernel
theorem LBX9_learnsr_0 (k : Nat) : cX9_learns.data.toList[0 + k]? = LRX9_learns_0[k]? := by rw [LBX9_learns_eq, Nat.zero_add]
theorem LBX9_learnsr_1 (k : Nat) : cX9_learns.data.toList[16 + k]? = LRX9_learns_1[k]? := by
  have h := LBX9_learnsr_0 (16 + k)
  rw [show 0 + (16 + k) = 16 + k by omega] at h
  rw [h]
  exact (List.getElem?_append_right (l₁ := LBX9_learns_0) (l₂ := LRX9_learns_1) (show 16 ≤ 16 + k by omega)).trans (congrArg (fun i => LRX9_learns_1[i]?) (show 16 + k - 16 = k by omega))
theorem LBX9_learnsr_2 (k : Nat) : cX9_learns.data.toList[32 + k]? = LRX9_learns_2[k]? := by
  have h := LBX9_learnsr_1 (16 + k)
  rw [show 16 + (16 + k) = 32 + k by omega] at h
  rw [h]
  exact (List.getElem?_append_right (l₁ := LBX9_learns_1) (l₂ := LRX9_learns_2) (show 16 ≤ 16 + k by omega)).trans (congrArg (fun i => LRX9_learns_2[i]?) (show 16 + k - 16 = k by omega))
theorem LBX9_learnsr_3 (k : Nat) : cX9_learns.data.toList[48 + k]? = LRX9_learns_3[k]? := by
  have h := LBX9_learnsr_2 (16 + k)
  rw [show 32 + (16 + k) = 48 + k by omega] at h
  rw [h]
  exact (List.getElem?_append_right (l₁ := LBX9_learns_2) (l₂ := LRX9_learns_3) (show 16 ≤ 16 + k by omega)).trans (congrArg (fun i => LRX9_learns_3[i]?) (show 16 + k - 16 = k by omega))
theorem LBX9_learnsr_4 (k : Nat) : cX9_learns.data.toList[64 + k]? = LRX9_learns_4[k]? := by
  have h := LBX9_learnsr_3 (16 + k)
  rw [show 48 + (16 + k) = 64 + k by omega] at h
  rw [h]
  exact (List.getElem?_append_right (l₁ := LBX9_learns_3) (l₂ := LRX9_learns_4) (show 16 ≤ 16 + k by omega)).trans (congrArg (fun i => LRX9_learns_4[i]?) (show 16 + k - 16 = k by omega))
theorem LBX9_learnsr_5 (k : Nat) : cX9_learns.data.toList[80 + k]? = LRX9_learns_5[k]? := by
  have h := LBX9_learnsr_4 (16 + k)
  rw [show 64 + (16 + k) = 80 + k by omega] at h
  rw [h]
  exact (List.getElem?_append_right (l₁ := LBX9_learns_4) (l₂ := LRX9_learns_5) (show 16 ≤ 16 + k by omega)).trans (congrArg (fun i => LRX9_learns_5[i]?) (show 16 + k - 16 = k by omega))
theorem LBX9_learnsr_6 (k : Nat) : cX9_learns.data.toList[96 + k]? = LRX9_learns_6[k]? := by
  have h := LBX9_learnsr_5 (16 + k)
  rw [show 80 + (16 + k) = 96 + k by omega] at h
  rw [h]
  exact (List.getElem?_append_right (l₁ := LBX9_learns_5) (l₂ := LRX9_learns_6) (show 16 ≤ 16 + k by omega)).trans (congrArg (fun i => LRX9_learns_6[i]?) (show 16 + k - 16 = k by omega))
theorem LBX9_learnsr_7 (k : Nat) : cX9_learns.data.toList[112 + k]? = LRX9_learns_7[k]? := by
  have h := LBX9_learnsr_6 (16 + k)
  rw [show 96 + (16 + k) = 112 + k by omega] at h
  rw [h]
  exact (List.getElem?_append_right (l₁ := LBX9_learns_6) (l₂ := LRX9_learns_7) (show 16 ≤ 16 + k by omega)).trans (congrArg (fun i => LRX9_learns_7[i]?) (show 16 + k - 16 = k by omega))
theorem LBX9_learnsr_8 (k : Nat) : cX9_learns.data.toList[128 + k]? = LRX9_learns_8[k]? := by
  have h := LBX9_learnsr_7 (16 + k)
  rw [show 112 + (16 + k) = 128 + k by omega] at h
  rw [h]
  exact (List.getElem?_append_right (l₁ := LBX9_learns_7) (l₂ := LRX9_learns_8) (show 16 ≤ 16 + k by omega)).trans (congrArg (fun i => LRX9_learns_8[i]?) (show 16 + k - 16 = k by omega))
theorem LBX9_learnsr_9 (k : Nat) : cX9_learns.data.toList[144 + k]? = LRX9_learns_9[k]? := by
  have h := LBX9_learnsr_8 (16 + k)
  rw [show 128 + (16 + k) = 144 + k by omega] at h
  rw [h]
  exact (List.getElem?_append_right (l₁ := LBX9_learns_8) (l₂ := LRX9_learns_9) (show 16 ≤ 16 + k by omega)).trans (congrArg (fun i => LRX9_learns_9[i]?) (show 16 + k - 16 = k by omega))
theorem LBX9_learnsr_10 (k : Nat) : cX9_learns.data.toList[160 + k]? = LRX9_learns_10[k]? := by
  have h := LBX9_learnsr_9 (16 + k)
  rw [show 144 + (16 + k) = 160 + k by omega] at h
  rw [h]
  exact (List.getElem?_append_right (l₁ := LBX9_learns_9) (l₂ := LRX9_learns_10) (show 16 ≤ 16 + k by omega)).trans (congrArg (fun i => LRX9_learns_10[i]?) (show 16 + k - 16 = k by omega))
theorem LBX9_learnsr_11 (k : Nat) : cX9_learns.data.toList[176 + k]? = LRX9_learns_11[k]? := by
  have h := LBX9_learnsr_10 (16 + k)
  rw [show 160 + (16 + k) = 176 + k by omega] at h
  rw [h]
  exact (List.getElem?_append_right (l₁ := LBX9_learns_10) (l₂ := LRX9_learns_11) (show 16 ≤ 16 + k by omega)).trans (congrArg (fun i => LRX9_learns_11[i]?) (show 16 + k - 16 = k by omega))
theorem LBX9_learnsr_12 (k : Nat) : cX9_learns.data.toList[192 + k]? = LRX9_learns_12[k]? := by
  have h := LBX9_learnsr_11 (16 + k)
  rw [show 176 + (16 + k) = 192 + k by omega] at h
  rw [h]
  exact (List.getElem?_append_right (l₁ := LBX9_learns_11) (l₂ := LRX9_learns_12) (show 16 ≤ 16 + k by omega)).trans (congrArg (fun i => LRX9_learns_12[i]?) (show 16 + k - 16 = k by omega))
theorem LBX9_learnsr_13 (k : Nat) : cX9_learns.data.toList[208 + k]? = LRX9_learns_13[k]? := by
  have h := LBX9_learnsr_12 (16 + k)
  rw [show 192 + (16 + k) = 208 + k by omega] at h
  rw [h]
  exact (List.getElem?_append_right (l₁ := LBX9_learns_12) (l₂ := LRX9_learns_13) (show 16 ≤ 16 + k by omega)).trans (congrArg (fun i => LRX9_learns_13[i]?) (show 16 + k - 16 = k by omega))
theorem LBX9_learnsr_14 (k : Nat) : cX9_learns.data.toList[224 + k]? = LRX9_learns_14[k]? := by
  have h := LBX9_learnsr_13 (16 + k)
  rw [show 208 + (16 + k) = 224 + k by omega] at h
  rw [h]
  exact (List.getElem?_append_right (l₁ := LBX9_learns_13) (l₂ := LRX9_learns_14) (show 16 ≤ 16 + k by omega)).trans (congrArg (fun i => LRX9_learns_14[i]?) (show 16 + k - 16 = k by omega))
theorem LBX9_learnsr_15 (k : Nat) : cX9_learns.data.toList[240 + k]? = LRX9_learns_15[k]? := by
  have h := LBX9_learnsr_14 (16 + k)
  rw [show 224 + (16 + k) = 240 + k by omega] at h
  rw [h]
  exact (List.getElem?_append_right (l₁ := LBX9_learns_14) (l₂ := LRX9_learns_15) (show 16 ≤ 16 + k by omega)).trans (congrArg (fun i => LRX9_learns_15[i]?) (show 16 + k - 16 = k by omega))
theorem LBX9_learnsr_16 (k : Nat) : cX9_learns.data.toList[256 + k]? = LRX9_learns_16[k]? := by
  have h := LBX9_learnsr_15 (16 + k)
  rw [show 240 + (16 + k) = 256 + k by omega] at h
  rw [h]
  exact (List.getElem?_append_right (l₁ := LBX9_learns_15) (l₂ := LRX9_learns_16) (show 16 ≤ 16 + k by omega)).trans (congrArg (fun i => LRX9_learns_16[i]?) (show 16 + k - 16 = k by omega))
theorem LBX9_learnsr_17 (k : Nat) : cX9_learns.data.toList[272 + k]? = LRX9_learns_17[k]? := by
  have h := LBX9_learnsr_16 (16 + k)
  rw [show 256 + (16 + k) = 272 + k by omega] at h
  rw [h]
  exact (List.getElem?_append_right (l₁ := LBX9_learns_16) (l₂ := LRX9_learns_17) (show 16 ≤ 16 + k by omega)).trans (congrArg (fun i => LRX9_learns_17[i]?) (show 16 + k - 16 = k by omega))
theorem LBX9_learnsr_18 (k : Nat) : cX9_learns.data.toList[288 + k]? = LRX9_learns_18[k]? := by
  have h := LBX9_learnsr_17 (16 + k)
  rw [show 272 + (16 + k) = 288 + k by omega] at h
  rw [h]
  exact (List.getElem?_append_right (l₁ := LBX9_learns_17) (l₂ := LRX9_learns_18) (show 16 ≤ 16 + k by omega)).trans (congrArg (fun i => LRX9_learns_18[i]?) (show 16 + k - 16 = k by omega))
theorem LBX9_learnsr_19 (k : Nat) : cX9_learns.data.toList[304 + k]? = LRX9_learns_19[k]? := by
  have h := LBX9_learnsr_18 (16 + k)
  rw [show 288 + (16 + k) = 304 + k by omega] at h
  rw [h]
  exact (List.getElem?_append_right (l₁ := LBX9_learns_18) (l₂ := LRX9_learns_19) (show 16 ≤ 16 + k by omega)).trans (congrArg (fun i => LRX9_learns_19[i]?) (show 16 + k - 16 = k by omega))
theorem LBX9_learnsr_20 (k : Nat) : cX9_learns.data.toList[320 + k]? = LRX9_learns_20[k]? := by
  have h := LBX9_learnsr_19 (16 + k)
  rw [show 304 + (16 + k) = 320 + k by omega] at h
  rw [h]
  exact (List.getElem?_append_right (l₁ := LBX9_learns_19) (l₂ := LRX9_learns_20) (show 16 ≤ 16 + k by omega)).trans (congrArg (fun i => LRX9_learns_20[i]?) (show 16 + k - 16 = k by omega))
theorem LBX9_learnsr_21 (k : Nat) : cX9_learns.data.toList[336 + k]? = LRX9_learns_21[k]? := by
  have h := LBX9_learnsr_20 (16 + k)
  rw [show 320 + (16 + k) = 336 + k by omega] at h
  rw [h]
  exact (List.getElem?_append_right (l₁ := LBX9_learns_20) (l₂ := LRX9_learns_21) (show 16 ≤ 16 + k by omega)).trans (congrArg (fun i => LRX9_learns_21[i]?) (show 16 + k - 16 = k by omega))
theorem LBX9_learnsr_22 (k : Nat) : cX9_learns.data.toList[352 + k]? = LRX9_learns_22[k]? := by
  have h := LBX9_learnsr_21 (16 + k)
  rw [show 336 + (16 + k) = 352 + k by omega] at h
  rw [h]
  exact (List.getElem?_append_right (l₁ := LBX9_learns_21) (l₂ := LRX9_learns_22) (show 16 ≤ 16 + k by omega)).trans (congrArg (fun i => LRX9_learns_22[i]?) (show 16 + k - 16 = k by omega))
theorem LBX9_learnsr_23 (k : Nat) : cX9_learns.data.toList[368 + k]? = LRX9_learns_23[k]? := by
  have h := LBX9_learnsr_22 (16 + k)
  rw [show 352 + (16 + k) = 368 + k by omega] at h
  rw [h]
  exact (List.getElem?_append_right (l₁ := LBX9_learns_22) (l₂ := LRX9_learns_23) (show 16 ≤ 16 + k by omega)).trans (congrArg (fun i => LRX9_learns_23[i]?) (show 16 + k - 16 = k by omega))
theorem dX9_learns_0 : decode cX9_learns 0 = .ok (.aload_n 0, 1) := dk_42_ (show cX9_learns.data.toList[0]? = some 0x2a from (LBX9_learnsr_0 0).trans (by decide +kernel))
theorem dX9_learns_1 : decode cX9_learns 1 = .ok (.iload_n 1, 1) := dk_27_ (show cX9_learns.data.toList[1]? = some 0x1b from (LBX9_learnsr_0 1).trans (by decide +kernel))
theorem dX9_learns_2 : decode cX9_learns 2 = .ok (.invokevirtual 202, 3) := dk_182_ (show cX9_learns.data.toList[2]? = some 0xb6 from (LBX9_learnsr_0 2).trans (by decide +kernel)) (show cX9_learns.data.toList[3]? = some 0x00 from (LBX9_learnsr_0 3).trans (by decide +kernel)) (show cX9_learns.data.toList[4]? = some 0xca from (LBX9_learnsr_0 4).trans (by decide +kernel)) (by decide)
theorem dX9_learns_5 : decode cX9_learns 5 = .ok (.ifCond .ne 5, 3) := dk_154_ (show cX9_learns.data.toList[5]? = some 0x9a from (LBX9_learnsr_0 5).trans (by decide +kernel)) (show cX9_learns.data.toList[6]? = some 0x00 from (LBX9_learnsr_0 6).trans (by decide +kernel)) (show cX9_learns.data.toList[7]? = some 0x05 from (LBX9_learnsr_0 7).trans (by decide +kernel)) (by decide)
theorem dX9_learns_8 : decode cX9_learns 8 = .ok (.iconst 0, 1) := dk_3_ (show cX9_learns.data.toList[8]? = some 0x03 from (LBX9_learnsr_0 8).trans (by decide +kernel))
theorem dX9_learns_9 : decode cX9_learns 9 = .ok (.ireturn, 1) := dk_172_ (show cX9_learns.data.toList[9]? = some 0xac from (LBX9_learnsr_0 9).trans (by decide +kernel))
theorem dX9_learns_10 : decode cX9_learns 10 = .ok (.aload_n 0, 1) := dk_42_ (show cX9_learns.data.toList[10]? = some 0x2a from (LBX9_learnsr_0 10).trans (by decide +kernel))
theorem dX9_learns_11 : decode cX9_learns 11 = .ok (.getfield 7, 3) := dk_180_ (show cX9_learns.data.toList[11]? = some 0xb4 from (LBX9_learnsr_0 11).trans (by decide +kernel)) (show cX9_learns.data.toList[12]? = some 0x00 from (LBX9_learnsr_0 12).trans (by decide +kernel)) (show cX9_learns.data.toList[13]? = some 0x07 from (LBX9_learnsr_0 13).trans (by decide +kernel)) (by decide)
theorem dX9_learns_14 : decode cX9_learns 14 = .ok (.sipush 377, 3) := dk_17_ (show cX9_learns.data.toList[14]? = some 0x11 from (LBX9_learnsr_0 14).trans (by decide +kernel)) (show cX9_learns.data.toList[15]? = some 0x01 from (LBX9_learnsr_0 15).trans (by decide +kernel)) (show cX9_learns.data.toList[16]? = some 0x79 from (LBX9_learnsr_1 0).trans (by decide +kernel)) (by decide)
theorem dX9_learns_17 : decode cX9_learns 17 = .ok (.bipush 9, 2) := dk_16_ (show cX9_learns.data.toList[17]? = some 0x10 from (LBX9_learnsr_1 1).trans (by decide +kernel)) (show cX9_learns.data.toList[18]? = some 0x09 from (LBX9_learnsr_1 2).trans (by decide +kernel)) (by decide)
theorem dX9_learns_19 : decode cX9_learns 19 = .ok (.iload_n 1, 1) := dk_27_ (show cX9_learns.data.toList[19]? = some 0x1b from (LBX9_learnsr_1 3).trans (by decide +kernel))
theorem dX9_learns_20 : decode cX9_learns 20 = .ok (.imul, 1) := dk_104_ (show cX9_learns.data.toList[20]? = some 0x68 from (LBX9_learnsr_1 4).trans (by decide +kernel))
theorem dX9_learns_21 : decode cX9_learns 21 = .ok (.iadd, 1) := dk_96_ (show cX9_learns.data.toList[21]? = some 0x60 from (LBX9_learnsr_1 5).trans (by decide +kernel))
theorem dX9_learns_22 : decode cX9_learns 22 = .ok (.iaload, 1) := dk_46_ (show cX9_learns.data.toList[22]? = some 0x2e from (LBX9_learnsr_1 6).trans (by decide +kernel))
theorem dX9_learns_23 : decode cX9_learns 23 = .ok (.iconst 1, 1) := dk_4_ (show cX9_learns.data.toList[23]? = some 0x04 from (LBX9_learnsr_1 7).trans (by decide +kernel))
theorem dX9_learns_24 : decode cX9_learns 24 = .ok (.isub, 1) := dk_100_ (show cX9_learns.data.toList[24]? = some 0x64 from (LBX9_learnsr_1 8).trans (by decide +kernel))
theorem dX9_learns_25 : decode cX9_learns 25 = .ok (.istore_n 2, 1) := dk_61_ (show cX9_learns.data.toList[25]? = some 0x3d from (LBX9_learnsr_1 9).trans (by decide +kernel))
theorem dX9_learns_26 : decode cX9_learns 26 = .ok (.aload_n 0, 1) := dk_42_ (show cX9_learns.data.toList[26]? = some 0x2a from (LBX9_learnsr_1 10).trans (by decide +kernel))
theorem dX9_learns_27 : decode cX9_learns 27 = .ok (.getfield 7, 3) := dk_180_ (show cX9_learns.data.toList[27]? = some 0xb4 from (LBX9_learnsr_1 11).trans (by decide +kernel)) (show cX9_learns.data.toList[28]? = some 0x00 from (LBX9_learnsr_1 12).trans (by decide +kernel)) (show cX9_learns.data.toList[29]? = some 0x07 from (LBX9_learnsr_1 13).trans (by decide +kernel)) (by decide)
theorem dX9_learns_30 : decode cX9_learns 30 = .ok (.sipush 377, 3) := dk_17_ (show cX9_learns.data.toList[30]? = some 0x11 from (LBX9_learnsr_1 14).trans (by decide +kernel)) (show cX9_learns.data.toList[31]? = some 0x01 from (LBX9_learnsr_1 15).trans (by decide +kernel)) (show cX9_learns.data.toList[32]? = some 0x79 from (LBX9_learnsr_2 0).trans (by decide +kernel)) (by decide)
theorem dX9_learns_33 : decode cX9_learns 33 = .ok (.bipush 9, 2) := dk_16_ (show cX9_learns.data.toList[33]? = some 0x10 from (LBX9_learnsr_2 1).trans (by decide +kernel)) (show cX9_learns.data.toList[34]? = some 0x09 from (LBX9_learnsr_2 2).trans (by decide +kernel)) (by decide)
theorem dX9_learns_35 : decode cX9_learns 35 = .ok (.iload_n 1, 1) := dk_27_ (show cX9_learns.data.toList[35]? = some 0x1b from (LBX9_learnsr_2 3).trans (by decide +kernel))
theorem dX9_learns_36 : decode cX9_learns 36 = .ok (.imul, 1) := dk_104_ (show cX9_learns.data.toList[36]? = some 0x68 from (LBX9_learnsr_2 4).trans (by decide +kernel))
theorem dX9_learns_37 : decode cX9_learns 37 = .ok (.iadd, 1) := dk_96_ (show cX9_learns.data.toList[37]? = some 0x60 from (LBX9_learnsr_2 5).trans (by decide +kernel))
theorem dX9_learns_38 : decode cX9_learns 38 = .ok (.iconst 1, 1) := dk_4_ (show cX9_learns.data.toList[38]? = some 0x04 from (LBX9_learnsr_2 6).trans (by decide +kernel))
theorem dX9_learns_39 : decode cX9_learns 39 = .ok (.iadd, 1) := dk_96_ (show cX9_learns.data.toList[39]? = some 0x60 from (LBX9_learnsr_2 7).trans (by decide +kernel))
theorem dX9_learns_40 : decode cX9_learns 40 = .ok (.iaload, 1) := dk_46_ (show cX9_learns.data.toList[40]? = some 0x2e from (LBX9_learnsr_2 8).trans (by decide +kernel))
theorem dX9_learns_41 : decode cX9_learns 41 = .ok (.istore_n 3, 1) := dk_62_ (show cX9_learns.data.toList[41]? = some 0x3e from (LBX9_learnsr_2 9).trans (by decide +kernel))
theorem dX9_learns_42 : decode cX9_learns 42 = .ok (.aload_n 0, 1) := dk_42_ (show cX9_learns.data.toList[42]? = some 0x2a from (LBX9_learnsr_2 10).trans (by decide +kernel))
theorem dX9_learns_43 : decode cX9_learns 43 = .ok (.getfield 7, 3) := dk_180_ (show cX9_learns.data.toList[43]? = some 0xb4 from (LBX9_learnsr_2 11).trans (by decide +kernel)) (show cX9_learns.data.toList[44]? = some 0x00 from (LBX9_learnsr_2 12).trans (by decide +kernel)) (show cX9_learns.data.toList[45]? = some 0x07 from (LBX9_learnsr_2 13).trans (by decide +kernel)) (by decide)
theorem dX9_learns_46 : decode cX9_learns 46 = .ok (.sipush 377, 3) := dk_17_ (show cX9_learns.data.toList[46]? = some 0x11 from (LBX9_learnsr_2 14).trans (by decide +kernel)) (show cX9_learns.data.toList[47]? = some 0x01 from (LBX9_learnsr_2 15).trans (by decide +kernel)) (show cX9_learns.data.toList[48]? = some 0x79 from (LBX9_learnsr_3 0).trans (by decide +kernel)) (by decide)
theorem dX9_learns_49 : decode cX9_learns 49 = .ok (.bipush 9, 2) := dk_16_ (show cX9_learns.data.toList[49]? = some 0x10 from (LBX9_learnsr_3 1).trans (by decide +kernel)) (show cX9_learns.data.toList[50]? = some 0x09 from (LBX9_learnsr_3 2).trans (by decide +kernel)) (by decide)
theorem dX9_learns_51 : decode cX9_learns 51 = .ok (.iload_n 1, 1) := dk_27_ (show cX9_learns.data.toList[51]? = some 0x1b from (LBX9_learnsr_3 3).trans (by decide +kernel))
theorem dX9_learns_52 : decode cX9_learns 52 = .ok (.imul, 1) := dk_104_ (show cX9_learns.data.toList[52]? = some 0x68 from (LBX9_learnsr_3 4).trans (by decide +kernel))
theorem dX9_learns_53 : decode cX9_learns 53 = .ok (.iadd, 1) := dk_96_ (show cX9_learns.data.toList[53]? = some 0x60 from (LBX9_learnsr_3 5).trans (by decide +kernel))
theorem dX9_learns_54 : decode cX9_learns 54 = .ok (.iconst 2, 1) := dk_5_ (show cX9_learns.data.toList[54]? = some 0x05 from (LBX9_learnsr_3 6).trans (by decide +kernel))
theorem dX9_learns_55 : decode cX9_learns 55 = .ok (.iadd, 1) := dk_96_ (show cX9_learns.data.toList[55]? = some 0x60 from (LBX9_learnsr_3 7).trans (by decide +kernel))
theorem dX9_learns_56 : decode cX9_learns 56 = .ok (.iaload, 1) := dk_46_ (show cX9_learns.data.toList[56]? = some 0x2e from (LBX9_learnsr_3 8).trans (by decide +kernel))
theorem dX9_learns_57 : decode cX9_learns 57 = .ok (.istore 4, 2) := dk_54_ (show cX9_learns.data.toList[57]? = some 0x36 from (LBX9_learnsr_3 9).trans (by decide +kernel)) (show cX9_learns.data.toList[58]? = some 0x04 from (LBX9_learnsr_3 10).trans (by decide +kernel)) (by decide)
theorem dX9_learns_59 : decode cX9_learns 59 = .ok (.iconst 0, 1) := dk_3_ (show cX9_learns.data.toList[59]? = some 0x03 from (LBX9_learnsr_3 11).trans (by decide +kernel))
theorem dX9_learns_60 : decode cX9_learns 60 = .ok (.istore 5, 2) := dk_54_ (show cX9_learns.data.toList[60]? = some 0x36 from (LBX9_learnsr_3 12).trans (by decide +kernel)) (show cX9_learns.data.toList[61]? = some 0x05 from (LBX9_learnsr_3 13).trans (by decide +kernel)) (by decide)
theorem dX9_learns_62 : decode cX9_learns 62 = .ok (.iload 5, 2) := dk_21_ (show cX9_learns.data.toList[62]? = some 0x15 from (LBX9_learnsr_3 14).trans (by decide +kernel)) (show cX9_learns.data.toList[63]? = some 0x05 from (LBX9_learnsr_3 15).trans (by decide +kernel)) (by decide)
theorem dX9_learns_64 : decode cX9_learns 64 = .ok (.iload_n 2, 1) := dk_28_ (show cX9_learns.data.toList[64]? = some 0x1c from (LBX9_learnsr_4 0).trans (by decide +kernel))
theorem dX9_learns_65 : decode cX9_learns 65 = .ok (.if_icmp .ge 306, 3) := dk_162_ (show cX9_learns.data.toList[65]? = some 0xa2 from (LBX9_learnsr_4 1).trans (by decide +kernel)) (show cX9_learns.data.toList[66]? = some 0x01 from (LBX9_learnsr_4 2).trans (by decide +kernel)) (show cX9_learns.data.toList[67]? = some 0x32 from (LBX9_learnsr_4 3).trans (by decide +kernel)) (by decide)
theorem dX9_learns_68 : decode cX9_learns 68 = .ok (.aload_n 0, 1) := dk_42_ (show cX9_learns.data.toList[68]? = some 0x2a from (LBX9_learnsr_4 4).trans (by decide +kernel))
theorem dX9_learns_69 : decode cX9_learns 69 = .ok (.iload_n 1, 1) := dk_27_ (show cX9_learns.data.toList[69]? = some 0x1b from (LBX9_learnsr_4 5).trans (by decide +kernel))
theorem dX9_learns_70 : decode cX9_learns 70 = .ok (.iload 5, 2) := dk_21_ (show cX9_learns.data.toList[70]? = some 0x15 from (LBX9_learnsr_4 6).trans (by decide +kernel)) (show cX9_learns.data.toList[71]? = some 0x05 from (LBX9_learnsr_4 7).trans (by decide +kernel)) (by decide)
theorem dX9_learns_72 : decode cX9_learns 72 = .ok (.invokevirtual 199, 3) := dk_182_ (show cX9_learns.data.toList[72]? = some 0xb6 from (LBX9_learnsr_4 8).trans (by decide +kernel)) (show cX9_learns.data.toList[73]? = some 0x00 from (LBX9_learnsr_4 9).trans (by decide +kernel)) (show cX9_learns.data.toList[74]? = some 0xc7 from (LBX9_learnsr_4 10).trans (by decide +kernel)) (by decide)
theorem dX9_learns_75 : decode cX9_learns 75 = .ok (.istore 6, 2) := dk_54_ (show cX9_learns.data.toList[75]? = some 0x36 from (LBX9_learnsr_4 11).trans (by decide +kernel)) (show cX9_learns.data.toList[76]? = some 0x06 from (LBX9_learnsr_4 12).trans (by decide +kernel)) (by decide)
theorem dX9_learns_77 : decode cX9_learns 77 = .ok (.iconst 0, 1) := dk_3_ (show cX9_learns.data.toList[77]? = some 0x03 from (LBX9_learnsr_4 13).trans (by decide +kernel))
theorem dX9_learns_78 : decode cX9_learns 78 = .ok (.istore 7, 2) := dk_54_ (show cX9_learns.data.toList[78]? = some 0x36 from (LBX9_learnsr_4 14).trans (by decide +kernel)) (show cX9_learns.data.toList[79]? = some 0x07 from (LBX9_learnsr_4 15).trans (by decide +kernel)) (by decide)
theorem dX9_learns_80 : decode cX9_learns 80 = .ok (.iconst 0, 1) := dk_3_ (show cX9_learns.data.toList[80]? = some 0x03 from (LBX9_learnsr_5 0).trans (by decide +kernel))
theorem dX9_learns_81 : decode cX9_learns 81 = .ok (.istore 8, 2) := dk_54_ (show cX9_learns.data.toList[81]? = some 0x36 from (LBX9_learnsr_5 1).trans (by decide +kernel)) (show cX9_learns.data.toList[82]? = some 0x08 from (LBX9_learnsr_5 2).trans (by decide +kernel)) (by decide)
theorem dX9_learns_83 : decode cX9_learns 83 = .ok (.iconst 0, 1) := dk_3_ (show cX9_learns.data.toList[83]? = some 0x03 from (LBX9_learnsr_5 3).trans (by decide +kernel))
theorem dX9_learns_84 : decode cX9_learns 84 = .ok (.istore 9, 2) := dk_54_ (show cX9_learns.data.toList[84]? = some 0x36 from (LBX9_learnsr_5 4).trans (by decide +kernel)) (show cX9_learns.data.toList[85]? = some 0x09 from (LBX9_learnsr_5 5).trans (by decide +kernel)) (by decide)
theorem dX9_learns_86 : decode cX9_learns 86 = .ok (.iconst 0, 1) := dk_3_ (show cX9_learns.data.toList[86]? = some 0x03 from (LBX9_learnsr_5 6).trans (by decide +kernel))
theorem dX9_learns_87 : decode cX9_learns 87 = .ok (.istore 10, 2) := dk_54_ (show cX9_learns.data.toList[87]? = some 0x36 from (LBX9_learnsr_5 7).trans (by decide +kernel)) (show cX9_learns.data.toList[88]? = some 0x0a from (LBX9_learnsr_5 8).trans (by decide +kernel)) (by decide)
theorem dX9_learns_89 : decode cX9_learns 89 = .ok (.iload 10, 2) := dk_21_ (show cX9_learns.data.toList[89]? = some 0x15 from (LBX9_learnsr_5 9).trans (by decide +kernel)) (show cX9_learns.data.toList[90]? = some 0x0a from (LBX9_learnsr_5 10).trans (by decide +kernel)) (by decide)
theorem dX9_learns_91 : decode cX9_learns 91 = .ok (.iload_n 2, 1) := dk_28_ (show cX9_learns.data.toList[91]? = some 0x1c from (LBX9_learnsr_5 11).trans (by decide +kernel))
theorem dX9_learns_92 : decode cX9_learns 92 = .ok (.if_icmp .ge 101, 3) := dk_162_ (show cX9_learns.data.toList[92]? = some 0xa2 from (LBX9_learnsr_5 12).trans (by decide +kernel)) (show cX9_learns.data.toList[93]? = some 0x00 from (LBX9_learnsr_5 13).trans (by decide +kernel)) (show cX9_learns.data.toList[94]? = some 0x65 from (LBX9_learnsr_5 14).trans (by decide +kernel)) (by decide)
theorem dX9_learns_95 : decode cX9_learns 95 = .ok (.aload_n 0, 1) := dk_42_ (show cX9_learns.data.toList[95]? = some 0x2a from (LBX9_learnsr_5 15).trans (by decide +kernel))
theorem dX9_learns_96 : decode cX9_learns 96 = .ok (.iload_n 1, 1) := dk_27_ (show cX9_learns.data.toList[96]? = some 0x1b from (LBX9_learnsr_6 0).trans (by decide +kernel))
theorem dX9_learns_97 : decode cX9_learns 97 = .ok (.iload 10, 2) := dk_21_ (show cX9_learns.data.toList[97]? = some 0x15 from (LBX9_learnsr_6 1).trans (by decide +kernel)) (show cX9_learns.data.toList[98]? = some 0x0a from (LBX9_learnsr_6 2).trans (by decide +kernel)) (by decide)
theorem dX9_learns_99 : decode cX9_learns 99 = .ok (.invokevirtual 199, 3) := dk_182_ (show cX9_learns.data.toList[99]? = some 0xb6 from (LBX9_learnsr_6 3).trans (by decide +kernel)) (show cX9_learns.data.toList[100]? = some 0x00 from (LBX9_learnsr_6 4).trans (by decide +kernel)) (show cX9_learns.data.toList[101]? = some 0xc7 from (LBX9_learnsr_6 5).trans (by decide +kernel)) (by decide)
theorem dX9_learns_102 : decode cX9_learns 102 = .ok (.iload 6, 2) := dk_21_ (show cX9_learns.data.toList[102]? = some 0x15 from (LBX9_learnsr_6 6).trans (by decide +kernel)) (show cX9_learns.data.toList[103]? = some 0x06 from (LBX9_learnsr_6 7).trans (by decide +kernel)) (by decide)
theorem dX9_learns_104 : decode cX9_learns 104 = .ok (.if_icmp .ne 7, 3) := dk_160_ (show cX9_learns.data.toList[104]? = some 0xa0 from (LBX9_learnsr_6 8).trans (by decide +kernel)) (show cX9_learns.data.toList[105]? = some 0x00 from (LBX9_learnsr_6 9).trans (by decide +kernel)) (show cX9_learns.data.toList[106]? = some 0x07 from (LBX9_learnsr_6 10).trans (by decide +kernel)) (by decide)
theorem dX9_learns_107 : decode cX9_learns 107 = .ok (.iconst 1, 1) := dk_4_ (show cX9_learns.data.toList[107]? = some 0x04 from (LBX9_learnsr_6 11).trans (by decide +kernel))
theorem dX9_learns_108 : decode cX9_learns 108 = .ok (.goto 4, 3) := dk_167_ (show cX9_learns.data.toList[108]? = some 0xa7 from (LBX9_learnsr_6 12).trans (by decide +kernel)) (show cX9_learns.data.toList[109]? = some 0x00 from (LBX9_learnsr_6 13).trans (by decide +kernel)) (show cX9_learns.data.toList[110]? = some 0x04 from (LBX9_learnsr_6 14).trans (by decide +kernel)) (by decide)
theorem dX9_learns_111 : decode cX9_learns 111 = .ok (.iconst 0, 1) := dk_3_ (show cX9_learns.data.toList[111]? = some 0x03 from (LBX9_learnsr_6 15).trans (by decide +kernel))
theorem dX9_learns_112 : decode cX9_learns 112 = .ok (.istore 11, 2) := dk_54_ (show cX9_learns.data.toList[112]? = some 0x36 from (LBX9_learnsr_7 0).trans (by decide +kernel)) (show cX9_learns.data.toList[113]? = some 0x0b from (LBX9_learnsr_7 1).trans (by decide +kernel)) (by decide)
theorem dX9_learns_114 : decode cX9_learns 114 = .ok (.iload 7, 2) := dk_21_ (show cX9_learns.data.toList[114]? = some 0x15 from (LBX9_learnsr_7 2).trans (by decide +kernel)) (show cX9_learns.data.toList[115]? = some 0x07 from (LBX9_learnsr_7 3).trans (by decide +kernel)) (by decide)
theorem dX9_learns_116 : decode cX9_learns 116 = .ok (.iload 11, 2) := dk_21_ (show cX9_learns.data.toList[116]? = some 0x15 from (LBX9_learnsr_7 4).trans (by decide +kernel)) (show cX9_learns.data.toList[117]? = some 0x0b from (LBX9_learnsr_7 5).trans (by decide +kernel)) (by decide)
theorem dX9_learns_118 : decode cX9_learns 118 = .ok (.ifCond .eq 7, 3) := dk_153_ (show cX9_learns.data.toList[118]? = some 0x99 from (LBX9_learnsr_7 6).trans (by decide +kernel)) (show cX9_learns.data.toList[119]? = some 0x00 from (LBX9_learnsr_7 7).trans (by decide +kernel)) (show cX9_learns.data.toList[120]? = some 0x07 from (LBX9_learnsr_7 8).trans (by decide +kernel)) (by decide)
theorem dX9_learns_121 : decode cX9_learns 121 = .ok (.iconst 1, 1) := dk_4_ (show cX9_learns.data.toList[121]? = some 0x04 from (LBX9_learnsr_7 9).trans (by decide +kernel))
theorem dX9_learns_122 : decode cX9_learns 122 = .ok (.goto 4, 3) := dk_167_ (show cX9_learns.data.toList[122]? = some 0xa7 from (LBX9_learnsr_7 10).trans (by decide +kernel)) (show cX9_learns.data.toList[123]? = some 0x00 from (LBX9_learnsr_7 11).trans (by decide +kernel)) (show cX9_learns.data.toList[124]? = some 0x04 from (LBX9_learnsr_7 12).trans (by decide +kernel)) (by decide)
theorem dX9_learns_125 : decode cX9_learns 125 = .ok (.iconst 0, 1) := dk_3_ (show cX9_learns.data.toList[125]? = some 0x03 from (LBX9_learnsr_7 13).trans (by decide +kernel))
theorem dX9_learns_126 : decode cX9_learns 126 = .ok (.iadd, 1) := dk_96_ (show cX9_learns.data.toList[126]? = some 0x60 from (LBX9_learnsr_7 14).trans (by decide +kernel))
theorem dX9_learns_127 : decode cX9_learns 127 = .ok (.istore 7, 2) := dk_54_ (show cX9_learns.data.toList[127]? = some 0x36 from (LBX9_learnsr_7 15).trans (by decide +kernel)) (show cX9_learns.data.toList[128]? = some 0x07 from (LBX9_learnsr_8 0).trans (by decide +kernel)) (by decide)
theorem dX9_learns_129 : decode cX9_learns 129 = .ok (.iload 8, 2) := dk_21_ (show cX9_learns.data.toList[129]? = some 0x15 from (LBX9_learnsr_8 1).trans (by decide +kernel)) (show cX9_learns.data.toList[130]? = some 0x08 from (LBX9_learnsr_8 2).trans (by decide +kernel)) (by decide)
theorem dX9_learns_131 : decode cX9_learns 131 = .ok (.iload 11, 2) := dk_21_ (show cX9_learns.data.toList[131]? = some 0x15 from (LBX9_learnsr_8 3).trans (by decide +kernel)) (show cX9_learns.data.toList[132]? = some 0x0b from (LBX9_learnsr_8 4).trans (by decide +kernel)) (by decide)
theorem dX9_learns_133 : decode cX9_learns 133 = .ok (.ifCond .eq 7, 3) := dk_153_ (show cX9_learns.data.toList[133]? = some 0x99 from (LBX9_learnsr_8 5).trans (by decide +kernel)) (show cX9_learns.data.toList[134]? = some 0x00 from (LBX9_learnsr_8 6).trans (by decide +kernel)) (show cX9_learns.data.toList[135]? = some 0x07 from (LBX9_learnsr_8 7).trans (by decide +kernel)) (by decide)
theorem dX9_learns_136 : decode cX9_learns 136 = .ok (.iconst 0, 1) := dk_3_ (show cX9_learns.data.toList[136]? = some 0x03 from (LBX9_learnsr_8 8).trans (by decide +kernel))
theorem dX9_learns_137 : decode cX9_learns 137 = .ok (.goto 18, 3) := dk_167_ (show cX9_learns.data.toList[137]? = some 0xa7 from (LBX9_learnsr_8 9).trans (by decide +kernel)) (show cX9_learns.data.toList[138]? = some 0x00 from (LBX9_learnsr_8 10).trans (by decide +kernel)) (show cX9_learns.data.toList[139]? = some 0x12 from (LBX9_learnsr_8 11).trans (by decide +kernel)) (by decide)
theorem dX9_learns_140 : decode cX9_learns 140 = .ok (.aload_n 0, 1) := dk_42_ (show cX9_learns.data.toList[140]? = some 0x2a from (LBX9_learnsr_8 12).trans (by decide +kernel))
theorem dX9_learns_141 : decode cX9_learns 141 = .ok (.getfield 7, 3) := dk_180_ (show cX9_learns.data.toList[141]? = some 0xb4 from (LBX9_learnsr_8 13).trans (by decide +kernel)) (show cX9_learns.data.toList[142]? = some 0x00 from (LBX9_learnsr_8 14).trans (by decide +kernel)) (show cX9_learns.data.toList[143]? = some 0x07 from (LBX9_learnsr_8 15).trans (by decide +kernel)) (by decide)
theorem dX9_learns_144 : decode cX9_learns 144 = .ok (.bipush 13, 2) := dk_16_ (show cX9_learns.data.toList[144]? = some 0x10 from (LBX9_learnsr_9 0).trans (by decide +kernel)) (show cX9_learns.data.toList[145]? = some 0x0d from (LBX9_learnsr_9 1).trans (by decide +kernel)) (by decide)
theorem dX9_learns_146 : decode cX9_learns 146 = .ok (.aload_n 0, 1) := dk_42_ (show cX9_learns.data.toList[146]? = some 0x2a from (LBX9_learnsr_9 2).trans (by decide +kernel))
theorem dX9_learns_147 : decode cX9_learns 147 = .ok (.iload_n 1, 1) := dk_27_ (show cX9_learns.data.toList[147]? = some 0x1b from (LBX9_learnsr_9 3).trans (by decide +kernel))
theorem dX9_learns_148 : decode cX9_learns 148 = .ok (.iload 10, 2) := dk_21_ (show cX9_learns.data.toList[148]? = some 0x15 from (LBX9_learnsr_9 4).trans (by decide +kernel)) (show cX9_learns.data.toList[149]? = some 0x0a from (LBX9_learnsr_9 5).trans (by decide +kernel)) (by decide)
theorem dX9_learns_150 : decode cX9_learns 150 = .ok (.invokevirtual 199, 3) := dk_182_ (show cX9_learns.data.toList[150]? = some 0xb6 from (LBX9_learnsr_9 6).trans (by decide +kernel)) (show cX9_learns.data.toList[151]? = some 0x00 from (LBX9_learnsr_9 7).trans (by decide +kernel)) (show cX9_learns.data.toList[152]? = some 0xc7 from (LBX9_learnsr_9 8).trans (by decide +kernel)) (by decide)
theorem dX9_learns_153 : decode cX9_learns 153 = .ok (.iadd, 1) := dk_96_ (show cX9_learns.data.toList[153]? = some 0x60 from (LBX9_learnsr_9 9).trans (by decide +kernel))
theorem dX9_learns_154 : decode cX9_learns 154 = .ok (.iaload, 1) := dk_46_ (show cX9_learns.data.toList[154]? = some 0x2e from (LBX9_learnsr_9 10).trans (by decide +kernel))
theorem dX9_learns_155 : decode cX9_learns 155 = .ok (.iadd, 1) := dk_96_ (show cX9_learns.data.toList[155]? = some 0x60 from (LBX9_learnsr_9 11).trans (by decide +kernel))
theorem dX9_learns_156 : decode cX9_learns 156 = .ok (.istore 8, 2) := dk_54_ (show cX9_learns.data.toList[156]? = some 0x36 from (LBX9_learnsr_9 12).trans (by decide +kernel)) (show cX9_learns.data.toList[157]? = some 0x08 from (LBX9_learnsr_9 13).trans (by decide +kernel)) (by decide)
theorem dX9_learns_158 : decode cX9_learns 158 = .ok (.iload 9, 2) := dk_21_ (show cX9_learns.data.toList[158]? = some 0x15 from (LBX9_learnsr_9 14).trans (by decide +kernel)) (show cX9_learns.data.toList[159]? = some 0x09 from (LBX9_learnsr_9 15).trans (by decide +kernel)) (by decide)
theorem dX9_learns_160 : decode cX9_learns 160 = .ok (.iload 11, 2) := dk_21_ (show cX9_learns.data.toList[160]? = some 0x15 from (LBX9_learnsr_10 0).trans (by decide +kernel)) (show cX9_learns.data.toList[161]? = some 0x0b from (LBX9_learnsr_10 1).trans (by decide +kernel)) (by decide)
theorem dX9_learns_162 : decode cX9_learns 162 = .ok (.ifCond .eq 7, 3) := dk_153_ (show cX9_learns.data.toList[162]? = some 0x99 from (LBX9_learnsr_10 2).trans (by decide +kernel)) (show cX9_learns.data.toList[163]? = some 0x00 from (LBX9_learnsr_10 3).trans (by decide +kernel)) (show cX9_learns.data.toList[164]? = some 0x07 from (LBX9_learnsr_10 4).trans (by decide +kernel)) (by decide)
theorem dX9_learns_165 : decode cX9_learns 165 = .ok (.iconst 0, 1) := dk_3_ (show cX9_learns.data.toList[165]? = some 0x03 from (LBX9_learnsr_10 5).trans (by decide +kernel))
theorem dX9_learns_166 : decode cX9_learns 166 = .ok (.goto 18, 3) := dk_167_ (show cX9_learns.data.toList[166]? = some 0xa7 from (LBX9_learnsr_10 6).trans (by decide +kernel)) (show cX9_learns.data.toList[167]? = some 0x00 from (LBX9_learnsr_10 7).trans (by decide +kernel)) (show cX9_learns.data.toList[168]? = some 0x12 from (LBX9_learnsr_10 8).trans (by decide +kernel)) (by decide)
theorem dX9_learns_169 : decode cX9_learns 169 = .ok (.aload_n 0, 1) := dk_42_ (show cX9_learns.data.toList[169]? = some 0x2a from (LBX9_learnsr_10 9).trans (by decide +kernel))
theorem dX9_learns_170 : decode cX9_learns 170 = .ok (.getfield 7, 3) := dk_180_ (show cX9_learns.data.toList[170]? = some 0xb4 from (LBX9_learnsr_10 10).trans (by decide +kernel)) (show cX9_learns.data.toList[171]? = some 0x00 from (LBX9_learnsr_10 11).trans (by decide +kernel)) (show cX9_learns.data.toList[172]? = some 0x07 from (LBX9_learnsr_10 12).trans (by decide +kernel)) (by decide)
theorem dX9_learns_173 : decode cX9_learns 173 = .ok (.bipush 113, 2) := dk_16_ (show cX9_learns.data.toList[173]? = some 0x10 from (LBX9_learnsr_10 13).trans (by decide +kernel)) (show cX9_learns.data.toList[174]? = some 0x71 from (LBX9_learnsr_10 14).trans (by decide +kernel)) (by decide)
theorem dX9_learns_175 : decode cX9_learns 175 = .ok (.aload_n 0, 1) := dk_42_ (show cX9_learns.data.toList[175]? = some 0x2a from (LBX9_learnsr_10 15).trans (by decide +kernel))
theorem dX9_learns_176 : decode cX9_learns 176 = .ok (.iload_n 1, 1) := dk_27_ (show cX9_learns.data.toList[176]? = some 0x1b from (LBX9_learnsr_11 0).trans (by decide +kernel))
theorem dX9_learns_177 : decode cX9_learns 177 = .ok (.iload 10, 2) := dk_21_ (show cX9_learns.data.toList[177]? = some 0x15 from (LBX9_learnsr_11 1).trans (by decide +kernel)) (show cX9_learns.data.toList[178]? = some 0x0a from (LBX9_learnsr_11 2).trans (by decide +kernel)) (by decide)
theorem dX9_learns_179 : decode cX9_learns 179 = .ok (.invokevirtual 199, 3) := dk_182_ (show cX9_learns.data.toList[179]? = some 0xb6 from (LBX9_learnsr_11 3).trans (by decide +kernel)) (show cX9_learns.data.toList[180]? = some 0x00 from (LBX9_learnsr_11 4).trans (by decide +kernel)) (show cX9_learns.data.toList[181]? = some 0xc7 from (LBX9_learnsr_11 5).trans (by decide +kernel)) (by decide)
theorem dX9_learns_182 : decode cX9_learns 182 = .ok (.iadd, 1) := dk_96_ (show cX9_learns.data.toList[182]? = some 0x60 from (LBX9_learnsr_11 6).trans (by decide +kernel))
theorem dX9_learns_183 : decode cX9_learns 183 = .ok (.iaload, 1) := dk_46_ (show cX9_learns.data.toList[183]? = some 0x2e from (LBX9_learnsr_11 7).trans (by decide +kernel))
theorem dX9_learns_184 : decode cX9_learns 184 = .ok (.iadd, 1) := dk_96_ (show cX9_learns.data.toList[184]? = some 0x60 from (LBX9_learnsr_11 8).trans (by decide +kernel))
theorem dX9_learns_185 : decode cX9_learns 185 = .ok (.istore 9, 2) := dk_54_ (show cX9_learns.data.toList[185]? = some 0x36 from (LBX9_learnsr_11 9).trans (by decide +kernel)) (show cX9_learns.data.toList[186]? = some 0x09 from (LBX9_learnsr_11 10).trans (by decide +kernel)) (by decide)
theorem dX9_learns_187 : decode cX9_learns 187 = .ok (.iinc 10 1, 3) := dk_132_ (show cX9_learns.data.toList[187]? = some 0x84 from (LBX9_learnsr_11 11).trans (by decide +kernel)) (show cX9_learns.data.toList[188]? = some 0x0a from (LBX9_learnsr_11 12).trans (by decide +kernel)) (show cX9_learns.data.toList[189]? = some 0x01 from (LBX9_learnsr_11 13).trans (by decide +kernel)) (by decide) (by decide)
theorem dX9_learns_190 : decode cX9_learns 190 = .ok (.goto (-101), 3) := dk_167_ (show cX9_learns.data.toList[190]? = some 0xa7 from (LBX9_learnsr_11 14).trans (by decide +kernel)) (show cX9_learns.data.toList[191]? = some 0xff from (LBX9_learnsr_11 15).trans (by decide +kernel)) (show cX9_learns.data.toList[192]? = some 0x9b from (LBX9_learnsr_12 0).trans (by decide +kernel)) (by decide)
theorem dX9_learns_193 : decode cX9_learns 193 = .ok (.iload 7, 2) := dk_21_ (show cX9_learns.data.toList[193]? = some 0x15 from (LBX9_learnsr_12 1).trans (by decide +kernel)) (show cX9_learns.data.toList[194]? = some 0x07 from (LBX9_learnsr_12 2).trans (by decide +kernel)) (by decide)
theorem dX9_learns_195 : decode cX9_learns 195 = .ok (.iconst 1, 1) := dk_4_ (show cX9_learns.data.toList[195]? = some 0x04 from (LBX9_learnsr_12 3).trans (by decide +kernel))
theorem dX9_learns_196 : decode cX9_learns 196 = .ok (.if_icmp .ne 169, 3) := dk_160_ (show cX9_learns.data.toList[196]? = some 0xa0 from (LBX9_learnsr_12 4).trans (by decide +kernel)) (show cX9_learns.data.toList[197]? = some 0x00 from (LBX9_learnsr_12 5).trans (by decide +kernel)) (show cX9_learns.data.toList[198]? = some 0xa9 from (LBX9_learnsr_12 6).trans (by decide +kernel)) (by decide)
theorem dX9_learns_199 : decode cX9_learns 199 = .ok (.iload_n 3, 1) := dk_29_ (show cX9_learns.data.toList[199]? = some 0x1d from (LBX9_learnsr_12 7).trans (by decide +kernel))
theorem dX9_learns_200 : decode cX9_learns 200 = .ok (.iload 4, 2) := dk_21_ (show cX9_learns.data.toList[200]? = some 0x15 from (LBX9_learnsr_12 8).trans (by decide +kernel)) (show cX9_learns.data.toList[201]? = some 0x04 from (LBX9_learnsr_12 9).trans (by decide +kernel)) (by decide)
theorem dX9_learns_202 : decode cX9_learns 202 = .ok (.iadd, 1) := dk_96_ (show cX9_learns.data.toList[202]? = some 0x60 from (LBX9_learnsr_12 10).trans (by decide +kernel))
theorem dX9_learns_203 : decode cX9_learns 203 = .ok (.iload 8, 2) := dk_21_ (show cX9_learns.data.toList[203]? = some 0x15 from (LBX9_learnsr_12 11).trans (by decide +kernel)) (show cX9_learns.data.toList[204]? = some 0x08 from (LBX9_learnsr_12 12).trans (by decide +kernel)) (by decide)
theorem dX9_learns_205 : decode cX9_learns 205 = .ok (.isub, 1) := dk_100_ (show cX9_learns.data.toList[205]? = some 0x64 from (LBX9_learnsr_12 13).trans (by decide +kernel))
theorem dX9_learns_206 : decode cX9_learns 206 = .ok (.aload_n 0, 1) := dk_42_ (show cX9_learns.data.toList[206]? = some 0x2a from (LBX9_learnsr_12 14).trans (by decide +kernel))
theorem dX9_learns_207 : decode cX9_learns 207 = .ok (.getfield 7, 3) := dk_180_ (show cX9_learns.data.toList[207]? = some 0xb4 from (LBX9_learnsr_12 15).trans (by decide +kernel)) (show cX9_learns.data.toList[208]? = some 0x00 from (LBX9_learnsr_13 0).trans (by decide +kernel)) (show cX9_learns.data.toList[209]? = some 0x07 from (LBX9_learnsr_13 1).trans (by decide +kernel)) (by decide)
theorem dX9_learns_210 : decode cX9_learns 210 = .ok (.bipush 113, 2) := dk_16_ (show cX9_learns.data.toList[210]? = some 0x10 from (LBX9_learnsr_13 2).trans (by decide +kernel)) (show cX9_learns.data.toList[211]? = some 0x71 from (LBX9_learnsr_13 3).trans (by decide +kernel)) (by decide)
theorem dX9_learns_212 : decode cX9_learns 212 = .ok (.iload 6, 2) := dk_21_ (show cX9_learns.data.toList[212]? = some 0x15 from (LBX9_learnsr_13 4).trans (by decide +kernel)) (show cX9_learns.data.toList[213]? = some 0x06 from (LBX9_learnsr_13 5).trans (by decide +kernel)) (by decide)
theorem dX9_learns_214 : decode cX9_learns 214 = .ok (.iadd, 1) := dk_96_ (show cX9_learns.data.toList[214]? = some 0x60 from (LBX9_learnsr_13 6).trans (by decide +kernel))
theorem dX9_learns_215 : decode cX9_learns 215 = .ok (.iaload, 1) := dk_46_ (show cX9_learns.data.toList[215]? = some 0x2e from (LBX9_learnsr_13 7).trans (by decide +kernel))
theorem dX9_learns_216 : decode cX9_learns 216 = .ok (.if_icmp .ge 13, 3) := dk_162_ (show cX9_learns.data.toList[216]? = some 0xa2 from (LBX9_learnsr_13 8).trans (by decide +kernel)) (show cX9_learns.data.toList[217]? = some 0x00 from (LBX9_learnsr_13 9).trans (by decide +kernel)) (show cX9_learns.data.toList[218]? = some 0x0d from (LBX9_learnsr_13 10).trans (by decide +kernel)) (by decide)
theorem dX9_learns_219 : decode cX9_learns 219 = .ok (.iload_n 3, 1) := dk_29_ (show cX9_learns.data.toList[219]? = some 0x1d from (LBX9_learnsr_13 11).trans (by decide +kernel))
theorem dX9_learns_220 : decode cX9_learns 220 = .ok (.iload 4, 2) := dk_21_ (show cX9_learns.data.toList[220]? = some 0x15 from (LBX9_learnsr_13 12).trans (by decide +kernel)) (show cX9_learns.data.toList[221]? = some 0x04 from (LBX9_learnsr_13 13).trans (by decide +kernel)) (by decide)
theorem dX9_learns_222 : decode cX9_learns 222 = .ok (.iadd, 1) := dk_96_ (show cX9_learns.data.toList[222]? = some 0x60 from (LBX9_learnsr_13 14).trans (by decide +kernel))
theorem dX9_learns_223 : decode cX9_learns 223 = .ok (.iload 8, 2) := dk_21_ (show cX9_learns.data.toList[223]? = some 0x15 from (LBX9_learnsr_13 15).trans (by decide +kernel)) (show cX9_learns.data.toList[224]? = some 0x08 from (LBX9_learnsr_14 0).trans (by decide +kernel)) (by decide)
theorem dX9_learns_225 : decode cX9_learns 225 = .ok (.isub, 1) := dk_100_ (show cX9_learns.data.toList[225]? = some 0x64 from (LBX9_learnsr_14 1).trans (by decide +kernel))
theorem dX9_learns_226 : decode cX9_learns 226 = .ok (.goto 13, 3) := dk_167_ (show cX9_learns.data.toList[226]? = some 0xa7 from (LBX9_learnsr_14 2).trans (by decide +kernel)) (show cX9_learns.data.toList[227]? = some 0x00 from (LBX9_learnsr_14 3).trans (by decide +kernel)) (show cX9_learns.data.toList[228]? = some 0x0d from (LBX9_learnsr_14 4).trans (by decide +kernel)) (by decide)
theorem dX9_learns_229 : decode cX9_learns 229 = .ok (.aload_n 0, 1) := dk_42_ (show cX9_learns.data.toList[229]? = some 0x2a from (LBX9_learnsr_14 5).trans (by decide +kernel))
theorem dX9_learns_230 : decode cX9_learns 230 = .ok (.getfield 7, 3) := dk_180_ (show cX9_learns.data.toList[230]? = some 0xb4 from (LBX9_learnsr_14 6).trans (by decide +kernel)) (show cX9_learns.data.toList[231]? = some 0x00 from (LBX9_learnsr_14 7).trans (by decide +kernel)) (show cX9_learns.data.toList[232]? = some 0x07 from (LBX9_learnsr_14 8).trans (by decide +kernel)) (by decide)
theorem dX9_learns_233 : decode cX9_learns 233 = .ok (.bipush 113, 2) := dk_16_ (show cX9_learns.data.toList[233]? = some 0x10 from (LBX9_learnsr_14 9).trans (by decide +kernel)) (show cX9_learns.data.toList[234]? = some 0x71 from (LBX9_learnsr_14 10).trans (by decide +kernel)) (by decide)
theorem dX9_learns_235 : decode cX9_learns 235 = .ok (.iload 6, 2) := dk_21_ (show cX9_learns.data.toList[235]? = some 0x15 from (LBX9_learnsr_14 11).trans (by decide +kernel)) (show cX9_learns.data.toList[236]? = some 0x06 from (LBX9_learnsr_14 12).trans (by decide +kernel)) (by decide)
theorem dX9_learns_237 : decode cX9_learns 237 = .ok (.iadd, 1) := dk_96_ (show cX9_learns.data.toList[237]? = some 0x60 from (LBX9_learnsr_14 13).trans (by decide +kernel))
theorem dX9_learns_238 : decode cX9_learns 238 = .ok (.iaload, 1) := dk_46_ (show cX9_learns.data.toList[238]? = some 0x2e from (LBX9_learnsr_14 14).trans (by decide +kernel))
theorem dX9_learns_239 : decode cX9_learns 239 = .ok (.istore 10, 2) := dk_54_ (show cX9_learns.data.toList[239]? = some 0x36 from (LBX9_learnsr_14 15).trans (by decide +kernel)) (show cX9_learns.data.toList[240]? = some 0x0a from (LBX9_learnsr_15 0).trans (by decide +kernel)) (by decide)
theorem dX9_learns_241 : decode cX9_learns 241 = .ok (.iload_n 3, 1) := dk_29_ (show cX9_learns.data.toList[241]? = some 0x1d from (LBX9_learnsr_15 1).trans (by decide +kernel))
theorem dX9_learns_242 : decode cX9_learns 242 = .ok (.iload 4, 2) := dk_21_ (show cX9_learns.data.toList[242]? = some 0x15 from (LBX9_learnsr_15 2).trans (by decide +kernel)) (show cX9_learns.data.toList[243]? = some 0x04 from (LBX9_learnsr_15 3).trans (by decide +kernel)) (by decide)
theorem dX9_learns_244 : decode cX9_learns 244 = .ok (.isub, 1) := dk_100_ (show cX9_learns.data.toList[244]? = some 0x64 from (LBX9_learnsr_15 4).trans (by decide +kernel))
theorem dX9_learns_245 : decode cX9_learns 245 = .ok (.iload 9, 2) := dk_21_ (show cX9_learns.data.toList[245]? = some 0x15 from (LBX9_learnsr_15 5).trans (by decide +kernel)) (show cX9_learns.data.toList[246]? = some 0x09 from (LBX9_learnsr_15 6).trans (by decide +kernel)) (by decide)
theorem dX9_learns_247 : decode cX9_learns 247 = .ok (.isub, 1) := dk_100_ (show cX9_learns.data.toList[247]? = some 0x64 from (LBX9_learnsr_15 7).trans (by decide +kernel))
theorem dX9_learns_248 : decode cX9_learns 248 = .ok (.aload_n 0, 1) := dk_42_ (show cX9_learns.data.toList[248]? = some 0x2a from (LBX9_learnsr_15 8).trans (by decide +kernel))
theorem dX9_learns_249 : decode cX9_learns 249 = .ok (.getfield 7, 3) := dk_180_ (show cX9_learns.data.toList[249]? = some 0xb4 from (LBX9_learnsr_15 9).trans (by decide +kernel)) (show cX9_learns.data.toList[250]? = some 0x00 from (LBX9_learnsr_15 10).trans (by decide +kernel)) (show cX9_learns.data.toList[251]? = some 0x07 from (LBX9_learnsr_15 11).trans (by decide +kernel)) (by decide)
theorem dX9_learns_252 : decode cX9_learns 252 = .ok (.bipush 13, 2) := dk_16_ (show cX9_learns.data.toList[252]? = some 0x10 from (LBX9_learnsr_15 12).trans (by decide +kernel)) (show cX9_learns.data.toList[253]? = some 0x0d from (LBX9_learnsr_15 13).trans (by decide +kernel)) (by decide)
theorem dX9_learns_254 : decode cX9_learns 254 = .ok (.iload 6, 2) := dk_21_ (show cX9_learns.data.toList[254]? = some 0x15 from (LBX9_learnsr_15 14).trans (by decide +kernel)) (show cX9_learns.data.toList[255]? = some 0x06 from (LBX9_learnsr_15 15).trans (by decide +kernel)) (by decide)
theorem dX9_learns_256 : decode cX9_learns 256 = .ok (.iadd, 1) := dk_96_ (show cX9_learns.data.toList[256]? = some 0x60 from (LBX9_learnsr_16 0).trans (by decide +kernel))
theorem dX9_learns_257 : decode cX9_learns 257 = .ok (.iaload, 1) := dk_46_ (show cX9_learns.data.toList[257]? = some 0x2e from (LBX9_learnsr_16 1).trans (by decide +kernel))
theorem dX9_learns_258 : decode cX9_learns 258 = .ok (.if_icmp .le 13, 3) := dk_164_ (show cX9_learns.data.toList[258]? = some 0xa4 from (LBX9_learnsr_16 2).trans (by decide +kernel)) (show cX9_learns.data.toList[259]? = some 0x00 from (LBX9_learnsr_16 3).trans (by decide +kernel)) (show cX9_learns.data.toList[260]? = some 0x0d from (LBX9_learnsr_16 4).trans (by decide +kernel)) (by decide)
theorem dX9_learns_261 : decode cX9_learns 261 = .ok (.iload_n 3, 1) := dk_29_ (show cX9_learns.data.toList[261]? = some 0x1d from (LBX9_learnsr_16 5).trans (by decide +kernel))
theorem dX9_learns_262 : decode cX9_learns 262 = .ok (.iload 4, 2) := dk_21_ (show cX9_learns.data.toList[262]? = some 0x15 from (LBX9_learnsr_16 6).trans (by decide +kernel)) (show cX9_learns.data.toList[263]? = some 0x04 from (LBX9_learnsr_16 7).trans (by decide +kernel)) (by decide)
theorem dX9_learns_264 : decode cX9_learns 264 = .ok (.isub, 1) := dk_100_ (show cX9_learns.data.toList[264]? = some 0x64 from (LBX9_learnsr_16 8).trans (by decide +kernel))
theorem dX9_learns_265 : decode cX9_learns 265 = .ok (.iload 9, 2) := dk_21_ (show cX9_learns.data.toList[265]? = some 0x15 from (LBX9_learnsr_16 9).trans (by decide +kernel)) (show cX9_learns.data.toList[266]? = some 0x09 from (LBX9_learnsr_16 10).trans (by decide +kernel)) (by decide)
theorem dX9_learns_267 : decode cX9_learns 267 = .ok (.isub, 1) := dk_100_ (show cX9_learns.data.toList[267]? = some 0x64 from (LBX9_learnsr_16 11).trans (by decide +kernel))
theorem dX9_learns_268 : decode cX9_learns 268 = .ok (.goto 13, 3) := dk_167_ (show cX9_learns.data.toList[268]? = some 0xa7 from (LBX9_learnsr_16 12).trans (by decide +kernel)) (show cX9_learns.data.toList[269]? = some 0x00 from (LBX9_learnsr_16 13).trans (by decide +kernel)) (show cX9_learns.data.toList[270]? = some 0x0d from (LBX9_learnsr_16 14).trans (by decide +kernel)) (by decide)
theorem dX9_learns_271 : decode cX9_learns 271 = .ok (.aload_n 0, 1) := dk_42_ (show cX9_learns.data.toList[271]? = some 0x2a from (LBX9_learnsr_16 15).trans (by decide +kernel))
theorem dX9_learns_272 : decode cX9_learns 272 = .ok (.getfield 7, 3) := dk_180_ (show cX9_learns.data.toList[272]? = some 0xb4 from (LBX9_learnsr_17 0).trans (by decide +kernel)) (show cX9_learns.data.toList[273]? = some 0x00 from (LBX9_learnsr_17 1).trans (by decide +kernel)) (show cX9_learns.data.toList[274]? = some 0x07 from (LBX9_learnsr_17 2).trans (by decide +kernel)) (by decide)
theorem dX9_learns_275 : decode cX9_learns 275 = .ok (.bipush 13, 2) := dk_16_ (show cX9_learns.data.toList[275]? = some 0x10 from (LBX9_learnsr_17 3).trans (by decide +kernel)) (show cX9_learns.data.toList[276]? = some 0x0d from (LBX9_learnsr_17 4).trans (by decide +kernel)) (by decide)
theorem dX9_learns_277 : decode cX9_learns 277 = .ok (.iload 6, 2) := dk_21_ (show cX9_learns.data.toList[277]? = some 0x15 from (LBX9_learnsr_17 5).trans (by decide +kernel)) (show cX9_learns.data.toList[278]? = some 0x06 from (LBX9_learnsr_17 6).trans (by decide +kernel)) (by decide)
theorem dX9_learns_279 : decode cX9_learns 279 = .ok (.iadd, 1) := dk_96_ (show cX9_learns.data.toList[279]? = some 0x60 from (LBX9_learnsr_17 7).trans (by decide +kernel))
theorem dX9_learns_280 : decode cX9_learns 280 = .ok (.iaload, 1) := dk_46_ (show cX9_learns.data.toList[280]? = some 0x2e from (LBX9_learnsr_17 8).trans (by decide +kernel))
theorem dX9_learns_281 : decode cX9_learns 281 = .ok (.istore 11, 2) := dk_54_ (show cX9_learns.data.toList[281]? = some 0x36 from (LBX9_learnsr_17 9).trans (by decide +kernel)) (show cX9_learns.data.toList[282]? = some 0x0b from (LBX9_learnsr_17 10).trans (by decide +kernel)) (by decide)
theorem dX9_learns_283 : decode cX9_learns 283 = .ok (.iload 11, 2) := dk_21_ (show cX9_learns.data.toList[283]? = some 0x15 from (LBX9_learnsr_17 11).trans (by decide +kernel)) (show cX9_learns.data.toList[284]? = some 0x0b from (LBX9_learnsr_17 12).trans (by decide +kernel)) (by decide)
theorem dX9_learns_285 : decode cX9_learns 285 = .ok (.iload 10, 2) := dk_21_ (show cX9_learns.data.toList[285]? = some 0x15 from (LBX9_learnsr_17 13).trans (by decide +kernel)) (show cX9_learns.data.toList[286]? = some 0x0a from (LBX9_learnsr_17 14).trans (by decide +kernel)) (by decide)
theorem dX9_learns_287 : decode cX9_learns 287 = .ok (.invokestatic 84, 3) := dk_184_ (show cX9_learns.data.toList[287]? = some 0xb8 from (LBX9_learnsr_17 15).trans (by decide +kernel)) (show cX9_learns.data.toList[288]? = some 0x00 from (LBX9_learnsr_18 0).trans (by decide +kernel)) (show cX9_learns.data.toList[289]? = some 0x54 from (LBX9_learnsr_18 1).trans (by decide +kernel)) (by decide)
theorem dX9_learns_290 : decode cX9_learns 290 = .ok (.ifCond .ne 5, 3) := dk_154_ (show cX9_learns.data.toList[290]? = some 0x9a from (LBX9_learnsr_18 2).trans (by decide +kernel)) (show cX9_learns.data.toList[291]? = some 0x00 from (LBX9_learnsr_18 3).trans (by decide +kernel)) (show cX9_learns.data.toList[292]? = some 0x05 from (LBX9_learnsr_18 4).trans (by decide +kernel)) (by decide)
theorem dX9_learns_293 : decode cX9_learns 293 = .ok (.iconst 0, 1) := dk_3_ (show cX9_learns.data.toList[293]? = some 0x03 from (LBX9_learnsr_18 5).trans (by decide +kernel))
theorem dX9_learns_294 : decode cX9_learns 294 = .ok (.ireturn, 1) := dk_172_ (show cX9_learns.data.toList[294]? = some 0xac from (LBX9_learnsr_18 6).trans (by decide +kernel))
theorem dX9_learns_295 : decode cX9_learns 295 = .ok (.aload_n 0, 1) := dk_42_ (show cX9_learns.data.toList[295]? = some 0x2a from (LBX9_learnsr_18 7).trans (by decide +kernel))
theorem dX9_learns_296 : decode cX9_learns 296 = .ok (.aload_n 0, 1) := dk_42_ (show cX9_learns.data.toList[296]? = some 0x2a from (LBX9_learnsr_18 8).trans (by decide +kernel))
theorem dX9_learns_297 : decode cX9_learns 297 = .ok (.getfield 205, 3) := dk_180_ (show cX9_learns.data.toList[297]? = some 0xb4 from (LBX9_learnsr_18 9).trans (by decide +kernel)) (show cX9_learns.data.toList[298]? = some 0x00 from (LBX9_learnsr_18 10).trans (by decide +kernel)) (show cX9_learns.data.toList[299]? = some 0xcd from (LBX9_learnsr_18 11).trans (by decide +kernel)) (by decide)
theorem dX9_learns_300 : decode cX9_learns 300 = .ok (.ifCond .ne 33, 3) := dk_154_ (show cX9_learns.data.toList[300]? = some 0x9a from (LBX9_learnsr_18 12).trans (by decide +kernel)) (show cX9_learns.data.toList[301]? = some 0x00 from (LBX9_learnsr_18 13).trans (by decide +kernel)) (show cX9_learns.data.toList[302]? = some 0x21 from (LBX9_learnsr_18 14).trans (by decide +kernel)) (by decide)
theorem dX9_learns_303 : decode cX9_learns 303 = .ok (.iload 10, 2) := dk_21_ (show cX9_learns.data.toList[303]? = some 0x15 from (LBX9_learnsr_18 15).trans (by decide +kernel)) (show cX9_learns.data.toList[304]? = some 0x0a from (LBX9_learnsr_19 0).trans (by decide +kernel)) (by decide)
theorem dX9_learns_305 : decode cX9_learns 305 = .ok (.aload_n 0, 1) := dk_42_ (show cX9_learns.data.toList[305]? = some 0x2a from (LBX9_learnsr_19 1).trans (by decide +kernel))
theorem dX9_learns_306 : decode cX9_learns 306 = .ok (.getfield 7, 3) := dk_180_ (show cX9_learns.data.toList[306]? = some 0xb4 from (LBX9_learnsr_19 2).trans (by decide +kernel)) (show cX9_learns.data.toList[307]? = some 0x00 from (LBX9_learnsr_19 3).trans (by decide +kernel)) (show cX9_learns.data.toList[308]? = some 0x07 from (LBX9_learnsr_19 4).trans (by decide +kernel)) (by decide)
theorem dX9_learns_309 : decode cX9_learns 309 = .ok (.bipush 113, 2) := dk_16_ (show cX9_learns.data.toList[309]? = some 0x10 from (LBX9_learnsr_19 5).trans (by decide +kernel)) (show cX9_learns.data.toList[310]? = some 0x71 from (LBX9_learnsr_19 6).trans (by decide +kernel)) (by decide)
theorem dX9_learns_311 : decode cX9_learns 311 = .ok (.iload 6, 2) := dk_21_ (show cX9_learns.data.toList[311]? = some 0x15 from (LBX9_learnsr_19 7).trans (by decide +kernel)) (show cX9_learns.data.toList[312]? = some 0x06 from (LBX9_learnsr_19 8).trans (by decide +kernel)) (by decide)
theorem dX9_learns_313 : decode cX9_learns 313 = .ok (.iadd, 1) := dk_96_ (show cX9_learns.data.toList[313]? = some 0x60 from (LBX9_learnsr_19 9).trans (by decide +kernel))
theorem dX9_learns_314 : decode cX9_learns 314 = .ok (.iaload, 1) := dk_46_ (show cX9_learns.data.toList[314]? = some 0x2e from (LBX9_learnsr_19 10).trans (by decide +kernel))
theorem dX9_learns_315 : decode cX9_learns 315 = .ok (.if_icmp .ne 18, 3) := dk_160_ (show cX9_learns.data.toList[315]? = some 0xa0 from (LBX9_learnsr_19 11).trans (by decide +kernel)) (show cX9_learns.data.toList[316]? = some 0x00 from (LBX9_learnsr_19 12).trans (by decide +kernel)) (show cX9_learns.data.toList[317]? = some 0x12 from (LBX9_learnsr_19 13).trans (by decide +kernel)) (by decide)
theorem dX9_learns_318 : decode cX9_learns 318 = .ok (.iload 11, 2) := dk_21_ (show cX9_learns.data.toList[318]? = some 0x15 from (LBX9_learnsr_19 14).trans (by decide +kernel)) (show cX9_learns.data.toList[319]? = some 0x0b from (LBX9_learnsr_19 15).trans (by decide +kernel)) (by decide)
theorem dX9_learns_320 : decode cX9_learns 320 = .ok (.aload_n 0, 1) := dk_42_ (show cX9_learns.data.toList[320]? = some 0x2a from (LBX9_learnsr_20 0).trans (by decide +kernel))
theorem dX9_learns_321 : decode cX9_learns 321 = .ok (.getfield 7, 3) := dk_180_ (show cX9_learns.data.toList[321]? = some 0xb4 from (LBX9_learnsr_20 1).trans (by decide +kernel)) (show cX9_learns.data.toList[322]? = some 0x00 from (LBX9_learnsr_20 2).trans (by decide +kernel)) (show cX9_learns.data.toList[323]? = some 0x07 from (LBX9_learnsr_20 3).trans (by decide +kernel)) (by decide)
theorem dX9_learns_324 : decode cX9_learns 324 = .ok (.bipush 13, 2) := dk_16_ (show cX9_learns.data.toList[324]? = some 0x10 from (LBX9_learnsr_20 4).trans (by decide +kernel)) (show cX9_learns.data.toList[325]? = some 0x0d from (LBX9_learnsr_20 5).trans (by decide +kernel)) (by decide)
theorem dX9_learns_326 : decode cX9_learns 326 = .ok (.iload 6, 2) := dk_21_ (show cX9_learns.data.toList[326]? = some 0x15 from (LBX9_learnsr_20 6).trans (by decide +kernel)) (show cX9_learns.data.toList[327]? = some 0x06 from (LBX9_learnsr_20 7).trans (by decide +kernel)) (by decide)
theorem dX9_learns_328 : decode cX9_learns 328 = .ok (.iadd, 1) := dk_96_ (show cX9_learns.data.toList[328]? = some 0x60 from (LBX9_learnsr_20 8).trans (by decide +kernel))
theorem dX9_learns_329 : decode cX9_learns 329 = .ok (.iaload, 1) := dk_46_ (show cX9_learns.data.toList[329]? = some 0x2e from (LBX9_learnsr_20 9).trans (by decide +kernel))
theorem dX9_learns_330 : decode cX9_learns 330 = .ok (.if_icmp .eq 7, 3) := dk_159_ (show cX9_learns.data.toList[330]? = some 0x9f from (LBX9_learnsr_20 10).trans (by decide +kernel)) (show cX9_learns.data.toList[331]? = some 0x00 from (LBX9_learnsr_20 11).trans (by decide +kernel)) (show cX9_learns.data.toList[332]? = some 0x07 from (LBX9_learnsr_20 12).trans (by decide +kernel)) (by decide)
theorem dX9_learns_333 : decode cX9_learns 333 = .ok (.iconst 1, 1) := dk_4_ (show cX9_learns.data.toList[333]? = some 0x04 from (LBX9_learnsr_20 13).trans (by decide +kernel))
theorem dX9_learns_334 : decode cX9_learns 334 = .ok (.goto 4, 3) := dk_167_ (show cX9_learns.data.toList[334]? = some 0xa7 from (LBX9_learnsr_20 14).trans (by decide +kernel)) (show cX9_learns.data.toList[335]? = some 0x00 from (LBX9_learnsr_20 15).trans (by decide +kernel)) (show cX9_learns.data.toList[336]? = some 0x04 from (LBX9_learnsr_21 0).trans (by decide +kernel)) (by decide)
theorem dX9_learns_337 : decode cX9_learns 337 = .ok (.iconst 0, 1) := dk_3_ (show cX9_learns.data.toList[337]? = some 0x03 from (LBX9_learnsr_21 1).trans (by decide +kernel))
theorem dX9_learns_338 : decode cX9_learns 338 = .ok (.putfield 205, 3) := dk_181_ (show cX9_learns.data.toList[338]? = some 0xb5 from (LBX9_learnsr_21 2).trans (by decide +kernel)) (show cX9_learns.data.toList[339]? = some 0x00 from (LBX9_learnsr_21 3).trans (by decide +kernel)) (show cX9_learns.data.toList[340]? = some 0xcd from (LBX9_learnsr_21 4).trans (by decide +kernel)) (by decide)
theorem dX9_learns_341 : decode cX9_learns 341 = .ok (.aload_n 0, 1) := dk_42_ (show cX9_learns.data.toList[341]? = some 0x2a from (LBX9_learnsr_21 5).trans (by decide +kernel))
theorem dX9_learns_342 : decode cX9_learns 342 = .ok (.getfield 7, 3) := dk_180_ (show cX9_learns.data.toList[342]? = some 0xb4 from (LBX9_learnsr_21 6).trans (by decide +kernel)) (show cX9_learns.data.toList[343]? = some 0x00 from (LBX9_learnsr_21 7).trans (by decide +kernel)) (show cX9_learns.data.toList[344]? = some 0x07 from (LBX9_learnsr_21 8).trans (by decide +kernel)) (by decide)
theorem dX9_learns_345 : decode cX9_learns 345 = .ok (.bipush 113, 2) := dk_16_ (show cX9_learns.data.toList[345]? = some 0x10 from (LBX9_learnsr_21 9).trans (by decide +kernel)) (show cX9_learns.data.toList[346]? = some 0x71 from (LBX9_learnsr_21 10).trans (by decide +kernel)) (by decide)
theorem dX9_learns_347 : decode cX9_learns 347 = .ok (.iload 6, 2) := dk_21_ (show cX9_learns.data.toList[347]? = some 0x15 from (LBX9_learnsr_21 11).trans (by decide +kernel)) (show cX9_learns.data.toList[348]? = some 0x06 from (LBX9_learnsr_21 12).trans (by decide +kernel)) (by decide)
theorem dX9_learns_349 : decode cX9_learns 349 = .ok (.iadd, 1) := dk_96_ (show cX9_learns.data.toList[349]? = some 0x60 from (LBX9_learnsr_21 13).trans (by decide +kernel))
theorem dX9_learns_350 : decode cX9_learns 350 = .ok (.iload 10, 2) := dk_21_ (show cX9_learns.data.toList[350]? = some 0x15 from (LBX9_learnsr_21 14).trans (by decide +kernel)) (show cX9_learns.data.toList[351]? = some 0x0a from (LBX9_learnsr_21 15).trans (by decide +kernel)) (by decide)
theorem dX9_learns_352 : decode cX9_learns 352 = .ok (.iastore, 1) := dk_79_ (show cX9_learns.data.toList[352]? = some 0x4f from (LBX9_learnsr_22 0).trans (by decide +kernel))
theorem dX9_learns_353 : decode cX9_learns 353 = .ok (.aload_n 0, 1) := dk_42_ (show cX9_learns.data.toList[353]? = some 0x2a from (LBX9_learnsr_22 1).trans (by decide +kernel))
theorem dX9_learns_354 : decode cX9_learns 354 = .ok (.getfield 7, 3) := dk_180_ (show cX9_learns.data.toList[354]? = some 0xb4 from (LBX9_learnsr_22 2).trans (by decide +kernel)) (show cX9_learns.data.toList[355]? = some 0x00 from (LBX9_learnsr_22 3).trans (by decide +kernel)) (show cX9_learns.data.toList[356]? = some 0x07 from (LBX9_learnsr_22 4).trans (by decide +kernel)) (by decide)
theorem dX9_learns_357 : decode cX9_learns 357 = .ok (.bipush 13, 2) := dk_16_ (show cX9_learns.data.toList[357]? = some 0x10 from (LBX9_learnsr_22 5).trans (by decide +kernel)) (show cX9_learns.data.toList[358]? = some 0x0d from (LBX9_learnsr_22 6).trans (by decide +kernel)) (by decide)
theorem dX9_learns_359 : decode cX9_learns 359 = .ok (.iload 6, 2) := dk_21_ (show cX9_learns.data.toList[359]? = some 0x15 from (LBX9_learnsr_22 7).trans (by decide +kernel)) (show cX9_learns.data.toList[360]? = some 0x06 from (LBX9_learnsr_22 8).trans (by decide +kernel)) (by decide)
theorem dX9_learns_361 : decode cX9_learns 361 = .ok (.iadd, 1) := dk_96_ (show cX9_learns.data.toList[361]? = some 0x60 from (LBX9_learnsr_22 9).trans (by decide +kernel))
theorem dX9_learns_362 : decode cX9_learns 362 = .ok (.iload 11, 2) := dk_21_ (show cX9_learns.data.toList[362]? = some 0x15 from (LBX9_learnsr_22 10).trans (by decide +kernel)) (show cX9_learns.data.toList[363]? = some 0x0b from (LBX9_learnsr_22 11).trans (by decide +kernel)) (by decide)
theorem dX9_learns_364 : decode cX9_learns 364 = .ok (.iastore, 1) := dk_79_ (show cX9_learns.data.toList[364]? = some 0x4f from (LBX9_learnsr_22 12).trans (by decide +kernel))
theorem dX9_learns_365 : decode cX9_learns 365 = .ok (.iinc 5 1, 3) := dk_132_ (show cX9_learns.data.toList[365]? = some 0x84 from (LBX9_learnsr_22 13).trans (by decide +kernel)) (show cX9_learns.data.toList[366]? = some 0x05 from (LBX9_learnsr_22 14).trans (by decide +kernel)) (show cX9_learns.data.toList[367]? = some 0x01 from (LBX9_learnsr_22 15).trans (by decide +kernel)) (by decide) (by decide)
theorem dX9_learns_368 : decode cX9_learns 368 = .ok (.goto (-306), 3) := dk_167_ (show cX9_learns.data.toList[368]? = some 0xa7 from (LBX9_learnsr_23 0).trans (by decide +kernel)) (show cX9_learns.data.toList[369]? = some 0xfe from (LBX9_learnsr_23 1).trans (by decide +kernel)) (show cX9_learns.data.toList[370]? = some 0xce from (LBX9_learnsr_23 2).trans (by decide +kernel)) (by decide)
theorem dX9_learns_371 : decode cX9_learns 371 = .ok (.iconst 1, 1) := dk_4_ (show cX9_learns.data.toList[371]? = some 0x04 from (LBX9_learnsr_23 3).trans (by decide +kernel))
theorem dX9_learns_372 : decode cX9_learns 372 = .ok (.ireturn, 1) := dk_172_ (show cX9_learns.data.toList[372]? = some 0xac from (LBX9_learnsr_23 4).trans (by decide +kernel))
def LRX9_learning_7 : List UInt8 := []
def LBX9_learning_6 : List UInt8 := [0xac]
def LRX9_learning_6 : List UInt8 := LBX9_learning_6 ++ LRX9_learning_7
def LBX9_learning_5 : List UInt8 := [0x00, 0x07, 0x04, 0xa7, 0x00, 0x04, 0x03, 0x60, 0x3c, 0x84, 0x02, 0x01, 0xa7, 0xff, 0xb2, 0x1b]
def LRX9_learning_5 : List UInt8 := LBX9_learning_5 ++ LRX9_learning_6
def LBX9_learning_4 : List UInt8 := [0x80, 0xb5, 0x00, 0xd0, 0x84, 0x03, 0x01, 0xa7, 0xff, 0xdb, 0x1b, 0x2a, 0xb4, 0x00, 0xcd, 0x99]
def LRX9_learning_4 : List UInt8 := LBX9_learning_4 ++ LRX9_learning_5
def LBX9_learning_3 : List UInt8 := [0xd0, 0x2a, 0x1d, 0xb6, 0x00, 0xd3, 0x99, 0x00, 0x07, 0x03, 0xa7, 0x00, 0x06, 0x04, 0x1d, 0x78]
def LRX9_learning_3 : List UInt8 := LBX9_learning_3 ++ LRX9_learning_4
def LBX9_learning_2 : List UInt8 := [0x03, 0x3e, 0x1d, 0x2a, 0xb4, 0x00, 0x07, 0x05, 0x2e, 0xa2, 0x00, 0x21, 0x2a, 0x59, 0xb4, 0x00]
def LRX9_learning_2 : List UInt8 := LBX9_learning_2 ++ LRX9_learning_3
def LBX9_learning_1 : List UInt8 := [0x32, 0xa2, 0x00, 0x4e, 0x2a, 0xb4, 0x00, 0xcd, 0x99, 0x00, 0x47, 0x2a, 0x03, 0xb5, 0x00, 0xcd]
def LRX9_learning_1 : List UInt8 := LBX9_learning_1 ++ LRX9_learning_2
def LBX9_learning_0 : List UInt8 := [0x2a, 0x03, 0xb5, 0x00, 0xd0, 0x03, 0x3c, 0x2a, 0x04, 0xb5, 0x00, 0xcd, 0x03, 0x3d, 0x1c, 0x10]
def LRX9_learning_0 : List UInt8 := LBX9_learning_0 ++ LRX9_learning_1
set_option maxRecDepth 100000 in
theorem LBX9_learning_eq : cX9_learning.data.toList = LRX9_learning_0 := by decide +kernel
theorem LBX9_learningr_0 (k : Nat) : cX9_learning.data.toList[0 + k]? = LRX9_learning_0[k]? := by rw [LBX9_learning_eq, Nat.zero_add]
theorem LBX9_learningr_1 (k : Nat) : cX9_learning.data.toList[16 + k]? = LRX9_learning_1[k]? := by
  have h := LBX9_learningr_0 (16 + k)
  rw [show 0 + (16 + k) = 16 + k by omega] at h
  rw [h]
  exact (List.getElem?_append_right (l₁ := LBX9_learning_0) (l₂ := LRX9_learning_1) (show 16 ≤ 16 + k by omega)).trans (congrArg (fun i => LRX9_learning_1[i]?) (show 16 + k - 16 = k by omega))
theorem LBX9_learningr_2 (k : Nat) : cX9_learning.data.toList[32 + k]? = LRX9_learning_2[k]? := by
  have h := LBX9_learningr_1 (16 + k)
  rw [show 16 + (16 + k) = 32 + k by omega] at h
  rw [h]
  exact (List.getElem?_append_right (l₁ := LBX9_learning_1) (l₂ := LRX9_learning_2) (show 16 ≤ 16 + k by omega)).trans (congrArg (fun i => LRX9_learning_2[i]?) (show 16 + k - 16 = k by omega))
theorem LBX9_learningr_3 (k : Nat) : cX9_learning.data.toList[48 + k]? = LRX9_learning_3[k]? := by
  have h := LBX9_learningr_2 (16 + k)
  rw [show 32 + (16 + k) = 48 + k by omega] at h
  rw [h]
  exact (List.getElem?_append_right (l₁ := LBX9_learning_2) (l₂ := LRX9_learning_3) (show 16 ≤ 16 + k by omega)).trans (congrArg (fun i => LRX9_learning_3[i]?) (show 16 + k - 16 = k by omega))
theorem LBX9_learningr_4 (k : Nat) : cX9_learning.data.toList[64 + k]? = LRX9_learning_4[k]? := by
  have h := LBX9_learningr_3 (16 + k)
  rw [show 48 + (16 + k) = 64 + k by omega] at h
  rw [h]
  exact (List.getElem?_append_right (l₁ := LBX9_learning_3) (l₂ := LRX9_learning_4) (show 16 ≤ 16 + k by omega)).trans (congrArg (fun i => LRX9_learning_4[i]?) (show 16 + k - 16 = k by omega))
theorem LBX9_learningr_5 (k : Nat) : cX9_learning.data.toList[80 + k]? = LRX9_learning_5[k]? := by
  have h := LBX9_learningr_4 (16 + k)
  rw [show 64 + (16 + k) = 80 + k by omega] at h
  rw [h]
  exact (List.getElem?_append_right (l₁ := LBX9_learning_4) (l₂ := LRX9_learning_5) (show 16 ≤ 16 + k by omega)).trans (congrArg (fun i => LRX9_learning_5[i]?) (show 16 + k - 16 = k by omega))
theorem LBX9_learningr_6 (k : Nat) : cX9_learning.data.toList[96 + k]? = LRX9_learning_6[k]? := by
  have h := LBX9_learningr_5 (16 + k)
  rw [show 80 + (16 + k) = 96 + k by omega] at h
  rw [h]
  exact (List.getElem?_append_right (l₁ := LBX9_learning_5) (l₂ := LRX9_learning_6) (show 16 ≤ 16 + k by omega)).trans (congrArg (fun i => LRX9_learning_6[i]?) (show 16 + k - 16 = k by omega))
theorem dX9_learning_0 : decode cX9_learning 0 = .ok (.aload_n 0, 1) := dk_42_ (show cX9_learning.data.toList[0]? = some 0x2a from (LBX9_learningr_0 0).trans (by decide +kernel))
theorem dX9_learning_1 : decode cX9_learning 1 = .ok (.iconst 0, 1) := dk_3_ (show cX9_learning.data.toList[1]? = some 0x03 from (LBX9_learningr_0 1).trans (by decide +kernel))
theorem dX9_learning_2 : decode cX9_learning 2 = .ok (.putfield 208, 3) := dk_181_ (show cX9_learning.data.toList[2]? = some 0xb5 from (LBX9_learningr_0 2).trans (by decide +kernel)) (show cX9_learning.data.toList[3]? = some 0x00 from (LBX9_learningr_0 3).trans (by decide +kernel)) (show cX9_learning.data.toList[4]? = some 0xd0 from (LBX9_learningr_0 4).trans (by decide +kernel)) (by decide)
theorem dX9_learning_5 : decode cX9_learning 5 = .ok (.iconst 0, 1) := dk_3_ (show cX9_learning.data.toList[5]? = some 0x03 from (LBX9_learningr_0 5).trans (by decide +kernel))
theorem dX9_learning_6 : decode cX9_learning 6 = .ok (.istore_n 1, 1) := dk_60_ (show cX9_learning.data.toList[6]? = some 0x3c from (LBX9_learningr_0 6).trans (by decide +kernel))
theorem dX9_learning_7 : decode cX9_learning 7 = .ok (.aload_n 0, 1) := dk_42_ (show cX9_learning.data.toList[7]? = some 0x2a from (LBX9_learningr_0 7).trans (by decide +kernel))
theorem dX9_learning_8 : decode cX9_learning 8 = .ok (.iconst 1, 1) := dk_4_ (show cX9_learning.data.toList[8]? = some 0x04 from (LBX9_learningr_0 8).trans (by decide +kernel))
theorem dX9_learning_9 : decode cX9_learning 9 = .ok (.putfield 205, 3) := dk_181_ (show cX9_learning.data.toList[9]? = some 0xb5 from (LBX9_learningr_0 9).trans (by decide +kernel)) (show cX9_learning.data.toList[10]? = some 0x00 from (LBX9_learningr_0 10).trans (by decide +kernel)) (show cX9_learning.data.toList[11]? = some 0xcd from (LBX9_learningr_0 11).trans (by decide +kernel)) (by decide)
theorem dX9_learning_12 : decode cX9_learning 12 = .ok (.iconst 0, 1) := dk_3_ (show cX9_learning.data.toList[12]? = some 0x03 from (LBX9_learningr_0 12).trans (by decide +kernel))
theorem dX9_learning_13 : decode cX9_learning 13 = .ok (.istore_n 2, 1) := dk_61_ (show cX9_learning.data.toList[13]? = some 0x3d from (LBX9_learningr_0 13).trans (by decide +kernel))
theorem dX9_learning_14 : decode cX9_learning 14 = .ok (.iload_n 2, 1) := dk_28_ (show cX9_learning.data.toList[14]? = some 0x1c from (LBX9_learningr_0 14).trans (by decide +kernel))
theorem dX9_learning_15 : decode cX9_learning 15 = .ok (.bipush 50, 2) := dk_16_ (show cX9_learning.data.toList[15]? = some 0x10 from (LBX9_learningr_0 15).trans (by decide +kernel)) (show cX9_learning.data.toList[16]? = some 0x32 from (LBX9_learningr_1 0).trans (by decide +kernel)) (by decide)
theorem dX9_learning_17 : decode cX9_learning 17 = .ok (.if_icmp .ge 78, 3) := dk_162_ (show cX9_learning.data.toList[17]? = some 0xa2 from (LBX9_learningr_1 1).trans (by decide +kernel)) (show cX9_learning.data.toList[18]? = some 0x00 from (LBX9_learningr_1 2).trans (by decide +kernel)) (show cX9_learning.data.toList[19]? = some 0x4e from (LBX9_learningr_1 3).trans (by decide +kernel)) (by decide)
theorem dX9_learning_20 : decode cX9_learning 20 = .ok (.aload_n 0, 1) := dk_42_ (show cX9_learning.data.toList[20]? = some 0x2a from (LBX9_learningr_1 4).trans (by decide +kernel))
theorem dX9_learning_21 : decode cX9_learning 21 = .ok (.getfield 205, 3) := dk_180_ (show cX9_learning.data.toList[21]? = some 0xb4 from (LBX9_learningr_1 5).trans (by decide +kernel)) (show cX9_learning.data.toList[22]? = some 0x00 from (LBX9_learningr_1 6).trans (by decide +kernel)) (show cX9_learning.data.toList[23]? = some 0xcd from (LBX9_learningr_1 7).trans (by decide +kernel)) (by decide)
theorem dX9_learning_24 : decode cX9_learning 24 = .ok (.ifCond .eq 71, 3) := dk_153_ (show cX9_learning.data.toList[24]? = some 0x99 from (LBX9_learningr_1 8).trans (by decide +kernel)) (show cX9_learning.data.toList[25]? = some 0x00 from (LBX9_learningr_1 9).trans (by decide +kernel)) (show cX9_learning.data.toList[26]? = some 0x47 from (LBX9_learningr_1 10).trans (by decide +kernel)) (by decide)
theorem dX9_learning_27 : decode cX9_learning 27 = .ok (.aload_n 0, 1) := dk_42_ (show cX9_learning.data.toList[27]? = some 0x2a from (LBX9_learningr_1 11).trans (by decide +kernel))
theorem dX9_learning_28 : decode cX9_learning 28 = .ok (.iconst 0, 1) := dk_3_ (show cX9_learning.data.toList[28]? = some 0x03 from (LBX9_learningr_1 12).trans (by decide +kernel))
theorem dX9_learning_29 : decode cX9_learning 29 = .ok (.putfield 205, 3) := dk_181_ (show cX9_learning.data.toList[29]? = some 0xb5 from (LBX9_learningr_1 13).trans (by decide +kernel)) (show cX9_learning.data.toList[30]? = some 0x00 from (LBX9_learningr_1 14).trans (by decide +kernel)) (show cX9_learning.data.toList[31]? = some 0xcd from (LBX9_learningr_1 15).trans (by decide +kernel)) (by decide)
theorem dX9_learning_32 : decode cX9_learning 32 = .ok (.iconst 0, 1) := dk_3_ (show cX9_learning.data.toList[32]? = some 0x03 from (LBX9_learningr_2 0).trans (by decide +kernel))
theorem dX9_learning_33 : decode cX9_learning 33 = .ok (.istore_n 3, 1) := dk_62_ (show cX9_learning.data.toList[33]? = some 0x3e from (LBX9_learningr_2 1).trans (by decide +kernel))
theorem dX9_learning_34 : decode cX9_learning 34 = .ok (.iload_n 3, 1) := dk_29_ (show cX9_learning.data.toList[34]? = some 0x1d from (LBX9_learningr_2 2).trans (by decide +kernel))
theorem dX9_learning_35 : decode cX9_learning 35 = .ok (.aload_n 0, 1) := dk_42_ (show cX9_learning.data.toList[35]? = some 0x2a from (LBX9_learningr_2 3).trans (by decide +kernel))
theorem dX9_learning_36 : decode cX9_learning 36 = .ok (.getfield 7, 3) := dk_180_ (show cX9_learning.data.toList[36]? = some 0xb4 from (LBX9_learningr_2 4).trans (by decide +kernel)) (show cX9_learning.data.toList[37]? = some 0x00 from (LBX9_learningr_2 5).trans (by decide +kernel)) (show cX9_learning.data.toList[38]? = some 0x07 from (LBX9_learningr_2 6).trans (by decide +kernel)) (by decide)
theorem dX9_learning_39 : decode cX9_learning 39 = .ok (.iconst 2, 1) := dk_5_ (show cX9_learning.data.toList[39]? = some 0x05 from (LBX9_learningr_2 7).trans (by decide +kernel))
theorem dX9_learning_40 : decode cX9_learning 40 = .ok (.iaload, 1) := dk_46_ (show cX9_learning.data.toList[40]? = some 0x2e from (LBX9_learningr_2 8).trans (by decide +kernel))
theorem dX9_learning_41 : decode cX9_learning 41 = .ok (.if_icmp .ge 33, 3) := dk_162_ (show cX9_learning.data.toList[41]? = some 0xa2 from (LBX9_learningr_2 9).trans (by decide +kernel)) (show cX9_learning.data.toList[42]? = some 0x00 from (LBX9_learningr_2 10).trans (by decide +kernel)) (show cX9_learning.data.toList[43]? = some 0x21 from (LBX9_learningr_2 11).trans (by decide +kernel)) (by decide)
theorem dX9_learning_44 : decode cX9_learning 44 = .ok (.aload_n 0, 1) := dk_42_ (show cX9_learning.data.toList[44]? = some 0x2a from (LBX9_learningr_2 12).trans (by decide +kernel))
theorem dX9_learning_45 : decode cX9_learning 45 = .ok (.dup, 1) := dk_89_ (show cX9_learning.data.toList[45]? = some 0x59 from (LBX9_learningr_2 13).trans (by decide +kernel))
theorem dX9_learning_46 : decode cX9_learning 46 = .ok (.getfield 208, 3) := dk_180_ (show cX9_learning.data.toList[46]? = some 0xb4 from (LBX9_learningr_2 14).trans (by decide +kernel)) (show cX9_learning.data.toList[47]? = some 0x00 from (LBX9_learningr_2 15).trans (by decide +kernel)) (show cX9_learning.data.toList[48]? = some 0xd0 from (LBX9_learningr_3 0).trans (by decide +kernel)) (by decide)
theorem dX9_learning_49 : decode cX9_learning 49 = .ok (.aload_n 0, 1) := dk_42_ (show cX9_learning.data.toList[49]? = some 0x2a from (LBX9_learningr_3 1).trans (by decide +kernel))
theorem dX9_learning_50 : decode cX9_learning 50 = .ok (.iload_n 3, 1) := dk_29_ (show cX9_learning.data.toList[50]? = some 0x1d from (LBX9_learningr_3 2).trans (by decide +kernel))
theorem dX9_learning_51 : decode cX9_learning 51 = .ok (.invokevirtual 211, 3) := dk_182_ (show cX9_learning.data.toList[51]? = some 0xb6 from (LBX9_learningr_3 3).trans (by decide +kernel)) (show cX9_learning.data.toList[52]? = some 0x00 from (LBX9_learningr_3 4).trans (by decide +kernel)) (show cX9_learning.data.toList[53]? = some 0xd3 from (LBX9_learningr_3 5).trans (by decide +kernel)) (by decide)
theorem dX9_learning_54 : decode cX9_learning 54 = .ok (.ifCond .eq 7, 3) := dk_153_ (show cX9_learning.data.toList[54]? = some 0x99 from (LBX9_learningr_3 6).trans (by decide +kernel)) (show cX9_learning.data.toList[55]? = some 0x00 from (LBX9_learningr_3 7).trans (by decide +kernel)) (show cX9_learning.data.toList[56]? = some 0x07 from (LBX9_learningr_3 8).trans (by decide +kernel)) (by decide)
theorem dX9_learning_57 : decode cX9_learning 57 = .ok (.iconst 0, 1) := dk_3_ (show cX9_learning.data.toList[57]? = some 0x03 from (LBX9_learningr_3 9).trans (by decide +kernel))
theorem dX9_learning_58 : decode cX9_learning 58 = .ok (.goto 6, 3) := dk_167_ (show cX9_learning.data.toList[58]? = some 0xa7 from (LBX9_learningr_3 10).trans (by decide +kernel)) (show cX9_learning.data.toList[59]? = some 0x00 from (LBX9_learningr_3 11).trans (by decide +kernel)) (show cX9_learning.data.toList[60]? = some 0x06 from (LBX9_learningr_3 12).trans (by decide +kernel)) (by decide)
theorem dX9_learning_61 : decode cX9_learning 61 = .ok (.iconst 1, 1) := dk_4_ (show cX9_learning.data.toList[61]? = some 0x04 from (LBX9_learningr_3 13).trans (by decide +kernel))
theorem dX9_learning_62 : decode cX9_learning 62 = .ok (.iload_n 3, 1) := dk_29_ (show cX9_learning.data.toList[62]? = some 0x1d from (LBX9_learningr_3 14).trans (by decide +kernel))
theorem dX9_learning_63 : decode cX9_learning 63 = .ok (.ishl, 1) := dk_120_ (show cX9_learning.data.toList[63]? = some 0x78 from (LBX9_learningr_3 15).trans (by decide +kernel))
theorem dX9_learning_64 : decode cX9_learning 64 = .ok (.ior, 1) := dk_128_ (show cX9_learning.data.toList[64]? = some 0x80 from (LBX9_learningr_4 0).trans (by decide +kernel))
theorem dX9_learning_65 : decode cX9_learning 65 = .ok (.putfield 208, 3) := dk_181_ (show cX9_learning.data.toList[65]? = some 0xb5 from (LBX9_learningr_4 1).trans (by decide +kernel)) (show cX9_learning.data.toList[66]? = some 0x00 from (LBX9_learningr_4 2).trans (by decide +kernel)) (show cX9_learning.data.toList[67]? = some 0xd0 from (LBX9_learningr_4 3).trans (by decide +kernel)) (by decide)
theorem dX9_learning_68 : decode cX9_learning 68 = .ok (.iinc 3 1, 3) := dk_132_ (show cX9_learning.data.toList[68]? = some 0x84 from (LBX9_learningr_4 4).trans (by decide +kernel)) (show cX9_learning.data.toList[69]? = some 0x03 from (LBX9_learningr_4 5).trans (by decide +kernel)) (show cX9_learning.data.toList[70]? = some 0x01 from (LBX9_learningr_4 6).trans (by decide +kernel)) (by decide) (by decide)
theorem dX9_learning_71 : decode cX9_learning 71 = .ok (.goto (-37), 3) := dk_167_ (show cX9_learning.data.toList[71]? = some 0xa7 from (LBX9_learningr_4 7).trans (by decide +kernel)) (show cX9_learning.data.toList[72]? = some 0xff from (LBX9_learningr_4 8).trans (by decide +kernel)) (show cX9_learning.data.toList[73]? = some 0xdb from (LBX9_learningr_4 9).trans (by decide +kernel)) (by decide)
theorem dX9_learning_74 : decode cX9_learning 74 = .ok (.iload_n 1, 1) := dk_27_ (show cX9_learning.data.toList[74]? = some 0x1b from (LBX9_learningr_4 10).trans (by decide +kernel))
theorem dX9_learning_75 : decode cX9_learning 75 = .ok (.aload_n 0, 1) := dk_42_ (show cX9_learning.data.toList[75]? = some 0x2a from (LBX9_learningr_4 11).trans (by decide +kernel))
theorem dX9_learning_76 : decode cX9_learning 76 = .ok (.getfield 205, 3) := dk_180_ (show cX9_learning.data.toList[76]? = some 0xb4 from (LBX9_learningr_4 12).trans (by decide +kernel)) (show cX9_learning.data.toList[77]? = some 0x00 from (LBX9_learningr_4 13).trans (by decide +kernel)) (show cX9_learning.data.toList[78]? = some 0xcd from (LBX9_learningr_4 14).trans (by decide +kernel)) (by decide)
theorem dX9_learning_79 : decode cX9_learning 79 = .ok (.ifCond .eq 7, 3) := dk_153_ (show cX9_learning.data.toList[79]? = some 0x99 from (LBX9_learningr_4 15).trans (by decide +kernel)) (show cX9_learning.data.toList[80]? = some 0x00 from (LBX9_learningr_5 0).trans (by decide +kernel)) (show cX9_learning.data.toList[81]? = some 0x07 from (LBX9_learningr_5 1).trans (by decide +kernel)) (by decide)
theorem dX9_learning_82 : decode cX9_learning 82 = .ok (.iconst 1, 1) := dk_4_ (show cX9_learning.data.toList[82]? = some 0x04 from (LBX9_learningr_5 2).trans (by decide +kernel))
theorem dX9_learning_83 : decode cX9_learning 83 = .ok (.goto 4, 3) := dk_167_ (show cX9_learning.data.toList[83]? = some 0xa7 from (LBX9_learningr_5 3).trans (by decide +kernel)) (show cX9_learning.data.toList[84]? = some 0x00 from (LBX9_learningr_5 4).trans (by decide +kernel)) (show cX9_learning.data.toList[85]? = some 0x04 from (LBX9_learningr_5 5).trans (by decide +kernel)) (by decide)
theorem dX9_learning_86 : decode cX9_learning 86 = .ok (.iconst 0, 1) := dk_3_ (show cX9_learning.data.toList[86]? = some 0x03 from (LBX9_learningr_5 6).trans (by decide +kernel))
theorem dX9_learning_87 : decode cX9_learning 87 = .ok (.iadd, 1) := dk_96_ (show cX9_learning.data.toList[87]? = some 0x60 from (LBX9_learningr_5 7).trans (by decide +kernel))
theorem dX9_learning_88 : decode cX9_learning 88 = .ok (.istore_n 1, 1) := dk_60_ (show cX9_learning.data.toList[88]? = some 0x3c from (LBX9_learningr_5 8).trans (by decide +kernel))
theorem dX9_learning_89 : decode cX9_learning 89 = .ok (.iinc 2 1, 3) := dk_132_ (show cX9_learning.data.toList[89]? = some 0x84 from (LBX9_learningr_5 9).trans (by decide +kernel)) (show cX9_learning.data.toList[90]? = some 0x02 from (LBX9_learningr_5 10).trans (by decide +kernel)) (show cX9_learning.data.toList[91]? = some 0x01 from (LBX9_learningr_5 11).trans (by decide +kernel)) (by decide) (by decide)
theorem dX9_learning_92 : decode cX9_learning 92 = .ok (.goto (-78), 3) := dk_167_ (show cX9_learning.data.toList[92]? = some 0xa7 from (LBX9_learningr_5 12).trans (by decide +kernel)) (show cX9_learning.data.toList[93]? = some 0xff from (LBX9_learningr_5 13).trans (by decide +kernel)) (show cX9_learning.data.toList[94]? = some 0xb2 from (LBX9_learningr_5 14).trans (by decide +kernel)) (by decide)
theorem dX9_learning_95 : decode cX9_learning 95 = .ok (.iload_n 1, 1) := dk_27_ (show cX9_learning.data.toList[95]? = some 0x1b from (LBX9_learningr_5 15).trans (by decide +kernel))
theorem dX9_learning_96 : decode cX9_learning 96 = .ok (.ireturn, 1) := dk_172_ (show cX9_learning.data.toList[96]? = some 0xac from (LBX9_learningr_6 0).trans (by decide +kernel))
theorem dX9_learn_0 : decode cX9_learn 0 = .ok (.aload_n 0, 1) := dk_42_ (show cX9_learn.data.toList[0]? = some 0x2a from by decide +kernel)
theorem dX9_learn_1 : decode cX9_learn 1 = .ok (.invokevirtual 214, 3) := dk_182_ (show cX9_learn.data.toList[1]? = some 0xb6 from by decide +kernel) (show cX9_learn.data.toList[2]? = some 0x00 from by decide +kernel) (show cX9_learn.data.toList[3]? = some 0xd6 from by decide +kernel) (by decide)
theorem dX9_learn_4 : decode cX9_learn 4 = .ok (.ireturn, 1) := dk_172_ (show cX9_learn.data.toList[4]? = some 0xac from by decide +kernel)
def LRX9_puts_2 : List UInt8 := []
def LBX9_puts_1 : List UInt8 := [0x00, 0x07, 0x1b, 0x2e, 0x4f, 0x84, 0x01, 0x01, 0xa7, 0xff, 0xea, 0xb1]
def LRX9_puts_1 : List UInt8 := LBX9_puts_1 ++ LRX9_puts_2
def LBX9_puts_0 : List UInt8 := [0x03, 0x3c, 0x1b, 0x11, 0x01, 0xc1, 0xa2, 0x00, 0x15, 0x2a, 0xb4, 0x00, 0x10, 0x1b, 0x2a, 0xb4]
def LRX9_puts_0 : List UInt8 := LBX9_puts_0 ++ LRX9_puts_1
set_option maxRecDepth 100000 in
theorem LBX9_puts_eq : cX9_puts.data.toList = LRX9_puts_0 := by decide +kernel
theorem LBX9_putsr_0 (k : Nat) : cX9_puts.data.toList[0 + k]? = LRX9_puts_0[k]? := by rw [LBX9_puts_eq, Nat.zero_add]
theorem LBX9_putsr_1 (k : Nat) : cX9_puts.data.toList[16 + k]? = LRX9_puts_1[k]? := by
  have h := LBX9_putsr_0 (16 + k)
  rw [show 0 + (16 + k) = 16 + k by omega] at h
  rw [h]
  exact (List.getElem?_append_right (l₁ := LBX9_puts_0) (l₂ := LRX9_puts_1) (show 16 ≤ 16 + k by omega)).trans (congrArg (fun i => LRX9_puts_1[i]?) (show 16 + k - 16 = k by omega))
theorem dX9_puts_0 : decode cX9_puts 0 = .ok (.iconst 0, 1) := dk_3_ (show cX9_puts.data.toList[0]? = some 0x03 from (LBX9_putsr_0 0).trans (by decide +kernel))
theorem dX9_puts_1 : decode cX9_puts 1 = .ok (.istore_n 1, 1) := dk_60_ (show cX9_puts.data.toList[1]? = some 0x3c from (LBX9_putsr_0 1).trans (by decide +kernel))
theorem dX9_puts_2 : decode cX9_puts 2 = .ok (.iload_n 1, 1) := dk_27_ (show cX9_puts.data.toList[2]? = some 0x1b from (LBX9_putsr_0 2).trans (by decide +kernel))
theorem dX9_puts_3 : decode cX9_puts 3 = .ok (.sipush 449, 3) := dk_17_ (show cX9_puts.data.toList[3]? = some 0x11 from (LBX9_putsr_0 3).trans (by decide +kernel)) (show cX9_puts.data.toList[4]? = some 0x01 from (LBX9_putsr_0 4).trans (by decide +kernel)) (show cX9_puts.data.toList[5]? = some 0xc1 from (LBX9_putsr_0 5).trans (by decide +kernel)) (by decide)
theorem dX9_puts_6 : decode cX9_puts 6 = .ok (.if_icmp .ge 21, 3) := dk_162_ (show cX9_puts.data.toList[6]? = some 0xa2 from (LBX9_putsr_0 6).trans (by decide +kernel)) (show cX9_puts.data.toList[7]? = some 0x00 from (LBX9_putsr_0 7).trans (by decide +kernel)) (show cX9_puts.data.toList[8]? = some 0x15 from (LBX9_putsr_0 8).trans (by decide +kernel)) (by decide)
theorem dX9_puts_9 : decode cX9_puts 9 = .ok (.aload_n 0, 1) := dk_42_ (show cX9_puts.data.toList[9]? = some 0x2a from (LBX9_putsr_0 9).trans (by decide +kernel))
theorem dX9_puts_10 : decode cX9_puts 10 = .ok (.getfield 16, 3) := dk_180_ (show cX9_puts.data.toList[10]? = some 0xb4 from (LBX9_putsr_0 10).trans (by decide +kernel)) (show cX9_puts.data.toList[11]? = some 0x00 from (LBX9_putsr_0 11).trans (by decide +kernel)) (show cX9_puts.data.toList[12]? = some 0x10 from (LBX9_putsr_0 12).trans (by decide +kernel)) (by decide)
theorem dX9_puts_13 : decode cX9_puts 13 = .ok (.iload_n 1, 1) := dk_27_ (show cX9_puts.data.toList[13]? = some 0x1b from (LBX9_putsr_0 13).trans (by decide +kernel))
theorem dX9_puts_14 : decode cX9_puts 14 = .ok (.aload_n 0, 1) := dk_42_ (show cX9_puts.data.toList[14]? = some 0x2a from (LBX9_putsr_0 14).trans (by decide +kernel))
theorem dX9_puts_15 : decode cX9_puts 15 = .ok (.getfield 7, 3) := dk_180_ (show cX9_puts.data.toList[15]? = some 0xb4 from (LBX9_putsr_0 15).trans (by decide +kernel)) (show cX9_puts.data.toList[16]? = some 0x00 from (LBX9_putsr_1 0).trans (by decide +kernel)) (show cX9_puts.data.toList[17]? = some 0x07 from (LBX9_putsr_1 1).trans (by decide +kernel)) (by decide)
theorem dX9_puts_18 : decode cX9_puts 18 = .ok (.iload_n 1, 1) := dk_27_ (show cX9_puts.data.toList[18]? = some 0x1b from (LBX9_putsr_1 2).trans (by decide +kernel))
theorem dX9_puts_19 : decode cX9_puts 19 = .ok (.iaload, 1) := dk_46_ (show cX9_puts.data.toList[19]? = some 0x2e from (LBX9_putsr_1 3).trans (by decide +kernel))
theorem dX9_puts_20 : decode cX9_puts 20 = .ok (.iastore, 1) := dk_79_ (show cX9_puts.data.toList[20]? = some 0x4f from (LBX9_putsr_1 4).trans (by decide +kernel))
theorem dX9_puts_21 : decode cX9_puts 21 = .ok (.iinc 1 1, 3) := dk_132_ (show cX9_puts.data.toList[21]? = some 0x84 from (LBX9_putsr_1 5).trans (by decide +kernel)) (show cX9_puts.data.toList[22]? = some 0x01 from (LBX9_putsr_1 6).trans (by decide +kernel)) (show cX9_puts.data.toList[23]? = some 0x01 from (LBX9_putsr_1 7).trans (by decide +kernel)) (by decide) (by decide)
theorem dX9_puts_24 : decode cX9_puts 24 = .ok (.goto (-22), 3) := dk_167_ (show cX9_puts.data.toList[24]? = some 0xa7 from (LBX9_putsr_1 8).trans (by decide +kernel)) (show cX9_puts.data.toList[25]? = some 0xff from (LBX9_putsr_1 9).trans (by decide +kernel)) (show cX9_puts.data.toList[26]? = some 0xea from (LBX9_putsr_1 10).trans (by decide +kernel)) (by decide)
theorem dX9_puts_27 : decode cX9_puts 27 = .ok (.return_, 1) := dk_177_ (show cX9_puts.data.toList[27]? = some 0xb1 from (LBX9_putsr_1 11).trans (by decide +kernel))
def LRX9_putsBack_2 : List UInt8 := []
def LBX9_putsBack_1 : List UInt8 := [0x00, 0x10, 0x1b, 0x2e, 0x4f, 0x84, 0x01, 0x01, 0xa7, 0xff, 0xea, 0xb1]
def LRX9_putsBack_1 : List UInt8 := LBX9_putsBack_1 ++ LRX9_putsBack_2
def LBX9_putsBack_0 : List UInt8 := [0x03, 0x3c, 0x1b, 0x11, 0x01, 0xc1, 0xa2, 0x00, 0x15, 0x2a, 0xb4, 0x00, 0x07, 0x1b, 0x2a, 0xb4]
def LRX9_putsBack_0 : List UInt8 := LBX9_putsBack_0 ++ LRX9_putsBack_1
set_option maxRecDepth 100000 in
theorem LBX9_putsBack_eq : cX9_putsBack.data.toList = LRX9_putsBack_0 := by decide +kernel
theorem LBX9_putsBackr_0 (k : Nat) : cX9_putsBack.data.toList[0 + k]? = LRX9_putsBack_0[k]? := by rw [LBX9_putsBack_eq, Nat.zero_add]
theorem LBX9_putsBackr_1 (k : Nat) : cX9_putsBack.data.toList[16 + k]? = LRX9_putsBack_1[k]? := by
  have h := LBX9_putsBackr_0 (16 + k)
  rw [show 0 + (16 + k) = 16 + k by omega] at h
  rw [h]
  exact (List.getElem?_append_right (l₁ := LBX9_putsBack_0) (l₂ := LRX9_putsBack_1) (show 16 ≤ 16 + k by omega)).trans (congrArg (fun i => LRX9_putsBack_1[i]?) (show 16 + k - 16 = k by omega))
theorem dX9_putsBack_0 : decode cX9_putsBack 0 = .ok (.iconst 0, 1) := dk_3_ (show cX9_putsBack.data.toList[0]? = some 0x03 from (LBX9_putsBackr_0 0).trans (by decide +kernel))
theorem dX9_putsBack_1 : decode cX9_putsBack 1 = .ok (.istore_n 1, 1) := dk_60_ (show cX9_putsBack.data.toList[1]? = some 0x3c from (LBX9_putsBackr_0 1).trans (by decide +kernel))
theorem dX9_putsBack_2 : decode cX9_putsBack 2 = .ok (.iload_n 1, 1) := dk_27_ (show cX9_putsBack.data.toList[2]? = some 0x1b from (LBX9_putsBackr_0 2).trans (by decide +kernel))
theorem dX9_putsBack_3 : decode cX9_putsBack 3 = .ok (.sipush 449, 3) := dk_17_ (show cX9_putsBack.data.toList[3]? = some 0x11 from (LBX9_putsBackr_0 3).trans (by decide +kernel)) (show cX9_putsBack.data.toList[4]? = some 0x01 from (LBX9_putsBackr_0 4).trans (by decide +kernel)) (show cX9_putsBack.data.toList[5]? = some 0xc1 from (LBX9_putsBackr_0 5).trans (by decide +kernel)) (by decide)
theorem dX9_putsBack_6 : decode cX9_putsBack 6 = .ok (.if_icmp .ge 21, 3) := dk_162_ (show cX9_putsBack.data.toList[6]? = some 0xa2 from (LBX9_putsBackr_0 6).trans (by decide +kernel)) (show cX9_putsBack.data.toList[7]? = some 0x00 from (LBX9_putsBackr_0 7).trans (by decide +kernel)) (show cX9_putsBack.data.toList[8]? = some 0x15 from (LBX9_putsBackr_0 8).trans (by decide +kernel)) (by decide)
theorem dX9_putsBack_9 : decode cX9_putsBack 9 = .ok (.aload_n 0, 1) := dk_42_ (show cX9_putsBack.data.toList[9]? = some 0x2a from (LBX9_putsBackr_0 9).trans (by decide +kernel))
theorem dX9_putsBack_10 : decode cX9_putsBack 10 = .ok (.getfield 7, 3) := dk_180_ (show cX9_putsBack.data.toList[10]? = some 0xb4 from (LBX9_putsBackr_0 10).trans (by decide +kernel)) (show cX9_putsBack.data.toList[11]? = some 0x00 from (LBX9_putsBackr_0 11).trans (by decide +kernel)) (show cX9_putsBack.data.toList[12]? = some 0x07 from (LBX9_putsBackr_0 12).trans (by decide +kernel)) (by decide)
theorem dX9_putsBack_13 : decode cX9_putsBack 13 = .ok (.iload_n 1, 1) := dk_27_ (show cX9_putsBack.data.toList[13]? = some 0x1b from (LBX9_putsBackr_0 13).trans (by decide +kernel))
theorem dX9_putsBack_14 : decode cX9_putsBack 14 = .ok (.aload_n 0, 1) := dk_42_ (show cX9_putsBack.data.toList[14]? = some 0x2a from (LBX9_putsBackr_0 14).trans (by decide +kernel))
theorem dX9_putsBack_15 : decode cX9_putsBack 15 = .ok (.getfield 16, 3) := dk_180_ (show cX9_putsBack.data.toList[15]? = some 0xb4 from (LBX9_putsBackr_0 15).trans (by decide +kernel)) (show cX9_putsBack.data.toList[16]? = some 0x00 from (LBX9_putsBackr_1 0).trans (by decide +kernel)) (show cX9_putsBack.data.toList[17]? = some 0x10 from (LBX9_putsBackr_1 1).trans (by decide +kernel)) (by decide)
theorem dX9_putsBack_18 : decode cX9_putsBack 18 = .ok (.iload_n 1, 1) := dk_27_ (show cX9_putsBack.data.toList[18]? = some 0x1b from (LBX9_putsBackr_1 2).trans (by decide +kernel))
theorem dX9_putsBack_19 : decode cX9_putsBack 19 = .ok (.iaload, 1) := dk_46_ (show cX9_putsBack.data.toList[19]? = some 0x2e from (LBX9_putsBackr_1 3).trans (by decide +kernel))
theorem dX9_putsBack_20 : decode cX9_putsBack 20 = .ok (.iastore, 1) := dk_79_ (show cX9_putsBack.data.toList[20]? = some 0x4f from (LBX9_putsBackr_1 4).trans (by decide +kernel))
theorem dX9_putsBack_21 : decode cX9_putsBack 21 = .ok (.iinc 1 1, 3) := dk_132_ (show cX9_putsBack.data.toList[21]? = some 0x84 from (LBX9_putsBackr_1 5).trans (by decide +kernel)) (show cX9_putsBack.data.toList[22]? = some 0x01 from (LBX9_putsBackr_1 6).trans (by decide +kernel)) (show cX9_putsBack.data.toList[23]? = some 0x01 from (LBX9_putsBackr_1 7).trans (by decide +kernel)) (by decide) (by decide)
theorem dX9_putsBack_24 : decode cX9_putsBack 24 = .ok (.goto (-22), 3) := dk_167_ (show cX9_putsBack.data.toList[24]? = some 0xa7 from (LBX9_putsBackr_1 8).trans (by decide +kernel)) (show cX9_putsBack.data.toList[25]? = some 0xff from (LBX9_putsBackr_1 9).trans (by decide +kernel)) (show cX9_putsBack.data.toList[26]? = some 0xea from (LBX9_putsBackr_1 10).trans (by decide +kernel)) (by decide)
theorem dX9_putsBack_27 : decode cX9_putsBack 27 = .ok (.return_, 1) := dk_177_ (show cX9_putsBack.data.toList[27]? = some 0xb1 from (LBX9_putsBackr_1 11).trans (by decide +kernel))
def LRX9_lies_2 : List UInt8 := []
def LBX9_lies_1 : List UInt8 := [0xd0, 0xac]
def LRX9_lies_1 : List UInt8 := LBX9_lies_1 ++ LRX9_lies_2
def LBX9_lies_0 : List UInt8 := [0x2a, 0xb6, 0x00, 0xd9, 0x2a, 0xb6, 0x00, 0xd6, 0x3c, 0x2a, 0xb6, 0x00, 0xdc, 0x2a, 0xb4, 0x00]
def LRX9_lies_0 : List UInt8 := LBX9_lies_0 ++ LRX9_lies_1
set_option maxRecDepth 100000 in
theorem LBX9_lies_eq : cX9_lies.data.toList = LRX9_lies_0 := by decide +kernel
theorem LBX9_liesr_0 (k : Nat) : cX9_lies.data.toList[0 + k]? = LRX9_lies_0[k]? := by rw [LBX9_lies_eq, Nat.zero_add]
theorem LBX9_liesr_1 (k : Nat) : cX9_lies.data.toList[16 + k]? = LRX9_lies_1[k]? := by
  have h := LBX9_liesr_0 (16 + k)
  rw [show 0 + (16 + k) = 16 + k by omega] at h
  rw [h]
  exact (List.getElem?_append_right (l₁ := LBX9_lies_0) (l₂ := LRX9_lies_1) (show 16 ≤ 16 + k by omega)).trans (congrArg (fun i => LRX9_lies_1[i]?) (show 16 + k - 16 = k by omega))
theorem dX9_lies_0 : decode cX9_lies 0 = .ok (.aload_n 0, 1) := dk_42_ (show cX9_lies.data.toList[0]? = some 0x2a from (LBX9_liesr_0 0).trans (by decide +kernel))
theorem dX9_lies_1 : decode cX9_lies 1 = .ok (.invokevirtual 217, 3) := dk_182_ (show cX9_lies.data.toList[1]? = some 0xb6 from (LBX9_liesr_0 1).trans (by decide +kernel)) (show cX9_lies.data.toList[2]? = some 0x00 from (LBX9_liesr_0 2).trans (by decide +kernel)) (show cX9_lies.data.toList[3]? = some 0xd9 from (LBX9_liesr_0 3).trans (by decide +kernel)) (by decide)
theorem dX9_lies_4 : decode cX9_lies 4 = .ok (.aload_n 0, 1) := dk_42_ (show cX9_lies.data.toList[4]? = some 0x2a from (LBX9_liesr_0 4).trans (by decide +kernel))
theorem dX9_lies_5 : decode cX9_lies 5 = .ok (.invokevirtual 214, 3) := dk_182_ (show cX9_lies.data.toList[5]? = some 0xb6 from (LBX9_liesr_0 5).trans (by decide +kernel)) (show cX9_lies.data.toList[6]? = some 0x00 from (LBX9_liesr_0 6).trans (by decide +kernel)) (show cX9_lies.data.toList[7]? = some 0xd6 from (LBX9_liesr_0 7).trans (by decide +kernel)) (by decide)
theorem dX9_lies_8 : decode cX9_lies 8 = .ok (.istore_n 1, 1) := dk_60_ (show cX9_lies.data.toList[8]? = some 0x3c from (LBX9_liesr_0 8).trans (by decide +kernel))
theorem dX9_lies_9 : decode cX9_lies 9 = .ok (.aload_n 0, 1) := dk_42_ (show cX9_lies.data.toList[9]? = some 0x2a from (LBX9_liesr_0 9).trans (by decide +kernel))
theorem dX9_lies_10 : decode cX9_lies 10 = .ok (.invokevirtual 220, 3) := dk_182_ (show cX9_lies.data.toList[10]? = some 0xb6 from (LBX9_liesr_0 10).trans (by decide +kernel)) (show cX9_lies.data.toList[11]? = some 0x00 from (LBX9_liesr_0 11).trans (by decide +kernel)) (show cX9_lies.data.toList[12]? = some 0xdc from (LBX9_liesr_0 12).trans (by decide +kernel)) (by decide)
theorem dX9_lies_13 : decode cX9_lies 13 = .ok (.aload_n 0, 1) := dk_42_ (show cX9_lies.data.toList[13]? = some 0x2a from (LBX9_liesr_0 13).trans (by decide +kernel))
theorem dX9_lies_14 : decode cX9_lies 14 = .ok (.getfield 208, 3) := dk_180_ (show cX9_lies.data.toList[14]? = some 0xb4 from (LBX9_liesr_0 14).trans (by decide +kernel)) (show cX9_lies.data.toList[15]? = some 0x00 from (LBX9_liesr_0 15).trans (by decide +kernel)) (show cX9_lies.data.toList[16]? = some 0xd0 from (LBX9_liesr_1 0).trans (by decide +kernel)) (by decide)
theorem dX9_lies_17 : decode cX9_lies 17 = .ok (.ireturn, 1) := dk_172_ (show cX9_lies.data.toList[17]? = some 0xac from (LBX9_liesr_1 1).trans (by decide +kernel))
def LRX9_between_3 : List UInt8 := []
def LBX9_between_2 : List UInt8 := [0xa7, 0x00, 0x04, 0x02, 0xac]
def LRX9_between_2 : List UInt8 := LBX9_between_2 ++ LRX9_between_3
def LBX9_between_1 : List UInt8 := [0x07, 0x10, 0x71, 0x1b, 0x60, 0x2e, 0x2a, 0xb4, 0x00, 0x07, 0x10, 0x0d, 0x1b, 0x60, 0x2e, 0x64]
def LRX9_between_1 : List UInt8 := LBX9_between_1 ++ LRX9_between_2
def LBX9_between_0 : List UInt8 := [0x2a, 0xb4, 0x00, 0x07, 0x11, 0x00, 0xd5, 0x1b, 0x60, 0x2e, 0x9e, 0x00, 0x19, 0x2a, 0xb4, 0x00]
def LRX9_between_0 : List UInt8 := LBX9_between_0 ++ LRX9_between_1
set_option maxRecDepth 100000 in
theorem LBX9_between_eq : cX9_between.data.toList = LRX9_between_0 := by decide +kernel
theorem LBX9_betweenr_0 (k : Nat) : cX9_between.data.toList[0 + k]? = LRX9_between_0[k]? := by rw [LBX9_between_eq, Nat.zero_add]
theorem LBX9_betweenr_1 (k : Nat) : cX9_between.data.toList[16 + k]? = LRX9_between_1[k]? := by
  have h := LBX9_betweenr_0 (16 + k)
  rw [show 0 + (16 + k) = 16 + k by omega] at h
  rw [h]
  exact (List.getElem?_append_right (l₁ := LBX9_between_0) (l₂ := LRX9_between_1) (show 16 ≤ 16 + k by omega)).trans (congrArg (fun i => LRX9_between_1[i]?) (show 16 + k - 16 = k by omega))
theorem LBX9_betweenr_2 (k : Nat) : cX9_between.data.toList[32 + k]? = LRX9_between_2[k]? := by
  have h := LBX9_betweenr_1 (16 + k)
  rw [show 16 + (16 + k) = 32 + k by omega] at h
  rw [h]
  exact (List.getElem?_append_right (l₁ := LBX9_between_1) (l₂ := LRX9_between_2) (show 16 ≤ 16 + k by omega)).trans (congrArg (fun i => LRX9_between_2[i]?) (show 16 + k - 16 = k by omega))
theorem dX9_between_0 : decode cX9_between 0 = .ok (.aload_n 0, 1) := dk_42_ (show cX9_between.data.toList[0]? = some 0x2a from (LBX9_betweenr_0 0).trans (by decide +kernel))
theorem dX9_between_1 : decode cX9_between 1 = .ok (.getfield 7, 3) := dk_180_ (show cX9_between.data.toList[1]? = some 0xb4 from (LBX9_betweenr_0 1).trans (by decide +kernel)) (show cX9_between.data.toList[2]? = some 0x00 from (LBX9_betweenr_0 2).trans (by decide +kernel)) (show cX9_between.data.toList[3]? = some 0x07 from (LBX9_betweenr_0 3).trans (by decide +kernel)) (by decide)
theorem dX9_between_4 : decode cX9_between 4 = .ok (.sipush 213, 3) := dk_17_ (show cX9_between.data.toList[4]? = some 0x11 from (LBX9_betweenr_0 4).trans (by decide +kernel)) (show cX9_between.data.toList[5]? = some 0x00 from (LBX9_betweenr_0 5).trans (by decide +kernel)) (show cX9_between.data.toList[6]? = some 0xd5 from (LBX9_betweenr_0 6).trans (by decide +kernel)) (by decide)
theorem dX9_between_7 : decode cX9_between 7 = .ok (.iload_n 1, 1) := dk_27_ (show cX9_between.data.toList[7]? = some 0x1b from (LBX9_betweenr_0 7).trans (by decide +kernel))
theorem dX9_between_8 : decode cX9_between 8 = .ok (.iadd, 1) := dk_96_ (show cX9_between.data.toList[8]? = some 0x60 from (LBX9_betweenr_0 8).trans (by decide +kernel))
theorem dX9_between_9 : decode cX9_between 9 = .ok (.iaload, 1) := dk_46_ (show cX9_between.data.toList[9]? = some 0x2e from (LBX9_betweenr_0 9).trans (by decide +kernel))
theorem dX9_between_10 : decode cX9_between 10 = .ok (.ifCond .le 25, 3) := dk_158_ (show cX9_between.data.toList[10]? = some 0x9e from (LBX9_betweenr_0 10).trans (by decide +kernel)) (show cX9_between.data.toList[11]? = some 0x00 from (LBX9_betweenr_0 11).trans (by decide +kernel)) (show cX9_between.data.toList[12]? = some 0x19 from (LBX9_betweenr_0 12).trans (by decide +kernel)) (by decide)
theorem dX9_between_13 : decode cX9_between 13 = .ok (.aload_n 0, 1) := dk_42_ (show cX9_between.data.toList[13]? = some 0x2a from (LBX9_betweenr_0 13).trans (by decide +kernel))
theorem dX9_between_14 : decode cX9_between 14 = .ok (.getfield 7, 3) := dk_180_ (show cX9_between.data.toList[14]? = some 0xb4 from (LBX9_betweenr_0 14).trans (by decide +kernel)) (show cX9_between.data.toList[15]? = some 0x00 from (LBX9_betweenr_0 15).trans (by decide +kernel)) (show cX9_between.data.toList[16]? = some 0x07 from (LBX9_betweenr_1 0).trans (by decide +kernel)) (by decide)
theorem dX9_between_17 : decode cX9_between 17 = .ok (.bipush 113, 2) := dk_16_ (show cX9_between.data.toList[17]? = some 0x10 from (LBX9_betweenr_1 1).trans (by decide +kernel)) (show cX9_between.data.toList[18]? = some 0x71 from (LBX9_betweenr_1 2).trans (by decide +kernel)) (by decide)
theorem dX9_between_19 : decode cX9_between 19 = .ok (.iload_n 1, 1) := dk_27_ (show cX9_between.data.toList[19]? = some 0x1b from (LBX9_betweenr_1 3).trans (by decide +kernel))
theorem dX9_between_20 : decode cX9_between 20 = .ok (.iadd, 1) := dk_96_ (show cX9_between.data.toList[20]? = some 0x60 from (LBX9_betweenr_1 4).trans (by decide +kernel))
theorem dX9_between_21 : decode cX9_between 21 = .ok (.iaload, 1) := dk_46_ (show cX9_between.data.toList[21]? = some 0x2e from (LBX9_betweenr_1 5).trans (by decide +kernel))
theorem dX9_between_22 : decode cX9_between 22 = .ok (.aload_n 0, 1) := dk_42_ (show cX9_between.data.toList[22]? = some 0x2a from (LBX9_betweenr_1 6).trans (by decide +kernel))
theorem dX9_between_23 : decode cX9_between 23 = .ok (.getfield 7, 3) := dk_180_ (show cX9_between.data.toList[23]? = some 0xb4 from (LBX9_betweenr_1 7).trans (by decide +kernel)) (show cX9_between.data.toList[24]? = some 0x00 from (LBX9_betweenr_1 8).trans (by decide +kernel)) (show cX9_between.data.toList[25]? = some 0x07 from (LBX9_betweenr_1 9).trans (by decide +kernel)) (by decide)
theorem dX9_between_26 : decode cX9_between 26 = .ok (.bipush 13, 2) := dk_16_ (show cX9_between.data.toList[26]? = some 0x10 from (LBX9_betweenr_1 10).trans (by decide +kernel)) (show cX9_between.data.toList[27]? = some 0x0d from (LBX9_betweenr_1 11).trans (by decide +kernel)) (by decide)
theorem dX9_between_28 : decode cX9_between 28 = .ok (.iload_n 1, 1) := dk_27_ (show cX9_between.data.toList[28]? = some 0x1b from (LBX9_betweenr_1 12).trans (by decide +kernel))
theorem dX9_between_29 : decode cX9_between 29 = .ok (.iadd, 1) := dk_96_ (show cX9_between.data.toList[29]? = some 0x60 from (LBX9_betweenr_1 13).trans (by decide +kernel))
theorem dX9_between_30 : decode cX9_between 30 = .ok (.iaload, 1) := dk_46_ (show cX9_between.data.toList[30]? = some 0x2e from (LBX9_betweenr_1 14).trans (by decide +kernel))
theorem dX9_between_31 : decode cX9_between 31 = .ok (.isub, 1) := dk_100_ (show cX9_between.data.toList[31]? = some 0x64 from (LBX9_betweenr_1 15).trans (by decide +kernel))
theorem dX9_between_32 : decode cX9_between 32 = .ok (.goto 4, 3) := dk_167_ (show cX9_between.data.toList[32]? = some 0xa7 from (LBX9_betweenr_2 0).trans (by decide +kernel)) (show cX9_between.data.toList[33]? = some 0x00 from (LBX9_betweenr_2 1).trans (by decide +kernel)) (show cX9_between.data.toList[34]? = some 0x04 from (LBX9_betweenr_2 2).trans (by decide +kernel)) (by decide)
theorem dX9_between_35 : decode cX9_between 35 = .ok (.iconst (-1), 1) := dk_2_ (show cX9_between.data.toList[35]? = some 0x02 from (LBX9_betweenr_2 3).trans (by decide +kernel))
theorem dX9_between_36 : decode cX9_between 36 = .ok (.ireturn, 1) := dk_172_ (show cX9_between.data.toList[36]? = some 0xac from (LBX9_betweenr_2 4).trans (by decide +kernel))
def LRX9_known_7 : List UInt8 := []
def LBX9_known_6 : List UInt8 := [0x1c, 0xa7, 0x00, 0x0e, 0x1b, 0x04, 0xa0, 0x00, 0x07, 0x1d, 0xa7, 0x00, 0x05, 0x15, 0x04, 0xac]
def LRX9_known_6 : List UInt8 := LBX9_known_6 ++ LRX9_known_7
def LBX9_known_5 : List UInt8 := [0x00, 0x04, 0x03, 0x60, 0x36, 0x04, 0x84, 0x05, 0x01, 0xa7, 0xff, 0xc4, 0x1b, 0x9a, 0x00, 0x07]
def LRX9_known_5 : List UInt8 := LBX9_known_5 ++ LRX9_known_6
def LBX9_known_4 : List UInt8 := [0xa7, 0x00, 0x04, 0x03, 0x60, 0x3e, 0x15, 0x04, 0x15, 0x06, 0x9e, 0x00, 0x08, 0x15, 0x06, 0xa7]
def LRX9_known_4 : List UInt8 := LBX9_known_4 ++ LRX9_known_5
def LBX9_known_3 : List UInt8 := [0x00, 0x07, 0x03, 0xa7, 0x00, 0x04, 0x04, 0x60, 0x3d, 0x1d, 0x15, 0x06, 0x9e, 0x00, 0x07, 0x04]
def LRX9_known_3 : List UInt8 := LBX9_known_3 ++ LRX9_known_4
def LBX9_known_2 : List UInt8 := [0x64, 0xa2, 0x00, 0x3b, 0x2a, 0x15, 0x05, 0xb6, 0x00, 0xdf, 0x36, 0x06, 0x1c, 0x15, 0x06, 0x9c]
def LRX9_known_2 : List UInt8 := LBX9_known_2 ++ LRX9_known_3
def LBX9_known_1 : List UInt8 := [0x00, 0x46, 0xac, 0x03, 0x3d, 0x03, 0x3e, 0x03, 0x36, 0x04, 0x03, 0x36, 0x05, 0x15, 0x05, 0x10]
def LRX9_known_1 : List UInt8 := LBX9_known_1 ++ LRX9_known_2
def LBX9_known_0 : List UInt8 := [0x1b, 0x85, 0x09, 0x14, 0x00, 0x5b, 0xb8, 0x00, 0x39, 0x9a, 0x00, 0x0a, 0x2a, 0x12, 0x38, 0xb6]
def LRX9_known_0 : List UInt8 := LBX9_known_0 ++ LRX9_known_1
set_option maxRecDepth 100000 in
theorem LBX9_known_eq : cX9_known.data.toList = LRX9_known_0 := by decide +kernel
theorem LBX9_knownr_0 (k : Nat) : cX9_known.data.toList[0 + k]? = LRX9_known_0[k]? := by rw [LBX9_known_eq, Nat.zero_add]
theorem LBX9_knownr_1 (k : Nat) : cX9_known.data.toList[16 + k]? = LRX9_known_1[k]? := by
  have h := LBX9_knownr_0 (16 + k)
  rw [show 0 + (16 + k) = 16 + k by omega] at h
  rw [h]
  exact (List.getElem?_append_right (l₁ := LBX9_known_0) (l₂ := LRX9_known_1) (show 16 ≤ 16 + k by omega)).trans (congrArg (fun i => LRX9_known_1[i]?) (show 16 + k - 16 = k by omega))
theorem LBX9_knownr_2 (k : Nat) : cX9_known.data.toList[32 + k]? = LRX9_known_2[k]? := by
  have h := LBX9_knownr_1 (16 + k)
  rw [show 16 + (16 + k) = 32 + k by omega] at h
  rw [h]
  exact (List.getElem?_append_right (l₁ := LBX9_known_1) (l₂ := LRX9_known_2) (show 16 ≤ 16 + k by omega)).trans (congrArg (fun i => LRX9_known_2[i]?) (show 16 + k - 16 = k by omega))
theorem LBX9_knownr_3 (k : Nat) : cX9_known.data.toList[48 + k]? = LRX9_known_3[k]? := by
  have h := LBX9_knownr_2 (16 + k)
  rw [show 32 + (16 + k) = 48 + k by omega] at h
  rw [h]
  exact (List.getElem?_append_right (l₁ := LBX9_known_2) (l₂ := LRX9_known_3) (show 16 ≤ 16 + k by omega)).trans (congrArg (fun i => LRX9_known_3[i]?) (show 16 + k - 16 = k by omega))
theorem LBX9_knownr_4 (k : Nat) : cX9_known.data.toList[64 + k]? = LRX9_known_4[k]? := by
  have h := LBX9_knownr_3 (16 + k)
  rw [show 48 + (16 + k) = 64 + k by omega] at h
  rw [h]
  exact (List.getElem?_append_right (l₁ := LBX9_known_3) (l₂ := LRX9_known_4) (show 16 ≤ 16 + k by omega)).trans (congrArg (fun i => LRX9_known_4[i]?) (show 16 + k - 16 = k by omega))
theorem LBX9_knownr_5 (k : Nat) : cX9_known.data.toList[80 + k]? = LRX9_known_5[k]? := by
  have h := LBX9_knownr_4 (16 + k)
  rw [show 64 + (16 + k) = 80 + k by omega] at h
  rw [h]
  exact (List.getElem?_append_right (l₁ := LBX9_known_4) (l₂ := LRX9_known_5) (show 16 ≤ 16 + k by omega)).trans (congrArg (fun i => LRX9_known_5[i]?) (show 16 + k - 16 = k by omega))
theorem LBX9_knownr_6 (k : Nat) : cX9_known.data.toList[96 + k]? = LRX9_known_6[k]? := by
  have h := LBX9_knownr_5 (16 + k)
  rw [show 80 + (16 + k) = 96 + k by omega] at h
  rw [h]
  exact (List.getElem?_append_right (l₁ := LBX9_known_5) (l₂ := LRX9_known_6) (show 16 ≤ 16 + k by omega)).trans (congrArg (fun i => LRX9_known_6[i]?) (show 16 + k - 16 = k by omega))
theorem dX9_known_0 : decode cX9_known 0 = .ok (.iload_n 1, 1) := dk_27_ (show cX9_known.data.toList[0]? = some 0x1b from (LBX9_knownr_0 0).trans (by decide +kernel))
theorem dX9_known_1 : decode cX9_known 1 = .ok (.i2l, 1) := dk_133_ (show cX9_known.data.toList[1]? = some 0x85 from (LBX9_knownr_0 1).trans (by decide +kernel))
theorem dX9_known_2 : decode cX9_known 2 = .ok (.lconst 0, 1) := dk_9_ (show cX9_known.data.toList[2]? = some 0x09 from (LBX9_knownr_0 2).trans (by decide +kernel))
theorem dX9_known_3 : decode cX9_known 3 = .ok (.ldc2_w 91, 3) := dk_20_ (show cX9_known.data.toList[3]? = some 0x14 from (LBX9_knownr_0 3).trans (by decide +kernel)) (show cX9_known.data.toList[4]? = some 0x00 from (LBX9_knownr_0 4).trans (by decide +kernel)) (show cX9_known.data.toList[5]? = some 0x5b from (LBX9_knownr_0 5).trans (by decide +kernel)) (by decide)
theorem dX9_known_6 : decode cX9_known 6 = .ok (.invokestatic 57, 3) := dk_184_ (show cX9_known.data.toList[6]? = some 0xb8 from (LBX9_knownr_0 6).trans (by decide +kernel)) (show cX9_known.data.toList[7]? = some 0x00 from (LBX9_knownr_0 7).trans (by decide +kernel)) (show cX9_known.data.toList[8]? = some 0x39 from (LBX9_knownr_0 8).trans (by decide +kernel)) (by decide)
theorem dX9_known_9 : decode cX9_known 9 = .ok (.ifCond .ne 10, 3) := dk_154_ (show cX9_known.data.toList[9]? = some 0x9a from (LBX9_knownr_0 9).trans (by decide +kernel)) (show cX9_known.data.toList[10]? = some 0x00 from (LBX9_knownr_0 10).trans (by decide +kernel)) (show cX9_known.data.toList[11]? = some 0x0a from (LBX9_knownr_0 11).trans (by decide +kernel)) (by decide)
theorem dX9_known_12 : decode cX9_known 12 = .ok (.aload_n 0, 1) := dk_42_ (show cX9_known.data.toList[12]? = some 0x2a from (LBX9_knownr_0 12).trans (by decide +kernel))
theorem dX9_known_13 : decode cX9_known 13 = .ok (.ldc 56, 2) := dk_18_ (show cX9_known.data.toList[13]? = some 0x12 from (LBX9_knownr_0 13).trans (by decide +kernel)) (show cX9_known.data.toList[14]? = some 0x38 from (LBX9_knownr_0 14).trans (by decide +kernel)) (by decide)
theorem dX9_known_15 : decode cX9_known 15 = .ok (.invokevirtual 70, 3) := dk_182_ (show cX9_known.data.toList[15]? = some 0xb6 from (LBX9_knownr_0 15).trans (by decide +kernel)) (show cX9_known.data.toList[16]? = some 0x00 from (LBX9_knownr_1 0).trans (by decide +kernel)) (show cX9_known.data.toList[17]? = some 0x46 from (LBX9_knownr_1 1).trans (by decide +kernel)) (by decide)
theorem dX9_known_18 : decode cX9_known 18 = .ok (.ireturn, 1) := dk_172_ (show cX9_known.data.toList[18]? = some 0xac from (LBX9_knownr_1 2).trans (by decide +kernel))
theorem dX9_known_19 : decode cX9_known 19 = .ok (.iconst 0, 1) := dk_3_ (show cX9_known.data.toList[19]? = some 0x03 from (LBX9_knownr_1 3).trans (by decide +kernel))
theorem dX9_known_20 : decode cX9_known 20 = .ok (.istore_n 2, 1) := dk_61_ (show cX9_known.data.toList[20]? = some 0x3d from (LBX9_knownr_1 4).trans (by decide +kernel))
theorem dX9_known_21 : decode cX9_known 21 = .ok (.iconst 0, 1) := dk_3_ (show cX9_known.data.toList[21]? = some 0x03 from (LBX9_knownr_1 5).trans (by decide +kernel))
theorem dX9_known_22 : decode cX9_known 22 = .ok (.istore_n 3, 1) := dk_62_ (show cX9_known.data.toList[22]? = some 0x3e from (LBX9_knownr_1 6).trans (by decide +kernel))
theorem dX9_known_23 : decode cX9_known 23 = .ok (.iconst 0, 1) := dk_3_ (show cX9_known.data.toList[23]? = some 0x03 from (LBX9_knownr_1 7).trans (by decide +kernel))
theorem dX9_known_24 : decode cX9_known 24 = .ok (.istore 4, 2) := dk_54_ (show cX9_known.data.toList[24]? = some 0x36 from (LBX9_knownr_1 8).trans (by decide +kernel)) (show cX9_known.data.toList[25]? = some 0x04 from (LBX9_knownr_1 9).trans (by decide +kernel)) (by decide)
theorem dX9_known_26 : decode cX9_known 26 = .ok (.iconst 0, 1) := dk_3_ (show cX9_known.data.toList[26]? = some 0x03 from (LBX9_knownr_1 10).trans (by decide +kernel))
theorem dX9_known_27 : decode cX9_known 27 = .ok (.istore 5, 2) := dk_54_ (show cX9_known.data.toList[27]? = some 0x36 from (LBX9_knownr_1 11).trans (by decide +kernel)) (show cX9_known.data.toList[28]? = some 0x05 from (LBX9_knownr_1 12).trans (by decide +kernel)) (by decide)
theorem dX9_known_29 : decode cX9_known 29 = .ok (.iload 5, 2) := dk_21_ (show cX9_known.data.toList[29]? = some 0x15 from (LBX9_knownr_1 13).trans (by decide +kernel)) (show cX9_known.data.toList[30]? = some 0x05 from (LBX9_knownr_1 14).trans (by decide +kernel)) (by decide)
theorem dX9_known_31 : decode cX9_known 31 = .ok (.bipush 100, 2) := dk_16_ (show cX9_known.data.toList[31]? = some 0x10 from (LBX9_knownr_1 15).trans (by decide +kernel)) (show cX9_known.data.toList[32]? = some 0x64 from (LBX9_knownr_2 0).trans (by decide +kernel)) (by decide)
theorem dX9_known_33 : decode cX9_known 33 = .ok (.if_icmp .ge 59, 3) := dk_162_ (show cX9_known.data.toList[33]? = some 0xa2 from (LBX9_knownr_2 1).trans (by decide +kernel)) (show cX9_known.data.toList[34]? = some 0x00 from (LBX9_knownr_2 2).trans (by decide +kernel)) (show cX9_known.data.toList[35]? = some 0x3b from (LBX9_knownr_2 3).trans (by decide +kernel)) (by decide)
theorem dX9_known_36 : decode cX9_known 36 = .ok (.aload_n 0, 1) := dk_42_ (show cX9_known.data.toList[36]? = some 0x2a from (LBX9_knownr_2 4).trans (by decide +kernel))
theorem dX9_known_37 : decode cX9_known 37 = .ok (.iload 5, 2) := dk_21_ (show cX9_known.data.toList[37]? = some 0x15 from (LBX9_knownr_2 5).trans (by decide +kernel)) (show cX9_known.data.toList[38]? = some 0x05 from (LBX9_knownr_2 6).trans (by decide +kernel)) (by decide)
theorem dX9_known_39 : decode cX9_known 39 = .ok (.invokevirtual 223, 3) := dk_182_ (show cX9_known.data.toList[39]? = some 0xb6 from (LBX9_knownr_2 7).trans (by decide +kernel)) (show cX9_known.data.toList[40]? = some 0x00 from (LBX9_knownr_2 8).trans (by decide +kernel)) (show cX9_known.data.toList[41]? = some 0xdf from (LBX9_knownr_2 9).trans (by decide +kernel)) (by decide)
theorem dX9_known_42 : decode cX9_known 42 = .ok (.istore 6, 2) := dk_54_ (show cX9_known.data.toList[42]? = some 0x36 from (LBX9_knownr_2 10).trans (by decide +kernel)) (show cX9_known.data.toList[43]? = some 0x06 from (LBX9_knownr_2 11).trans (by decide +kernel)) (by decide)
theorem dX9_known_44 : decode cX9_known 44 = .ok (.iload_n 2, 1) := dk_28_ (show cX9_known.data.toList[44]? = some 0x1c from (LBX9_knownr_2 12).trans (by decide +kernel))
theorem dX9_known_45 : decode cX9_known 45 = .ok (.iload 6, 2) := dk_21_ (show cX9_known.data.toList[45]? = some 0x15 from (LBX9_knownr_2 13).trans (by decide +kernel)) (show cX9_known.data.toList[46]? = some 0x06 from (LBX9_knownr_2 14).trans (by decide +kernel)) (by decide)
theorem dX9_known_47 : decode cX9_known 47 = .ok (.ifCond .ge 7, 3) := dk_156_ (show cX9_known.data.toList[47]? = some 0x9c from (LBX9_knownr_2 15).trans (by decide +kernel)) (show cX9_known.data.toList[48]? = some 0x00 from (LBX9_knownr_3 0).trans (by decide +kernel)) (show cX9_known.data.toList[49]? = some 0x07 from (LBX9_knownr_3 1).trans (by decide +kernel)) (by decide)
theorem dX9_known_50 : decode cX9_known 50 = .ok (.iconst 0, 1) := dk_3_ (show cX9_known.data.toList[50]? = some 0x03 from (LBX9_knownr_3 2).trans (by decide +kernel))
theorem dX9_known_51 : decode cX9_known 51 = .ok (.goto 4, 3) := dk_167_ (show cX9_known.data.toList[51]? = some 0xa7 from (LBX9_knownr_3 3).trans (by decide +kernel)) (show cX9_known.data.toList[52]? = some 0x00 from (LBX9_knownr_3 4).trans (by decide +kernel)) (show cX9_known.data.toList[53]? = some 0x04 from (LBX9_knownr_3 5).trans (by decide +kernel)) (by decide)
theorem dX9_known_54 : decode cX9_known 54 = .ok (.iconst 1, 1) := dk_4_ (show cX9_known.data.toList[54]? = some 0x04 from (LBX9_knownr_3 6).trans (by decide +kernel))
theorem dX9_known_55 : decode cX9_known 55 = .ok (.iadd, 1) := dk_96_ (show cX9_known.data.toList[55]? = some 0x60 from (LBX9_knownr_3 7).trans (by decide +kernel))
theorem dX9_known_56 : decode cX9_known 56 = .ok (.istore_n 2, 1) := dk_61_ (show cX9_known.data.toList[56]? = some 0x3d from (LBX9_knownr_3 8).trans (by decide +kernel))
theorem dX9_known_57 : decode cX9_known 57 = .ok (.iload_n 3, 1) := dk_29_ (show cX9_known.data.toList[57]? = some 0x1d from (LBX9_knownr_3 9).trans (by decide +kernel))
theorem dX9_known_58 : decode cX9_known 58 = .ok (.iload 6, 2) := dk_21_ (show cX9_known.data.toList[58]? = some 0x15 from (LBX9_knownr_3 10).trans (by decide +kernel)) (show cX9_known.data.toList[59]? = some 0x06 from (LBX9_knownr_3 11).trans (by decide +kernel)) (by decide)
theorem dX9_known_60 : decode cX9_known 60 = .ok (.ifCond .le 7, 3) := dk_158_ (show cX9_known.data.toList[60]? = some 0x9e from (LBX9_knownr_3 12).trans (by decide +kernel)) (show cX9_known.data.toList[61]? = some 0x00 from (LBX9_knownr_3 13).trans (by decide +kernel)) (show cX9_known.data.toList[62]? = some 0x07 from (LBX9_knownr_3 14).trans (by decide +kernel)) (by decide)
theorem dX9_known_63 : decode cX9_known 63 = .ok (.iconst 1, 1) := dk_4_ (show cX9_known.data.toList[63]? = some 0x04 from (LBX9_knownr_3 15).trans (by decide +kernel))
theorem dX9_known_64 : decode cX9_known 64 = .ok (.goto 4, 3) := dk_167_ (show cX9_known.data.toList[64]? = some 0xa7 from (LBX9_knownr_4 0).trans (by decide +kernel)) (show cX9_known.data.toList[65]? = some 0x00 from (LBX9_knownr_4 1).trans (by decide +kernel)) (show cX9_known.data.toList[66]? = some 0x04 from (LBX9_knownr_4 2).trans (by decide +kernel)) (by decide)
theorem dX9_known_67 : decode cX9_known 67 = .ok (.iconst 0, 1) := dk_3_ (show cX9_known.data.toList[67]? = some 0x03 from (LBX9_knownr_4 3).trans (by decide +kernel))
theorem dX9_known_68 : decode cX9_known 68 = .ok (.iadd, 1) := dk_96_ (show cX9_known.data.toList[68]? = some 0x60 from (LBX9_knownr_4 4).trans (by decide +kernel))
theorem dX9_known_69 : decode cX9_known 69 = .ok (.istore_n 3, 1) := dk_62_ (show cX9_known.data.toList[69]? = some 0x3e from (LBX9_knownr_4 5).trans (by decide +kernel))
theorem dX9_known_70 : decode cX9_known 70 = .ok (.iload 4, 2) := dk_21_ (show cX9_known.data.toList[70]? = some 0x15 from (LBX9_knownr_4 6).trans (by decide +kernel)) (show cX9_known.data.toList[71]? = some 0x04 from (LBX9_knownr_4 7).trans (by decide +kernel)) (by decide)
theorem dX9_known_72 : decode cX9_known 72 = .ok (.iload 6, 2) := dk_21_ (show cX9_known.data.toList[72]? = some 0x15 from (LBX9_knownr_4 8).trans (by decide +kernel)) (show cX9_known.data.toList[73]? = some 0x06 from (LBX9_knownr_4 9).trans (by decide +kernel)) (by decide)
theorem dX9_known_74 : decode cX9_known 74 = .ok (.ifCond .le 8, 3) := dk_158_ (show cX9_known.data.toList[74]? = some 0x9e from (LBX9_knownr_4 10).trans (by decide +kernel)) (show cX9_known.data.toList[75]? = some 0x00 from (LBX9_knownr_4 11).trans (by decide +kernel)) (show cX9_known.data.toList[76]? = some 0x08 from (LBX9_knownr_4 12).trans (by decide +kernel)) (by decide)
theorem dX9_known_77 : decode cX9_known 77 = .ok (.iload 6, 2) := dk_21_ (show cX9_known.data.toList[77]? = some 0x15 from (LBX9_knownr_4 13).trans (by decide +kernel)) (show cX9_known.data.toList[78]? = some 0x06 from (LBX9_knownr_4 14).trans (by decide +kernel)) (by decide)
theorem dX9_known_79 : decode cX9_known 79 = .ok (.goto 4, 3) := dk_167_ (show cX9_known.data.toList[79]? = some 0xa7 from (LBX9_knownr_4 15).trans (by decide +kernel)) (show cX9_known.data.toList[80]? = some 0x00 from (LBX9_knownr_5 0).trans (by decide +kernel)) (show cX9_known.data.toList[81]? = some 0x04 from (LBX9_knownr_5 1).trans (by decide +kernel)) (by decide)
theorem dX9_known_82 : decode cX9_known 82 = .ok (.iconst 0, 1) := dk_3_ (show cX9_known.data.toList[82]? = some 0x03 from (LBX9_knownr_5 2).trans (by decide +kernel))
theorem dX9_known_83 : decode cX9_known 83 = .ok (.iadd, 1) := dk_96_ (show cX9_known.data.toList[83]? = some 0x60 from (LBX9_knownr_5 3).trans (by decide +kernel))
theorem dX9_known_84 : decode cX9_known 84 = .ok (.istore 4, 2) := dk_54_ (show cX9_known.data.toList[84]? = some 0x36 from (LBX9_knownr_5 4).trans (by decide +kernel)) (show cX9_known.data.toList[85]? = some 0x04 from (LBX9_knownr_5 5).trans (by decide +kernel)) (by decide)
theorem dX9_known_86 : decode cX9_known 86 = .ok (.iinc 5 1, 3) := dk_132_ (show cX9_known.data.toList[86]? = some 0x84 from (LBX9_knownr_5 6).trans (by decide +kernel)) (show cX9_known.data.toList[87]? = some 0x05 from (LBX9_knownr_5 7).trans (by decide +kernel)) (show cX9_known.data.toList[88]? = some 0x01 from (LBX9_knownr_5 8).trans (by decide +kernel)) (by decide) (by decide)
theorem dX9_known_89 : decode cX9_known 89 = .ok (.goto (-60), 3) := dk_167_ (show cX9_known.data.toList[89]? = some 0xa7 from (LBX9_knownr_5 9).trans (by decide +kernel)) (show cX9_known.data.toList[90]? = some 0xff from (LBX9_knownr_5 10).trans (by decide +kernel)) (show cX9_known.data.toList[91]? = some 0xc4 from (LBX9_knownr_5 11).trans (by decide +kernel)) (by decide)
theorem dX9_known_92 : decode cX9_known 92 = .ok (.iload_n 1, 1) := dk_27_ (show cX9_known.data.toList[92]? = some 0x1b from (LBX9_knownr_5 12).trans (by decide +kernel))
theorem dX9_known_93 : decode cX9_known 93 = .ok (.ifCond .ne 7, 3) := dk_154_ (show cX9_known.data.toList[93]? = some 0x9a from (LBX9_knownr_5 13).trans (by decide +kernel)) (show cX9_known.data.toList[94]? = some 0x00 from (LBX9_knownr_5 14).trans (by decide +kernel)) (show cX9_known.data.toList[95]? = some 0x07 from (LBX9_knownr_5 15).trans (by decide +kernel)) (by decide)
theorem dX9_known_96 : decode cX9_known 96 = .ok (.iload_n 2, 1) := dk_28_ (show cX9_known.data.toList[96]? = some 0x1c from (LBX9_knownr_6 0).trans (by decide +kernel))
theorem dX9_known_97 : decode cX9_known 97 = .ok (.goto 14, 3) := dk_167_ (show cX9_known.data.toList[97]? = some 0xa7 from (LBX9_knownr_6 1).trans (by decide +kernel)) (show cX9_known.data.toList[98]? = some 0x00 from (LBX9_knownr_6 2).trans (by decide +kernel)) (show cX9_known.data.toList[99]? = some 0x0e from (LBX9_knownr_6 3).trans (by decide +kernel)) (by decide)
theorem dX9_known_100 : decode cX9_known 100 = .ok (.iload_n 1, 1) := dk_27_ (show cX9_known.data.toList[100]? = some 0x1b from (LBX9_knownr_6 4).trans (by decide +kernel))
theorem dX9_known_101 : decode cX9_known 101 = .ok (.iconst 1, 1) := dk_4_ (show cX9_known.data.toList[101]? = some 0x04 from (LBX9_knownr_6 5).trans (by decide +kernel))
theorem dX9_known_102 : decode cX9_known 102 = .ok (.if_icmp .ne 7, 3) := dk_160_ (show cX9_known.data.toList[102]? = some 0xa0 from (LBX9_knownr_6 6).trans (by decide +kernel)) (show cX9_known.data.toList[103]? = some 0x00 from (LBX9_knownr_6 7).trans (by decide +kernel)) (show cX9_known.data.toList[104]? = some 0x07 from (LBX9_knownr_6 8).trans (by decide +kernel)) (by decide)
theorem dX9_known_105 : decode cX9_known 105 = .ok (.iload_n 3, 1) := dk_29_ (show cX9_known.data.toList[105]? = some 0x1d from (LBX9_knownr_6 9).trans (by decide +kernel))
theorem dX9_known_106 : decode cX9_known 106 = .ok (.goto 5, 3) := dk_167_ (show cX9_known.data.toList[106]? = some 0xa7 from (LBX9_knownr_6 10).trans (by decide +kernel)) (show cX9_known.data.toList[107]? = some 0x00 from (LBX9_knownr_6 11).trans (by decide +kernel)) (show cX9_known.data.toList[108]? = some 0x05 from (LBX9_knownr_6 12).trans (by decide +kernel)) (by decide)
theorem dX9_known_109 : decode cX9_known 109 = .ok (.iload 4, 2) := dk_21_ (show cX9_known.data.toList[109]? = some 0x15 from (LBX9_knownr_6 13).trans (by decide +kernel)) (show cX9_known.data.toList[110]? = some 0x04 from (LBX9_knownr_6 14).trans (by decide +kernel)) (by decide)
theorem dX9_known_111 : decode cX9_known 111 = .ok (.ireturn, 1) := dk_172_ (show cX9_known.data.toList[111]? = some 0xac from (LBX9_knownr_6 15).trans (by decide +kernel))
def LRX9_ask_4 : List UInt8 := []
def LBX9_ask_3 : List UInt8 := [0x1b, 0xac]
def LRX9_ask_3 : List UInt8 := LBX9_ask_3 ++ LRX9_ask_4
def LBX9_ask_2 : List UInt8 := [0xa7, 0xff, 0xe6, 0x1b, 0x9c, 0x00, 0x0c, 0x2a, 0x12, 0x60, 0xb6, 0x00, 0x46, 0xa7, 0x00, 0x04]
def LRX9_ask_2 : List UInt8 := LBX9_ask_2 ++ LRX9_ask_3
def LBX9_ask_1 : List UInt8 := [0xdf, 0x1c, 0xa4, 0x00, 0x0b, 0x1d, 0x3c, 0x2a, 0x1d, 0xb6, 0x00, 0xdf, 0x3d, 0x84, 0x03, 0x01]
def LRX9_ask_1 : List UInt8 := LBX9_ask_1 ++ LRX9_ask_2
def LBX9_ask_0 : List UInt8 := [0x02, 0x3c, 0x03, 0x3d, 0x03, 0x3e, 0x1d, 0x10, 0x64, 0xa2, 0x00, 0x1a, 0x2a, 0x1d, 0xb6, 0x00]
def LRX9_ask_0 : List UInt8 := LBX9_ask_0 ++ LRX9_ask_1
set_option maxRecDepth 100000 in
theorem LBX9_ask_eq : cX9_ask.data.toList = LRX9_ask_0 := by decide +kernel
theorem LBX9_askr_0 (k : Nat) : cX9_ask.data.toList[0 + k]? = LRX9_ask_0[k]? := by rw [LBX9_ask_eq, Nat.zero_add]
theorem LBX9_askr_1 (k : Nat) : cX9_ask.data.toList[16 + k]? = LRX9_ask_1[k]? := by
  have h := LBX9_askr_0 (16 + k)
  rw [show 0 + (16 + k) = 16 + k by omega] at h
  rw [h]
  exact (List.getElem?_append_right (l₁ := LBX9_ask_0) (l₂ := LRX9_ask_1) (show 16 ≤ 16 + k by omega)).trans (congrArg (fun i => LRX9_ask_1[i]?) (show 16 + k - 16 = k by omega))
theorem LBX9_askr_2 (k : Nat) : cX9_ask.data.toList[32 + k]? = LRX9_ask_2[k]? := by
  have h := LBX9_askr_1 (16 + k)
  rw [show 16 + (16 + k) = 32 + k by omega] at h
  rw [h]
  exact (List.getElem?_append_right (l₁ := LBX9_ask_1) (l₂ := LRX9_ask_2) (show 16 ≤ 16 + k by omega)).trans (congrArg (fun i => LRX9_ask_2[i]?) (show 16 + k - 16 = k by omega))
theorem LBX9_askr_3 (k : Nat) : cX9_ask.data.toList[48 + k]? = LRX9_ask_3[k]? := by
  have h := LBX9_askr_2 (16 + k)
  rw [show 32 + (16 + k) = 48 + k by omega] at h
  rw [h]
  exact (List.getElem?_append_right (l₁ := LBX9_ask_2) (l₂ := LRX9_ask_3) (show 16 ≤ 16 + k by omega)).trans (congrArg (fun i => LRX9_ask_3[i]?) (show 16 + k - 16 = k by omega))
theorem dX9_ask_0 : decode cX9_ask 0 = .ok (.iconst (-1), 1) := dk_2_ (show cX9_ask.data.toList[0]? = some 0x02 from (LBX9_askr_0 0).trans (by decide +kernel))
theorem dX9_ask_1 : decode cX9_ask 1 = .ok (.istore_n 1, 1) := dk_60_ (show cX9_ask.data.toList[1]? = some 0x3c from (LBX9_askr_0 1).trans (by decide +kernel))
theorem dX9_ask_2 : decode cX9_ask 2 = .ok (.iconst 0, 1) := dk_3_ (show cX9_ask.data.toList[2]? = some 0x03 from (LBX9_askr_0 2).trans (by decide +kernel))
theorem dX9_ask_3 : decode cX9_ask 3 = .ok (.istore_n 2, 1) := dk_61_ (show cX9_ask.data.toList[3]? = some 0x3d from (LBX9_askr_0 3).trans (by decide +kernel))
theorem dX9_ask_4 : decode cX9_ask 4 = .ok (.iconst 0, 1) := dk_3_ (show cX9_ask.data.toList[4]? = some 0x03 from (LBX9_askr_0 4).trans (by decide +kernel))
theorem dX9_ask_5 : decode cX9_ask 5 = .ok (.istore_n 3, 1) := dk_62_ (show cX9_ask.data.toList[5]? = some 0x3e from (LBX9_askr_0 5).trans (by decide +kernel))
theorem dX9_ask_6 : decode cX9_ask 6 = .ok (.iload_n 3, 1) := dk_29_ (show cX9_ask.data.toList[6]? = some 0x1d from (LBX9_askr_0 6).trans (by decide +kernel))
theorem dX9_ask_7 : decode cX9_ask 7 = .ok (.bipush 100, 2) := dk_16_ (show cX9_ask.data.toList[7]? = some 0x10 from (LBX9_askr_0 7).trans (by decide +kernel)) (show cX9_ask.data.toList[8]? = some 0x64 from (LBX9_askr_0 8).trans (by decide +kernel)) (by decide)
theorem dX9_ask_9 : decode cX9_ask 9 = .ok (.if_icmp .ge 26, 3) := dk_162_ (show cX9_ask.data.toList[9]? = some 0xa2 from (LBX9_askr_0 9).trans (by decide +kernel)) (show cX9_ask.data.toList[10]? = some 0x00 from (LBX9_askr_0 10).trans (by decide +kernel)) (show cX9_ask.data.toList[11]? = some 0x1a from (LBX9_askr_0 11).trans (by decide +kernel)) (by decide)
theorem dX9_ask_12 : decode cX9_ask 12 = .ok (.aload_n 0, 1) := dk_42_ (show cX9_ask.data.toList[12]? = some 0x2a from (LBX9_askr_0 12).trans (by decide +kernel))
theorem dX9_ask_13 : decode cX9_ask 13 = .ok (.iload_n 3, 1) := dk_29_ (show cX9_ask.data.toList[13]? = some 0x1d from (LBX9_askr_0 13).trans (by decide +kernel))
theorem dX9_ask_14 : decode cX9_ask 14 = .ok (.invokevirtual 223, 3) := dk_182_ (show cX9_ask.data.toList[14]? = some 0xb6 from (LBX9_askr_0 14).trans (by decide +kernel)) (show cX9_ask.data.toList[15]? = some 0x00 from (LBX9_askr_0 15).trans (by decide +kernel)) (show cX9_ask.data.toList[16]? = some 0xdf from (LBX9_askr_1 0).trans (by decide +kernel)) (by decide)
theorem dX9_ask_17 : decode cX9_ask 17 = .ok (.iload_n 2, 1) := dk_28_ (show cX9_ask.data.toList[17]? = some 0x1c from (LBX9_askr_1 1).trans (by decide +kernel))
theorem dX9_ask_18 : decode cX9_ask 18 = .ok (.if_icmp .le 11, 3) := dk_164_ (show cX9_ask.data.toList[18]? = some 0xa4 from (LBX9_askr_1 2).trans (by decide +kernel)) (show cX9_ask.data.toList[19]? = some 0x00 from (LBX9_askr_1 3).trans (by decide +kernel)) (show cX9_ask.data.toList[20]? = some 0x0b from (LBX9_askr_1 4).trans (by decide +kernel)) (by decide)
theorem dX9_ask_21 : decode cX9_ask 21 = .ok (.iload_n 3, 1) := dk_29_ (show cX9_ask.data.toList[21]? = some 0x1d from (LBX9_askr_1 5).trans (by decide +kernel))
theorem dX9_ask_22 : decode cX9_ask 22 = .ok (.istore_n 1, 1) := dk_60_ (show cX9_ask.data.toList[22]? = some 0x3c from (LBX9_askr_1 6).trans (by decide +kernel))
theorem dX9_ask_23 : decode cX9_ask 23 = .ok (.aload_n 0, 1) := dk_42_ (show cX9_ask.data.toList[23]? = some 0x2a from (LBX9_askr_1 7).trans (by decide +kernel))
theorem dX9_ask_24 : decode cX9_ask 24 = .ok (.iload_n 3, 1) := dk_29_ (show cX9_ask.data.toList[24]? = some 0x1d from (LBX9_askr_1 8).trans (by decide +kernel))
theorem dX9_ask_25 : decode cX9_ask 25 = .ok (.invokevirtual 223, 3) := dk_182_ (show cX9_ask.data.toList[25]? = some 0xb6 from (LBX9_askr_1 9).trans (by decide +kernel)) (show cX9_ask.data.toList[26]? = some 0x00 from (LBX9_askr_1 10).trans (by decide +kernel)) (show cX9_ask.data.toList[27]? = some 0xdf from (LBX9_askr_1 11).trans (by decide +kernel)) (by decide)
theorem dX9_ask_28 : decode cX9_ask 28 = .ok (.istore_n 2, 1) := dk_61_ (show cX9_ask.data.toList[28]? = some 0x3d from (LBX9_askr_1 12).trans (by decide +kernel))
theorem dX9_ask_29 : decode cX9_ask 29 = .ok (.iinc 3 1, 3) := dk_132_ (show cX9_ask.data.toList[29]? = some 0x84 from (LBX9_askr_1 13).trans (by decide +kernel)) (show cX9_ask.data.toList[30]? = some 0x03 from (LBX9_askr_1 14).trans (by decide +kernel)) (show cX9_ask.data.toList[31]? = some 0x01 from (LBX9_askr_1 15).trans (by decide +kernel)) (by decide) (by decide)
theorem dX9_ask_32 : decode cX9_ask 32 = .ok (.goto (-26), 3) := dk_167_ (show cX9_ask.data.toList[32]? = some 0xa7 from (LBX9_askr_2 0).trans (by decide +kernel)) (show cX9_ask.data.toList[33]? = some 0xff from (LBX9_askr_2 1).trans (by decide +kernel)) (show cX9_ask.data.toList[34]? = some 0xe6 from (LBX9_askr_2 2).trans (by decide +kernel)) (by decide)
theorem dX9_ask_35 : decode cX9_ask 35 = .ok (.iload_n 1, 1) := dk_27_ (show cX9_ask.data.toList[35]? = some 0x1b from (LBX9_askr_2 3).trans (by decide +kernel))
theorem dX9_ask_36 : decode cX9_ask 36 = .ok (.ifCond .ge 12, 3) := dk_156_ (show cX9_ask.data.toList[36]? = some 0x9c from (LBX9_askr_2 4).trans (by decide +kernel)) (show cX9_ask.data.toList[37]? = some 0x00 from (LBX9_askr_2 5).trans (by decide +kernel)) (show cX9_ask.data.toList[38]? = some 0x0c from (LBX9_askr_2 6).trans (by decide +kernel)) (by decide)
theorem dX9_ask_39 : decode cX9_ask 39 = .ok (.aload_n 0, 1) := dk_42_ (show cX9_ask.data.toList[39]? = some 0x2a from (LBX9_askr_2 7).trans (by decide +kernel))
theorem dX9_ask_40 : decode cX9_ask 40 = .ok (.ldc 96, 2) := dk_18_ (show cX9_ask.data.toList[40]? = some 0x12 from (LBX9_askr_2 8).trans (by decide +kernel)) (show cX9_ask.data.toList[41]? = some 0x60 from (LBX9_askr_2 9).trans (by decide +kernel)) (by decide)
theorem dX9_ask_42 : decode cX9_ask 42 = .ok (.invokevirtual 70, 3) := dk_182_ (show cX9_ask.data.toList[42]? = some 0xb6 from (LBX9_askr_2 10).trans (by decide +kernel)) (show cX9_ask.data.toList[43]? = some 0x00 from (LBX9_askr_2 11).trans (by decide +kernel)) (show cX9_ask.data.toList[44]? = some 0x46 from (LBX9_askr_2 12).trans (by decide +kernel)) (by decide)
theorem dX9_ask_45 : decode cX9_ask 45 = .ok (.goto 4, 3) := dk_167_ (show cX9_ask.data.toList[45]? = some 0xa7 from (LBX9_askr_2 13).trans (by decide +kernel)) (show cX9_ask.data.toList[46]? = some 0x00 from (LBX9_askr_2 14).trans (by decide +kernel)) (show cX9_ask.data.toList[47]? = some 0x04 from (LBX9_askr_2 15).trans (by decide +kernel)) (by decide)
theorem dX9_ask_48 : decode cX9_ask 48 = .ok (.iload_n 1, 1) := dk_27_ (show cX9_ask.data.toList[48]? = some 0x1b from (LBX9_askr_3 0).trans (by decide +kernel))
theorem dX9_ask_49 : decode cX9_ask 49 = .ok (.ireturn, 1) := dk_172_ (show cX9_ask.data.toList[49]? = some 0xac from (LBX9_askr_3 1).trans (by decide +kernel))
theorem uw793 : Cond.methodLink RX9 193 yX9_isTotal ∈ wsU := ut6 (List.mem_of_getElem? (i := 23) rfl) rfl
theorem uw794 : Cond.static yX9_isTotal ∈ wsU := ut6 (List.mem_of_getElem? (i := 24) rfl) rfl
theorem uw795 : Cond.initialized yX9_isTotal.cls ∈ wsU := ut1 (List.mem_of_getElem? (i := 10) rfl) rfl
theorem uw796 : Cond.code yX9_isTotal cX9_isTotal 1 (some .boolean) ∈ wsU := ut6 (List.mem_of_getElem? (i := 25) rfl) rfl
theorem uw797 : Cond.methodLink RX9 196 yX9_newWalk ∈ wsU := ut6 (List.mem_of_getElem? (i := 28) rfl) rfl
theorem uw798 : Cond.instanceMethod yX9_newWalk ∈ wsU := ut6 (List.mem_of_getElem? (i := 30) rfl) rfl
theorem uw799 : Cond.selects RX9 yX9_newWalk yX9_newWalk ∈ wsU := us_sel (q := (yX9_newWalk, 27)) (List.mem_of_getElem? (i := 55) (by decide +kernel)) rfl
theorem uw800 : Cond.code yX9_newWalk cX9_newWalk 6 (some .int) ∈ wsU := ut6 (List.mem_of_getElem? (i := 31) rfl) rfl
theorem uw801 : Cond.methodLink RX9 199 yX9_wayAt ∈ wsU := ut6 (List.mem_of_getElem? (i := 52) rfl) rfl
theorem uw802 : Cond.instanceMethod yX9_wayAt ∈ wsU := ut6 (List.mem_of_getElem? (i := 54) rfl) rfl
theorem uw803 : Cond.selects RX9 yX9_wayAt yX9_wayAt ∈ wsU := us_sel (q := (yX9_wayAt, 27)) (List.mem_of_getElem? (i := 59) (by decide +kernel)) rfl
theorem uw804 : Cond.code yX9_wayAt cX9_wayAt 3 (some .int) ∈ wsU := ut6 (List.mem_of_getElem? (i := 55) rfl) rfl
theorem uw805 : Cond.methodLink RX9 202 yX9_isWalked ∈ wsU := ut6 (List.mem_of_getElem? (i := 48) rfl) rfl
theorem uw806 : Cond.instanceMethod yX9_isWalked ∈ wsU := ut6 (List.mem_of_getElem? (i := 50) rfl) rfl
theorem uw807 : Cond.selects RX9 yX9_isWalked yX9_isWalked ∈ wsU := us_sel (q := (yX9_isWalked, 27)) (List.mem_of_getElem? (i := 58) (by decide +kernel)) rfl
theorem uw808 : Cond.code yX9_isWalked cX9_isWalked 4 (some .boolean) ∈ wsU := ut6 (List.mem_of_getElem? (i := 51) rfl) rfl
theorem uw809 : Cond.fieldLink RX9 205 "LongerBackModel" "changes" "Z" ∈ wsU := ut4 (List.mem_of_getElem? (i := 222) rfl) rfl
theorem uw810 : Cond.fieldLink RX9 208 "LongerBackModel" "lying" "I" ∈ wsU := ut4 (List.mem_of_getElem? (i := 223) rfl) rfl
theorem uw811 : Cond.methodLink RX9 211 yX9_learns ∈ wsU := ut6 (List.mem_of_getElem? (i := 44) rfl) rfl
theorem uw812 : Cond.instanceMethod yX9_learns ∈ wsU := ut6 (List.mem_of_getElem? (i := 46) rfl) rfl
theorem uw813 : Cond.selects RX9 yX9_learns yX9_learns ∈ wsU := us_sel (q := (yX9_learns, 27)) (List.mem_of_getElem? (i := 57) (by decide +kernel)) rfl
theorem uw814 : Cond.code yX9_learns cX9_learns 12 (some .boolean) ∈ wsU := ut6 (List.mem_of_getElem? (i := 47) rfl) rfl
theorem uw815 : Cond.methodLink RX9 214 yX9_learning ∈ wsU := ut6 (List.mem_of_getElem? (i := 40) rfl) rfl
theorem uw816 : Cond.instanceMethod yX9_learning ∈ wsU := ut6 (List.mem_of_getElem? (i := 42) rfl) rfl
theorem uw817 : Cond.selects RX9 yX9_learning yX9_learning ∈ wsU := us_sel (q := (yX9_learning, 27)) (List.mem_of_getElem? (i := 56) (by decide +kernel)) rfl
theorem uw818 : Cond.code yX9_learning cX9_learning 4 (some .int) ∈ wsU := ut6 (List.mem_of_getElem? (i := 43) rfl) rfl
theorem uw819 : Cond.fieldLink RX9 16 "LongerBackModel" "other" "[I" ∈ wsU := ut4 (List.mem_of_getElem? (i := 210) rfl) rfl
theorem uw820 : Cond.methodLink RX9 217 yX9_puts ∈ wsU := ut6 (List.mem_of_getElem? (i := 60) rfl) rfl
theorem uw821 : Cond.instanceMethod yX9_puts ∈ wsU := ut6 (List.mem_of_getElem? (i := 62) rfl) rfl
theorem uw822 : Cond.selects RX9 yX9_puts yX9_puts ∈ wsU := us_sel (q := (yX9_puts, 27)) (List.mem_of_getElem? (i := 60) (by decide +kernel)) rfl
theorem uw823 : Cond.code yX9_puts cX9_puts 2 none ∈ wsU := ut6 (List.mem_of_getElem? (i := 63) rfl) rfl
theorem uw824 : Cond.methodLink RX9 220 yX9_putsBack ∈ wsU := ut6 (List.mem_of_getElem? (i := 64) rfl) rfl
theorem uw825 : Cond.instanceMethod yX9_putsBack ∈ wsU := ut6 (List.mem_of_getElem? (i := 66) rfl) rfl
theorem uw826 : Cond.selects RX9 yX9_putsBack yX9_putsBack ∈ wsU := us_sel (q := (yX9_putsBack, 27)) (List.mem_of_getElem? (i := 61) (by decide +kernel)) rfl
theorem uw827 : Cond.code yX9_putsBack cX9_putsBack 2 none ∈ wsU := ut6 (List.mem_of_getElem? (i := 67) rfl) rfl
theorem uw828 : Cond.methodLink RX9 223 yX9_between ∈ wsU := ut6 (List.mem_of_getElem? (i := 72) rfl) rfl
theorem uw829 : Cond.instanceMethod yX9_between ∈ wsU := ut6 (List.mem_of_getElem? (i := 74) rfl) rfl
theorem uw830 : Cond.selects RX9 yX9_between yX9_between ∈ wsU := us_sel (q := (yX9_between, 27)) (List.mem_of_getElem? (i := 62) (by decide +kernel)) rfl
theorem uw831 : Cond.code yX9_between cX9_between 2 (some .int) ∈ wsU := ut6 (List.mem_of_getElem? (i := 75) rfl) rfl
theorem ks_X9_193 : xWS RX9 193 yX9_isTotal cX9_isTotal 1 (some .boolean) 1 := ⟨⟨uw793, uw794, uw795, uw796⟩, by decide +kernel⟩
theorem kv_X9_196 : xWV RX9 196 RX9 yX9_newWalk cX9_newWalk 6 (some .int) 4 := ⟨⟨uw797, uw798, uw799, uw657, uw800⟩, by decide +kernel⟩
theorem kv_X9_199 : xWV RX9 199 RX9 yX9_wayAt cX9_wayAt 3 (some .int) 2 := ⟨⟨uw801, uw802, uw803, uw657, uw804⟩, by decide +kernel⟩
theorem kv_X9_202 : xWV RX9 202 RX9 yX9_isWalked cX9_isWalked 4 (some .boolean) 1 := ⟨⟨uw805, uw806, uw807, uw657, uw808⟩, by decide +kernel⟩
theorem kf_X9_205 : xWF RX9 205 9 14 RX9 TX9 27 := ⟨inUX9, rfl, by decide, uw809⟩
theorem kf_X9_208 : xWF RX9 208 9 15 RX9 TX9 27 := ⟨inUX9, rfl, by decide, uw810⟩
theorem kv_X9_211 : xWV RX9 211 RX9 yX9_learns cX9_learns 12 (some .boolean) 1 := ⟨⟨uw811, uw812, uw813, uw657, uw814⟩, by decide +kernel⟩
theorem kv_X9_214 : xWV RX9 214 RX9 yX9_learning cX9_learning 4 (some .int) 0 := ⟨⟨uw815, uw816, uw817, uw657, uw818⟩, by decide +kernel⟩
theorem kf_X9_16 : xWF RX9 16 9 2 RX9 TX9 27 := ⟨inUX9, rfl, by decide, uw819⟩
theorem kv_X9_217 : xWV RX9 217 RX9 yX9_puts cX9_puts 2 none 0 := ⟨⟨uw820, uw821, uw822, uw657, uw823⟩, by decide +kernel⟩
theorem kv_X9_220 : xWV RX9 220 RX9 yX9_putsBack cX9_putsBack 2 none 0 := ⟨⟨uw824, uw825, uw826, uw657, uw827⟩, by decide +kernel⟩
theorem kv_X9_223 : xWV RX9 223 RX9 yX9_between cX9_between 2 (some .int) 1 := ⟨⟨uw828, uw829, uw830, uw657, uw831⟩, by decide +kernel⟩
theorem x_pl3 {a x : Int32} {P : Nat} (hP : P ≤ 1000) (ex : x = nI P - 1) (h1 : ¬ a < 0) (h2 : ¬ x < a) : ∃ k : Nat, k < P ∧ a = nI k := by
  obtain ⟨k, hk, rfl⟩ := nI_of h1
  refine ⟨k, ?_, rfl⟩
  subst ex
  by_cases h0 : P = 0
  · subst h0
    exfalso
    apply h2
    rw [Int32.lt_iff_toInt_lt, nI_toInt hk]
    have : (nI 0 - 1).toInt = -1 := by decide
    omega
  · have e : nI P - 1 = nI (P - 1) := pk_sub (a := P) (b := 1) (by omega)
    rw [e] at h2
    have := xn_nlt (a := P - 1) (b := k) (by omega) hk h2
    omega
theorem x_neg99 {x v : Int32} (ex : x = 0 - v) (h1 : ¬ v < 0) (h2 : ¬ 99 < v) : -99 ≤ x.toInt ∧ x.toInt ≤ 999 := by
  obtain ⟨k, hk, rfl⟩ := nI_of h1
  have hk2 : k ≤ 99 := xn_nlt (a := 99) (b := k) (by omega) hk h2
  have e0 : (0 : Int32) = nI 0 := rfl
  rw [ex, e0, pk_sub_toInt (by omega) (by omega)]
  omega
theorem x_0999 {v : Int32} (h1 : ¬ v < 0) (h2 : ¬ 999 < v) : -99 ≤ v.toInt ∧ v.toInt ≤ 999 := by
  obtain ⟨k, hk, rfl⟩ := nI_of h1
  have hk2 : k ≤ 999 := xn_nlt (a := 999) (b := k) (by omega) hk h2
  rw [nI_toInt (by omega)]
  omega
def hl_M (m : Int32) : Nat := 4294967296 - m.toBitVec.toNat
def hl_W (a b : Int32) : Nat := 2 * hl_M a + (if b = a then 0 else 1)
theorem hl_or (m k : Int32) : hl_M (m ||| k) ≤ hl_M m := by
  have h1 : m.toBitVec.toNat ≤ (m ||| k).toBitVec.toNat := by
    rw [Int32.toBitVec_or, BitVec.toNat_or]
    exact Nat.left_le_or
  unfold hl_M
  omega
theorem hl_dec {u1 u2 u3 : Int32} (hne : ¬ u2 = u1) (h : hl_M u3 ≤ hl_M u1) : hl_W u3 u1 < hl_W u1 u2 := by
  unfold hl_W
  rw [if_neg hne]
  by_cases e : u1 = u3
  · subst e; rw [if_pos rfl]; omega
  · rw [if_neg e]
    have h1 := u1.toBitVec.isLt
    have h3 := u3.toBitVec.isLt
    have : hl_M u3 ≠ hl_M u1 := by
      intro q
      apply e
      apply Int32.toBitVec_inj.mp
      apply BitVec.eq_of_toNat_eq
      unfold hl_M at q
      omega
    omega
def lm_M (w : Int32) (n : Nat) : Nat := if w = 0 then n + 1 else 0
theorem lm_dec {w w2 : Int32} {z f f2 : Nat} (h0 : w = 0) (hf : f < z) (h : w2 = 0 → f < f2) : lm_M w2 (z - f2) < lm_M w (z - f) := by
  unfold lm_M
  rw [if_pos h0]
  by_cases e : w2 = 0
  · rw [if_pos e]; have := h e; omega
  · rw [if_neg e]; omega
/-- what has been read of a walk's stops, while nothing is wrong -/
def wk_A (n : Nat) (w : Int32) (f : Nat → Int32) : Prop := w = 0 → ∀ j, j < n → ∃ y, y < 10 ∧ f j = nI y
theorem wk_A.zero {w : Int32} {f : Nat → Int32} : wk_A 0 w f := fun _ j hj => by omega
theorem wk_A.put {n y : Nat} {w w2 : Int32} {f f2 : Nat → Int32} (h : wk_A n w f) (h0 : w = 0) (hy : y < 10) (e : f2 = upd f n (nI y)) : wk_A (n + 1) w2 f2 := by
  intro _ j hj
  rw [e]
  by_cases q : j = n
  · subst q; exact ⟨y, hy, pk_us⟩
  · rw [pk_un q]; exact h h0 j (by omega)
theorem wk_A.no {n : Nat} {w2 : Int32} {f2 : Nat → Int32} (h : w2 = 0 → False) : wk_A n w2 f2 := fun q => (h q).elim
theorem wk_A.get {n j : Nat} {w : Int32} {f : Nat → Int32} (h : wk_A n w f) (h0 : w = 0) (hj : j < n) : ∃ y, f j = nI y ∧ y < 10 := by
  obtain ⟨y, a, b⟩ := h h0 j hj
  exact ⟨y, b, a⟩
theorem x_spk {p1 p4 x : Int32} {z : Nat} (hz : z ≤ 40) (h1 : ¬ p1 < 0) (h4 : ¬ p4 < 0) (ex : x = nI z - p1) (h : ¬ x < p4) : ∃ y, y ≤ 40 ∧ p4 = nI y := by
  obtain ⟨j, hj, rfl⟩ := nI_of h1
  obtain ⟨k, hk, rfl⟩ := nI_of h4
  refine ⟨k, ?_, rfl⟩
  rw [ex, Int32.lt_iff_toInt_lt, x_subI hz hj, nI_toInt hk] at h
  omega
theorem x_spj {p1 x : Int32} {z k : Nat} (hz : z ≤ 40) (hk : k ≤ 40) (h1 : ¬ p1 < 0) (ex : x = nI z - p1) (h : ¬ x < nI k) : ∃ y, y + k ≤ z ∧ p1 = nI y := by
  obtain ⟨j, hj, rfl⟩ := nI_of h1
  refine ⟨j, ?_, rfl⟩
  rw [ex, Int32.lt_iff_toInt_lt, x_subI hz hj, nI_toInt (by omega)] at h
  omega
/-- the first numbers of a sheet are places -/
def rd_A (P : Nat) (f : Nat → Int64) (b i : Nat) : Prop := ∀ j, j < i → ∃ y, y < P ∧ (f (b + j)).toInt32 = nI y
theorem rd_A.zero {P b : Nat} {f : Nat → Int64} : rd_A P f b 0 := fun j hj => by omega
theorem rd_A.more {P b i : Nat} {f : Nat → Int64} (h : rd_A P f b i) (h1 : ∃ y, y < P ∧ (f (b + i)).toInt32 = nI y) : rd_A P f b (i + 1) := by
  intro j hj
  by_cases e : j = i
  · subst e; exact h1
  · exact h j (by omega)
theorem x_inP {v : Int64} {x : Int32} {P : Nat} (hP : P ≤ 10) (ex : x = nI P - 1) (h1 : ¬ v < (0 : Int32).toInt64) (h2 : ¬ x.toInt64 < v) : ∃ y, y < P ∧ v.toInt32 = nI y := by
  rw [Int64.lt_iff_toInt_lt] at h1 h2
  have e0 : ((0 : Int32).toInt64).toInt = 0 := by decide
  rw [Int32.toInt_toInt64, ex] at h2
  have e1 : (nI P - 1).toInt = (P : Int) - 1 := pk_sub_toInt (a := P) (b := 1) (by omega) (by omega)
  refine ⟨v.toInt.toNat, by omega, ?_⟩
  rw [← Int32.toInt_inj, nI_toInt (by omega), Int64.toInt_toInt32, Int.bmod_eq_of_le (by omega) (by omega)]
  omega
theorem xc_Srl {p : Program} {l : Launch} {e : Env} {R : Room} {s : State} {m : MethodId} {args : Array Value} {below : List Frame} {meth : Method} {c : Code} {H : Heap} {locs : List Loc} {cells slots : Nat} {Q : State → Prop} {cc : ByteArray} {pc nL : Nat} {ls : Array Slot} {rest st0 : List Value} {D : va_G} {T : List (ClassId × FieldType)} {ta : Nat} {sa sv : Nat → Nat} {A : Nat → Prop} {ws : va_W} {c0 : Cond} {own : String} {y : MethodName} {bytes : ByteArray} {maxL n index : Nat} {ret : Option FieldType} {rm : Room} {As : List Value} {wc : va_W} (hF : CallFix p m c cc nL s args (c0 :: wsU) own) {post : Int64 → Prop} (hM : Met l y (Cond.code y bytes maxL ret :: wsU) rm (va_Pc As (XW D T ta sa sv wc H.size)) (vp_Sl post) 0 0 (fun _ => False)) (hw : xWS own index y bytes maxL ret n) (hR : rm.cells = 0 ∧ rm.slots = 0 ∧ rm.frames + 1 ≤ R.frames ∧ 8 + (maxL + 11) + rm.locals ≤ R.locals) (hf : cells ≤ R.cells ∧ slots ≤ R.slots)
    (hK : va_K D vwCl T s) (hN : XN sa s) (hZ : ST ta sa sv A s s.heap) (hP : va_P D vwCl ws H) (hD : va_D A ws) (hS : va_S A s.heap H locs) (hA : ∀ q : Nat, s.heap.size ≤ q → A q) (isC : List Nat) (hC : isC.map (fun i => ws[i]?) = wc.map some) (hnC : va_nd isC = true)
    (hn : As.length = n) (hsz : ls.size = nL) (hst : st0 = As.reverse ++ rest) (hrest : (rest.map fun v => v.category).sum ≤ 8) (hdg : decode cc pc = .ok (.invokestatic index, 3))
    (kk : ∀ r : Int64, post r → W p l e R s m args below meth c H locs cells slots Q (F0 m (pc + 3) ls (.long r :: rest))) : W p l e R s m args below meth c H locs cells slots Q (F0 m pc ls st0) := by
  subst hst
  exact vp_callSl (W.runS hF hM (xCS hF hw hR) (xPS hK hN hZ hP hD hS hA isC hC hnC) rfl hn hsz rfl (lv_room hrest) hdg ⟨hf.1, hf.2⟩) kk
set_option maxHeartbeats 4000000 in
set_option maxRecDepth 100000 in
theorem c_X9_newWalk (l : Launch) (D : va_G) (cI cJ cZ cS : ClassId) (ta : Nat) (sa sv : Nat → Nat) (sz : Nat) (h0 : Nat) (ys : Nat) (yk : Nat) (yo : Nat) (yt : Nat) (mk0 : Int32) (yfa : Nat) (yfe : Nat) (mL : Int32) (mS : Int32) (mM : Int32) (yro : Nat) (yhe : Nat) (ygr : Nat) (mF : Int32) (mC : Int32) (mY : Int32) (yta : Nat) (mz : Nat) (mf : Nat) (mt : Nat) (mv : Int32) (mw : Int32) (ywa : Nat) (ybi : Nat) (ysi : Nat) (ynu : Nat) (ymo : Nat) (ms : Nat → Int32) (P : Nat) (Rn : Nat) (Wn : Nat) (fae : Nat → Int32) (fal : Nat → Int32) (fau : Nat → Int32) (fao : Nat → Int32) (farn : Nat → Int32) (farp : Nat → Int32) (fak : Nat → Int32) (fawn : Nat → Int32) (fawp : Nat → Int32) (fat : Nat → Int32) (fas : Nat → Int32) (j : Nat) (k : Nat) (p0 : Int32) (p1 : Int32) (hj : j < 10) (hk : k < 10) (hW1 : Wn < 8) (hs0 : ms 0 = nI P) (hs1 : ms 1 = nI Rn) (hs2 : ms 2 = nI Wn) (hsS : SI ms) (hsM : MI ms) (hsp : P ≤ 10) (hsr : Rn ≤ 8) (hsw : Wn ≤ 8) (hsR : RI Rn ms) (hsG : FR P ms fae fal fau fao farn farp fak fawn fawp fat fas) : Met l yX9_newWalk (Cond.code yX9_newWalk cX9_newWalk 6 (some .int) :: wsU) ({ frames := 0, cells := 0, slots := 0, locals := 0 }) (va_Pc [.ref h0, .int (nI (j)), .int (nI (k)), .int p0, .int p1] (XW D (xT cI cJ cZ cS) ta sa sv [(h0, .inr (9, [.ref ys, .ref yk, .ref yo, .ref yt, .int mk0, .ref yfa, .ref yfe, .int mL, .int mS, .int mM, .ref yro, .ref yhe, .ref ygr, .int mF, .int mC, .int mY, .ref yta, .int (nI (mz)), .int (nI (mf)), .int (nI (mt)), .int mv, .int mw, .ref ywa, .ref ybi, .ref ysi, .ref ynu, .ref ymo])), (ys, .inl (cI, 449, .inl ms))] sz)) (XQi (fun (r : Int32) (ms2 : (Nat → Int32)) => ((r = nI (Wn))) ∧ (ms2 0 = nI P) ∧ (ms2 1 = nI Rn) ∧ (ms2 2 = nI (Wn + 1)) ∧ (SI ms2) ∧ (MI ms2) ∧ (P ≤ 10) ∧ (Rn ≤ 8) ∧ (Wn + 1 ≤ 8) ∧ (RI Rn ms2) ∧ (FR P ms2 fae fal fau fao farn farp fak (upd fawn Wn 2) (upd (upd fawp (Wn * 6 + 0) (nI j)) (Wn * 6 + 1) (nI k)) (upd fat Wn p0) (upd fas Wn p1))) D (fun (ms2 : Nat → Int32) => [(h0, .inr (9, [.ref ys, .ref yk, .ref yo, .ref yt, .int mk0, .ref yfa, .ref yfe, .int mL, .int mS, .int mM, .ref yro, .ref yhe, .ref ygr, .int mF, .int mC, .int mY, .ref yta, .int (nI (mz)), .int (nI (mf)), .int (nI (mt)), .int mv, .int mw, .ref ywa, .ref ybi, .ref ysi, .ref ynu, .ref ymo])), (ys, .inl (cI, 449, .inl ms2))]) (va_A [(h0, .inr (9, [.ref ys, .ref yk, .ref yo, .ref yt, .int mk0, .ref yfa, .ref yfe, .int mL, .int mS, .int mM, .ref yro, .ref yhe, .ref ygr, .int mF, .int mC, .int mY, .ref yta, .int (nI (mz)), .int (nI (mf)), .int (nI (mt)), .int mv, .int mw, .ref ywa, .ref ybi, .ref ysi, .ref ynu, .ref ymo])), (ys, .inl (cI, 449, .inl ms))] sz)) 0 0 (va_A [(h0, .inr (9, [.ref ys, .ref yk, .ref yo, .ref yt, .int mk0, .ref yfa, .ref yfe, .int mL, .int mS, .int mM, .ref yro, .ref yhe, .ref ygr, .int mF, .int mC, .int mY, .ref yta, .int (nI (mz)), .int (nI (mf)), .int (nI (mt)), .int mv, .int mw, .ref ywa, .ref ybi, .ref ysi, .ref ynu, .ref ymo])), (ys, .inl (cI, 449, .inl ms))] sz) := by
  refine xh (QA := fun A => XQi (fun (r : Int32) (ms2 : (Nat → Int32)) => ((r = nI (Wn))) ∧ (ms2 0 = nI P) ∧ (ms2 1 = nI Rn) ∧ (ms2 2 = nI (Wn + 1)) ∧ (SI ms2) ∧ (MI ms2) ∧ (P ≤ 10) ∧ (Rn ≤ 8) ∧ (Wn + 1 ≤ 8) ∧ (RI Rn ms2) ∧ (FR P ms2 fae fal fau fao farn farp fak (upd fawn Wn 2) (upd (upd fawp (Wn * 6 + 0) (nI j)) (Wn * 6 + 1) (nI k)) (upd fat Wn p0) (upd fas Wn p1))) D (fun (ms2 : Nat → Int32) => [(h0, .inr (9, [.ref ys, .ref yk, .ref yo, .ref yt, .int mk0, .ref yfa, .ref yfe, .int mL, .int mS, .int mM, .ref yro, .ref yhe, .ref ygr, .int mF, .int mC, .int mY, .ref yta, .int (nI (mz)), .int (nI (mf)), .int (nI (mt)), .int mv, .int mw, .ref ywa, .ref ybi, .ref ysi, .ref ynu, .ref ymo])), (ys, .inl (cI, 449, .inl ms2))]) A) (fr := fun A => A) (by decide) (Nat.le_of_ble_eq_true rfl) ?_
  intro p e s m below meth c ls A hF hr hlk hin hsz hP hK hD hN hZ hA hS hl
  have hF : CallFix p m c cX9_newWalk 6 s _ _ RX9 := hF
  have hx := hF.1
  have hb := hF.2.1
  have hml := hF.2.2.1
  have hown := hF.2.2.2.1
  have hu : ∀ w ∈ wsU, w.before _ s = true := fun w h => hF.2.2.2.2 w (List.mem_cons_of_mem _ h)
  have hl : lv_has ls 6 [(0, .ref h0), (1, .int (nI (j))), (2, .int (nI (k))), (3, .int p0), (4, .int p1)] := hl
  refine lv_sipush (v := 377) hx hb dX9_newWalk_0 (by decide) ?_
  refine lv_bipush (v := 9) hx hb dX9_newWalk_3 (by decide) ?_
  refine lv_aload_n hx hb dX9_newWalk_5 rfl (lv_at hl 0 rfl) ?_
  refine xg hF kf_X9_7 hK hP 0 rfl rfl dX9_newWalk_6 ?_
  refine lv_iconst (v := 2) hx hb dX9_newWalk_9 (by decide) ?_
  refine va_iald hx hb hK hP 1 0 rfl rfl (xin 2 449 (by decide) (by decide)) dX9_newWalk_10 ?_
  refine xl_i (y := nI (Wn)) hs2 ?_
  refine lv_imul hx hb dX9_newWalk_11 ?_
  refine xl_i (y := nI (9 * Wn)) (pk_mul 9 Wn) ?_
  refine lv_iadd hx hb dX9_newWalk_12 ?_
  refine xl_i (y := nI (377 + (9 * Wn))) (nI_add 377 (9 * Wn)) ?_
  refine lv_istore (lv' := [(5, .int (nI (377 + (9 * Wn)))), (0, .ref h0), (1, .int (nI (j))), (2, .int (nI (k))), (3, .int p0), (4, .int p1)]) hx hb dX9_newWalk_13 hl (by decide) rfl (fun ls hl => ?_)
  refine lv_aload_n hx hb dX9_newWalk_15 rfl (lv_at hl 1 rfl) ?_
  refine xg hF kf_X9_7 hK hP 0 rfl rfl dX9_newWalk_16 ?_
  refine lv_iload hx hb dX9_newWalk_19 (lv_at hl 0 rfl) ?_
  refine lv_iconst (v := 2) hx hb dX9_newWalk_21 (by decide) ?_
  refine va_iast hx hb hK hP hD hS 1 0 rfl rfl (vp_in_nI (show 377 + (9 * Wn) < 449 by omega) (by decide)) dX9_newWalk_22 (fun H locs hP hD hS => ?_)
  rw [nI_clamp (show 377 + (9 * Wn) < 2 ^ 31 by omega)] at hP hD
  obtain ⟨f_1, ef_1⟩ : ∃ g, g = upd ms (377 + (9 * Wn)) 2 := ⟨_, rfl⟩
  rw [← ef_1] at hP hD
  have k0_f_1 : f_1 0 = nI P := by rw [ef_1]; exact (pk_un (show 0 ≠ (377 + (9 * Wn)) by omega)).trans hs0
  have k1_f_1 : f_1 1 = nI Rn := by rw [ef_1]; exact (pk_un (show 1 ≠ (377 + (9 * Wn)) by omega)).trans hs1
  have k2_f_1 : f_1 2 = nI Wn := by rw [ef_1]; exact (pk_un (show 2 ≠ (377 + (9 * Wn)) by omega)).trans hs2
  have kS_f_1 : SI f_1 := by rw [ef_1]; exact SI.upd hsS (okS.wl (w := Wn) (q := 2) (by omega) (by omega) (by decide))
  have kM_f_1 : MI f_1 := by rw [ef_1]; exact MI.upd hsM (okM.out (show (377 + (9 * Wn)) < 13 ∨ 113 ≤ (377 + (9 * Wn)) by omega))
  have kR_f_1 : RI Rn f_1 := by rw [ef_1]; exact RI.upd hsR (fun r9 hr9 e9 => by omega)
  have kG_f_1 : FR P f_1 fae fal fau fao farn farp fak (upd fawn (Wn) 2) fawp fat fas := by rw [ef_1]; exact FR.pwn hsG (show Wn < 8 by omega) (by omega)
  have hP : va_P D vwCl [(h0, .inr (9, [.ref ys, .ref yk, .ref yo, .ref yt, .int mk0, .ref yfa, .ref yfe, .int mL, .int mS, .int mM, .ref yro, .ref yhe, .ref ygr, .int mF, .int mC, .int mY, .ref yta, .int (nI (mz)), .int (nI (mf)), .int (nI (mt)), .int mv, .int mw, .ref ywa, .ref ybi, .ref ysi, .ref ynu, .ref ymo])), (ys, .inl (cI, 449, .inl f_1))] H := hP
  have hD : va_D A [(h0, .inr (9, [.ref ys, .ref yk, .ref yo, .ref yt, .int mk0, .ref yfa, .ref yfe, .int mL, .int mS, .int mM, .ref yro, .ref yhe, .ref ygr, .int mF, .int mC, .int mY, .ref yta, .int (nI (mz)), .int (nI (mf)), .int (nI (mt)), .int mv, .int mw, .ref ywa, .ref ybi, .ref ysi, .ref ynu, .ref ymo])), (ys, .inl (cI, 449, .inl f_1))] := hD
  refine lv_aload_n hx hb dX9_newWalk_23 rfl (lv_at hl 1 rfl) ?_
  refine xg hF kf_X9_7 hK hP 0 rfl rfl dX9_newWalk_24 ?_
  refine lv_iload hx hb dX9_newWalk_27 (lv_at hl 0 rfl) ?_
  refine lv_iconst (v := 1) hx hb dX9_newWalk_29 (by decide) ?_
  refine lv_iadd hx hb dX9_newWalk_30 ?_
  refine xl_i (y := nI (377 + (9 * Wn) + 1)) (nI_add (377 + (9 * Wn)) 1) ?_
  refine lv_iload_n hx hb dX9_newWalk_31 rfl (lv_at hl 4 rfl) ?_
  refine va_iast hx hb hK hP hD hS 1 0 rfl rfl (vp_in_nI (show 377 + (9 * Wn) + 1 < 449 by omega) (by decide)) dX9_newWalk_32 (fun H locs hP hD hS => ?_)
  rw [nI_clamp (show 377 + (9 * Wn) + 1 < 2 ^ 31 by omega)] at hP hD
  obtain ⟨f_2, ef_2⟩ : ∃ g, g = upd f_1 (377 + (9 * Wn) + 1) p0 := ⟨_, rfl⟩
  rw [← ef_2] at hP hD
  have k0_f_2 : f_2 0 = nI P := by rw [ef_2]; exact (pk_un (show 0 ≠ (377 + (9 * Wn) + 1) by omega)).trans k0_f_1
  have k1_f_2 : f_2 1 = nI Rn := by rw [ef_2]; exact (pk_un (show 1 ≠ (377 + (9 * Wn) + 1) by omega)).trans k1_f_1
  have k2_f_2 : f_2 2 = nI Wn := by rw [ef_2]; exact (pk_un (show 2 ≠ (377 + (9 * Wn) + 1) by omega)).trans k2_f_1
  have kS_f_2 : SI f_2 := by rw [ef_2]; exact SI.upd kS_f_1 (okS.wt (w := Wn) (by omega) (Or.inl (by omega)))
  have kM_f_2 : MI f_2 := by rw [ef_2]; exact MI.upd kM_f_1 (okM.out (show (377 + (9 * Wn) + 1) < 13 ∨ 113 ≤ (377 + (9 * Wn) + 1) by omega))
  have kR_f_2 : RI Rn f_2 := by rw [ef_2]; exact RI.upd kR_f_1 (fun r9 hr9 e9 => by omega)
  have kG_f_2 : FR P f_2 fae fal fau fao farn farp fak (upd fawn (Wn) 2) fawp (upd fat (Wn) p0) fas := by rw [ef_2]; exact FR.pt kG_f_1 (show Wn < 8 by omega) (by omega)
  have hP : va_P D vwCl [(h0, .inr (9, [.ref ys, .ref yk, .ref yo, .ref yt, .int mk0, .ref yfa, .ref yfe, .int mL, .int mS, .int mM, .ref yro, .ref yhe, .ref ygr, .int mF, .int mC, .int mY, .ref yta, .int (nI (mz)), .int (nI (mf)), .int (nI (mt)), .int mv, .int mw, .ref ywa, .ref ybi, .ref ysi, .ref ynu, .ref ymo])), (ys, .inl (cI, 449, .inl f_2))] H := hP
  have hD : va_D A [(h0, .inr (9, [.ref ys, .ref yk, .ref yo, .ref yt, .int mk0, .ref yfa, .ref yfe, .int mL, .int mS, .int mM, .ref yro, .ref yhe, .ref ygr, .int mF, .int mC, .int mY, .ref yta, .int (nI (mz)), .int (nI (mf)), .int (nI (mt)), .int mv, .int mw, .ref ywa, .ref ybi, .ref ysi, .ref ynu, .ref ymo])), (ys, .inl (cI, 449, .inl f_2))] := hD
  refine lv_aload_n hx hb dX9_newWalk_33 rfl (lv_at hl 1 rfl) ?_
  refine xg hF kf_X9_7 hK hP 0 rfl rfl dX9_newWalk_34 ?_
  refine lv_iload hx hb dX9_newWalk_37 (lv_at hl 0 rfl) ?_
  refine lv_iconst (v := 2) hx hb dX9_newWalk_39 (by decide) ?_
  refine lv_iadd hx hb dX9_newWalk_40 ?_
  refine xl_i (y := nI (377 + (9 * Wn) + 2)) (nI_add (377 + (9 * Wn)) 2) ?_
  refine lv_iload hx hb dX9_newWalk_41 (lv_at hl 5 rfl) ?_
  refine va_iast hx hb hK hP hD hS 1 0 rfl rfl (vp_in_nI (show 377 + (9 * Wn) + 2 < 449 by omega) (by decide)) dX9_newWalk_43 (fun H locs hP hD hS => ?_)
  rw [nI_clamp (show 377 + (9 * Wn) + 2 < 2 ^ 31 by omega)] at hP hD
  obtain ⟨f_3, ef_3⟩ : ∃ g, g = upd f_2 (377 + (9 * Wn) + 2) p1 := ⟨_, rfl⟩
  rw [← ef_3] at hP hD
  have k0_f_3 : f_3 0 = nI P := by rw [ef_3]; exact (pk_un (show 0 ≠ (377 + (9 * Wn) + 2) by omega)).trans k0_f_2
  have k1_f_3 : f_3 1 = nI Rn := by rw [ef_3]; exact (pk_un (show 1 ≠ (377 + (9 * Wn) + 2) by omega)).trans k1_f_2
  have k2_f_3 : f_3 2 = nI Wn := by rw [ef_3]; exact (pk_un (show 2 ≠ (377 + (9 * Wn) + 2) by omega)).trans k2_f_2
  have kS_f_3 : SI f_3 := by rw [ef_3]; exact SI.upd kS_f_2 (okS.wt (w := Wn) (by omega) (Or.inr (by omega)))
  have kM_f_3 : MI f_3 := by rw [ef_3]; exact MI.upd kM_f_2 (okM.out (show (377 + (9 * Wn) + 2) < 13 ∨ 113 ≤ (377 + (9 * Wn) + 2) by omega))
  have kR_f_3 : RI Rn f_3 := by rw [ef_3]; exact RI.upd kR_f_2 (fun r9 hr9 e9 => by omega)
  have kG_f_3 : FR P f_3 fae fal fau fao farn farp fak (upd fawn (Wn) 2) fawp (upd fat (Wn) p0) (upd fas (Wn) p1) := by rw [ef_3]; exact FR.psl kG_f_2 (show Wn < 8 by omega) (by omega)
  have hP : va_P D vwCl [(h0, .inr (9, [.ref ys, .ref yk, .ref yo, .ref yt, .int mk0, .ref yfa, .ref yfe, .int mL, .int mS, .int mM, .ref yro, .ref yhe, .ref ygr, .int mF, .int mC, .int mY, .ref yta, .int (nI (mz)), .int (nI (mf)), .int (nI (mt)), .int mv, .int mw, .ref ywa, .ref ybi, .ref ysi, .ref ynu, .ref ymo])), (ys, .inl (cI, 449, .inl f_3))] H := hP
  have hD : va_D A [(h0, .inr (9, [.ref ys, .ref yk, .ref yo, .ref yt, .int mk0, .ref yfa, .ref yfe, .int mL, .int mS, .int mM, .ref yro, .ref yhe, .ref ygr, .int mF, .int mC, .int mY, .ref yta, .int (nI (mz)), .int (nI (mf)), .int (nI (mt)), .int mv, .int mw, .ref ywa, .ref ybi, .ref ysi, .ref ynu, .ref ymo])), (ys, .inl (cI, 449, .inl f_3))] := hD
  refine lv_aload_n hx hb dX9_newWalk_44 rfl (lv_at hl 1 rfl) ?_
  refine xg hF kf_X9_7 hK hP 0 rfl rfl dX9_newWalk_45 ?_
  refine lv_iload hx hb dX9_newWalk_48 (lv_at hl 0 rfl) ?_
  refine lv_iconst (v := 3) hx hb dX9_newWalk_50 (by decide) ?_
  refine lv_iadd hx hb dX9_newWalk_51 ?_
  refine xl_i (y := nI (377 + (9 * Wn) + 3)) (nI_add (377 + (9 * Wn)) 3) ?_
  refine lv_iload_n hx hb dX9_newWalk_52 rfl (lv_at hl 2 rfl) ?_
  refine va_iast hx hb hK hP hD hS 1 0 rfl rfl (vp_in_nI (show 377 + (9 * Wn) + 3 < 449 by omega) (by decide)) dX9_newWalk_53 (fun H locs hP hD hS => ?_)
  rw [nI_clamp (show 377 + (9 * Wn) + 3 < 2 ^ 31 by omega)] at hP hD
  obtain ⟨f_4, ef_4⟩ : ∃ g, g = upd f_3 (377 + (9 * Wn) + 3) (nI (j)) := ⟨_, rfl⟩
  rw [← ef_4] at hP hD
  have k0_f_4 : f_4 0 = nI P := by rw [ef_4]; exact (pk_un (show 0 ≠ (377 + (9 * Wn) + 3) by omega)).trans k0_f_3
  have k1_f_4 : f_4 1 = nI Rn := by rw [ef_4]; exact (pk_un (show 1 ≠ (377 + (9 * Wn) + 3) by omega)).trans k1_f_3
  have k2_f_4 : f_4 2 = nI Wn := by rw [ef_4]; exact (pk_un (show 2 ≠ (377 + (9 * Wn) + 3) by omega)).trans k2_f_3
  have kS_f_4 : SI f_4 := by rw [ef_4]; exact SI.upd kS_f_3 (okS.ws (w := Wn) (i := 0) (by omega) (by omega) (by omega) (by omega))
  have kM_f_4 : MI f_4 := by rw [ef_4]; exact MI.upd kM_f_3 (okM.out (show (377 + (9 * Wn) + 3) < 13 ∨ 113 ≤ (377 + (9 * Wn) + 3) by omega))
  have kR_f_4 : RI Rn f_4 := by rw [ef_4]; exact RI.upd kR_f_3 (fun r9 hr9 e9 => by omega)
  have kG_f_4 : FR P f_4 fae fal fau fao farn farp fak (upd fawn (Wn) 2) (upd fawp (Wn * 6 + 0) (nI (j))) (upd fat (Wn) p0) (upd fas (Wn) p1) := by rw [ef_4]; exact FR.pwp kG_f_3 (show Wn < 8 by omega) (show 0 < 6 by omega) (by omega)
  have hP : va_P D vwCl [(h0, .inr (9, [.ref ys, .ref yk, .ref yo, .ref yt, .int mk0, .ref yfa, .ref yfe, .int mL, .int mS, .int mM, .ref yro, .ref yhe, .ref ygr, .int mF, .int mC, .int mY, .ref yta, .int (nI (mz)), .int (nI (mf)), .int (nI (mt)), .int mv, .int mw, .ref ywa, .ref ybi, .ref ysi, .ref ynu, .ref ymo])), (ys, .inl (cI, 449, .inl f_4))] H := hP
  have hD : va_D A [(h0, .inr (9, [.ref ys, .ref yk, .ref yo, .ref yt, .int mk0, .ref yfa, .ref yfe, .int mL, .int mS, .int mM, .ref yro, .ref yhe, .ref ygr, .int mF, .int mC, .int mY, .ref yta, .int (nI (mz)), .int (nI (mf)), .int (nI (mt)), .int mv, .int mw, .ref ywa, .ref ybi, .ref ysi, .ref ynu, .ref ymo])), (ys, .inl (cI, 449, .inl f_4))] := hD
  refine lv_aload_n hx hb dX9_newWalk_54 rfl (lv_at hl 1 rfl) ?_
  refine xg hF kf_X9_7 hK hP 0 rfl rfl dX9_newWalk_55 ?_
  refine lv_iload hx hb dX9_newWalk_58 (lv_at hl 0 rfl) ?_
  refine lv_iconst (v := 4) hx hb dX9_newWalk_60 (by decide) ?_
  refine lv_iadd hx hb dX9_newWalk_61 ?_
  refine xl_i (y := nI (377 + (9 * Wn) + 4)) (nI_add (377 + (9 * Wn)) 4) ?_
  refine lv_iload_n hx hb dX9_newWalk_62 rfl (lv_at hl 3 rfl) ?_
  refine va_iast hx hb hK hP hD hS 1 0 rfl rfl (vp_in_nI (show 377 + (9 * Wn) + 4 < 449 by omega) (by decide)) dX9_newWalk_63 (fun H locs hP hD hS => ?_)
  rw [nI_clamp (show 377 + (9 * Wn) + 4 < 2 ^ 31 by omega)] at hP hD
  obtain ⟨f_5, ef_5⟩ : ∃ g, g = upd f_4 (377 + (9 * Wn) + 4) (nI (k)) := ⟨_, rfl⟩
  rw [← ef_5] at hP hD
  have k0_f_5 : f_5 0 = nI P := by rw [ef_5]; exact (pk_un (show 0 ≠ (377 + (9 * Wn) + 4) by omega)).trans k0_f_4
  have k1_f_5 : f_5 1 = nI Rn := by rw [ef_5]; exact (pk_un (show 1 ≠ (377 + (9 * Wn) + 4) by omega)).trans k1_f_4
  have k2_f_5 : f_5 2 = nI Wn := by rw [ef_5]; exact (pk_un (show 2 ≠ (377 + (9 * Wn) + 4) by omega)).trans k2_f_4
  have kS_f_5 : SI f_5 := by rw [ef_5]; exact SI.upd kS_f_4 (okS.ws (w := Wn) (i := 1) (by omega) (by omega) (by omega) (by omega))
  have kM_f_5 : MI f_5 := by rw [ef_5]; exact MI.upd kM_f_4 (okM.out (show (377 + (9 * Wn) + 4) < 13 ∨ 113 ≤ (377 + (9 * Wn) + 4) by omega))
  have kR_f_5 : RI Rn f_5 := by rw [ef_5]; exact RI.upd kR_f_4 (fun r9 hr9 e9 => by omega)
  have kG_f_5 : FR P f_5 fae fal fau fao farn farp fak (upd fawn (Wn) 2) (upd (upd fawp (Wn * 6 + 0) (nI (j))) (Wn * 6 + 1) (nI (k))) (upd fat (Wn) p0) (upd fas (Wn) p1) := by rw [ef_5]; exact FR.pwp kG_f_4 (show Wn < 8 by omega) (show 1 < 6 by omega) (by omega)
  have hP : va_P D vwCl [(h0, .inr (9, [.ref ys, .ref yk, .ref yo, .ref yt, .int mk0, .ref yfa, .ref yfe, .int mL, .int mS, .int mM, .ref yro, .ref yhe, .ref ygr, .int mF, .int mC, .int mY, .ref yta, .int (nI (mz)), .int (nI (mf)), .int (nI (mt)), .int mv, .int mw, .ref ywa, .ref ybi, .ref ysi, .ref ynu, .ref ymo])), (ys, .inl (cI, 449, .inl f_5))] H := hP
  have hD : va_D A [(h0, .inr (9, [.ref ys, .ref yk, .ref yo, .ref yt, .int mk0, .ref yfa, .ref yfe, .int mL, .int mS, .int mM, .ref yro, .ref yhe, .ref ygr, .int mF, .int mC, .int mY, .ref yta, .int (nI (mz)), .int (nI (mf)), .int (nI (mt)), .int mv, .int mw, .ref ywa, .ref ybi, .ref ysi, .ref ynu, .ref ymo])), (ys, .inl (cI, 449, .inl f_5))] := hD
  refine lv_aload_n hx hb dX9_newWalk_64 rfl (lv_at hl 1 rfl) ?_
  refine xg hF kf_X9_7 hK hP 0 rfl rfl dX9_newWalk_65 ?_
  refine lv_iconst (v := 2) hx hb dX9_newWalk_68 (by decide) ?_
  refine lv_dup2_11 hx hb dX9_newWalk_69 rfl rfl ?_
  refine va_iald hx hb hK hP 1 0 rfl rfl (xin 2 449 (by decide) (by decide)) dX9_newWalk_70 ?_
  refine xl_i (y := nI (Wn)) k2_f_5 ?_
  refine lv_iconst (v := 1) hx hb dX9_newWalk_71 (by decide) ?_
  refine lv_iadd hx hb dX9_newWalk_72 ?_
  refine xl_i (y := nI (Wn + 1)) (nI_add Wn 1) ?_
  refine va_iast hx hb hK hP hD hS 1 0 rfl rfl (xin 2 449 (by decide) (by decide)) dX9_newWalk_73 (fun H locs hP hD hS => ?_)
  obtain ⟨f_6, ef_6⟩ : ∃ g, g = upd f_5 2 (nI (Wn + 1)) := ⟨_, rfl⟩
  have hP : va_P D vwCl [(h0, .inr (9, [.ref ys, .ref yk, .ref yo, .ref yt, .int mk0, .ref yfa, .ref yfe, .int mL, .int mS, .int mM, .ref yro, .ref yhe, .ref ygr, .int mF, .int mC, .int mY, .ref yta, .int (nI (mz)), .int (nI (mf)), .int (nI (mt)), .int mv, .int mw, .ref ywa, .ref ybi, .ref ysi, .ref ynu, .ref ymo])), (ys, .inl (cI, 449, .inl (upd f_5 2 (nI (Wn + 1)))))] H := hP
  have hD : va_D A [(h0, .inr (9, [.ref ys, .ref yk, .ref yo, .ref yt, .int mk0, .ref yfa, .ref yfe, .int mL, .int mS, .int mM, .ref yro, .ref yhe, .ref ygr, .int mF, .int mC, .int mY, .ref yta, .int (nI (mz)), .int (nI (mf)), .int (nI (mt)), .int mv, .int mw, .ref ywa, .ref ybi, .ref ysi, .ref ynu, .ref ymo])), (ys, .inl (cI, 449, .inl (upd f_5 2 (nI (Wn + 1)))))] := hD
  rw [← ef_6] at hP hD
  have k0_f_6 : f_6 0 = nI P := by rw [ef_6]; exact (pk_un (show 0 ≠ 2 by omega)).trans k0_f_5
  have k1_f_6 : f_6 1 = nI Rn := by rw [ef_6]; exact (pk_un (show 1 ≠ 2 by omega)).trans k1_f_5
  have k2_f_6 : f_6 2 = nI (Wn + 1) := by rw [ef_6]; exact pk_us
  have kw_f_6 : Wn + 1 ≤ 8 := by omega
  have kS_f_6 : SI f_6 := by rw [ef_6]; exact SI.upd kS_f_5 (okS.low (show 2 < 313 by omega))
  have kM_f_6 : MI f_6 := by rw [ef_6]; exact MI.upd kM_f_5 (okM.out (show 2 < 13 ∨ 113 ≤ 2 by omega))
  have kR_f_6 : RI Rn f_6 := by rw [ef_6]; exact RI.upd kR_f_5 (fun r9 hr9 e9 => by omega)
  have kG_f_6 : FR P f_6 fae fal fau fao farn farp fak (upd fawn (Wn) 2) (upd (upd fawp (Wn * 6 + 0) (nI (j))) (Wn * 6 + 1) (nI (k))) (upd fat (Wn) p0) (upd fas (Wn) p1) := by rw [ef_6]; exact FR.cnt kG_f_5 (by decide)
  have hP : va_P D vwCl [(h0, .inr (9, [.ref ys, .ref yk, .ref yo, .ref yt, .int mk0, .ref yfa, .ref yfe, .int mL, .int mS, .int mM, .ref yro, .ref yhe, .ref ygr, .int mF, .int mC, .int mY, .ref yta, .int (nI (mz)), .int (nI (mf)), .int (nI (mt)), .int mv, .int mw, .ref ywa, .ref ybi, .ref ysi, .ref ynu, .ref ymo])), (ys, .inl (cI, 449, .inl f_6))] H := hP
  have hD : va_D A [(h0, .inr (9, [.ref ys, .ref yk, .ref yo, .ref yt, .int mk0, .ref yfa, .ref yfe, .int mL, .int mS, .int mM, .ref yro, .ref yhe, .ref ygr, .int mF, .int mC, .int mY, .ref yta, .int (nI (mz)), .int (nI (mf)), .int (nI (mt)), .int mv, .int mw, .ref ywa, .ref ybi, .ref ysi, .ref ynu, .ref ymo])), (ys, .inl (cI, 449, .inl f_6))] := hD
  refine lv_aload_n hx hb dX9_newWalk_74 rfl (lv_at hl 1 rfl) ?_
  refine xg hF kf_X9_7 hK hP 0 rfl rfl dX9_newWalk_75 ?_
  refine lv_iconst (v := 2) hx hb dX9_newWalk_78 (by decide) ?_
  refine va_iald hx hb hK hP 1 0 rfl rfl (xin 2 449 (by decide) (by decide)) dX9_newWalk_79 ?_
  refine xl_i (y := nI (Wn + 1)) k2_f_6 ?_
  refine lv_iconst (v := 1) hx hb dX9_newWalk_80 (by decide) ?_
  refine lv_isub hx hb dX9_newWalk_81 ?_
  refine xl_i (y := nI (Wn + 1 - 1)) (pk_sub (show 1 ≤ Wn + 1 by omega)) ?_
  exact W.iret (v := nI (Wn + 1 - 1)) hx hb hr (fun t ht hW => ⟨⟨nI (Wn + 1 - 1), f_6, rfl, ⟨rfl, k0_f_6, k1_f_6, k2_f_6, kS_f_6, kM_f_6, hsp, hsr, kw_f_6, kR_f_6, kG_f_6⟩, by rw [ht]; exact hP.sub [0, 1] rfl, hD.sub [0, 1] (by decide) rfl⟩, hS.F ht⟩) hS.2.2 dX9_newWalk_82 hlk
set_option maxHeartbeats 4000000 in
set_option maxRecDepth 100000 in
theorem c_X9_walk (l : Launch) (D : va_G) (cI cJ cZ cS : ClassId) (ta : Nat) (sa sv : Nat → Nat) (sz : Nat) (h0 : Nat) (ys : Nat) (yk : Nat) (yo : Nat) (yt : Nat) (mk0 : Int32) (yfa : Nat) (yfe : Nat) (mL : Int32) (mS : Int32) (mM : Int32) (yro : Nat) (yhe : Nat) (ygr : Nat) (mF : Int32) (mC : Int32) (mY : Int32) (yta : Nat) (mz : Nat) (mf : Nat) (mt : Nat) (mv : Int32) (mw : Int32) (ywa : Nat) (ybi : Nat) (ysi : Nat) (ynu : Nat) (ymo : Nat) (ms : Nat → Int32) (mq : Nat → Int32) (P : Nat) (Rn : Nat) (Wn : Nat) (fae : Nat → Int32) (fal : Nat → Int32) (fau : Nat → Int32) (fao : Nat → Int32) (farn : Nat → Int32) (farp : Nat → Int32) (fak : Nat → Int32) (fawn : Nat → Int32) (fawp : Nat → Int32) (fat : Nat → Int32) (fas : Nat → Int32) (p0 : Int32) (p1 : Int32) (p2 : Int32) (p3 : Int32) (hs0 : ms 0 = nI P) (hs1 : ms 1 = nI Rn) (hs2 : ms 2 = nI Wn) (hsS : SI ms) (hsM : MI ms) (hsp : P ≤ 10) (hsr : Rn ≤ 8) (hsw : Wn ≤ 8) (hsR : RI Rn ms) (hsG : FR P ms fae fal fau fao farn farp fak fawn fawp fat fas) : Met l yX9_walk (Cond.code yX9_walk cX9_walk 5 (some .int) :: wsU) ({ frames := 3, cells := 0, slots := 0, locals := 68 }) (va_Pc [.ref h0, .int p0, .int p1, .int p2, .int p3] (XW D (xT cI cJ cZ cS) ta sa sv [(h0, .inr (9, [.ref ys, .ref yk, .ref yo, .ref yt, .int mk0, .ref yfa, .ref yfe, .int mL, .int mS, .int mM, .ref yro, .ref yhe, .ref ygr, .int mF, .int mC, .int mY, .ref yta, .int (nI (mz)), .int (nI (mf)), .int (nI (mt)), .int mv, .int mw, .ref ywa, .ref ybi, .ref ysi, .ref ynu, .ref ymo])), (ys, .inl (cI, 449, .inl ms)), (yt, .inl (cI, 7, .inl mq))] sz)) (XQi (fun (r : Int32) (u : (Nat → Int32) × (Nat → Int32) × Nat × (Nat → Int32) × (Nat → Int32) × (Nat → Int32) × (Nat → Int32)) => match u with | (ms2, mq2, W2, gwn, gwp, gt, gs) => ((r = sp_wkr P Wn p0 p1 p2 p3)) ∧ (W2 = sp_wk P Wn p0 p1 p2 p3) ∧ (gwn = wkN P Wn p0 p1 p2 p3 fawn) ∧ (gwp = wkS P Wn p0 p1 p2 p3 fawp) ∧ (gt = wkT P Wn p0 p1 p2 p3 p2 fat) ∧ (gs = wkT P Wn p0 p1 p2 p3 p3 fas) ∧ (ms2 0 = nI P) ∧ (ms2 1 = nI Rn) ∧ (ms2 2 = nI W2) ∧ (SI ms2) ∧ (MI ms2) ∧ (P ≤ 10) ∧ (Rn ≤ 8) ∧ (W2 ≤ 8) ∧ (RI Rn ms2) ∧ (FR P ms2 fae fal fau fao farn farp fak gwn gwp gt gs)) D (fun (u : (Nat → Int32) × (Nat → Int32) × Nat × (Nat → Int32) × (Nat → Int32) × (Nat → Int32) × (Nat → Int32)) => match u with | (ms2, mq2, W2, gwn, gwp, gt, gs) => [(h0, .inr (9, [.ref ys, .ref yk, .ref yo, .ref yt, .int mk0, .ref yfa, .ref yfe, .int mL, .int mS, .int mM, .ref yro, .ref yhe, .ref ygr, .int mF, .int mC, .int mY, .ref yta, .int (nI (mz)), .int (nI (mf)), .int (nI (mt)), .int mv, .int mw, .ref ywa, .ref ybi, .ref ysi, .ref ynu, .ref ymo])), (ys, .inl (cI, 449, .inl ms2)), (yt, .inl (cI, 7, .inl mq2))]) (va_A [(h0, .inr (9, [.ref ys, .ref yk, .ref yo, .ref yt, .int mk0, .ref yfa, .ref yfe, .int mL, .int mS, .int mM, .ref yro, .ref yhe, .ref ygr, .int mF, .int mC, .int mY, .ref yta, .int (nI (mz)), .int (nI (mf)), .int (nI (mt)), .int mv, .int mw, .ref ywa, .ref ybi, .ref ysi, .ref ynu, .ref ymo])), (ys, .inl (cI, 449, .inl ms)), (yt, .inl (cI, 7, .inl mq))] sz)) 0 0 (va_A [(h0, .inr (9, [.ref ys, .ref yk, .ref yo, .ref yt, .int mk0, .ref yfa, .ref yfe, .int mL, .int mS, .int mM, .ref yro, .ref yhe, .ref ygr, .int mF, .int mC, .int mY, .ref yta, .int (nI (mz)), .int (nI (mf)), .int (nI (mt)), .int mv, .int mw, .ref ywa, .ref ybi, .ref ysi, .ref ynu, .ref ymo])), (ys, .inl (cI, 449, .inl ms)), (yt, .inl (cI, 7, .inl mq))] sz) := by
  refine xh (QA := fun A => XQi (fun (r : Int32) (u : (Nat → Int32) × (Nat → Int32) × Nat × (Nat → Int32) × (Nat → Int32) × (Nat → Int32) × (Nat → Int32)) => match u with | (ms2, mq2, W2, gwn, gwp, gt, gs) => ((r = sp_wkr P Wn p0 p1 p2 p3)) ∧ (W2 = sp_wk P Wn p0 p1 p2 p3) ∧ (gwn = wkN P Wn p0 p1 p2 p3 fawn) ∧ (gwp = wkS P Wn p0 p1 p2 p3 fawp) ∧ (gt = wkT P Wn p0 p1 p2 p3 p2 fat) ∧ (gs = wkT P Wn p0 p1 p2 p3 p3 fas) ∧ (ms2 0 = nI P) ∧ (ms2 1 = nI Rn) ∧ (ms2 2 = nI W2) ∧ (SI ms2) ∧ (MI ms2) ∧ (P ≤ 10) ∧ (Rn ≤ 8) ∧ (W2 ≤ 8) ∧ (RI Rn ms2) ∧ (FR P ms2 fae fal fau fao farn farp fak gwn gwp gt gs)) D (fun (u : (Nat → Int32) × (Nat → Int32) × Nat × (Nat → Int32) × (Nat → Int32) × (Nat → Int32) × (Nat → Int32)) => match u with | (ms2, mq2, W2, gwn, gwp, gt, gs) => [(h0, .inr (9, [.ref ys, .ref yk, .ref yo, .ref yt, .int mk0, .ref yfa, .ref yfe, .int mL, .int mS, .int mM, .ref yro, .ref yhe, .ref ygr, .int mF, .int mC, .int mY, .ref yta, .int (nI (mz)), .int (nI (mf)), .int (nI (mt)), .int mv, .int mw, .ref ywa, .ref ybi, .ref ysi, .ref ynu, .ref ymo])), (ys, .inl (cI, 449, .inl ms2)), (yt, .inl (cI, 7, .inl mq2))]) A) (fr := fun A => A) (by decide) (Nat.le_of_ble_eq_true rfl) ?_
  intro p e s m below meth c ls A hF hr hlk hin hsz hP hK hD hN hZ hA hS hl
  have hF : CallFix p m c cX9_walk 5 s _ _ RX9 := hF
  have hx := hF.1
  have hb := hF.2.1
  have hml := hF.2.2.1
  have hown := hF.2.2.2.1
  have hu : ∀ w ∈ wsU, w.before _ s = true := fun w h => hF.2.2.2.2 w (List.mem_cons_of_mem _ h)
  have hl : lv_has ls 5 [(0, .ref h0), (1, .int p0), (2, .int p1), (3, .int p2), (4, .int p3)] := hl
  refine lv_aload_n hx hb dX9_walk_0 rfl (lv_at hl 0 rfl) ?_
  refine lv_iload_n hx hb dX9_walk_1 rfl (lv_at hl 1 rfl) ?_
  refine lv_iload_n hx hb dX9_walk_2 rfl (lv_at hl 2 rfl) ?_
  refine xc_Vr hF (c_X9_areTwo l D cI cJ cZ cS ta sa sv s.heap.size h0 ys yk yo yt mk0 yfa yfe mL mS mM yro yhe ygr mF mC mY yta mz mf mt mv mw ywa ybi ysi ynu ymo ms P Rn Wn fae fal fau fao farn farp fak fawn fawp fat fas p0 p1 hs0 hs1 hs2 hsS hsM hsp hsr hsw hsR hsG) kv_X9_80 ⟨rfl, rfl, Nat.le_of_ble_eq_true rfl, Nat.le_of_ble_eq_true rfl⟩ ⟨Nat.le_of_ble_eq_true rfl, Nat.le_of_ble_eq_true rfl⟩ hK hN hZ hP hD hS hA [0, 1] rfl rfl 0 rfl rfl rfl rfl hl.1 rfl (Nat.le_of_ble_eq_true rfl) dX9_walk_3 (fun r_1 hw_r_1 => ?_)
  rcases hw_r_1 with ⟨j_2, k_3, rfl, rfl, rfl, h_6, h_7, h_8⟩ | ⟨rfl, h_9⟩
  · skip
    refine lv_if_eq (tgt := 29) hx hb dX9_walk_6 (by decide) (fun c_10 => absurd c_10 (by decide)) (fun c_10 => ?_)
    refine lv_iload_n hx hb dX9_walk_9 rfl (lv_at hl 3 rfl) ?_
    refine xc_Sr hF (c_X9_isTotal l D cI cJ cZ cS ta sa sv s.heap.size p2 ) ks_X9_193 ⟨rfl, rfl, Nat.le_of_ble_eq_true rfl, Nat.le_of_ble_eq_true rfl⟩ ⟨Nat.le_of_ble_eq_true rfl, Nat.le_of_ble_eq_true rfl⟩ hK hN hZ hP hD hS hA [] rfl rfl rfl hl.1 rfl (Nat.le_of_ble_eq_true rfl) dX9_walk_10 (fun r_11 hw_r_11 => ?_)
    rcases hw_r_11 with ⟨rfl, h_12, h_13⟩ | ⟨rfl, h_14⟩
    · skip
      refine lv_if_eq (tgt := 29) hx hb dX9_walk_13 (by decide) (fun c_15 => absurd c_15 (by decide)) (fun c_15 => ?_)
      refine lv_iload hx hb dX9_walk_16 (lv_at hl 4 rfl) ?_
      refine lv_i2l (v := p3.toInt64) hx hb dX9_walk_18 rfl ?_
      refine lv_lconst (v := 0) hx hb dX9_walk_19 (by decide) ?_
      refine xl_l (y := (0 : Int32).toInt64) (by decide) ?_
      refine lv_ldc2 (v := 99) hx hb hown (hu _ uw681) dX9_walk_20 ?_
      refine xl_l (y := (99 : Int32).toInt64) (by decide) ?_
      refine xc_Sr hF (c_X9_in l D cI cJ cZ cS ta sa sv s.heap.size p3 0 99 ) ks_X9_57 ⟨rfl, rfl, Nat.le_of_ble_eq_true rfl, Nat.le_of_ble_eq_true rfl⟩ ⟨Nat.le_of_ble_eq_true rfl, Nat.le_of_ble_eq_true rfl⟩ hK hN hZ hP hD hS hA [] rfl rfl rfl hl.1 rfl (Nat.le_of_ble_eq_true rfl) dX9_walk_23 (fun r_16 hw_r_16 => ?_)
      rcases hw_r_16 with ⟨rfl, h_17, h_18⟩ | ⟨rfl, h_19⟩
      · skip
        refine lv_if_ne (tgt := 36) hx hb dX9_walk_26 (by decide) (fun c_20 => ?_) (fun c_20 => absurd c_20 (by decide))
        refine lv_aload_n hx hb dX9_walk_36 rfl (lv_at hl 0 rfl) ?_
        refine xg hF kf_X9_7 hK hP 0 rfl rfl dX9_walk_37 ?_
        refine lv_iconst (v := 2) hx hb dX9_walk_40 (by decide) ?_
        refine va_iald hx hb hK hP 1 0 rfl rfl (xin 2 449 (by decide) (by decide)) dX9_walk_41 ?_
        refine xl_i (y := nI (Wn)) hs2 ?_
        refine lv_bipush (v := 8) hx hb dX9_walk_42 (by decide) ?_
        refine lv_icmp_ne (tgt := 56) hx hb dX9_walk_44 (by decide) (fun c_21 => ?_) (fun c_21 => ?_)
        · skip
          have nc_21 : Wn ≠ 8 := xn_ne (a := Wn) (b := 8) (by omega) (by omega) c_21
          refine lv_aload_n hx hb dX9_walk_56 rfl (lv_at hl 0 rfl) ?_
          refine lv_iload_n hx hb dX9_walk_57 rfl (lv_at hl 1 rfl) ?_
          refine lv_iload_n hx hb dX9_walk_58 rfl (lv_at hl 2 rfl) ?_
          refine lv_iload_n hx hb dX9_walk_59 rfl (lv_at hl 3 rfl) ?_
          refine lv_iload hx hb dX9_walk_60 (lv_at hl 4 rfl) ?_
          refine xc_Vi (wr := [(yt, .inl (cI, 7, .inl mq))]) hF (c_X9_newWalk l D cI cJ cZ cS ta sa sv s.heap.size h0 ys yk yo yt mk0 yfa yfe mL mS mM yro yhe ygr mF mC mY yta mz mf mt mv mw ywa ybi ysi ynu ymo ms P Rn Wn fae fal fau fao farn farp fak fawn fawp fat fas j_2 k_3 p2 p3 (by omega) (by omega) (by omega) hs0 hs1 hs2 hsS hsM hsp hsr hsw hsR hsG) kv_X9_196 ⟨rfl, rfl, Nat.le_of_ble_eq_true rfl, Nat.le_of_ble_eq_true rfl⟩ ⟨Nat.le_of_ble_eq_true rfl, Nat.le_of_ble_eq_true rfl⟩ hK hN hZ hP hD hS hA [0, 1] [2] rfl rfl rfl rfl (by decide) 0 rfl rfl rfl rfl hl.1 rfl (Nat.le_of_ble_eq_true rfl) dX9_walk_62 (fun r_22 u_r_22 H locs hw_r_22 hP hD hS => ?_)
          obtain ⟨ms2_23, rfl⟩ : ∃ z, z = u_r_22 := ⟨_, rfl⟩
          try dsimp only at hw_r_22
          obtain ⟨hw_r_22, i_24, i_25, i_26, i_27, i_28, i_29, i_30, i_31, i_32, i_33⟩ := hw_r_22
          have hP : va_P D vwCl [(yt, .inl (cI, 7, .inl mq)), (h0, .inr (9, [.ref ys, .ref yk, .ref yo, .ref yt, .int mk0, .ref yfa, .ref yfe, .int mL, .int mS, .int mM, .ref yro, .ref yhe, .ref ygr, .int mF, .int mC, .int mY, .ref yta, .int (nI (mz)), .int (nI (mf)), .int (nI (mt)), .int mv, .int mw, .ref ywa, .ref ybi, .ref ysi, .ref ynu, .ref ymo])), (ys, .inl (cI, 449, .inl ms2_23))] H := hP
          have hD : va_D A [(yt, .inl (cI, 7, .inl mq)), (h0, .inr (9, [.ref ys, .ref yk, .ref yo, .ref yt, .int mk0, .ref yfa, .ref yfe, .int mL, .int mS, .int mM, .ref yro, .ref yhe, .ref ygr, .int mF, .int mC, .int mY, .ref yta, .int (nI (mz)), .int (nI (mf)), .int (nI (mt)), .int mv, .int mw, .ref ywa, .ref ybi, .ref ysi, .ref ynu, .ref ymo])), (ys, .inl (cI, 449, .inl ms2_23))] := hD
          subst hw_r_22
          exact W.iret (v := nI (Wn)) hx hb hr (fun t ht hW => ⟨⟨nI (Wn), (ms2_23, mq, Wn + 1, upd fawn Wn 2, upd (upd fawp (Wn * 6 + 0) (nI j_2)) (Wn * 6 + 1) (nI k_3), upd fat Wn p2, upd fas Wn p3), rfl, ⟨(sp_wk1 ⟨⟨isP_nI (by omega) (by omega), isP_nI (by omega) (by omega), fun h => absurd (xn_eq (by omega) (by omega) h) (by omega)⟩, ⟨h_12, h_13⟩, ⟨h_17, h_18⟩⟩ (by omega)).2, (sp_wk1 ⟨⟨isP_nI (by omega) (by omega), isP_nI (by omega) (by omega), fun h => absurd (xn_eq (by omega) (by omega) h) (by omega)⟩, ⟨h_12, h_13⟩, ⟨h_17, h_18⟩⟩ (by omega)).1, ((wk_yes (P := P) (W := Wn) (p := nI j_2) (q := nI k_3) (t := p2) (s := p3) ⟨⟨⟨isP_nI (by omega) (by omega), isP_nI (by omega) (by omega), fun h => absurd (xn_eq (by omega) (by omega) h) (by omega)⟩, ⟨h_12, h_13⟩, ⟨h_17, h_18⟩⟩, by omega⟩).1 _), ((wk_yes (P := P) (W := Wn) (p := nI j_2) (q := nI k_3) (t := p2) (s := p3) ⟨⟨⟨isP_nI (by omega) (by omega), isP_nI (by omega) (by omega), fun h => absurd (xn_eq (by omega) (by omega) h) (by omega)⟩, ⟨h_12, h_13⟩, ⟨h_17, h_18⟩⟩, by omega⟩).2.1 _), ((wk_yes (P := P) (W := Wn) (p := nI j_2) (q := nI k_3) (t := p2) (s := p3) ⟨⟨⟨isP_nI (by omega) (by omega), isP_nI (by omega) (by omega), fun h => absurd (xn_eq (by omega) (by omega) h) (by omega)⟩, ⟨h_12, h_13⟩, ⟨h_17, h_18⟩⟩, by omega⟩).2.2 _ _), ((wk_yes (P := P) (W := Wn) (p := nI j_2) (q := nI k_3) (t := p2) (s := p3) ⟨⟨⟨isP_nI (by omega) (by omega), isP_nI (by omega) (by omega), fun h => absurd (xn_eq (by omega) (by omega) h) (by omega)⟩, ⟨h_12, h_13⟩, ⟨h_17, h_18⟩⟩, by omega⟩).2.2 _ _), i_24, i_25, i_26, i_27, i_28, i_29, i_30, i_31, i_32, i_33⟩, by rw [ht]; exact hP.sub [1, 2, 0] rfl, hD.sub [1, 2, 0] (by decide) rfl⟩, hS.F ht⟩) hS.2.2 dX9_walk_65 hlk
        · skip
          have nc_21 : Wn = 8 := xn_eq (a := Wn) (b := 8) (by omega) (by omega) c_21
          refine lv_aload_n hx hb dX9_walk_47 rfl (lv_at hl 0 rfl) ?_
          refine lv_ldc (v := (-1000000002)) hx hb hown (hu _ uw676) dX9_walk_48 ?_
          refine xc_Vi (wr := [(ys, .inl (cI, 449, .inl ms))]) hF (c_X9_finds_F l D cI cJ cZ cS ta sa sv s.heap.size h0 ys yk yo yt mk0 yfa yfe mL mS mM yro yhe ygr mF mC mY yta mz mf mt mv mw ywa ybi ysi ynu ymo mq ) kv_X9_70 ⟨rfl, rfl, Nat.le_of_ble_eq_true rfl, Nat.le_of_ble_eq_true rfl⟩ ⟨Nat.le_of_ble_eq_true rfl, Nat.le_of_ble_eq_true rfl⟩ hK hN hZ hP hD hS hA [0, 2] [1] rfl rfl rfl rfl (by decide) 0 rfl rfl rfl rfl hl.1 rfl (Nat.le_of_ble_eq_true rfl) dX9_walk_50 (fun r_34 u_r_34 H locs hw_r_34 hP hD hS => ?_)
          obtain ⟨mq2_35, rfl⟩ : ∃ z, z = u_r_34 := ⟨_, rfl⟩
          try dsimp only at hw_r_34
          have hP : va_P D vwCl [(ys, .inl (cI, 449, .inl ms)), (h0, .inr (9, [.ref ys, .ref yk, .ref yo, .ref yt, .int mk0, .ref yfa, .ref yfe, .int mL, .int mS, .int mM, .ref yro, .ref yhe, .ref ygr, .int mF, .int mC, .int mY, .ref yta, .int (nI (mz)), .int (nI (mf)), .int (nI (mt)), .int mv, .int mw, .ref ywa, .ref ybi, .ref ysi, .ref ynu, .ref ymo])), (yt, .inl (cI, 7, .inl mq2_35))] H := hP
          have hD : va_D A [(ys, .inl (cI, 449, .inl ms)), (h0, .inr (9, [.ref ys, .ref yk, .ref yo, .ref yt, .int mk0, .ref yfa, .ref yfe, .int mL, .int mS, .int mM, .ref yro, .ref yhe, .ref ygr, .int mF, .int mC, .int mY, .ref yta, .int (nI (mz)), .int (nI (mf)), .int (nI (mt)), .int mv, .int mw, .ref ywa, .ref ybi, .ref ysi, .ref ynu, .ref ymo])), (yt, .inl (cI, 7, .inl mq2_35))] := hD
          subst hw_r_34
          refine lv_goto (tgt := 65) hx hb dX9_walk_53 (by decide) ?_
          exact W.iret (v := (-1000000002)) hx hb hr (fun t ht hW => ⟨⟨(-1000000002), (ms, mq2_35, Wn, fawn, fawp, fat, fas), rfl, ⟨(sp_wk2 ⟨⟨isP_nI (by omega) (by omega), isP_nI (by omega) (by omega), fun h => absurd (xn_eq (by omega) (by omega) h) (by omega)⟩, ⟨h_12, h_13⟩, ⟨h_17, h_18⟩⟩ (by omega)).2, (sp_wk2 ⟨⟨isP_nI (by omega) (by omega), isP_nI (by omega) (by omega), fun h => absurd (xn_eq (by omega) (by omega) h) (by omega)⟩, ⟨h_12, h_13⟩, ⟨h_17, h_18⟩⟩ (by omega)).1, ((wk_no (P := P) (W := Wn) (fun h => absurd h.2 (by omega))).1 _), ((wk_no (P := P) (W := Wn) (fun h => absurd h.2 (by omega))).2.1 _), ((wk_no (P := P) (W := Wn) (fun h => absurd h.2 (by omega))).2.2 _ _), ((wk_no (P := P) (W := Wn) (fun h => absurd h.2 (by omega))).2.2 _ _), hs0, hs1, hs2, hsS, hsM, hsp, hsr, hsw, hsR, hsG⟩, by rw [ht]; exact hP.sub [1, 0, 2] rfl, hD.sub [1, 0, 2] (by decide) rfl⟩, hS.F ht⟩) hS.2.2 dX9_walk_65 hlk
      · skip
        refine lv_if_ne (tgt := 36) hx hb dX9_walk_26 (by decide) (fun c_36 => absurd (by decide) c_36) (fun c_36 => ?_)
        refine lv_aload_n hx hb dX9_walk_29 rfl (lv_at hl 0 rfl) ?_
        refine lv_ldc (v := (-1000000001)) hx hb hown (hu _ uw648) dX9_walk_30 ?_
        refine xc_Vi (wr := [(ys, .inl (cI, 449, .inl ms))]) hF (c_X9_finds_B l D cI cJ cZ cS ta sa sv s.heap.size h0 ys yk yo yt mk0 yfa yfe mL mS mM yro yhe ygr mF mC mY yta mz mf mt mv mw ywa ybi ysi ynu ymo mq ) kv_X9_70 ⟨rfl, rfl, Nat.le_of_ble_eq_true rfl, Nat.le_of_ble_eq_true rfl⟩ ⟨Nat.le_of_ble_eq_true rfl, Nat.le_of_ble_eq_true rfl⟩ hK hN hZ hP hD hS hA [0, 2] [1] rfl rfl rfl rfl (by decide) 0 rfl rfl rfl rfl hl.1 rfl (Nat.le_of_ble_eq_true rfl) dX9_walk_32 (fun r_37 u_r_37 H locs hw_r_37 hP hD hS => ?_)
        obtain ⟨mq2_38, rfl⟩ : ∃ z, z = u_r_37 := ⟨_, rfl⟩
        try dsimp only at hw_r_37
        have hP : va_P D vwCl [(ys, .inl (cI, 449, .inl ms)), (h0, .inr (9, [.ref ys, .ref yk, .ref yo, .ref yt, .int mk0, .ref yfa, .ref yfe, .int mL, .int mS, .int mM, .ref yro, .ref yhe, .ref ygr, .int mF, .int mC, .int mY, .ref yta, .int (nI (mz)), .int (nI (mf)), .int (nI (mt)), .int mv, .int mw, .ref ywa, .ref ybi, .ref ysi, .ref ynu, .ref ymo])), (yt, .inl (cI, 7, .inl mq2_38))] H := hP
        have hD : va_D A [(ys, .inl (cI, 449, .inl ms)), (h0, .inr (9, [.ref ys, .ref yk, .ref yo, .ref yt, .int mk0, .ref yfa, .ref yfe, .int mL, .int mS, .int mM, .ref yro, .ref yhe, .ref ygr, .int mF, .int mC, .int mY, .ref yta, .int (nI (mz)), .int (nI (mf)), .int (nI (mt)), .int mv, .int mw, .ref ywa, .ref ybi, .ref ysi, .ref ynu, .ref ymo])), (yt, .inl (cI, 7, .inl mq2_38))] := hD
        subst hw_r_37
        exact W.iret (v := (-1000000001)) hx hb hr (fun t ht hW => ⟨⟨(-1000000001), (ms, mq2_38, Wn, fawn, fawp, fat, fas), rfl, ⟨(sp_wk3 (P := P) (W := Wn) (fun h => h_19.elim h.2.2.1 h.2.2.2)).2, (sp_wk3 (P := P) (W := Wn) (fun h => h_19.elim h.2.2.1 h.2.2.2)).1, ((wk_no (P := P) (W := Wn) (fun h => h_19.elim h.1.2.2.1 h.1.2.2.2)).1 _), ((wk_no (P := P) (W := Wn) (fun h => h_19.elim h.1.2.2.1 h.1.2.2.2)).2.1 _), ((wk_no (P := P) (W := Wn) (fun h => h_19.elim h.1.2.2.1 h.1.2.2.2)).2.2 _ _), ((wk_no (P := P) (W := Wn) (fun h => h_19.elim h.1.2.2.1 h.1.2.2.2)).2.2 _ _), hs0, hs1, hs2, hsS, hsM, hsp, hsr, hsw, hsR, hsG⟩, by rw [ht]; exact hP.sub [1, 0, 2] rfl, hD.sub [1, 0, 2] (by decide) rfl⟩, hS.F ht⟩) hS.2.2 dX9_walk_35 hlk
    · skip
      refine lv_if_eq (tgt := 29) hx hb dX9_walk_13 (by decide) (fun c_39 => ?_) (fun c_39 => absurd (by decide) c_39)
      refine lv_aload_n hx hb dX9_walk_29 rfl (lv_at hl 0 rfl) ?_
      refine lv_ldc (v := (-1000000001)) hx hb hown (hu _ uw648) dX9_walk_30 ?_
      refine xc_Vi (wr := [(ys, .inl (cI, 449, .inl ms))]) hF (c_X9_finds_B l D cI cJ cZ cS ta sa sv s.heap.size h0 ys yk yo yt mk0 yfa yfe mL mS mM yro yhe ygr mF mC mY yta mz mf mt mv mw ywa ybi ysi ynu ymo mq ) kv_X9_70 ⟨rfl, rfl, Nat.le_of_ble_eq_true rfl, Nat.le_of_ble_eq_true rfl⟩ ⟨Nat.le_of_ble_eq_true rfl, Nat.le_of_ble_eq_true rfl⟩ hK hN hZ hP hD hS hA [0, 2] [1] rfl rfl rfl rfl (by decide) 0 rfl rfl rfl rfl hl.1 rfl (Nat.le_of_ble_eq_true rfl) dX9_walk_32 (fun r_40 u_r_40 H locs hw_r_40 hP hD hS => ?_)
      obtain ⟨mq2_41, rfl⟩ : ∃ z, z = u_r_40 := ⟨_, rfl⟩
      try dsimp only at hw_r_40
      have hP : va_P D vwCl [(ys, .inl (cI, 449, .inl ms)), (h0, .inr (9, [.ref ys, .ref yk, .ref yo, .ref yt, .int mk0, .ref yfa, .ref yfe, .int mL, .int mS, .int mM, .ref yro, .ref yhe, .ref ygr, .int mF, .int mC, .int mY, .ref yta, .int (nI (mz)), .int (nI (mf)), .int (nI (mt)), .int mv, .int mw, .ref ywa, .ref ybi, .ref ysi, .ref ynu, .ref ymo])), (yt, .inl (cI, 7, .inl mq2_41))] H := hP
      have hD : va_D A [(ys, .inl (cI, 449, .inl ms)), (h0, .inr (9, [.ref ys, .ref yk, .ref yo, .ref yt, .int mk0, .ref yfa, .ref yfe, .int mL, .int mS, .int mM, .ref yro, .ref yhe, .ref ygr, .int mF, .int mC, .int mY, .ref yta, .int (nI (mz)), .int (nI (mf)), .int (nI (mt)), .int mv, .int mw, .ref ywa, .ref ybi, .ref ysi, .ref ynu, .ref ymo])), (yt, .inl (cI, 7, .inl mq2_41))] := hD
      subst hw_r_40
      exact W.iret (v := (-1000000001)) hx hb hr (fun t ht hW => ⟨⟨(-1000000001), (ms, mq2_41, Wn, fawn, fawp, fat, fas), rfl, ⟨(sp_wk3 (P := P) (W := Wn) (fun h => h_14.elim h.2.1.1 h.2.1.2)).2, (sp_wk3 (P := P) (W := Wn) (fun h => h_14.elim h.2.1.1 h.2.1.2)).1, ((wk_no (P := P) (W := Wn) (fun h => h_14.elim h.1.2.1.1 h.1.2.1.2)).1 _), ((wk_no (P := P) (W := Wn) (fun h => h_14.elim h.1.2.1.1 h.1.2.1.2)).2.1 _), ((wk_no (P := P) (W := Wn) (fun h => h_14.elim h.1.2.1.1 h.1.2.1.2)).2.2 _ _), ((wk_no (P := P) (W := Wn) (fun h => h_14.elim h.1.2.1.1 h.1.2.1.2)).2.2 _ _), hs0, hs1, hs2, hsS, hsM, hsp, hsr, hsw, hsR, hsG⟩, by rw [ht]; exact hP.sub [1, 0, 2] rfl, hD.sub [1, 0, 2] (by decide) rfl⟩, hS.F ht⟩) hS.2.2 dX9_walk_35 hlk
  · skip
    refine lv_if_eq (tgt := 29) hx hb dX9_walk_6 (by decide) (fun c_42 => ?_) (fun c_42 => absurd (by decide) c_42)
    refine lv_aload_n hx hb dX9_walk_29 rfl (lv_at hl 0 rfl) ?_
    refine lv_ldc (v := (-1000000001)) hx hb hown (hu _ uw648) dX9_walk_30 ?_
    refine xc_Vi (wr := [(ys, .inl (cI, 449, .inl ms))]) hF (c_X9_finds_B l D cI cJ cZ cS ta sa sv s.heap.size h0 ys yk yo yt mk0 yfa yfe mL mS mM yro yhe ygr mF mC mY yta mz mf mt mv mw ywa ybi ysi ynu ymo mq ) kv_X9_70 ⟨rfl, rfl, Nat.le_of_ble_eq_true rfl, Nat.le_of_ble_eq_true rfl⟩ ⟨Nat.le_of_ble_eq_true rfl, Nat.le_of_ble_eq_true rfl⟩ hK hN hZ hP hD hS hA [0, 2] [1] rfl rfl rfl rfl (by decide) 0 rfl rfl rfl rfl hl.1 rfl (Nat.le_of_ble_eq_true rfl) dX9_walk_32 (fun r_43 u_r_43 H locs hw_r_43 hP hD hS => ?_)
    obtain ⟨mq2_44, rfl⟩ : ∃ z, z = u_r_43 := ⟨_, rfl⟩
    try dsimp only at hw_r_43
    have hP : va_P D vwCl [(ys, .inl (cI, 449, .inl ms)), (h0, .inr (9, [.ref ys, .ref yk, .ref yo, .ref yt, .int mk0, .ref yfa, .ref yfe, .int mL, .int mS, .int mM, .ref yro, .ref yhe, .ref ygr, .int mF, .int mC, .int mY, .ref yta, .int (nI (mz)), .int (nI (mf)), .int (nI (mt)), .int mv, .int mw, .ref ywa, .ref ybi, .ref ysi, .ref ynu, .ref ymo])), (yt, .inl (cI, 7, .inl mq2_44))] H := hP
    have hD : va_D A [(ys, .inl (cI, 449, .inl ms)), (h0, .inr (9, [.ref ys, .ref yk, .ref yo, .ref yt, .int mk0, .ref yfa, .ref yfe, .int mL, .int mS, .int mM, .ref yro, .ref yhe, .ref ygr, .int mF, .int mC, .int mY, .ref yta, .int (nI (mz)), .int (nI (mf)), .int (nI (mt)), .int mv, .int mw, .ref ywa, .ref ybi, .ref ysi, .ref ynu, .ref ymo])), (yt, .inl (cI, 7, .inl mq2_44))] := hD
    subst hw_r_43
    exact W.iret (v := (-1000000001)) hx hb hr (fun t ht hW => ⟨⟨(-1000000001), (ms, mq2_44, Wn, fawn, fawp, fat, fas), rfl, ⟨(sp_wk3 (P := P) (W := Wn) (fun h => h_9 h.1)).2, (sp_wk3 (P := P) (W := Wn) (fun h => h_9 h.1)).1, ((wk_no (P := P) (W := Wn) (fun h => h_9 h.1.1)).1 _), ((wk_no (P := P) (W := Wn) (fun h => h_9 h.1.1)).2.1 _), ((wk_no (P := P) (W := Wn) (fun h => h_9 h.1.1)).2.2 _ _), ((wk_no (P := P) (W := Wn) (fun h => h_9 h.1.1)).2.2 _ _), hs0, hs1, hs2, hsS, hsM, hsp, hsr, hsw, hsR, hsG⟩, by rw [ht]; exact hP.sub [1, 0, 2] rfl, hD.sub [1, 0, 2] (by decide) rfl⟩, hS.F ht⟩) hS.2.2 dX9_walk_35 hlk
set_option maxHeartbeats 4000000 in
set_option maxRecDepth 100000 in
theorem c_X9_on (l : Launch) (D : va_G) (cI cJ cZ cS : ClassId) (ta : Nat) (sa sv : Nat → Nat) (sz : Nat) (h0 : Nat) (ys : Nat) (yk : Nat) (yo : Nat) (yt : Nat) (mk0 : Int32) (yfa : Nat) (yfe : Nat) (mL : Int32) (mS : Int32) (mM : Int32) (yro : Nat) (yhe : Nat) (ygr : Nat) (mF : Int32) (mC : Int32) (mY : Int32) (yta : Nat) (mz : Nat) (mf : Nat) (mt : Nat) (mv : Int32) (mw : Int32) (ywa : Nat) (ybi : Nat) (ysi : Nat) (ynu : Nat) (ymo : Nat) (ms : Nat → Int32) (mq : Nat → Int32) (P : Nat) (Rn : Nat) (Wn : Nat) (fae : Nat → Int32) (fal : Nat → Int32) (fau : Nat → Int32) (fao : Nat → Int32) (farn : Nat → Int32) (farp : Nat → Int32) (fak : Nat → Int32) (fawn : Nat → Int32) (fawp : Nat → Int32) (fat : Nat → Int32) (fas : Nat → Int32) (p0 : Int32) (p1 : Int32) (hLL : LL Wn fawn) (hs0 : ms 0 = nI P) (hs1 : ms 1 = nI Rn) (hs2 : ms 2 = nI Wn) (hsS : SI ms) (hsM : MI ms) (hsp : P ≤ 10) (hsr : Rn ≤ 8) (hsw : Wn ≤ 8) (hsR : RI Rn ms) (hsG : FR P ms fae fal fau fao farn farp fak fawn fawp fat fas) : Met l yX9_on (Cond.code yX9_on cX9_on 4 (some .int) :: wsU) ({ frames := 2, cells := 0, slots := 0, locals := 46 }) (va_Pc [.ref h0, .int p0, .int p1] (XW D (xT cI cJ cZ cS) ta sa sv [(h0, .inr (9, [.ref ys, .ref yk, .ref yo, .ref yt, .int mk0, .ref yfa, .ref yfe, .int mL, .int mS, .int mM, .ref yro, .ref yhe, .ref ygr, .int mF, .int mC, .int mY, .ref yta, .int (nI (mz)), .int (nI (mf)), .int (nI (mt)), .int mv, .int mw, .ref ywa, .ref ybi, .ref ysi, .ref ynu, .ref ymo])), (ys, .inl (cI, 449, .inl ms)), (yt, .inl (cI, 7, .inl mq))] sz)) (XQi (fun (r : Int32) (u : (Nat → Int32) × (Nat → Int32) × (Nat → Int32) × (Nat → Int32)) => match u with | (ms2, mq2, gwn, gwp) => ((r = onR P Wn p0 p1 fawn fawp)) ∧ (gwn = onN P Wn p0 p1 fawn fawp) ∧ (gwp = onS P Wn p0 p1 fawn fawp) ∧ (ms2 0 = nI P) ∧ (ms2 1 = nI Rn) ∧ (ms2 2 = nI Wn) ∧ (SI ms2) ∧ (MI ms2) ∧ (P ≤ 10) ∧ (Rn ≤ 8) ∧ (Wn ≤ 8) ∧ (RI Rn ms2) ∧ (FR P ms2 fae fal fau fao farn farp fak gwn gwp fat fas)) D (fun (u : (Nat → Int32) × (Nat → Int32) × (Nat → Int32) × (Nat → Int32)) => match u with | (ms2, mq2, gwn, gwp) => [(h0, .inr (9, [.ref ys, .ref yk, .ref yo, .ref yt, .int mk0, .ref yfa, .ref yfe, .int mL, .int mS, .int mM, .ref yro, .ref yhe, .ref ygr, .int mF, .int mC, .int mY, .ref yta, .int (nI (mz)), .int (nI (mf)), .int (nI (mt)), .int mv, .int mw, .ref ywa, .ref ybi, .ref ysi, .ref ynu, .ref ymo])), (ys, .inl (cI, 449, .inl ms2)), (yt, .inl (cI, 7, .inl mq2))]) (va_A [(h0, .inr (9, [.ref ys, .ref yk, .ref yo, .ref yt, .int mk0, .ref yfa, .ref yfe, .int mL, .int mS, .int mM, .ref yro, .ref yhe, .ref ygr, .int mF, .int mC, .int mY, .ref yta, .int (nI (mz)), .int (nI (mf)), .int (nI (mt)), .int mv, .int mw, .ref ywa, .ref ybi, .ref ysi, .ref ynu, .ref ymo])), (ys, .inl (cI, 449, .inl ms)), (yt, .inl (cI, 7, .inl mq))] sz)) 0 0 (va_A [(h0, .inr (9, [.ref ys, .ref yk, .ref yo, .ref yt, .int mk0, .ref yfa, .ref yfe, .int mL, .int mS, .int mM, .ref yro, .ref yhe, .ref ygr, .int mF, .int mC, .int mY, .ref yta, .int (nI (mz)), .int (nI (mf)), .int (nI (mt)), .int mv, .int mw, .ref ywa, .ref ybi, .ref ysi, .ref ynu, .ref ymo])), (ys, .inl (cI, 449, .inl ms)), (yt, .inl (cI, 7, .inl mq))] sz) := by
  refine xh (QA := fun A => XQi (fun (r : Int32) (u : (Nat → Int32) × (Nat → Int32) × (Nat → Int32) × (Nat → Int32)) => match u with | (ms2, mq2, gwn, gwp) => ((r = onR P Wn p0 p1 fawn fawp)) ∧ (gwn = onN P Wn p0 p1 fawn fawp) ∧ (gwp = onS P Wn p0 p1 fawn fawp) ∧ (ms2 0 = nI P) ∧ (ms2 1 = nI Rn) ∧ (ms2 2 = nI Wn) ∧ (SI ms2) ∧ (MI ms2) ∧ (P ≤ 10) ∧ (Rn ≤ 8) ∧ (Wn ≤ 8) ∧ (RI Rn ms2) ∧ (FR P ms2 fae fal fau fao farn farp fak gwn gwp fat fas)) D (fun (u : (Nat → Int32) × (Nat → Int32) × (Nat → Int32) × (Nat → Int32)) => match u with | (ms2, mq2, gwn, gwp) => [(h0, .inr (9, [.ref ys, .ref yk, .ref yo, .ref yt, .int mk0, .ref yfa, .ref yfe, .int mL, .int mS, .int mM, .ref yro, .ref yhe, .ref ygr, .int mF, .int mC, .int mY, .ref yta, .int (nI (mz)), .int (nI (mf)), .int (nI (mt)), .int mv, .int mw, .ref ywa, .ref ybi, .ref ysi, .ref ynu, .ref ymo])), (ys, .inl (cI, 449, .inl ms2)), (yt, .inl (cI, 7, .inl mq2))]) A) (fr := fun A => A) (by decide) (Nat.le_of_ble_eq_true rfl) ?_
  intro p e s m below meth c ls A hF hr hlk hin hsz hP hK hD hN hZ hA hS hl
  have hF : CallFix p m c cX9_on 4 s _ _ RX9 := hF
  have hx := hF.1
  have hb := hF.2.1
  have hml := hF.2.2.1
  have hown := hF.2.2.2.1
  have hu : ∀ w ∈ wsU, w.before _ s = true := fun w h => hF.2.2.2.2 w (List.mem_cons_of_mem _ h)
  have hl : lv_has ls 4 [(0, .ref h0), (1, .int p0), (2, .int p1)] := hl
  refine lv_iload_n hx hb dX9_on_0 rfl (lv_at hl 1 rfl) ?_
  refine lv_i2l (v := p0.toInt64) hx hb dX9_on_1 rfl ?_
  refine lv_lconst (v := 0) hx hb dX9_on_2 (by decide) ?_
  refine xl_l (y := (0 : Int32).toInt64) (by decide) ?_
  refine lv_aload_n hx hb dX9_on_3 rfl (lv_at hl 0 rfl) ?_
  refine xg hF kf_X9_7 hK hP 0 rfl rfl dX9_on_4 ?_
  refine lv_iconst (v := 2) hx hb dX9_on_7 (by decide) ?_
  refine va_iald hx hb hK hP 1 0 rfl rfl (xin 2 449 (by decide) (by decide)) dX9_on_8 ?_
  refine xl_i (y := nI (Wn)) hs2 ?_
  refine lv_iconst (v := 1) hx hb dX9_on_9 (by decide) ?_
  refine lv_isub hx hb dX9_on_10 ?_
  refine lv_topi (fun x_1 ex_1 => ?_)
  refine lv_i2l (v := x_1.toInt64) hx hb dX9_on_11 rfl ?_
  refine xc_Sr hF (c_X9_in l D cI cJ cZ cS ta sa sv s.heap.size p0 0 x_1 ) ks_X9_57 ⟨rfl, rfl, Nat.le_of_ble_eq_true rfl, Nat.le_of_ble_eq_true rfl⟩ ⟨Nat.le_of_ble_eq_true rfl, Nat.le_of_ble_eq_true rfl⟩ hK hN hZ hP hD hS hA [] rfl rfl rfl hl.1 rfl (Nat.le_of_ble_eq_true rfl) dX9_on_12 (fun r_2 hw_r_2 => ?_)
  rcases hw_r_2 with ⟨rfl, h_3, h_4⟩ | ⟨rfl, h_5⟩
  · skip
    refine lv_if_eq (tgt := 59) hx hb dX9_on_15 (by decide) (fun c_6 => absurd c_6 (by decide)) (fun c_6 => ?_)
    obtain ⟨y_7, hy_7, rfl⟩ := x_pl3 (by omega) ex_1 h_3 h_4
    refine lv_aload_n hx hb dX9_on_18 rfl (lv_at hl 0 rfl) ?_
    refine lv_iload_n hx hb dX9_on_19 rfl (lv_at hl 2 rfl) ?_
    refine xc_Vr hF (c_X9_isPlace l D cI cJ cZ cS ta sa sv s.heap.size h0 ys yk yo yt mk0 yfa yfe mL mS mM yro yhe ygr mF mC mY yta mz mf mt mv mw ywa ybi ysi ynu ymo ms P Rn Wn fae fal fau fao farn farp fak fawn fawp fat fas p1 hs0 hs1 hs2 hsS hsM hsp hsr hsw hsR hsG) kv_X9_61 ⟨rfl, rfl, Nat.le_of_ble_eq_true rfl, Nat.le_of_ble_eq_true rfl⟩ ⟨Nat.le_of_ble_eq_true rfl, Nat.le_of_ble_eq_true rfl⟩ hK hN hZ hP hD hS hA [0, 1] rfl rfl 0 rfl rfl rfl rfl hl.1 rfl (Nat.le_of_ble_eq_true rfl) dX9_on_20 (fun r_8 hw_r_8 => ?_)
    rcases hw_r_8 with ⟨k_9, rfl, rfl, h_11⟩ | ⟨rfl, h_12⟩
    · skip
      refine lv_if_eq (tgt := 59) hx hb dX9_on_23 (by decide) (fun c_13 => absurd c_13 (by decide)) (fun c_13 => ?_)
      refine lv_aload_n hx hb dX9_on_26 rfl (lv_at hl 0 rfl) ?_
      refine xg hF kf_X9_7 hK hP 0 rfl rfl dX9_on_27 ?_
      refine lv_sipush (v := 377) hx hb dX9_on_30 (by decide) ?_
      refine lv_bipush (v := 9) hx hb dX9_on_33 (by decide) ?_
      refine lv_iload_n hx hb dX9_on_35 rfl (lv_at hl 1 rfl) ?_
      refine lv_imul hx hb dX9_on_36 ?_
      refine xl_i (y := nI (9 * y_7)) (pk_mul 9 y_7) ?_
      refine lv_iadd hx hb dX9_on_37 ?_
      refine xl_i (y := nI (377 + (9 * y_7))) (nI_add 377 (9 * y_7)) ?_
      refine lv_iconst (v := 2) hx hb dX9_on_38 (by decide) ?_
      refine lv_iadd hx hb dX9_on_39 ?_
      refine xl_i (y := nI (377 + (9 * y_7) + 2)) (nI_add (377 + (9 * y_7)) 2) ?_
      refine lv_aload_n hx hb dX9_on_40 rfl (lv_at hl 0 rfl) ?_
      refine xg hF kf_X9_7 hK hP 0 rfl rfl dX9_on_41 ?_
      refine lv_sipush (v := 377) hx hb dX9_on_44 (by decide) ?_
      refine lv_bipush (v := 9) hx hb dX9_on_47 (by decide) ?_
      refine lv_iload_n hx hb dX9_on_49 rfl (lv_at hl 1 rfl) ?_
      refine lv_imul hx hb dX9_on_50 ?_
      refine xl_i (y := nI (9 * y_7)) (pk_mul 9 y_7) ?_
      refine lv_iadd hx hb dX9_on_51 ?_
      refine xl_i (y := nI (377 + (9 * y_7))) (nI_add 377 (9 * y_7)) ?_
      refine va_iald hx hb hK hP 1 0 rfl rfl (vp_in_nI (show 377 + (9 * y_7) < 449 by omega) (by decide)) dX9_on_52 ?_
      refine xl_i (y := ms (377 + (9 * y_7))) (congrArg ms (nI_clamp (show 377 + (9 * y_7) < 2 ^ 31 by omega))) ?_
      obtain ⟨z_14, ez_14, hz_140⟩ := hsS.wl2 y_7 (by omega) (show 377 + (9 * y_7) = _ by omega)
      have gz_14 : fawn (y_7) = nI z_14 := (FR.gwn hsG (show y_7 < 8 by omega) (by omega)).symm.trans ez_14
      refine xl_i (y := nI (z_14)) ez_14 ?_
      refine lv_iadd hx hb dX9_on_53 ?_
      refine xl_i (y := nI (377 + (9 * y_7) + 2 + z_14)) (nI_add (377 + (9 * y_7) + 2) z_14) ?_
      obtain ⟨q9, hq91, hq92, eq9⟩ := hLL y_7 (by omega)
      have hz9 : z_14 = q9 := xn_eq (by omega) (by omega) (gz_14.symm.trans eq9)
      refine va_iald hx hb hK hP 1 0 rfl rfl (vp_in_nI (show 377 + (9 * y_7) + 2 + z_14 < 449 by omega) (by decide)) dX9_on_54 ?_
      refine xl_i (y := ms (377 + (9 * y_7) + 2 + z_14)) (congrArg ms (nI_clamp (show 377 + (9 * y_7) + 2 + z_14 < 2 ^ 31 by omega))) ?_
      refine xl_i (y := fawp (y_7 * 6 + (z_14 - 1))) (FR.gwp hsG (show y_7 < 8 by omega) (show z_14 - 1 < 6 by omega) (by omega)) ?_
      refine lv_iload_n hx hb dX9_on_55 rfl (lv_at hl 2 rfl) ?_
      refine lv_icmp_ne (tgt := 66) hx hb dX9_on_56 (by decide) (fun c_15 => ?_) (fun c_15 => ?_)
      · skip
        refine lv_sipush (v := 377) hx hb dX9_on_66 (by decide) ?_
        refine lv_bipush (v := 9) hx hb dX9_on_69 (by decide) ?_
        refine lv_iload_n hx hb dX9_on_71 rfl (lv_at hl 1 rfl) ?_
        refine lv_imul hx hb dX9_on_72 ?_
        refine xl_i (y := nI (9 * y_7)) (pk_mul 9 y_7) ?_
        refine lv_iadd hx hb dX9_on_73 ?_
        refine xl_i (y := nI (377 + (9 * y_7))) (nI_add 377 (9 * y_7)) ?_
        refine lv_istore_n (lv' := [(3, .int (nI (377 + (9 * y_7)))), (0, .ref h0), (1, .int (nI (y_7))), (2, .int (nI (k_9)))]) hx hb dX9_on_74 rfl hl (by decide) rfl (fun ls hl => ?_)
        refine lv_aload_n hx hb dX9_on_75 rfl (lv_at hl 1 rfl) ?_
        refine xg hF kf_X9_7 hK hP 0 rfl rfl dX9_on_76 ?_
        refine lv_iload_n hx hb dX9_on_79 rfl (lv_at hl 0 rfl) ?_
        refine va_iald hx hb hK hP 1 0 rfl rfl (vp_in_nI (show 377 + (9 * y_7) < 449 by omega) (by decide)) dX9_on_80 ?_
        refine xl_i (y := ms (377 + (9 * y_7))) (congrArg ms (nI_clamp (show 377 + (9 * y_7) < 2 ^ 31 by omega))) ?_
        refine xl_i (y := nI (z_14)) ez_14 ?_
        refine lv_bipush (v := 6) hx hb dX9_on_81 (by decide) ?_
        refine lv_icmp_ne (tgt := 93) hx hb dX9_on_83 (by decide) (fun c_16 => ?_) (fun c_16 => ?_)
        · skip
          have nc_16 : z_14 ≠ 6 := xn_ne (a := z_14) (b := 6) (by omega) (by omega) c_16
          refine lv_aload_n hx hb dX9_on_93 rfl (lv_at hl 1 rfl) ?_
          refine xg hF kf_X9_7 hK hP 0 rfl rfl dX9_on_94 ?_
          refine lv_iload_n hx hb dX9_on_97 rfl (lv_at hl 0 rfl) ?_
          refine lv_iconst (v := 3) hx hb dX9_on_98 (by decide) ?_
          refine lv_iadd hx hb dX9_on_99 ?_
          refine xl_i (y := nI (377 + (9 * y_7) + 3)) (nI_add (377 + (9 * y_7)) 3) ?_
          refine lv_aload_n hx hb dX9_on_100 rfl (lv_at hl 1 rfl) ?_
          refine xg hF kf_X9_7 hK hP 0 rfl rfl dX9_on_101 ?_
          refine lv_iload_n hx hb dX9_on_104 rfl (lv_at hl 0 rfl) ?_
          refine va_iald hx hb hK hP 1 0 rfl rfl (vp_in_nI (show 377 + (9 * y_7) < 449 by omega) (by decide)) dX9_on_105 ?_
          refine xl_i (y := ms (377 + (9 * y_7))) (congrArg ms (nI_clamp (show 377 + (9 * y_7) < 2 ^ 31 by omega))) ?_
          refine xl_i (y := nI (z_14)) ez_14 ?_
          refine lv_iadd hx hb dX9_on_106 ?_
          refine xl_i (y := nI (377 + (9 * y_7) + 3 + z_14)) (nI_add (377 + (9 * y_7) + 3) z_14) ?_
          refine lv_iload_n hx hb dX9_on_107 rfl (lv_at hl 3 rfl) ?_
          refine va_iast hx hb hK hP hD hS 1 0 rfl rfl (vp_in_nI (show 377 + (9 * y_7) + 3 + z_14 < 449 by omega) (by decide)) dX9_on_108 (fun H locs hP hD hS => ?_)
          rw [nI_clamp (show 377 + (9 * y_7) + 3 + z_14 < 2 ^ 31 by omega)] at hP hD
          obtain ⟨f_17, ef_17⟩ : ∃ g, g = upd ms (377 + (9 * y_7) + 3 + z_14) (nI (k_9)) := ⟨_, rfl⟩
          rw [← ef_17] at hP hD
          have k0_f_17 : f_17 0 = nI P := by rw [ef_17]; exact (pk_un (show 0 ≠ (377 + (9 * y_7) + 3 + z_14) by omega)).trans hs0
          have k1_f_17 : f_17 1 = nI Rn := by rw [ef_17]; exact (pk_un (show 1 ≠ (377 + (9 * y_7) + 3 + z_14) by omega)).trans hs1
          have k2_f_17 : f_17 2 = nI Wn := by rw [ef_17]; exact (pk_un (show 2 ≠ (377 + (9 * y_7) + 3 + z_14) by omega)).trans hs2
          have kS_f_17 : SI f_17 := by rw [ef_17]; exact SI.upd hsS (okS.ws (w := y_7) (i := z_14) (by omega) (by omega) (by omega) (show k_9 < 10 by omega))
          have kM_f_17 : MI f_17 := by rw [ef_17]; exact MI.upd hsM (okM.out (show (377 + (9 * y_7) + 3 + z_14) < 13 ∨ 113 ≤ (377 + (9 * y_7) + 3 + z_14) by omega))
          have kR_f_17 : RI Rn f_17 := by rw [ef_17]; exact RI.upd hsR (fun r9 hr9 e9 => by omega)
          have kG_f_17 : FR P f_17 fae fal fau fao farn farp fak fawn (upd fawp (y_7 * 6 + z_14) (nI (k_9))) fat fas := by rw [ef_17]; exact FR.pwp hsG (show y_7 < 8 by omega) (show z_14 < 6 by omega) (by omega)
          have hP : va_P D vwCl [(h0, .inr (9, [.ref ys, .ref yk, .ref yo, .ref yt, .int mk0, .ref yfa, .ref yfe, .int mL, .int mS, .int mM, .ref yro, .ref yhe, .ref ygr, .int mF, .int mC, .int mY, .ref yta, .int (nI (mz)), .int (nI (mf)), .int (nI (mt)), .int mv, .int mw, .ref ywa, .ref ybi, .ref ysi, .ref ynu, .ref ymo])), (ys, .inl (cI, 449, .inl f_17)), (yt, .inl (cI, 7, .inl mq))] H := hP
          have hD : va_D A [(h0, .inr (9, [.ref ys, .ref yk, .ref yo, .ref yt, .int mk0, .ref yfa, .ref yfe, .int mL, .int mS, .int mM, .ref yro, .ref yhe, .ref ygr, .int mF, .int mC, .int mY, .ref yta, .int (nI (mz)), .int (nI (mf)), .int (nI (mt)), .int mv, .int mw, .ref ywa, .ref ybi, .ref ysi, .ref ynu, .ref ymo])), (ys, .inl (cI, 449, .inl f_17)), (yt, .inl (cI, 7, .inl mq))] := hD
          refine lv_aload_n hx hb dX9_on_109 rfl (lv_at hl 1 rfl) ?_
          refine xg hF kf_X9_7 hK hP 0 rfl rfl dX9_on_110 ?_
          refine lv_iload_n hx hb dX9_on_113 rfl (lv_at hl 0 rfl) ?_
          refine lv_dup2_11 hx hb dX9_on_114 rfl rfl ?_
          refine va_iald hx hb hK hP 1 0 rfl rfl (vp_in_nI (show 377 + (9 * y_7) < 449 by omega) (by decide)) dX9_on_115 ?_
          refine xl_i (y := f_17 (377 + (9 * y_7))) (congrArg f_17 (nI_clamp (show 377 + (9 * y_7) < 2 ^ 31 by omega))) ?_
          refine xl_i (y := nI (z_14)) (by rw [ef_17]; exact (pk_un (by omega)).trans ez_14) ?_
          refine lv_iconst (v := 1) hx hb dX9_on_116 (by decide) ?_
          refine lv_iadd hx hb dX9_on_117 ?_
          refine xl_i (y := nI (z_14 + 1)) (nI_add z_14 1) ?_
          refine va_iast hx hb hK hP hD hS 1 0 rfl rfl (vp_in_nI (show 377 + (9 * y_7) < 449 by omega) (by decide)) dX9_on_118 (fun H locs hP hD hS => ?_)
          rw [nI_clamp (show 377 + (9 * y_7) < 2 ^ 31 by omega)] at hP hD
          obtain ⟨f_18, ef_18⟩ : ∃ g, g = upd f_17 (377 + (9 * y_7)) (nI (z_14 + 1)) := ⟨_, rfl⟩
          rw [← ef_18] at hP hD
          have k0_f_18 : f_18 0 = nI P := by rw [ef_18]; exact (pk_un (show 0 ≠ (377 + (9 * y_7)) by omega)).trans k0_f_17
          have k1_f_18 : f_18 1 = nI Rn := by rw [ef_18]; exact (pk_un (show 1 ≠ (377 + (9 * y_7)) by omega)).trans k1_f_17
          have k2_f_18 : f_18 2 = nI Wn := by rw [ef_18]; exact (pk_un (show 2 ≠ (377 + (9 * y_7)) by omega)).trans k2_f_17
          have kS_f_18 : SI f_18 := by rw [ef_18]; exact SI.upd kS_f_17 (okS.wl (w := y_7) (q := z_14 + 1) (by omega) (by omega) (by omega))
          have kM_f_18 : MI f_18 := by rw [ef_18]; exact MI.upd kM_f_17 (okM.out (show (377 + (9 * y_7)) < 13 ∨ 113 ≤ (377 + (9 * y_7)) by omega))
          have kR_f_18 : RI Rn f_18 := by rw [ef_18]; exact RI.upd kR_f_17 (fun r9 hr9 e9 => by omega)
          have kG_f_18 : FR P f_18 fae fal fau fao farn farp fak (upd fawn (y_7) (nI (z_14 + 1))) (upd fawp (y_7 * 6 + z_14) (nI (k_9))) fat fas := by rw [ef_18]; exact FR.pwn kG_f_17 (show y_7 < 8 by omega) (by omega)
          have hP : va_P D vwCl [(h0, .inr (9, [.ref ys, .ref yk, .ref yo, .ref yt, .int mk0, .ref yfa, .ref yfe, .int mL, .int mS, .int mM, .ref yro, .ref yhe, .ref ygr, .int mF, .int mC, .int mY, .ref yta, .int (nI (mz)), .int (nI (mf)), .int (nI (mt)), .int mv, .int mw, .ref ywa, .ref ybi, .ref ysi, .ref ynu, .ref ymo])), (ys, .inl (cI, 449, .inl f_18)), (yt, .inl (cI, 7, .inl mq))] H := hP
          have hD : va_D A [(h0, .inr (9, [.ref ys, .ref yk, .ref yo, .ref yt, .int mk0, .ref yfa, .ref yfe, .int mL, .int mS, .int mM, .ref yro, .ref yhe, .ref ygr, .int mF, .int mC, .int mY, .ref yta, .int (nI (mz)), .int (nI (mf)), .int (nI (mt)), .int mv, .int mw, .ref ywa, .ref ybi, .ref ysi, .ref ynu, .ref ymo])), (ys, .inl (cI, 449, .inl f_18)), (yt, .inl (cI, 7, .inl mq))] := hD
          refine lv_aload_n hx hb dX9_on_119 rfl (lv_at hl 1 rfl) ?_
          refine xg hF kf_X9_7 hK hP 0 rfl rfl dX9_on_120 ?_
          refine lv_iload_n hx hb dX9_on_123 rfl (lv_at hl 0 rfl) ?_
          refine va_iald hx hb hK hP 1 0 rfl rfl (vp_in_nI (show 377 + (9 * y_7) < 449 by omega) (by decide)) dX9_on_124 ?_
          refine xl_i (y := f_18 (377 + (9 * y_7))) (congrArg f_18 (nI_clamp (show 377 + (9 * y_7) < 2 ^ 31 by omega))) ?_
          refine xl_i (y := nI (z_14 + 1)) (by rw [ef_18]; exact pk_us) ?_
          exact W.iret (v := nI (z_14 + 1)) hx hb hr (fun t ht hW => ⟨⟨nI (z_14 + 1), (f_18, mq, upd fawn (y_7) (nI (z_14 + 1)), upd fawp (y_7 * 6 + z_14) (nI (k_9))), rfl, ⟨(on_yes (P := P) (W := Wn) (k := y_7) (j := k_9) (q := z_14) (by omega) (by omega) (by omega) (by omega) gz_14 (by omega) c_15).1, (on_yes (P := P) (W := Wn) (k := y_7) (j := k_9) (q := z_14) (by omega) (by omega) (by omega) (by omega) gz_14 (by omega) c_15).2.1, (on_yes (P := P) (W := Wn) (k := y_7) (j := k_9) (q := z_14) (by omega) (by omega) (by omega) (by omega) gz_14 (by omega) c_15).2.2, k0_f_18, k1_f_18, k2_f_18, kS_f_18, kM_f_18, hsp, hsr, hsw, kR_f_18, kG_f_18⟩, by rw [ht]; exact hP.sub [0, 1, 2] rfl, hD.sub [0, 1, 2] (by decide) rfl⟩, hS.F ht⟩) hS.2.2 dX9_on_125 hlk
        · skip
          have nc_16 : z_14 = 6 := xn_eq (a := z_14) (b := 6) (by omega) (by omega) c_16
          refine lv_aload_n hx hb dX9_on_86 rfl (lv_at hl 1 rfl) ?_
          refine lv_ldc (v := (-1000000002)) hx hb hown (hu _ uw676) dX9_on_87 ?_
          refine xc_Vi (wr := [(ys, .inl (cI, 449, .inl ms))]) hF (c_X9_finds_F l D cI cJ cZ cS ta sa sv s.heap.size h0 ys yk yo yt mk0 yfa yfe mL mS mM yro yhe ygr mF mC mY yta mz mf mt mv mw ywa ybi ysi ynu ymo mq ) kv_X9_70 ⟨rfl, rfl, Nat.le_of_ble_eq_true rfl, Nat.le_of_ble_eq_true rfl⟩ ⟨Nat.le_of_ble_eq_true rfl, Nat.le_of_ble_eq_true rfl⟩ hK hN hZ hP hD hS hA [0, 2] [1] rfl rfl rfl rfl (by decide) 0 rfl rfl rfl rfl hl.1 rfl (Nat.le_of_ble_eq_true rfl) dX9_on_89 (fun r_19 u_r_19 H locs hw_r_19 hP hD hS => ?_)
          obtain ⟨mq2_20, rfl⟩ : ∃ z, z = u_r_19 := ⟨_, rfl⟩
          try dsimp only at hw_r_19
          have hP : va_P D vwCl [(ys, .inl (cI, 449, .inl ms)), (h0, .inr (9, [.ref ys, .ref yk, .ref yo, .ref yt, .int mk0, .ref yfa, .ref yfe, .int mL, .int mS, .int mM, .ref yro, .ref yhe, .ref ygr, .int mF, .int mC, .int mY, .ref yta, .int (nI (mz)), .int (nI (mf)), .int (nI (mt)), .int mv, .int mw, .ref ywa, .ref ybi, .ref ysi, .ref ynu, .ref ymo])), (yt, .inl (cI, 7, .inl mq2_20))] H := hP
          have hD : va_D A [(ys, .inl (cI, 449, .inl ms)), (h0, .inr (9, [.ref ys, .ref yk, .ref yo, .ref yt, .int mk0, .ref yfa, .ref yfe, .int mL, .int mS, .int mM, .ref yro, .ref yhe, .ref ygr, .int mF, .int mC, .int mY, .ref yta, .int (nI (mz)), .int (nI (mf)), .int (nI (mt)), .int mv, .int mw, .ref ywa, .ref ybi, .ref ysi, .ref ynu, .ref ymo])), (yt, .inl (cI, 7, .inl mq2_20))] := hD
          subst hw_r_19
          exact W.iret (v := (-1000000002)) hx hb hr (fun t ht hW => ⟨⟨(-1000000002), (ms, mq2_20, fawn, fawp), rfl, ⟨(on_full (P := P) (W := Wn) (k := y_7) (j := k_9) (q := z_14) (by omega) (by omega) (by omega) (by omega) gz_14 (by omega) (by omega) c_15).1, (on_full (P := P) (W := Wn) (k := y_7) (j := k_9) (q := z_14) (by omega) (by omega) (by omega) (by omega) gz_14 (by omega) (by omega) c_15).2.1, (on_full (P := P) (W := Wn) (k := y_7) (j := k_9) (q := z_14) (by omega) (by omega) (by omega) (by omega) gz_14 (by omega) (by omega) c_15).2.2, hs0, hs1, hs2, hsS, hsM, hsp, hsr, hsw, hsR, hsG⟩, by rw [ht]; exact hP.sub [1, 0, 2] rfl, hD.sub [1, 0, 2] (by decide) rfl⟩, hS.F ht⟩) hS.2.2 dX9_on_92 hlk
      · skip
        refine lv_aload_n hx hb dX9_on_59 rfl (lv_at hl 0 rfl) ?_
        refine lv_ldc (v := (-1000000001)) hx hb hown (hu _ uw648) dX9_on_60 ?_
        refine xc_Vi (wr := [(ys, .inl (cI, 449, .inl ms))]) hF (c_X9_finds_B l D cI cJ cZ cS ta sa sv s.heap.size h0 ys yk yo yt mk0 yfa yfe mL mS mM yro yhe ygr mF mC mY yta mz mf mt mv mw ywa ybi ysi ynu ymo mq ) kv_X9_70 ⟨rfl, rfl, Nat.le_of_ble_eq_true rfl, Nat.le_of_ble_eq_true rfl⟩ ⟨Nat.le_of_ble_eq_true rfl, Nat.le_of_ble_eq_true rfl⟩ hK hN hZ hP hD hS hA [0, 2] [1] rfl rfl rfl rfl (by decide) 0 rfl rfl rfl rfl hl.1 rfl (Nat.le_of_ble_eq_true rfl) dX9_on_62 (fun r_21 u_r_21 H locs hw_r_21 hP hD hS => ?_)
        obtain ⟨mq2_22, rfl⟩ : ∃ z, z = u_r_21 := ⟨_, rfl⟩
        try dsimp only at hw_r_21
        have hP : va_P D vwCl [(ys, .inl (cI, 449, .inl ms)), (h0, .inr (9, [.ref ys, .ref yk, .ref yo, .ref yt, .int mk0, .ref yfa, .ref yfe, .int mL, .int mS, .int mM, .ref yro, .ref yhe, .ref ygr, .int mF, .int mC, .int mY, .ref yta, .int (nI (mz)), .int (nI (mf)), .int (nI (mt)), .int mv, .int mw, .ref ywa, .ref ybi, .ref ysi, .ref ynu, .ref ymo])), (yt, .inl (cI, 7, .inl mq2_22))] H := hP
        have hD : va_D A [(ys, .inl (cI, 449, .inl ms)), (h0, .inr (9, [.ref ys, .ref yk, .ref yo, .ref yt, .int mk0, .ref yfa, .ref yfe, .int mL, .int mS, .int mM, .ref yro, .ref yhe, .ref ygr, .int mF, .int mC, .int mY, .ref yta, .int (nI (mz)), .int (nI (mf)), .int (nI (mt)), .int mv, .int mw, .ref ywa, .ref ybi, .ref ysi, .ref ynu, .ref ymo])), (yt, .inl (cI, 7, .inl mq2_22))] := hD
        subst hw_r_21
        exact W.iret (v := (-1000000001)) hx hb hr (fun t ht hW => ⟨⟨(-1000000001), (ms, mq2_22, fawn, fawp), rfl, ⟨(on_no (P := P) (W := Wn) (wn := fawn) (wp := fawp) (on_same (P := P) (q := z_14) (by omega) (by omega) (by omega) gz_14 (by omega) c_15)).1, (on_no (P := P) (W := Wn) (wn := fawn) (wp := fawp) (on_same (P := P) (q := z_14) (by omega) (by omega) (by omega) gz_14 (by omega) c_15)).2.1, (on_no (P := P) (W := Wn) (wn := fawn) (wp := fawp) (on_same (P := P) (q := z_14) (by omega) (by omega) (by omega) gz_14 (by omega) c_15)).2.2, hs0, hs1, hs2, hsS, hsM, hsp, hsr, hsw, hsR, hsG⟩, by rw [ht]; exact hP.sub [1, 0, 2] rfl, hD.sub [1, 0, 2] (by decide) rfl⟩, hS.F ht⟩) hS.2.2 dX9_on_65 hlk
    · skip
      refine lv_if_eq (tgt := 59) hx hb dX9_on_23 (by decide) (fun c_23 => ?_) (fun c_23 => absurd (by decide) c_23)
      refine lv_aload_n hx hb dX9_on_59 rfl (lv_at hl 0 rfl) ?_
      refine lv_ldc (v := (-1000000001)) hx hb hown (hu _ uw648) dX9_on_60 ?_
      refine xc_Vi (wr := [(ys, .inl (cI, 449, .inl ms))]) hF (c_X9_finds_B l D cI cJ cZ cS ta sa sv s.heap.size h0 ys yk yo yt mk0 yfa yfe mL mS mM yro yhe ygr mF mC mY yta mz mf mt mv mw ywa ybi ysi ynu ymo mq ) kv_X9_70 ⟨rfl, rfl, Nat.le_of_ble_eq_true rfl, Nat.le_of_ble_eq_true rfl⟩ ⟨Nat.le_of_ble_eq_true rfl, Nat.le_of_ble_eq_true rfl⟩ hK hN hZ hP hD hS hA [0, 2] [1] rfl rfl rfl rfl (by decide) 0 rfl rfl rfl rfl hl.1 rfl (Nat.le_of_ble_eq_true rfl) dX9_on_62 (fun r_24 u_r_24 H locs hw_r_24 hP hD hS => ?_)
      obtain ⟨mq2_25, rfl⟩ : ∃ z, z = u_r_24 := ⟨_, rfl⟩
      try dsimp only at hw_r_24
      have hP : va_P D vwCl [(ys, .inl (cI, 449, .inl ms)), (h0, .inr (9, [.ref ys, .ref yk, .ref yo, .ref yt, .int mk0, .ref yfa, .ref yfe, .int mL, .int mS, .int mM, .ref yro, .ref yhe, .ref ygr, .int mF, .int mC, .int mY, .ref yta, .int (nI (mz)), .int (nI (mf)), .int (nI (mt)), .int mv, .int mw, .ref ywa, .ref ybi, .ref ysi, .ref ynu, .ref ymo])), (yt, .inl (cI, 7, .inl mq2_25))] H := hP
      have hD : va_D A [(ys, .inl (cI, 449, .inl ms)), (h0, .inr (9, [.ref ys, .ref yk, .ref yo, .ref yt, .int mk0, .ref yfa, .ref yfe, .int mL, .int mS, .int mM, .ref yro, .ref yhe, .ref ygr, .int mF, .int mC, .int mY, .ref yta, .int (nI (mz)), .int (nI (mf)), .int (nI (mt)), .int mv, .int mw, .ref ywa, .ref ybi, .ref ysi, .ref ynu, .ref ymo])), (yt, .inl (cI, 7, .inl mq2_25))] := hD
      subst hw_r_24
      exact W.iret (v := (-1000000001)) hx hb hr (fun t ht hW => ⟨⟨(-1000000001), (ms, mq2_25, fawn, fawp), rfl, ⟨(on_no (P := P) (W := Wn) (wn := fawn) (wp := fawp) (fun h => h_12 h.1.2)).1, (on_no (P := P) (W := Wn) (wn := fawn) (wp := fawp) (fun h => h_12 h.1.2)).2.1, (on_no (P := P) (W := Wn) (wn := fawn) (wp := fawp) (fun h => h_12 h.1.2)).2.2, hs0, hs1, hs2, hsS, hsM, hsp, hsr, hsw, hsR, hsG⟩, by rw [ht]; exact hP.sub [1, 0, 2] rfl, hD.sub [1, 0, 2] (by decide) rfl⟩, hS.F ht⟩) hS.2.2 dX9_on_65 hlk
  · skip
    refine lv_if_eq (tgt := 59) hx hb dX9_on_15 (by decide) (fun c_26 => ?_) (fun c_26 => absurd (by decide) c_26)
    refine lv_aload_n hx hb dX9_on_59 rfl (lv_at hl 0 rfl) ?_
    refine lv_ldc (v := (-1000000001)) hx hb hown (hu _ uw648) dX9_on_60 ?_
    refine xc_Vi (wr := [(ys, .inl (cI, 449, .inl ms))]) hF (c_X9_finds_B l D cI cJ cZ cS ta sa sv s.heap.size h0 ys yk yo yt mk0 yfa yfe mL mS mM yro yhe ygr mF mC mY yta mz mf mt mv mw ywa ybi ysi ynu ymo mq ) kv_X9_70 ⟨rfl, rfl, Nat.le_of_ble_eq_true rfl, Nat.le_of_ble_eq_true rfl⟩ ⟨Nat.le_of_ble_eq_true rfl, Nat.le_of_ble_eq_true rfl⟩ hK hN hZ hP hD hS hA [0, 2] [1] rfl rfl rfl rfl (by decide) 0 rfl rfl rfl rfl hl.1 rfl (Nat.le_of_ble_eq_true rfl) dX9_on_62 (fun r_27 u_r_27 H locs hw_r_27 hP hD hS => ?_)
    obtain ⟨mq2_28, rfl⟩ : ∃ z, z = u_r_27 := ⟨_, rfl⟩
    try dsimp only at hw_r_27
    have hP : va_P D vwCl [(ys, .inl (cI, 449, .inl ms)), (h0, .inr (9, [.ref ys, .ref yk, .ref yo, .ref yt, .int mk0, .ref yfa, .ref yfe, .int mL, .int mS, .int mM, .ref yro, .ref yhe, .ref ygr, .int mF, .int mC, .int mY, .ref yta, .int (nI (mz)), .int (nI (mf)), .int (nI (mt)), .int mv, .int mw, .ref ywa, .ref ybi, .ref ysi, .ref ynu, .ref ymo])), (yt, .inl (cI, 7, .inl mq2_28))] H := hP
    have hD : va_D A [(ys, .inl (cI, 449, .inl ms)), (h0, .inr (9, [.ref ys, .ref yk, .ref yo, .ref yt, .int mk0, .ref yfa, .ref yfe, .int mL, .int mS, .int mM, .ref yro, .ref yhe, .ref ygr, .int mF, .int mC, .int mY, .ref yta, .int (nI (mz)), .int (nI (mf)), .int (nI (mt)), .int mv, .int mw, .ref ywa, .ref ybi, .ref ysi, .ref ynu, .ref ymo])), (yt, .inl (cI, 7, .inl mq2_28))] := hD
    subst hw_r_27
    exact W.iret (v := (-1000000001)) hx hb hr (fun t ht hW => ⟨⟨(-1000000001), (ms, mq2_28, fawn, fawp), rfl, ⟨(on_no (P := P) (W := Wn) (wn := fawn) (wp := fawp) (fun h => x_np3 (by omega) ex_1 h_5 h.1.1)).1, (on_no (P := P) (W := Wn) (wn := fawn) (wp := fawp) (fun h => x_np3 (by omega) ex_1 h_5 h.1.1)).2.1, (on_no (P := P) (W := Wn) (wn := fawn) (wp := fawp) (fun h => x_np3 (by omega) ex_1 h_5 h.1.1)).2.2, hs0, hs1, hs2, hsS, hsM, hsp, hsr, hsw, hsR, hsG⟩, by rw [ht]; exact hP.sub [1, 0, 2] rfl, hD.sub [1, 0, 2] (by decide) rfl⟩, hS.F ht⟩) hS.2.2 dX9_on_65 hlk
set_option maxHeartbeats 4000000 in
set_option maxRecDepth 100000 in
theorem c_X9_wayAt (l : Launch) (D : va_G) (cI cJ cZ cS : ClassId) (ta : Nat) (sa sv : Nat → Nat) (sz : Nat) (h0 : Nat) (ys : Nat) (yk : Nat) (yo : Nat) (yt : Nat) (mk0 : Int32) (yfa : Nat) (yfe : Nat) (mL : Int32) (mS : Int32) (mM : Int32) (yro : Nat) (yhe : Nat) (ygr : Nat) (mF : Int32) (mC : Int32) (mY : Int32) (yta : Nat) (mz : Nat) (mf : Nat) (mt : Nat) (mv : Int32) (mw : Int32) (ywa : Nat) (ybi : Nat) (ysi : Nat) (ynu : Nat) (ymo : Nat) (ms : Nat → Int32) (P : Nat) (Rn : Nat) (Wn : Nat) (fae : Nat → Int32) (fal : Nat → Int32) (fau : Nat → Int32) (fao : Nat → Int32) (farn : Nat → Int32) (farp : Nat → Int32) (fak : Nat → Int32) (fawn : Nat → Int32) (fawp : Nat → Int32) (fat : Nat → Int32) (fas : Nat → Int32) (j : Nat) (k : Nat) (hj : j < 8) (hk : k < 5) (hs0 : ms 0 = nI P) (hs1 : ms 1 = nI Rn) (hs2 : ms 2 = nI Wn) (hsS : SI ms) (hsM : MI ms) (hsp : P ≤ 10) (hsr : Rn ≤ 8) (hsw : Wn ≤ 8) (hsR : RI Rn ms) (hsG : FR P ms fae fal fau fao farn farp fak fawn fawp fat fas) : Met l yX9_wayAt (Cond.code yX9_wayAt cX9_wayAt 3 (some .int) :: wsU) ({ frames := 0, cells := 0, slots := 0, locals := 0 }) (va_Pc [.ref h0, .int (nI (j)), .int (nI (k))] (XW D (xT cI cJ cZ cS) ta sa sv [(h0, .inr (9, [.ref ys, .ref yk, .ref yo, .ref yt, .int mk0, .ref yfa, .ref yfe, .int mL, .int mS, .int mM, .ref yro, .ref yhe, .ref ygr, .int mF, .int mC, .int mY, .ref yta, .int (nI (mz)), .int (nI (mf)), .int (nI (mt)), .int mv, .int mw, .ref ywa, .ref ybi, .ref ysi, .ref ynu, .ref ymo])), (ys, .inl (cI, 449, .inl ms))] sz)) (vp_Si (fun r : Int32 => (r = nI (wyO fawp j k) ∧ (wyO fawp j k < 100)))) 0 0 (fun _ => False) := by
  refine xh (QA := fun _ => vp_Si (fun r : Int32 => (r = nI (wyO fawp j k) ∧ (wyO fawp j k < 100)))) (fr := fun _ _ => False) (by decide) (Nat.le_of_ble_eq_true rfl) ?_
  intro p e s m below meth c ls A hF hr hlk hin hsz hP hK hD hN hZ hA hS hl
  have hF : CallFix p m c cX9_wayAt 3 s _ _ RX9 := hF
  have hx := hF.1
  have hb := hF.2.1
  have hml := hF.2.2.1
  have hown := hF.2.2.2.1
  have hu : ∀ w ∈ wsU, w.before _ s = true := fun w h => hF.2.2.2.2 w (List.mem_cons_of_mem _ h)
  have hl : lv_has ls 3 [(0, .ref h0), (1, .int (nI (j))), (2, .int (nI (k)))] := hl
  refine lv_bipush (v := 10) hx hb dX9_wayAt_0 (by decide) ?_
  refine lv_aload_n hx hb dX9_wayAt_2 rfl (lv_at hl 0 rfl) ?_
  refine xg hF kf_X9_7 hK hP 0 rfl rfl dX9_wayAt_3 ?_
  refine lv_sipush (v := 377) hx hb dX9_wayAt_6 (by decide) ?_
  refine lv_bipush (v := 9) hx hb dX9_wayAt_9 (by decide) ?_
  refine lv_iload_n hx hb dX9_wayAt_11 rfl (lv_at hl 1 rfl) ?_
  refine lv_imul hx hb dX9_wayAt_12 ?_
  refine xl_i (y := nI (9 * j)) (pk_mul 9 j) ?_
  refine lv_iadd hx hb dX9_wayAt_13 ?_
  refine xl_i (y := nI (377 + (9 * j))) (nI_add 377 (9 * j)) ?_
  refine lv_iconst (v := 3) hx hb dX9_wayAt_14 (by decide) ?_
  refine lv_iadd hx hb dX9_wayAt_15 ?_
  refine xl_i (y := nI (377 + (9 * j) + 3)) (nI_add (377 + (9 * j)) 3) ?_
  refine lv_iload_n hx hb dX9_wayAt_16 rfl (lv_at hl 2 rfl) ?_
  refine lv_iadd hx hb dX9_wayAt_17 ?_
  refine xl_i (y := nI (377 + (9 * j) + 3 + k)) (nI_add (377 + (9 * j) + 3) k) ?_
  refine va_iald hx hb hK hP 1 0 rfl rfl (vp_in_nI (show 377 + (9 * j) + 3 + k < 449 by omega) (by decide)) dX9_wayAt_18 ?_
  refine xl_i (y := ms (377 + (9 * j) + 3 + k)) (congrArg ms (nI_clamp (show 377 + (9 * j) + 3 + k < 2 ^ 31 by omega))) ?_
  obtain ⟨z_1, ez_1, hz_10⟩ := hsS.ws2 j (k) (by omega) (by omega) (show 377 + (9 * j) + 3 + k = _ by omega)
  have gz_1 : fawp (j * 6 + k) = nI z_1 := (FR.gwp hsG (show j < 8 by omega) (show k < 6 by omega) (by omega)).symm.trans ez_1
  refine xl_i (y := nI (z_1)) ez_1 ?_
  refine lv_imul hx hb dX9_wayAt_19 ?_
  refine xl_i (y := nI (10 * z_1)) (pk_mul 10 z_1) ?_
  refine lv_aload_n hx hb dX9_wayAt_20 rfl (lv_at hl 0 rfl) ?_
  refine xg hF kf_X9_7 hK hP 0 rfl rfl dX9_wayAt_21 ?_
  refine lv_sipush (v := 377) hx hb dX9_wayAt_24 (by decide) ?_
  refine lv_bipush (v := 9) hx hb dX9_wayAt_27 (by decide) ?_
  refine lv_iload_n hx hb dX9_wayAt_29 rfl (lv_at hl 1 rfl) ?_
  refine lv_imul hx hb dX9_wayAt_30 ?_
  refine xl_i (y := nI (9 * j)) (pk_mul 9 j) ?_
  refine lv_iadd hx hb dX9_wayAt_31 ?_
  refine xl_i (y := nI (377 + (9 * j))) (nI_add 377 (9 * j)) ?_
  refine lv_iconst (v := 4) hx hb dX9_wayAt_32 (by decide) ?_
  refine lv_iadd hx hb dX9_wayAt_33 ?_
  refine xl_i (y := nI (377 + (9 * j) + 4)) (nI_add (377 + (9 * j)) 4) ?_
  refine lv_iload_n hx hb dX9_wayAt_34 rfl (lv_at hl 2 rfl) ?_
  refine lv_iadd hx hb dX9_wayAt_35 ?_
  refine xl_i (y := nI (377 + (9 * j) + 4 + k)) (nI_add (377 + (9 * j) + 4) k) ?_
  refine va_iald hx hb hK hP 1 0 rfl rfl (vp_in_nI (show 377 + (9 * j) + 4 + k < 449 by omega) (by decide)) dX9_wayAt_36 ?_
  refine xl_i (y := ms (377 + (9 * j) + 4 + k)) (congrArg ms (nI_clamp (show 377 + (9 * j) + 4 + k < 2 ^ 31 by omega))) ?_
  obtain ⟨z_2, ez_2, hz_20⟩ := hsS.ws2 j (k + 1) (by omega) (by omega) (show 377 + (9 * j) + 4 + k = _ by omega)
  have gz_2 : fawp (j * 6 + (1 + k)) = nI z_2 := (FR.gwp hsG (show j < 8 by omega) (show 1 + k < 6 by omega) (by omega)).symm.trans ez_2
  refine xl_i (y := nI (z_2)) ez_2 ?_
  refine lv_iadd hx hb dX9_wayAt_37 ?_
  refine xl_i (y := nI (10 * z_1 + z_2)) (nI_add (10 * z_1) z_2) ?_
  exact W.iret (v := nI (10 * z_1 + z_2)) hx hb hr (fun t ht hW => ⟨nI (10 * z_1 + z_2), rfl, ⟨congrArg nI (wyO_eq gz_1 ((congrArg fawp (show j * 6 + (k + 1) = j * 6 + (1 + k) by omega)).trans gz_2) (by omega) (by omega)).symm, by rw [wyO_eq gz_1 ((congrArg fawp (show j * 6 + (k + 1) = j * 6 + (1 + k) by omega)).trans gz_2) (by omega) (by omega)]; omega⟩, ht⟩) (fun q h => by cases h) dX9_wayAt_38 hlk
set_option maxHeartbeats 4000000 in
set_option maxRecDepth 100000 in
theorem c_X9_isWalked (l : Launch) (D : va_G) (cI cJ cZ cS : ClassId) (ta : Nat) (sa sv : Nat → Nat) (sz : Nat) (h0 : Nat) (ys : Nat) (yk : Nat) (yo : Nat) (yt : Nat) (mk0 : Int32) (yfa : Nat) (yfe : Nat) (mL : Int32) (mS : Int32) (mM : Int32) (yro : Nat) (yhe : Nat) (ygr : Nat) (mF : Int32) (mC : Int32) (mY : Int32) (yta : Nat) (mz : Nat) (mf : Nat) (mt : Nat) (mv : Int32) (mw : Int32) (ywa : Nat) (ybi : Nat) (ysi : Nat) (ynu : Nat) (ymo : Nat) (ms : Nat → Int32) (P : Nat) (Rn : Nat) (Wn : Nat) (fae : Nat → Int32) (fal : Nat → Int32) (fau : Nat → Int32) (fao : Nat → Int32) (farn : Nat → Int32) (farp : Nat → Int32) (fak : Nat → Int32) (fawn : Nat → Int32) (fawp : Nat → Int32) (fat : Nat → Int32) (fas : Nat → Int32) (j : Nat) (q : Nat) (hj : j < 8) (hq1 : 1 ≤ q) (hq : q < 7) (eq0 : fawn j = nI q) (hs0 : ms 0 = nI P) (hs1 : ms 1 = nI Rn) (hs2 : ms 2 = nI Wn) (hsS : SI ms) (hsM : MI ms) (hsp : P ≤ 10) (hsr : Rn ≤ 8) (hsw : Wn ≤ 8) (hsR : RI Rn ms) (hsG : FR P ms fae fal fau fao farn farp fak fawn fawp fat fas) : Met l yX9_isWalked (Cond.code yX9_isWalked cX9_isWalked 4 (some .boolean) :: wsU) ({ frames := 1, cells := 0, slots := 0, locals := 22 }) (va_Pc [.ref h0, .int (nI (j))] (XW D (xT cI cJ cZ cS) ta sa sv [(h0, .inr (9, [.ref ys, .ref yk, .ref yo, .ref yt, .int mk0, .ref yfa, .ref yfe, .int mL, .int mS, .int mM, .ref yro, .ref yhe, .ref ygr, .int mF, .int mC, .int mY, .ref yta, .int (nI (mz)), .int (nI (mf)), .int (nI (mt)), .int mv, .int mw, .ref ywa, .ref ybi, .ref ysi, .ref ynu, .ref ymo])), (ys, .inl (cI, 449, .inl ms))] sz)) (vp_Si (fun r : Int32 => (r = 1 ∧ (∀ x, x < q - 1 → ¬ fao (wyO fawp j x) = 0)) ∨ (r = 0 ∧ (∃ x, x < q - 1 ∧ fao (wyO fawp j x) = 0)))) 0 0 (fun _ => False) := by
  refine xh (QA := fun _ => vp_Si (fun r : Int32 => (r = 1 ∧ (∀ x, x < q - 1 → ¬ fao (wyO fawp j x) = 0)) ∨ (r = 0 ∧ (∃ x, x < q - 1 ∧ fao (wyO fawp j x) = 0)))) (fr := fun _ _ => False) (by decide) (Nat.le_of_ble_eq_true rfl) ?_
  intro p e s m below meth c ls A hF hr hlk hin hsz hP hK hD hN hZ hA hS hl
  have hF : CallFix p m c cX9_isWalked 4 s _ _ RX9 := hF
  have hx := hF.1
  have hb := hF.2.1
  have hml := hF.2.2.1
  have hown := hF.2.2.2.1
  have hu : ∀ w ∈ wsU, w.before _ s = true := fun w h => hF.2.2.2.2 w (List.mem_cons_of_mem _ h)
  have hl : lv_has ls 4 [(0, .ref h0), (1, .int (nI (j)))] := hl
  refine lv_iconst (v := 1) hx hb dX9_isWalked_0 (by decide) ?_
  refine lv_istore_n (lv' := [(2, .int 1), (0, .ref h0), (1, .int (nI (j)))]) hx hb dX9_isWalked_1 rfl hl (by decide) rfl (fun ls hl => ?_)
  refine lv_iconst (v := 0) hx hb dX9_isWalked_2 (by decide) ?_
  refine lv_istore_n (lv' := [(3, .int 0), (2, .int 1), (0, .ref h0), (1, .int (nI (j)))]) hx hb dX9_isWalked_3 rfl hl (by decide) rfl (fun ls hl => ?_)
  suffices loop_4 : ∀ (n_4 : Nat) (i : Nat) (b8 : Int32) (ls : Array Slot), q - i < n_4 → (i ≤ q - 1) → ((b8 = 1 ∧ ∀ x, x < i → ¬ fao (wyO fawp j x) = 0) ∨ (b8 = 0 ∧ ∃ x, x < i ∧ fao (wyO fawp j x) = 0)) → lv_has ls 4 [(3, .int (nI (i))), (2, .int b8), (0, .ref h0), (1, .int (nI (j)))] → W p l e ({ frames := 1, cells := 0, slots := 0, locals := 22 }) s m ([.ref h0, .int (nI (j))] : List Value).toArray below meth c s.heap [] 0 0 (MQ below (vp_Si (fun r : Int32 => (r = 1 ∧ (∀ x, x < q - 1 → ¬ fao (wyO fawp j x) = 0)) ∨ (r = 0 ∧ (∃ x, x < q - 1 ∧ fao (wyO fawp j x) = 0)))) ([.ref h0, .int (nI (j))] : List Value).toArray s 0 0 (fun _ => False)) (F0 m 4 ls []) by
    exact loop_4 _ 0 1 _ (Nat.lt_succ_self _) (by omega) (Or.inl ⟨rfl, fun x hx7 => absurd hx7 (Nat.not_lt_zero x)⟩) (lv_sub hl [0, 1, 2, 3] rfl)
  intro n_4
  induction n_4 with
  | zero =>
    intro i b8 ls hm_4
    exact absurd hm_4 (Nat.not_lt_zero _)
  | succ n_4 ih_4 =>
    intro i b8 ls hm_4 hi hb8 hl
    refine lv_iload_n hx hb dX9_isWalked_4 rfl (lv_at hl 0 rfl) ?_
    refine lv_aload_n hx hb dX9_isWalked_5 rfl (lv_at hl 2 rfl) ?_
    refine xg hF kf_X9_7 hK hP 0 rfl rfl dX9_isWalked_6 ?_
    refine lv_sipush (v := 377) hx hb dX9_isWalked_9 (by decide) ?_
    refine lv_bipush (v := 9) hx hb dX9_isWalked_12 (by decide) ?_
    refine lv_iload_n hx hb dX9_isWalked_14 rfl (lv_at hl 3 rfl) ?_
    refine lv_imul hx hb dX9_isWalked_15 ?_
    refine xl_i (y := nI (9 * j)) (pk_mul 9 j) ?_
    refine lv_iadd hx hb dX9_isWalked_16 ?_
    refine xl_i (y := nI (377 + (9 * j))) (nI_add 377 (9 * j)) ?_
    refine va_iald hx hb hK hP 1 0 rfl rfl (vp_in_nI (show 377 + (9 * j) < 449 by omega) (by decide)) dX9_isWalked_17 ?_
    refine xl_i (y := ms (377 + (9 * j))) (congrArg ms (nI_clamp (show 377 + (9 * j) < 2 ^ 31 by omega))) ?_
    refine xl_i (y := nI (q)) ((FR.gwn hsG (show j < 8 by omega) (by omega)).trans eq0) ?_
    refine lv_iconst (v := 1) hx hb dX9_isWalked_18 (by decide) ?_
    refine lv_isub hx hb dX9_isWalked_19 ?_
    refine xl_i (y := nI (q - 1)) (pk_sub (show 1 ≤ q by omega)) ?_
    refine lv_icmp_ge (tgt := 57) hx hb dX9_isWalked_20 (by decide) (fun c_1 => ?_) (fun c_1 => ?_)
    · skip
      have nc_1 : q - 1 ≤ i := xn_le (a := (q - 1)) (b := i) (by omega) (by omega) c_1
      rcases hb8 with ⟨rfl, hW8⟩ | ⟨rfl, hW8⟩
      · skip
        refine lv_iload_n hx hb dX9_isWalked_57 rfl (lv_at hl 1 rfl) ?_
        exact W.zret (v := 1) hx hb hr rfl (fun t ht hW => ⟨1, rfl, Or.inl ⟨rfl, fun x hx7 => hW8 x (by omega)⟩, ht⟩) (fun q h => by cases h) dX9_isWalked_58 hlk
      · skip
        refine lv_iload_n hx hb dX9_isWalked_57 rfl (lv_at hl 1 rfl) ?_
        exact W.zret (v := 0) hx hb hr rfl (fun t ht hW => ⟨0, rfl, Or.inr ⟨rfl, (by obtain ⟨x, h1, h2⟩ := hW8; exact ⟨x, by omega, h2⟩)⟩, ht⟩) (fun q h => by cases h) dX9_isWalked_58 hlk
    · skip
      have nc_1 : i < q - 1 := xn_nle (a := (q - 1)) (b := i) (by omega) (by omega) c_1
      refine lv_iload_n hx hb dX9_isWalked_23 rfl (lv_at hl 1 rfl) ?_
      refine lv_if_eq (tgt := 49) hx hb dX9_isWalked_24 (by decide) (fun c_2 => ?_) (fun c_2 => ?_)
      · skip
        refine lv_iconst (v := 0) hx hb dX9_isWalked_49 (by decide) ?_
        refine lv_istore_n (lv' := [(2, .int 0), (3, .int (nI (i))), (0, .ref h0), (1, .int (nI (j)))]) hx hb dX9_isWalked_50 rfl hl (by decide) rfl (fun ls hl => ?_)
        refine lv_iinc (v := nI (i + 1)) (lv' := [(3, .int (nI (i + 1))), (2, .int 0), (0, .ref h0), (1, .int (nI (j)))]) hx hb dX9_isWalked_51 hl (k := 1) rfl (nI_1 (i)) (by decide) rfl (fun ls hl => ?_)
        refine lv_goto (tgt := 4) hx hb dX9_isWalked_54 (by decide) ?_
        exact ih_4 (i + 1) 0 _ (by omega) (by omega) (isw_z (p := (fun x => fao (wyO fawp j x) = 0)) hb8 c_2) (lv_sub hl [0, 1, 2, 3] rfl)
      · skip
        refine lv_aload_n hx hb dX9_isWalked_27 rfl (lv_at hl 2 rfl) ?_
        refine xg hF kf_X9_7 hK hP 0 rfl rfl dX9_isWalked_28 ?_
        refine lv_sipush (v := 213) hx hb dX9_isWalked_31 (by decide) ?_
        refine lv_aload_n hx hb dX9_isWalked_34 rfl (lv_at hl 2 rfl) ?_
        refine lv_iload_n hx hb dX9_isWalked_35 rfl (lv_at hl 3 rfl) ?_
        refine lv_iload_n hx hb dX9_isWalked_36 rfl (lv_at hl 0 rfl) ?_
        refine xc_Vr hF (c_X9_wayAt l D cI cJ cZ cS ta sa sv s.heap.size h0 ys yk yo yt mk0 yfa yfe mL mS mM yro yhe ygr mF mC mY yta mz mf mt mv mw ywa ybi ysi ynu ymo ms P Rn Wn fae fal fau fao farn farp fak fawn fawp fat fas j i (by omega) (by omega) hs0 hs1 hs2 hsS hsM hsp hsr hsw hsR hsG) kv_X9_199 ⟨rfl, rfl, Nat.le_of_ble_eq_true rfl, Nat.le_of_ble_eq_true rfl⟩ ⟨Nat.le_of_ble_eq_true rfl, Nat.le_of_ble_eq_true rfl⟩ hK hN hZ hP hD hS hA [0, 1] rfl rfl 0 rfl rfl rfl rfl hl.1 rfl (Nat.le_of_ble_eq_true rfl) dX9_isWalked_37 (fun r_3 hw_r_3 => ?_)
        obtain ⟨rfl, h_4⟩ := hw_r_3
        refine lv_iadd hx hb dX9_isWalked_40 ?_
        refine xl_i (y := nI (213 + (wyO fawp j i))) (nI_add 213 (wyO fawp j i)) ?_
        refine va_iald hx hb hK hP 1 0 rfl rfl (vp_in_nI (show 213 + (wyO fawp j i) < 449 by omega) (by decide)) dX9_isWalked_41 ?_
        refine xl_i (y := ms (213 + (wyO fawp j i))) (congrArg ms (nI_clamp (show 213 + (wyO fawp j i) < 2 ^ 31 by omega))) ?_
        refine xl_i (y := fao (wyO fawp j i)) (FR.go hsG (show wyO fawp j i < 100 by omega) (by omega)) ?_
        refine lv_if_le (tgt := 49) hx hb dX9_isWalked_42 (by decide) (fun c_5 => ?_) (fun c_5 => ?_)
        · skip
          refine lv_iconst (v := 0) hx hb dX9_isWalked_49 (by decide) ?_
          refine lv_istore_n (lv' := [(2, .int 0), (3, .int (nI (i))), (0, .ref h0), (1, .int (nI (j)))]) hx hb dX9_isWalked_50 rfl hl (by decide) rfl (fun ls hl => ?_)
          refine lv_iinc (v := nI (i + 1)) (lv' := [(3, .int (nI (i + 1))), (2, .int 0), (0, .ref h0), (1, .int (nI (j)))]) hx hb dX9_isWalked_51 hl (k := 1) rfl (nI_1 (i)) (by decide) rfl (fun ls hl => ?_)
          refine lv_goto (tgt := 4) hx hb dX9_isWalked_54 (by decide) ?_
          exact ih_4 (i + 1) 0 _ (by omega) (by omega) (isw_n (p := (fun x => fao (wyO fawp j x) = 0)) (hsG.npos (by omega) (Int32.not_lt.mpr c_5))) (lv_sub hl [0, 1, 2, 3] rfl)
        · skip
          refine lv_iconst (v := 1) hx hb dX9_isWalked_45 (by decide) ?_
          refine lv_goto (tgt := 50) hx hb dX9_isWalked_46 (by decide) ?_
          refine lv_istore_n (lv' := [(2, .int 1), (3, .int (nI (i))), (0, .ref h0), (1, .int (nI (j)))]) hx hb dX9_isWalked_50 rfl hl (by decide) rfl (fun ls hl => ?_)
          refine lv_iinc (v := nI (i + 1)) (lv' := [(3, .int (nI (i + 1))), (2, .int 1), (0, .ref h0), (1, .int (nI (j)))]) hx hb dX9_isWalked_51 hl (k := 1) rfl (nI_1 (i)) (by decide) rfl (fun ls hl => ?_)
          refine lv_goto (tgt := 4) hx hb dX9_isWalked_54 (by decide) ?_
          exact ih_4 (i + 1) 1 _ (by omega) (by omega) (isw_y (p := (fun x => fao (wyO fawp j x) = 0)) hb8 c_2 (hsG.pos (by omega) (Int32.not_le.mp c_5))) (lv_sub hl [0, 1, 2, 3] rfl)
set_option maxHeartbeats 4000000 in
set_option maxRecDepth 100000 in
theorem c_X9_learns (l : Launch) (D : va_G) (cI cJ cZ cS : ClassId) (ta : Nat) (sa sv : Nat → Nat) (sz : Nat) (h0 : Nat) (ys : Nat) (yk : Nat) (yo : Nat) (yt : Nat) (mk0 : Int32) (yfa : Nat) (yfe : Nat) (mL : Int32) (mS : Int32) (mM : Int32) (yro : Nat) (yhe : Nat) (ygr : Nat) (mF : Int32) (mC : Int32) (mY : Int32) (yta : Nat) (mz : Nat) (mf : Nat) (mt : Nat) (mv : Int32) (mw : Int32) (ywa : Nat) (ybi : Nat) (ysi : Nat) (ynu : Nat) (ymo : Nat) (ms : Nat → Int32) (P : Nat) (Rn : Nat) (Wn : Nat) (fae : Nat → Int32) (fal : Nat → Int32) (fau : Nat → Int32) (fao : Nat → Int32) (farn : Nat → Int32) (farp : Nat → Int32) (fak : Nat → Int32) (fawn : Nat → Int32) (fawp : Nat → Int32) (fat : Nat → Int32) (fas : Nat → Int32) (j : Nat) (q : Nat) (hj : j < 8) (hq1 : 1 ≤ q) (hq : q < 7) (eq0 : fawn j = nI q) (hC : mC = 0 ∨ mC = 1) (hs0 : ms 0 = nI P) (hs1 : ms 1 = nI Rn) (hs2 : ms 2 = nI Wn) (hsS : SI ms) (hsM : MI ms) (hsp : P ≤ 10) (hsr : Rn ≤ 8) (hsw : Wn ≤ 8) (hsR : RI Rn ms) (hsG : FR P ms fae fal fau fao farn farp fak fawn fawp fat fas) : Met l yX9_learns (Cond.code yX9_learns cX9_learns 12 (some .boolean) :: wsU) ({ frames := 2, cells := 0, slots := 0, locals := 46 }) (va_Pc [.ref h0, .int (nI (j))] (XW D (xT cI cJ cZ cS) ta sa sv [(h0, .inr (9, [.ref ys, .ref yk, .ref yo, .ref yt, .int mk0, .ref yfa, .ref yfe, .int mL, .int mS, .int mM, .ref yro, .ref yhe, .ref ygr, .int mF, .int mC, .int mY, .ref yta, .int (nI (mz)), .int (nI (mf)), .int (nI (mt)), .int mv, .int mw, .ref ywa, .ref ybi, .ref ysi, .ref ynu, .ref ymo])), (ys, .inl (cI, 449, .inl ms))] sz)) (XQi (fun (r : Int32) (u : Int32 × (Nat → Int32) × (Nat → Int32) × (Nat → Int32)) => match u with | (mC2, ms2, gl, gu) => ((r = 1 ∧ (bel fao fawn fawp fat fas j (fal, fau, mC) = (1, gl, gu, mC2))) ∨ (r = 0 ∧ (bel fao fawn fawp fat fas j (fal, fau, mC) = (0, gl, gu, mC2)))) ∧ (mC2 = 0 ∨ mC2 = 1) ∧ (ms2 0 = nI P) ∧ (ms2 1 = nI Rn) ∧ (ms2 2 = nI Wn) ∧ (SI ms2) ∧ (MI ms2) ∧ (P ≤ 10) ∧ (Rn ≤ 8) ∧ (Wn ≤ 8) ∧ (RI Rn ms2) ∧ (FR P ms2 fae gl gu fao farn farp fak fawn fawp fat fas)) D (fun (u : Int32 × (Nat → Int32) × (Nat → Int32) × (Nat → Int32)) => match u with | (mC2, ms2, gl, gu) => [(h0, .inr (9, [.ref ys, .ref yk, .ref yo, .ref yt, .int mk0, .ref yfa, .ref yfe, .int mL, .int mS, .int mM, .ref yro, .ref yhe, .ref ygr, .int mF, .int mC2, .int mY, .ref yta, .int (nI (mz)), .int (nI (mf)), .int (nI (mt)), .int mv, .int mw, .ref ywa, .ref ybi, .ref ysi, .ref ynu, .ref ymo])), (ys, .inl (cI, 449, .inl ms2))]) (va_A [(h0, .inr (9, [.ref ys, .ref yk, .ref yo, .ref yt, .int mk0, .ref yfa, .ref yfe, .int mL, .int mS, .int mM, .ref yro, .ref yhe, .ref ygr, .int mF, .int mC, .int mY, .ref yta, .int (nI (mz)), .int (nI (mf)), .int (nI (mt)), .int mv, .int mw, .ref ywa, .ref ybi, .ref ysi, .ref ynu, .ref ymo])), (ys, .inl (cI, 449, .inl ms))] sz)) 0 0 (va_A [(h0, .inr (9, [.ref ys, .ref yk, .ref yo, .ref yt, .int mk0, .ref yfa, .ref yfe, .int mL, .int mS, .int mM, .ref yro, .ref yhe, .ref ygr, .int mF, .int mC, .int mY, .ref yta, .int (nI (mz)), .int (nI (mf)), .int (nI (mt)), .int mv, .int mw, .ref ywa, .ref ybi, .ref ysi, .ref ynu, .ref ymo])), (ys, .inl (cI, 449, .inl ms))] sz) := by
  refine xh (QA := fun A => XQi (fun (r : Int32) (u : Int32 × (Nat → Int32) × (Nat → Int32) × (Nat → Int32)) => match u with | (mC2, ms2, gl, gu) => ((r = 1 ∧ (bel fao fawn fawp fat fas j (fal, fau, mC) = (1, gl, gu, mC2))) ∨ (r = 0 ∧ (bel fao fawn fawp fat fas j (fal, fau, mC) = (0, gl, gu, mC2)))) ∧ (mC2 = 0 ∨ mC2 = 1) ∧ (ms2 0 = nI P) ∧ (ms2 1 = nI Rn) ∧ (ms2 2 = nI Wn) ∧ (SI ms2) ∧ (MI ms2) ∧ (P ≤ 10) ∧ (Rn ≤ 8) ∧ (Wn ≤ 8) ∧ (RI Rn ms2) ∧ (FR P ms2 fae gl gu fao farn farp fak fawn fawp fat fas)) D (fun (u : Int32 × (Nat → Int32) × (Nat → Int32) × (Nat → Int32)) => match u with | (mC2, ms2, gl, gu) => [(h0, .inr (9, [.ref ys, .ref yk, .ref yo, .ref yt, .int mk0, .ref yfa, .ref yfe, .int mL, .int mS, .int mM, .ref yro, .ref yhe, .ref ygr, .int mF, .int mC2, .int mY, .ref yta, .int (nI (mz)), .int (nI (mf)), .int (nI (mt)), .int mv, .int mw, .ref ywa, .ref ybi, .ref ysi, .ref ynu, .ref ymo])), (ys, .inl (cI, 449, .inl ms2))]) A) (fr := fun A => A) (by decide) (Nat.le_of_ble_eq_true rfl) ?_
  intro p e s m below meth c ls A hF hr hlk hin hsz hP hK hD hN hZ hA hS hl
  have hF : CallFix p m c cX9_learns 12 s _ _ RX9 := hF
  have hx := hF.1
  have hb := hF.2.1
  have hml := hF.2.2.1
  have hown := hF.2.2.2.1
  have hu : ∀ w ∈ wsU, w.before _ s = true := fun w h => hF.2.2.2.2 w (List.mem_cons_of_mem _ h)
  have hl : lv_has ls 12 [(0, .ref h0), (1, .int (nI (j)))] := hl
  refine lv_aload_n hx hb dX9_learns_0 rfl (lv_at hl 0 rfl) ?_
  refine lv_iload_n hx hb dX9_learns_1 rfl (lv_at hl 1 rfl) ?_
  refine xc_Vr hF (c_X9_isWalked l D cI cJ cZ cS ta sa sv s.heap.size h0 ys yk yo yt mk0 yfa yfe mL mS mM yro yhe ygr mF mC mY yta mz mf mt mv mw ywa ybi ysi ynu ymo ms P Rn Wn fae fal fau fao farn farp fak fawn fawp fat fas j q (by omega) (by omega) (by omega) (by omega) hs0 hs1 hs2 hsS hsM hsp hsr hsw hsR hsG) kv_X9_202 ⟨rfl, rfl, Nat.le_of_ble_eq_true rfl, Nat.le_of_ble_eq_true rfl⟩ ⟨Nat.le_of_ble_eq_true rfl, Nat.le_of_ble_eq_true rfl⟩ hK hN hZ hP hD hS hA [0, 1] rfl rfl 0 rfl rfl rfl rfl hl.1 rfl (Nat.le_of_ble_eq_true rfl) dX9_learns_2 (fun r_1 hw_r_1 => ?_)
  rcases hw_r_1 with ⟨rfl, h_2⟩ | ⟨rfl, h_3⟩
  · skip
    refine lv_if_ne (tgt := 10) hx hb dX9_learns_5 (by decide) (fun c_4 => ?_) (fun c_4 => absurd c_4 (by decide))
    refine lv_aload_n hx hb dX9_learns_10 rfl (lv_at hl 0 rfl) ?_
    refine xg hF kf_X9_7 hK hP 0 rfl rfl dX9_learns_11 ?_
    refine lv_sipush (v := 377) hx hb dX9_learns_14 (by decide) ?_
    refine lv_bipush (v := 9) hx hb dX9_learns_17 (by decide) ?_
    refine lv_iload_n hx hb dX9_learns_19 rfl (lv_at hl 1 rfl) ?_
    refine lv_imul hx hb dX9_learns_20 ?_
    refine xl_i (y := nI (9 * j)) (pk_mul 9 j) ?_
    refine lv_iadd hx hb dX9_learns_21 ?_
    refine xl_i (y := nI (377 + (9 * j))) (nI_add 377 (9 * j)) ?_
    refine va_iald hx hb hK hP 1 0 rfl rfl (vp_in_nI (show 377 + (9 * j) < 449 by omega) (by decide)) dX9_learns_22 ?_
    refine xl_i (y := ms (377 + (9 * j))) (congrArg ms (nI_clamp (show 377 + (9 * j) < 2 ^ 31 by omega))) ?_
    refine xl_i (y := nI (q)) ((FR.gwn hsG (show j < 8 by omega) (by omega)).trans eq0) ?_
    refine lv_iconst (v := 1) hx hb dX9_learns_23 (by decide) ?_
    refine lv_isub hx hb dX9_learns_24 ?_
    refine xl_i (y := nI (q - 1)) (pk_sub (show 1 ≤ q by omega)) ?_
    refine lv_istore_n (lv' := [(2, .int (nI (q - 1))), (0, .ref h0), (1, .int (nI (j)))]) hx hb dX9_learns_25 rfl hl (by decide) rfl (fun ls hl => ?_)
    refine lv_aload_n hx hb dX9_learns_26 rfl (lv_at hl 1 rfl) ?_
    refine xg hF kf_X9_7 hK hP 0 rfl rfl dX9_learns_27 ?_
    refine lv_sipush (v := 377) hx hb dX9_learns_30 (by decide) ?_
    refine lv_bipush (v := 9) hx hb dX9_learns_33 (by decide) ?_
    refine lv_iload_n hx hb dX9_learns_35 rfl (lv_at hl 2 rfl) ?_
    refine lv_imul hx hb dX9_learns_36 ?_
    refine xl_i (y := nI (9 * j)) (pk_mul 9 j) ?_
    refine lv_iadd hx hb dX9_learns_37 ?_
    refine xl_i (y := nI (377 + (9 * j))) (nI_add 377 (9 * j)) ?_
    refine lv_iconst (v := 1) hx hb dX9_learns_38 (by decide) ?_
    refine lv_iadd hx hb dX9_learns_39 ?_
    refine xl_i (y := nI (377 + (9 * j) + 1)) (nI_add (377 + (9 * j)) 1) ?_
    refine va_iald hx hb hK hP 1 0 rfl rfl (vp_in_nI (show 377 + (9 * j) + 1 < 449 by omega) (by decide)) dX9_learns_40 ?_
    refine xl_i (y := ms (377 + (9 * j) + 1)) (congrArg ms (nI_clamp (show 377 + (9 * j) + 1 < 2 ^ 31 by omega))) ?_
    refine xl_i (y := fat (j)) (FR.gt hsG (show j < 8 by omega) (by omega)) ?_
    refine lv_istore_n (lv' := [(3, .int (fat (j))), (2, .int (nI (q - 1))), (0, .ref h0), (1, .int (nI (j)))]) hx hb dX9_learns_41 rfl hl (by decide) rfl (fun ls hl => ?_)
    refine lv_aload_n hx hb dX9_learns_42 rfl (lv_at hl 2 rfl) ?_
    refine xg hF kf_X9_7 hK hP 0 rfl rfl dX9_learns_43 ?_
    refine lv_sipush (v := 377) hx hb dX9_learns_46 (by decide) ?_
    refine lv_bipush (v := 9) hx hb dX9_learns_49 (by decide) ?_
    refine lv_iload_n hx hb dX9_learns_51 rfl (lv_at hl 3 rfl) ?_
    refine lv_imul hx hb dX9_learns_52 ?_
    refine xl_i (y := nI (9 * j)) (pk_mul 9 j) ?_
    refine lv_iadd hx hb dX9_learns_53 ?_
    refine xl_i (y := nI (377 + (9 * j))) (nI_add 377 (9 * j)) ?_
    refine lv_iconst (v := 2) hx hb dX9_learns_54 (by decide) ?_
    refine lv_iadd hx hb dX9_learns_55 ?_
    refine xl_i (y := nI (377 + (9 * j) + 2)) (nI_add (377 + (9 * j)) 2) ?_
    refine va_iald hx hb hK hP 1 0 rfl rfl (vp_in_nI (show 377 + (9 * j) + 2 < 449 by omega) (by decide)) dX9_learns_56 ?_
    refine xl_i (y := ms (377 + (9 * j) + 2)) (congrArg ms (nI_clamp (show 377 + (9 * j) + 2 < 2 ^ 31 by omega))) ?_
    refine xl_i (y := fas (j)) (FR.gsl hsG (show j < 8 by omega) (by omega)) ?_
    refine lv_istore (lv' := [(4, .int (fas (j))), (3, .int (fat (j))), (2, .int (nI (q - 1))), (0, .ref h0), (1, .int (nI (j)))]) hx hb dX9_learns_57 hl (by decide) rfl (fun ls hl => ?_)
    refine lv_iconst (v := 0) hx hb dX9_learns_59 (by decide) ?_
    refine lv_istore (lv' := [(5, .int 0), (4, .int (fas (j))), (3, .int (fat (j))), (2, .int (nI (q - 1))), (0, .ref h0), (1, .int (nI (j)))]) hx hb dX9_learns_60 hl (by decide) rfl (fun ls hl => ?_)
    suffices loop_62 : ∀ (n_62 : Nat) (i : Nat) (c8 : Int32) (s8 : Nat → Int32) (l8 : Nat → Int32) (u8 : Nat → Int32) (H : Heap) (locs : List Loc) (ls : Array Slot), q - i < n_62 → (i ≤ q - 1) → (c8 = 0 ∨ c8 = 1) → (blv (wyO fawp j) (q - 1) (fat j) (fas j) (q - 1) 0 (fal, fau, mC) = blv (wyO fawp j) (q - 1) (fat j) (fas j) (q - 1 - i) i (l8, u8, c8)) → (s8 0 = nI P) → (s8 1 = nI Rn) → (s8 2 = nI Wn) → (SI s8) → (MI s8) → (P ≤ 10) → (Rn ≤ 8) → (Wn ≤ 8) → (RI Rn s8) → (FR P s8 fae l8 u8 fao farn farp fak fawn fawp fat fas) → va_P D vwCl [(h0, .inr (9, [.ref ys, .ref yk, .ref yo, .ref yt, .int mk0, .ref yfa, .ref yfe, .int mL, .int mS, .int mM, .ref yro, .ref yhe, .ref ygr, .int mF, .int c8, .int mY, .ref yta, .int (nI (mz)), .int (nI (mf)), .int (nI (mt)), .int mv, .int mw, .ref ywa, .ref ybi, .ref ysi, .ref ynu, .ref ymo])), (ys, .inl (cI, 449, .inl s8))] H → va_D A [(h0, .inr (9, [.ref ys, .ref yk, .ref yo, .ref yt, .int mk0, .ref yfa, .ref yfe, .int mL, .int mS, .int mM, .ref yro, .ref yhe, .ref ygr, .int mF, .int c8, .int mY, .ref yta, .int (nI (mz)), .int (nI (mf)), .int (nI (mt)), .int mv, .int mw, .ref ywa, .ref ybi, .ref ysi, .ref ynu, .ref ymo])), (ys, .inl (cI, 449, .inl s8))] → va_S A s.heap H locs → lv_has ls 12 [(5, .int (nI (i))), (4, .int (fas (j))), (3, .int (fat (j))), (2, .int (nI (q - 1))), (0, .ref h0), (1, .int (nI (j)))] → W p l e ({ frames := 2, cells := 0, slots := 0, locals := 46 }) s m ([.ref h0, .int (nI (j))] : List Value).toArray below meth c H locs 0 0 (MQ below (XQi (fun (r : Int32) (u : Int32 × (Nat → Int32) × (Nat → Int32) × (Nat → Int32)) => match u with | (mC2, ms2, gl, gu) => ((r = 1 ∧ (bel fao fawn fawp fat fas j (fal, fau, mC) = (1, gl, gu, mC2))) ∨ (r = 0 ∧ (bel fao fawn fawp fat fas j (fal, fau, mC) = (0, gl, gu, mC2)))) ∧ (mC2 = 0 ∨ mC2 = 1) ∧ (ms2 0 = nI P) ∧ (ms2 1 = nI Rn) ∧ (ms2 2 = nI Wn) ∧ (SI ms2) ∧ (MI ms2) ∧ (P ≤ 10) ∧ (Rn ≤ 8) ∧ (Wn ≤ 8) ∧ (RI Rn ms2) ∧ (FR P ms2 fae gl gu fao farn farp fak fawn fawp fat fas)) D (fun (u : Int32 × (Nat → Int32) × (Nat → Int32) × (Nat → Int32)) => match u with | (mC2, ms2, gl, gu) => [(h0, .inr (9, [.ref ys, .ref yk, .ref yo, .ref yt, .int mk0, .ref yfa, .ref yfe, .int mL, .int mS, .int mM, .ref yro, .ref yhe, .ref ygr, .int mF, .int mC2, .int mY, .ref yta, .int (nI (mz)), .int (nI (mf)), .int (nI (mt)), .int mv, .int mw, .ref ywa, .ref ybi, .ref ysi, .ref ynu, .ref ymo])), (ys, .inl (cI, 449, .inl ms2))]) A) ([.ref h0, .int (nI (j))] : List Value).toArray s 0 0 A) (F0 m 62 ls []) by
      exact loop_62 _ 0 mC ms fal fau _ _ _ (Nat.lt_succ_self _) (by omega) hC rfl hs0 hs1 hs2 hsS hsM hsp hsr hsw hsR hsG hP hD hS (lv_sub hl [0, 1, 2, 3, 4, 5] rfl)
    intro n_62
    induction n_62 with
    | zero =>
      intro i c8 s8 l8 u8 H locs ls hm_62
      exact absurd hm_62 (Nat.not_lt_zero _)
    | succ n_62 ih_62 =>
      intro i c8 s8 l8 u8 H locs ls hm_62 hi hc8 hB8 ht0 ht1 ht2 htS htM htp htr htw htR htG hP hD hS hl
      refine lv_iload hx hb dX9_learns_62 (lv_at hl 0 rfl) ?_
      refine lv_iload_n hx hb dX9_learns_64 rfl (lv_at hl 3 rfl) ?_
      refine lv_icmp_ge (tgt := 371) hx hb dX9_learns_65 (by decide) (fun c_5 => ?_) (fun c_5 => ?_)
      · skip
        have nc_5 : q - 1 ≤ i := xn_le (a := (q - 1)) (b := i) (by omega) (by omega) c_5
        refine lv_iconst (v := 1) hx hb dX9_learns_371 (by decide) ?_
        exact W.zret (v := 1) hx hb hr rfl (fun t ht hW => ⟨⟨1, (c8, s8, l8, u8), rfl, ⟨Or.inl ⟨rfl, bel_y eq0 hq h_2 (hB8.trans (blv_end (by omega)))⟩, hc8, ht0, ht1, ht2, htS, htM, htp, htr, htw, htR, htG⟩, by rw [ht]; exact hP.sub [0, 1] rfl, hD.sub [0, 1] (by decide) rfl⟩, hS.F ht⟩) hS.2.2 dX9_learns_372 hlk
      · skip
        have nc_5 : i < q - 1 := xn_nle (a := (q - 1)) (b := i) (by omega) (by omega) c_5
        refine lv_aload_n hx hb dX9_learns_68 rfl (lv_at hl 4 rfl) ?_
        refine lv_iload_n hx hb dX9_learns_69 rfl (lv_at hl 5 rfl) ?_
        refine lv_iload hx hb dX9_learns_70 (lv_at hl 0 rfl) ?_
        refine xc_Vr hF (c_X9_wayAt l D cI cJ cZ cS ta sa sv H.size h0 ys yk yo yt mk0 yfa yfe mL mS mM yro yhe ygr mF c8 mY yta mz mf mt mv mw ywa ybi ysi ynu ymo s8 P Rn Wn fae l8 u8 fao farn farp fak fawn fawp fat fas j i (by omega) (by omega) ht0 ht1 ht2 htS htM htp htr htw htR htG) kv_X9_199 ⟨rfl, rfl, Nat.le_of_ble_eq_true rfl, Nat.le_of_ble_eq_true rfl⟩ ⟨Nat.le_of_ble_eq_true rfl, Nat.le_of_ble_eq_true rfl⟩ hK hN hZ hP hD hS hA [0, 1] rfl rfl 0 rfl rfl rfl rfl hl.1 rfl (Nat.le_of_ble_eq_true rfl) dX9_learns_72 (fun r_6 hw_r_6 => ?_)
        obtain ⟨rfl, h_7⟩ := hw_r_6
        refine lv_istore (lv' := [(6, .int (nI (wyO fawp j i))), (5, .int (nI (i))), (4, .int (fas (j))), (3, .int (fat (j))), (2, .int (nI (q - 1))), (0, .ref h0), (1, .int (nI (j)))]) hx hb dX9_learns_75 hl (by decide) rfl (fun ls hl => ?_)
        refine lv_iconst (v := 0) hx hb dX9_learns_77 (by decide) ?_
        refine lv_istore (lv' := [(7, .int 0), (6, .int (nI (wyO fawp j i))), (5, .int (nI (i))), (4, .int (fas (j))), (3, .int (fat (j))), (2, .int (nI (q - 1))), (0, .ref h0), (1, .int (nI (j)))]) hx hb dX9_learns_78 hl (by decide) rfl (fun ls hl => ?_)
        refine lv_iconst (v := 0) hx hb dX9_learns_80 (by decide) ?_
        refine lv_istore (lv' := [(8, .int 0), (7, .int 0), (6, .int (nI (wyO fawp j i))), (5, .int (nI (i))), (4, .int (fas (j))), (3, .int (fat (j))), (2, .int (nI (q - 1))), (0, .ref h0), (1, .int (nI (j)))]) hx hb dX9_learns_81 hl (by decide) rfl (fun ls hl => ?_)
        refine lv_iconst (v := 0) hx hb dX9_learns_83 (by decide) ?_
        refine lv_istore (lv' := [(9, .int 0), (8, .int 0), (7, .int 0), (6, .int (nI (wyO fawp j i))), (5, .int (nI (i))), (4, .int (fas (j))), (3, .int (fat (j))), (2, .int (nI (q - 1))), (0, .ref h0), (1, .int (nI (j)))]) hx hb dX9_learns_84 hl (by decide) rfl (fun ls hl => ?_)
        refine lv_iconst (v := 0) hx hb dX9_learns_86 (by decide) ?_
        refine lv_istore (lv' := [(10, .int 0), (9, .int 0), (8, .int 0), (7, .int 0), (6, .int (nI (wyO fawp j i))), (5, .int (nI (i))), (4, .int (fas (j))), (3, .int (fat (j))), (2, .int (nI (q - 1))), (0, .ref h0), (1, .int (nI (j)))]) hx hb dX9_learns_87 hl (by decide) rfl (fun ls hl => ?_)
        suffices loop_89 : ∀ (n_89 : Nat) (i2 : Nat) (u : Nat) (v : Int32) (z : Int32) (H : Heap) (locs : List Loc) (ls : Array Slot), q - i2 < n_89 → (i2 ≤ q - 1) → (u ≤ i2) → (u = lnT (wyO fawp j) (wyO fawp j i) i2) → (v = lnS (wyO fawp j) (wyO fawp j i) l8 i2) → (z = lnS (wyO fawp j) (wyO fawp j i) u8 i2) → va_P D vwCl [(h0, .inr (9, [.ref ys, .ref yk, .ref yo, .ref yt, .int mk0, .ref yfa, .ref yfe, .int mL, .int mS, .int mM, .ref yro, .ref yhe, .ref ygr, .int mF, .int c8, .int mY, .ref yta, .int (nI (mz)), .int (nI (mf)), .int (nI (mt)), .int mv, .int mw, .ref ywa, .ref ybi, .ref ysi, .ref ynu, .ref ymo])), (ys, .inl (cI, 449, .inl s8))] H → va_D A [(h0, .inr (9, [.ref ys, .ref yk, .ref yo, .ref yt, .int mk0, .ref yfa, .ref yfe, .int mL, .int mS, .int mM, .ref yro, .ref yhe, .ref ygr, .int mF, .int c8, .int mY, .ref yta, .int (nI (mz)), .int (nI (mf)), .int (nI (mt)), .int mv, .int mw, .ref ywa, .ref ybi, .ref ysi, .ref ynu, .ref ymo])), (ys, .inl (cI, 449, .inl s8))] → va_S A s.heap H locs → lv_has ls 12 [(10, .int (nI (i2))), (9, .int z), (8, .int v), (7, .int (nI (u))), (6, .int (nI (wyO fawp j i))), (5, .int (nI (i))), (4, .int (fas (j))), (3, .int (fat (j))), (2, .int (nI (q - 1))), (0, .ref h0), (1, .int (nI (j)))] → W p l e ({ frames := 2, cells := 0, slots := 0, locals := 46 }) s m ([.ref h0, .int (nI (j))] : List Value).toArray below meth c H locs 0 0 (MQ below (XQi (fun (r : Int32) (u : Int32 × (Nat → Int32) × (Nat → Int32) × (Nat → Int32)) => match u with | (mC2, ms2, gl, gu) => ((r = 1 ∧ (bel fao fawn fawp fat fas j (fal, fau, mC) = (1, gl, gu, mC2))) ∨ (r = 0 ∧ (bel fao fawn fawp fat fas j (fal, fau, mC) = (0, gl, gu, mC2)))) ∧ (mC2 = 0 ∨ mC2 = 1) ∧ (ms2 0 = nI P) ∧ (ms2 1 = nI Rn) ∧ (ms2 2 = nI Wn) ∧ (SI ms2) ∧ (MI ms2) ∧ (P ≤ 10) ∧ (Rn ≤ 8) ∧ (Wn ≤ 8) ∧ (RI Rn ms2) ∧ (FR P ms2 fae gl gu fao farn farp fak fawn fawp fat fas)) D (fun (u : Int32 × (Nat → Int32) × (Nat → Int32) × (Nat → Int32)) => match u with | (mC2, ms2, gl, gu) => [(h0, .inr (9, [.ref ys, .ref yk, .ref yo, .ref yt, .int mk0, .ref yfa, .ref yfe, .int mL, .int mS, .int mM, .ref yro, .ref yhe, .ref ygr, .int mF, .int mC2, .int mY, .ref yta, .int (nI (mz)), .int (nI (mf)), .int (nI (mt)), .int mv, .int mw, .ref ywa, .ref ybi, .ref ysi, .ref ynu, .ref ymo])), (ys, .inl (cI, 449, .inl ms2))]) A) ([.ref h0, .int (nI (j))] : List Value).toArray s 0 0 A) (F0 m 89 ls []) by
          exact loop_89 _ 0 0 0 0 _ _ _ (Nat.lt_succ_self _) (by omega) (by omega) rfl rfl rfl hP hD hS (lv_sub hl [0, 1, 2, 3, 4, 5, 6, 7, 8, 9, 10] rfl)
        intro n_89
        induction n_89 with
        | zero =>
          intro i2 u v z H locs ls hm_89
          exact absurd hm_89 (Nat.not_lt_zero _)
        | succ n_89 ih_89 =>
          intro i2 u v z H locs ls hm_89 hi2 hub hT8 hS8 hZ8 hP hD hS hl
          refine lv_iload hx hb dX9_learns_89 (lv_at hl 0 rfl) ?_
          refine lv_iload_n hx hb dX9_learns_91 rfl (lv_at hl 8 rfl) ?_
          refine lv_icmp_ge (tgt := 193) hx hb dX9_learns_92 (by decide) (fun c_8 => ?_) (fun c_8 => ?_)
          · skip
            have nc_8 : q - 1 ≤ i2 := xn_le (a := (q - 1)) (b := i2) (by omega) (by omega) c_8
            have hT9 : lnT (wyO fawp j) (wyO fawp j i) (q - 1) = u := (congrArg (lnT (wyO fawp j) (wyO fawp j i)) (show q - 1 = i2 by omega)).trans hT8.symm
            have hS9 : lnS (wyO fawp j) (wyO fawp j i) l8 (q - 1) = v := (congrArg (lnS (wyO fawp j) (wyO fawp j i) l8) (show q - 1 = i2 by omega)).trans hS8.symm
            have hZ9 : lnS (wyO fawp j) (wyO fawp j i) u8 (q - 1) = z := (congrArg (lnS (wyO fawp j) (wyO fawp j i) u8) (show q - 1 = i2 by omega)).trans hZ8.symm
            refine lv_iload hx hb dX9_learns_193 (lv_at hl 3 rfl) ?_
            refine lv_iconst (v := 1) hx hb dX9_learns_195 (by decide) ?_
            refine lv_icmp_ne (tgt := 365) hx hb dX9_learns_196 (by decide) (fun c_9 => ?_) (fun c_9 => ?_)
            · skip
              have nc_9 : u ≠ 1 := xn_ne (a := u) (b := 1) (by omega) (by omega) c_9
              refine lv_iinc (v := nI (i + 1)) (lv' := [(5, .int (nI (i + 1))), (10, .int (nI (i2))), (9, .int z), (8, .int v), (7, .int (nI (u))), (6, .int (nI (wyO fawp j i))), (4, .int (fas (j))), (3, .int (fat (j))), (2, .int (nI (q - 1))), (0, .ref h0), (1, .int (nI (j)))]) hx hb dX9_learns_365 hl (k := 5) rfl (nI_1 (i)) (by decide) rfl (fun ls hl => ?_)
              refine lv_goto (tgt := 62) hx hb dX9_learns_368 (by decide) ?_
              exact ih_62 (i + 1) c8 s8 l8 u8 _ _ _ (by omega) (by omega) hc8 (hB8.trans (blv_go (by omega) (nwS_0 (by rw [hT9]; omega)).2 (nwS_0 (by rw [hT9]; omega)).1)) ht0 ht1 ht2 htS htM htp htr htw htR htG (hP.sub [0, 1] rfl) (hD.sub [0, 1] (by decide) rfl) hS (lv_sub hl [0, 6, 7, 8, 9, 10] rfl)
            · skip
              have nc_9 : u = 1 := xn_eq (a := u) (b := 1) (by omega) (by omega) c_9
              refine lv_iload_n hx hb dX9_learns_199 rfl (lv_at hl 7 rfl) ?_
              refine lv_iload hx hb dX9_learns_200 (lv_at hl 6 rfl) ?_
              refine lv_iadd hx hb dX9_learns_202 ?_
              refine lv_topi (fun x_10 ex_10 => ?_)
              refine lv_iload hx hb dX9_learns_203 (lv_at hl 2 rfl) ?_
              refine lv_isub hx hb dX9_learns_205 ?_
              refine lv_topi (fun x_11 ex_11 => ?_)
              have hs7 : x_11 = fat j + fas j - v := by rw [ex_11, ex_10]
              refine lv_aload_n hx hb dX9_learns_206 rfl (lv_at hl 9 rfl) ?_
              refine xg hF kf_X9_7 hK hP 0 rfl rfl dX9_learns_207 ?_
              refine lv_bipush (v := 113) hx hb dX9_learns_210 (by decide) ?_
              refine lv_iload hx hb dX9_learns_212 (lv_at hl 4 rfl) ?_
              refine lv_iadd hx hb dX9_learns_214 ?_
              refine xl_i (y := nI (113 + (wyO fawp j i))) (nI_add 113 (wyO fawp j i)) ?_
              refine va_iald hx hb hK hP 1 0 rfl rfl (vp_in_nI (show 113 + (wyO fawp j i) < 449 by omega) (by decide)) dX9_learns_215 ?_
              refine xl_i (y := s8 (113 + (wyO fawp j i))) (congrArg s8 (nI_clamp (show 113 + (wyO fawp j i) < 2 ^ 31 by omega))) ?_
              refine xl_i (y := u8 (wyO fawp j i)) (FR.gu htG (show wyO fawp j i < 100 by omega) (by omega)) ?_
              refine lv_icmp_ge (tgt := 229) hx hb dX9_learns_216 (by decide) (fun c_12 => ?_) (fun c_12 => ?_)
              · skip
                refine lv_aload_n hx hb dX9_learns_229 rfl (lv_at hl 9 rfl) ?_
                refine xg hF kf_X9_7 hK hP 0 rfl rfl dX9_learns_230 ?_
                refine lv_bipush (v := 113) hx hb dX9_learns_233 (by decide) ?_
                refine lv_iload hx hb dX9_learns_235 (lv_at hl 4 rfl) ?_
                refine lv_iadd hx hb dX9_learns_237 ?_
                refine xl_i (y := nI (113 + (wyO fawp j i))) (nI_add 113 (wyO fawp j i)) ?_
                refine va_iald hx hb hK hP 1 0 rfl rfl (vp_in_nI (show 113 + (wyO fawp j i) < 449 by omega) (by decide)) dX9_learns_238 ?_
                refine xl_i (y := s8 (113 + (wyO fawp j i))) (congrArg s8 (nI_clamp (show 113 + (wyO fawp j i) < 2 ^ 31 by omega))) ?_
                refine xl_i (y := u8 (wyO fawp j i)) (FR.gu htG (show wyO fawp j i < 100 by omega) (by omega)) ?_
                have hX9 : u8 (wyO fawp j i) = lnX (wyO fawp j) (q - 1) i (fat j) (fas j) l8 u8 := lnX_n hS9 (by rw [← hs7]; exact Int32.not_lt.mpr c_12)
                refine lv_istore (lv' := [(10, .int (u8 (wyO fawp j i))), (9, .int z), (8, .int v), (7, .int (nI (u))), (6, .int (nI (wyO fawp j i))), (5, .int (nI (i))), (4, .int (fas (j))), (3, .int (fat (j))), (2, .int (nI (q - 1))), (0, .ref h0), (1, .int (nI (j)))]) hx hb dX9_learns_239 hl (by decide) rfl (fun ls hl => ?_)
                refine lv_iload_n hx hb dX9_learns_241 rfl (lv_at hl 7 rfl) ?_
                refine lv_iload hx hb dX9_learns_242 (lv_at hl 6 rfl) ?_
                refine lv_isub hx hb dX9_learns_244 ?_
                refine lv_topi (fun x_13 ex_13 => ?_)
                refine lv_iload hx hb dX9_learns_245 (lv_at hl 1 rfl) ?_
                refine lv_isub hx hb dX9_learns_247 ?_
                refine lv_topi (fun x_14 ex_14 => ?_)
                have hr7 : x_14 = fat j - fas j - z := by rw [ex_14, ex_13]
                refine lv_aload_n hx hb dX9_learns_248 rfl (lv_at hl 9 rfl) ?_
                refine xg hF kf_X9_7 hK hP 0 rfl rfl dX9_learns_249 ?_
                refine lv_bipush (v := 13) hx hb dX9_learns_252 (by decide) ?_
                refine lv_iload hx hb dX9_learns_254 (lv_at hl 4 rfl) ?_
                refine lv_iadd hx hb dX9_learns_256 ?_
                refine xl_i (y := nI (13 + (wyO fawp j i))) (nI_add 13 (wyO fawp j i)) ?_
                refine va_iald hx hb hK hP 1 0 rfl rfl (vp_in_nI (show 13 + (wyO fawp j i) < 449 by omega) (by decide)) dX9_learns_257 ?_
                refine xl_i (y := s8 (13 + (wyO fawp j i))) (congrArg s8 (nI_clamp (show 13 + (wyO fawp j i) < 2 ^ 31 by omega))) ?_
                refine xl_i (y := l8 (wyO fawp j i)) (FR.gl htG (show wyO fawp j i < 100 by omega) (by omega)) ?_
                refine lv_icmp_le (tgt := 271) hx hb dX9_learns_258 (by decide) (fun c_15 => ?_) (fun c_15 => ?_)
                · skip
                  refine lv_aload_n hx hb dX9_learns_271 rfl (lv_at hl 9 rfl) ?_
                  refine xg hF kf_X9_7 hK hP 0 rfl rfl dX9_learns_272 ?_
                  refine lv_bipush (v := 13) hx hb dX9_learns_275 (by decide) ?_
                  refine lv_iload hx hb dX9_learns_277 (lv_at hl 4 rfl) ?_
                  refine lv_iadd hx hb dX9_learns_279 ?_
                  refine xl_i (y := nI (13 + (wyO fawp j i))) (nI_add 13 (wyO fawp j i)) ?_
                  refine va_iald hx hb hK hP 1 0 rfl rfl (vp_in_nI (show 13 + (wyO fawp j i) < 449 by omega) (by decide)) dX9_learns_280 ?_
                  refine xl_i (y := s8 (13 + (wyO fawp j i))) (congrArg s8 (nI_clamp (show 13 + (wyO fawp j i) < 2 ^ 31 by omega))) ?_
                  refine xl_i (y := l8 (wyO fawp j i)) (FR.gl htG (show wyO fawp j i < 100 by omega) (by omega)) ?_
                  have hY9 : l8 (wyO fawp j i) = lnY (wyO fawp j) (q - 1) i (fat j) (fas j) l8 u8 := lnY_n hZ9 (by rw [← hr7]; exact Int32.not_lt.mpr c_15)
                  refine lv_istore (lv' := [(11, .int (l8 (wyO fawp j i))), (10, .int (u8 (wyO fawp j i))), (9, .int z), (8, .int v), (7, .int (nI (u))), (6, .int (nI (wyO fawp j i))), (5, .int (nI (i))), (4, .int (fas (j))), (3, .int (fat (j))), (2, .int (nI (q - 1))), (0, .ref h0), (1, .int (nI (j)))]) hx hb dX9_learns_281 hl (by decide) rfl (fun ls hl => ?_)
                  refine lv_iload hx hb dX9_learns_283 (lv_at hl 0 rfl) ?_
                  refine lv_iload hx hb dX9_learns_285 (lv_at hl 1 rfl) ?_
                  refine xc_Sr hF (c_X9_areEnds l D cI cJ cZ cS ta sa sv H.size (l8 (wyO fawp j i)) (u8 (wyO fawp j i)) ) ks_X9_84 ⟨rfl, rfl, Nat.le_of_ble_eq_true rfl, Nat.le_of_ble_eq_true rfl⟩ ⟨Nat.le_of_ble_eq_true rfl, Nat.le_of_ble_eq_true rfl⟩ hK hN hZ hP hD hS hA [] rfl rfl rfl hl.1 rfl (Nat.le_of_ble_eq_true rfl) dX9_learns_287 (fun r_16 hw_r_16 => ?_)
                  rcases hw_r_16 with ⟨rfl, h_17⟩ | ⟨rfl, h_18⟩
                  · skip
                    refine lv_if_ne (tgt := 295) hx hb dX9_learns_290 (by decide) (fun c_19 => ?_) (fun c_19 => absurd c_19 (by decide))
                    refine lv_aload_n hx hb dX9_learns_295 rfl (lv_at hl 10 rfl) ?_
                    refine lv_aload_n hx hb dX9_learns_296 rfl (lv_at hl 10 rfl) ?_
                    refine xg hF kf_X9_205 hK hP 0 rfl rfl dX9_learns_297 ?_
                    refine lv_if_ne (tgt := 333) hx hb dX9_learns_300 (by decide) (fun c_20 => ?_) (fun c_20 => ?_)
                    · skip
                      refine lv_iconst (v := 1) hx hb dX9_learns_333 (by decide) ?_
                      refine lv_goto (tgt := 338) hx hb dX9_learns_334 (by decide) ?_
                      refine xp hF kf_X9_205 tyX9_ok nmX9 hK hP hD hS 0 rfl rfl rfl rfl (Nat.le_of_ble_eq_true rfl) dX9_learns_338 (fun H locs hP hD hS => ?_)
                      have hP : va_P D vwCl [(h0, .inr (9, [.ref ys, .ref yk, .ref yo, .ref yt, .int mk0, .ref yfa, .ref yfe, .int mL, .int mS, .int mM, .ref yro, .ref yhe, .ref ygr, .int mF, .int 1, .int mY, .ref yta, .int (nI (mz)), .int (nI (mf)), .int (nI (mt)), .int mv, .int mw, .ref ywa, .ref ybi, .ref ysi, .ref ynu, .ref ymo])), (ys, .inl (cI, 449, .inl s8))] H := hP
                      have hD : va_D A [(h0, .inr (9, [.ref ys, .ref yk, .ref yo, .ref yt, .int mk0, .ref yfa, .ref yfe, .int mL, .int mS, .int mM, .ref yro, .ref yhe, .ref ygr, .int mF, .int 1, .int mY, .ref yta, .int (nI (mz)), .int (nI (mf)), .int (nI (mt)), .int mv, .int mw, .ref ywa, .ref ybi, .ref ysi, .ref ynu, .ref ymo])), (ys, .inl (cI, 449, .inl s8))] := hD
                      refine lv_aload_n hx hb dX9_learns_341 rfl (lv_at hl 10 rfl) ?_
                      refine xg hF kf_X9_7 hK hP 0 rfl rfl dX9_learns_342 ?_
                      refine lv_bipush (v := 113) hx hb dX9_learns_345 (by decide) ?_
                      refine lv_iload hx hb dX9_learns_347 (lv_at hl 5 rfl) ?_
                      refine lv_iadd hx hb dX9_learns_349 ?_
                      refine xl_i (y := nI (113 + (wyO fawp j i))) (nI_add 113 (wyO fawp j i)) ?_
                      refine lv_iload hx hb dX9_learns_350 (lv_at hl 1 rfl) ?_
                      refine va_iast hx hb hK hP hD hS 1 0 rfl rfl (vp_in_nI (show 113 + (wyO fawp j i) < 449 by omega) (by decide)) dX9_learns_352 (fun H locs hP hD hS => ?_)
                      rw [nI_clamp (show 113 + (wyO fawp j i) < 2 ^ 31 by omega)] at hP hD
                      obtain ⟨f_21, ef_21⟩ : ∃ g, g = upd s8 (113 + (wyO fawp j i)) (u8 (wyO fawp j i)) := ⟨_, rfl⟩
                      rw [← ef_21] at hP hD
                      have k0_f_21 : f_21 0 = nI P := by rw [ef_21]; exact (pk_un (show 0 ≠ (113 + (wyO fawp j i)) by omega)).trans ht0
                      have k1_f_21 : f_21 1 = nI Rn := by rw [ef_21]; exact (pk_un (show 1 ≠ (113 + (wyO fawp j i)) by omega)).trans ht1
                      have k2_f_21 : f_21 2 = nI Wn := by rw [ef_21]; exact (pk_un (show 2 ≠ (113 + (wyO fawp j i)) by omega)).trans ht2
                      have kS_f_21 : SI f_21 := by rw [ef_21]; exact SI.upd htS (okS.low (show (113 + (wyO fawp j i)) < 313 by omega))
                      have kM_f_21 : MI f_21 := by rw [ef_21]; exact MI.upd htM (okM.out (show (113 + (wyO fawp j i)) < 13 ∨ 113 ≤ (113 + (wyO fawp j i)) by omega))
                      have kR_f_21 : RI Rn f_21 := by rw [ef_21]; exact RI.upd htR (fun r9 hr9 e9 => by omega)
                      have kG_f_21 : FR P f_21 fae l8 (upd u8 (wyO fawp j i) (u8 (wyO fawp j i))) fao farn farp fak fawn fawp fat fas := by rw [ef_21]; exact FR.pu htG (show wyO fawp j i < 100 by omega) (by omega)
                      have hP : va_P D vwCl [(h0, .inr (9, [.ref ys, .ref yk, .ref yo, .ref yt, .int mk0, .ref yfa, .ref yfe, .int mL, .int mS, .int mM, .ref yro, .ref yhe, .ref ygr, .int mF, .int 1, .int mY, .ref yta, .int (nI (mz)), .int (nI (mf)), .int (nI (mt)), .int mv, .int mw, .ref ywa, .ref ybi, .ref ysi, .ref ynu, .ref ymo])), (ys, .inl (cI, 449, .inl f_21))] H := hP
                      have hD : va_D A [(h0, .inr (9, [.ref ys, .ref yk, .ref yo, .ref yt, .int mk0, .ref yfa, .ref yfe, .int mL, .int mS, .int mM, .ref yro, .ref yhe, .ref ygr, .int mF, .int 1, .int mY, .ref yta, .int (nI (mz)), .int (nI (mf)), .int (nI (mt)), .int mv, .int mw, .ref ywa, .ref ybi, .ref ysi, .ref ynu, .ref ymo])), (ys, .inl (cI, 449, .inl f_21))] := hD
                      refine lv_aload_n hx hb dX9_learns_353 rfl (lv_at hl 10 rfl) ?_
                      refine xg hF kf_X9_7 hK hP 0 rfl rfl dX9_learns_354 ?_
                      refine lv_bipush (v := 13) hx hb dX9_learns_357 (by decide) ?_
                      refine lv_iload hx hb dX9_learns_359 (lv_at hl 5 rfl) ?_
                      refine lv_iadd hx hb dX9_learns_361 ?_
                      refine xl_i (y := nI (13 + (wyO fawp j i))) (nI_add 13 (wyO fawp j i)) ?_
                      refine lv_iload hx hb dX9_learns_362 (lv_at hl 0 rfl) ?_
                      refine va_iast hx hb hK hP hD hS 1 0 rfl rfl (vp_in_nI (show 13 + (wyO fawp j i) < 449 by omega) (by decide)) dX9_learns_364 (fun H locs hP hD hS => ?_)
                      rw [nI_clamp (show 13 + (wyO fawp j i) < 2 ^ 31 by omega)] at hP hD
                      obtain ⟨f_22, ef_22⟩ : ∃ g, g = upd f_21 (13 + (wyO fawp j i)) (l8 (wyO fawp j i)) := ⟨_, rfl⟩
                      rw [← ef_22] at hP hD
                      have k0_f_22 : f_22 0 = nI P := by rw [ef_22]; exact (pk_un (show 0 ≠ (13 + (wyO fawp j i)) by omega)).trans k0_f_21
                      have k1_f_22 : f_22 1 = nI Rn := by rw [ef_22]; exact (pk_un (show 1 ≠ (13 + (wyO fawp j i)) by omega)).trans k1_f_21
                      have k2_f_22 : f_22 2 = nI Wn := by rw [ef_22]; exact (pk_un (show 2 ≠ (13 + (wyO fawp j i)) by omega)).trans k2_f_21
                      have kS_f_22 : SI f_22 := by rw [ef_22]; exact SI.upd kS_f_21 (okS.low (show (13 + (wyO fawp j i)) < 313 by omega))
                      have kM_f_22 : MI f_22 := by rw [ef_22]; exact MI.upd kM_f_21 (fun _ _ => ends_lo h_17)
                      have kR_f_22 : RI Rn f_22 := by rw [ef_22]; exact RI.upd kR_f_21 (fun r9 hr9 e9 => by omega)
                      have kG_f_22 : FR P f_22 fae (upd l8 (wyO fawp j i) (l8 (wyO fawp j i))) (upd u8 (wyO fawp j i) (u8 (wyO fawp j i))) fao farn farp fak fawn fawp fat fas := by rw [ef_22]; exact FR.pl kG_f_21 (show wyO fawp j i < 100 by omega) (by omega)
                      have hP : va_P D vwCl [(h0, .inr (9, [.ref ys, .ref yk, .ref yo, .ref yt, .int mk0, .ref yfa, .ref yfe, .int mL, .int mS, .int mM, .ref yro, .ref yhe, .ref ygr, .int mF, .int 1, .int mY, .ref yta, .int (nI (mz)), .int (nI (mf)), .int (nI (mt)), .int mv, .int mw, .ref ywa, .ref ybi, .ref ysi, .ref ynu, .ref ymo])), (ys, .inl (cI, 449, .inl f_22))] H := hP
                      have hD : va_D A [(h0, .inr (9, [.ref ys, .ref yk, .ref yo, .ref yt, .int mk0, .ref yfa, .ref yfe, .int mL, .int mS, .int mM, .ref yro, .ref yhe, .ref ygr, .int mF, .int 1, .int mY, .ref yta, .int (nI (mz)), .int (nI (mf)), .int (nI (mt)), .int mv, .int mw, .ref ywa, .ref ybi, .ref ysi, .ref ynu, .ref ymo])), (ys, .inl (cI, 449, .inl f_22))] := hD
                      refine lv_iinc (v := nI (i + 1)) (lv' := [(5, .int (nI (i + 1))), (11, .int (l8 (wyO fawp j i))), (10, .int (u8 (wyO fawp j i))), (9, .int z), (8, .int v), (7, .int (nI (u))), (6, .int (nI (wyO fawp j i))), (4, .int (fas (j))), (3, .int (fat (j))), (2, .int (nI (q - 1))), (0, .ref h0), (1, .int (nI (j)))]) hx hb dX9_learns_365 hl (k := 6) rfl (nI_1 (i)) (by decide) rfl (fun ls hl => ?_)
                      refine lv_goto (tgt := 62) hx hb dX9_learns_368 (by decide) ?_
                      exact ih_62 (i + 1) 1 f_22 (upd l8 (wyO fawp j i) (l8 (wyO fawp j i))) (upd u8 (wyO fawp j i) (u8 (wyO fawp j i))) _ _ _ (by omega) (by omega) (Or.inr rfl) (hB8.trans (blv_go (by omega) (nw_ok hY9 hX9 h_17) (nwS_m (by rw [hT9]; omega) hY9 hX9 (Or.inl ⟨rfl, Or.inl (hc8.resolve_left c_20)⟩)))) k0_f_22 k1_f_22 k2_f_22 kS_f_22 kM_f_22 htp htr htw kR_f_22 kG_f_22 (hP.sub [0, 1] rfl) (hD.sub [0, 1] (by decide) rfl) hS (lv_sub hl [0, 7, 8, 9, 10, 11] rfl)
                    · skip
                      refine lv_iload hx hb dX9_learns_303 (lv_at hl 1 rfl) ?_
                      refine lv_aload_n hx hb dX9_learns_305 rfl (lv_at hl 10 rfl) ?_
                      refine xg hF kf_X9_7 hK hP 0 rfl rfl dX9_learns_306 ?_
                      refine lv_bipush (v := 113) hx hb dX9_learns_309 (by decide) ?_
                      refine lv_iload hx hb dX9_learns_311 (lv_at hl 5 rfl) ?_
                      refine lv_iadd hx hb dX9_learns_313 ?_
                      refine xl_i (y := nI (113 + (wyO fawp j i))) (nI_add 113 (wyO fawp j i)) ?_
                      refine va_iald hx hb hK hP 1 0 rfl rfl (vp_in_nI (show 113 + (wyO fawp j i) < 449 by omega) (by decide)) dX9_learns_314 ?_
                      refine xl_i (y := s8 (113 + (wyO fawp j i))) (congrArg s8 (nI_clamp (show 113 + (wyO fawp j i) < 2 ^ 31 by omega))) ?_
                      refine xl_i (y := u8 (wyO fawp j i)) (FR.gu htG (show wyO fawp j i < 100 by omega) (by omega)) ?_
                      refine lv_icmp_ne (tgt := 333) hx hb dX9_learns_315 (by decide) (fun c_23 => ?_) (fun c_23 => ?_)
                      · skip
                        refine lv_iconst (v := 1) hx hb dX9_learns_333 (by decide) ?_
                        refine lv_goto (tgt := 338) hx hb dX9_learns_334 (by decide) ?_
                        refine xp hF kf_X9_205 tyX9_ok nmX9 hK hP hD hS 0 rfl rfl rfl rfl (Nat.le_of_ble_eq_true rfl) dX9_learns_338 (fun H locs hP hD hS => ?_)
                        have hP : va_P D vwCl [(h0, .inr (9, [.ref ys, .ref yk, .ref yo, .ref yt, .int mk0, .ref yfa, .ref yfe, .int mL, .int mS, .int mM, .ref yro, .ref yhe, .ref ygr, .int mF, .int 1, .int mY, .ref yta, .int (nI (mz)), .int (nI (mf)), .int (nI (mt)), .int mv, .int mw, .ref ywa, .ref ybi, .ref ysi, .ref ynu, .ref ymo])), (ys, .inl (cI, 449, .inl s8))] H := hP
                        have hD : va_D A [(h0, .inr (9, [.ref ys, .ref yk, .ref yo, .ref yt, .int mk0, .ref yfa, .ref yfe, .int mL, .int mS, .int mM, .ref yro, .ref yhe, .ref ygr, .int mF, .int 1, .int mY, .ref yta, .int (nI (mz)), .int (nI (mf)), .int (nI (mt)), .int mv, .int mw, .ref ywa, .ref ybi, .ref ysi, .ref ynu, .ref ymo])), (ys, .inl (cI, 449, .inl s8))] := hD
                        refine lv_aload_n hx hb dX9_learns_341 rfl (lv_at hl 10 rfl) ?_
                        refine xg hF kf_X9_7 hK hP 0 rfl rfl dX9_learns_342 ?_
                        refine lv_bipush (v := 113) hx hb dX9_learns_345 (by decide) ?_
                        refine lv_iload hx hb dX9_learns_347 (lv_at hl 5 rfl) ?_
                        refine lv_iadd hx hb dX9_learns_349 ?_
                        refine xl_i (y := nI (113 + (wyO fawp j i))) (nI_add 113 (wyO fawp j i)) ?_
                        refine lv_iload hx hb dX9_learns_350 (lv_at hl 1 rfl) ?_
                        refine va_iast hx hb hK hP hD hS 1 0 rfl rfl (vp_in_nI (show 113 + (wyO fawp j i) < 449 by omega) (by decide)) dX9_learns_352 (fun H locs hP hD hS => ?_)
                        rw [nI_clamp (show 113 + (wyO fawp j i) < 2 ^ 31 by omega)] at hP hD
                        obtain ⟨f_24, ef_24⟩ : ∃ g, g = upd s8 (113 + (wyO fawp j i)) (u8 (wyO fawp j i)) := ⟨_, rfl⟩
                        rw [← ef_24] at hP hD
                        have k0_f_24 : f_24 0 = nI P := by rw [ef_24]; exact (pk_un (show 0 ≠ (113 + (wyO fawp j i)) by omega)).trans ht0
                        have k1_f_24 : f_24 1 = nI Rn := by rw [ef_24]; exact (pk_un (show 1 ≠ (113 + (wyO fawp j i)) by omega)).trans ht1
                        have k2_f_24 : f_24 2 = nI Wn := by rw [ef_24]; exact (pk_un (show 2 ≠ (113 + (wyO fawp j i)) by omega)).trans ht2
                        have kS_f_24 : SI f_24 := by rw [ef_24]; exact SI.upd htS (okS.low (show (113 + (wyO fawp j i)) < 313 by omega))
                        have kM_f_24 : MI f_24 := by rw [ef_24]; exact MI.upd htM (okM.out (show (113 + (wyO fawp j i)) < 13 ∨ 113 ≤ (113 + (wyO fawp j i)) by omega))
                        have kR_f_24 : RI Rn f_24 := by rw [ef_24]; exact RI.upd htR (fun r9 hr9 e9 => by omega)
                        have kG_f_24 : FR P f_24 fae l8 (upd u8 (wyO fawp j i) (u8 (wyO fawp j i))) fao farn farp fak fawn fawp fat fas := by rw [ef_24]; exact FR.pu htG (show wyO fawp j i < 100 by omega) (by omega)
                        have hP : va_P D vwCl [(h0, .inr (9, [.ref ys, .ref yk, .ref yo, .ref yt, .int mk0, .ref yfa, .ref yfe, .int mL, .int mS, .int mM, .ref yro, .ref yhe, .ref ygr, .int mF, .int 1, .int mY, .ref yta, .int (nI (mz)), .int (nI (mf)), .int (nI (mt)), .int mv, .int mw, .ref ywa, .ref ybi, .ref ysi, .ref ynu, .ref ymo])), (ys, .inl (cI, 449, .inl f_24))] H := hP
                        have hD : va_D A [(h0, .inr (9, [.ref ys, .ref yk, .ref yo, .ref yt, .int mk0, .ref yfa, .ref yfe, .int mL, .int mS, .int mM, .ref yro, .ref yhe, .ref ygr, .int mF, .int 1, .int mY, .ref yta, .int (nI (mz)), .int (nI (mf)), .int (nI (mt)), .int mv, .int mw, .ref ywa, .ref ybi, .ref ysi, .ref ynu, .ref ymo])), (ys, .inl (cI, 449, .inl f_24))] := hD
                        refine lv_aload_n hx hb dX9_learns_353 rfl (lv_at hl 10 rfl) ?_
                        refine xg hF kf_X9_7 hK hP 0 rfl rfl dX9_learns_354 ?_
                        refine lv_bipush (v := 13) hx hb dX9_learns_357 (by decide) ?_
                        refine lv_iload hx hb dX9_learns_359 (lv_at hl 5 rfl) ?_
                        refine lv_iadd hx hb dX9_learns_361 ?_
                        refine xl_i (y := nI (13 + (wyO fawp j i))) (nI_add 13 (wyO fawp j i)) ?_
                        refine lv_iload hx hb dX9_learns_362 (lv_at hl 0 rfl) ?_
                        refine va_iast hx hb hK hP hD hS 1 0 rfl rfl (vp_in_nI (show 13 + (wyO fawp j i) < 449 by omega) (by decide)) dX9_learns_364 (fun H locs hP hD hS => ?_)
                        rw [nI_clamp (show 13 + (wyO fawp j i) < 2 ^ 31 by omega)] at hP hD
                        obtain ⟨f_25, ef_25⟩ : ∃ g, g = upd f_24 (13 + (wyO fawp j i)) (l8 (wyO fawp j i)) := ⟨_, rfl⟩
                        rw [← ef_25] at hP hD
                        have k0_f_25 : f_25 0 = nI P := by rw [ef_25]; exact (pk_un (show 0 ≠ (13 + (wyO fawp j i)) by omega)).trans k0_f_24
                        have k1_f_25 : f_25 1 = nI Rn := by rw [ef_25]; exact (pk_un (show 1 ≠ (13 + (wyO fawp j i)) by omega)).trans k1_f_24
                        have k2_f_25 : f_25 2 = nI Wn := by rw [ef_25]; exact (pk_un (show 2 ≠ (13 + (wyO fawp j i)) by omega)).trans k2_f_24
                        have kS_f_25 : SI f_25 := by rw [ef_25]; exact SI.upd kS_f_24 (okS.low (show (13 + (wyO fawp j i)) < 313 by omega))
                        have kM_f_25 : MI f_25 := by rw [ef_25]; exact MI.upd kM_f_24 (fun _ _ => ends_lo h_17)
                        have kR_f_25 : RI Rn f_25 := by rw [ef_25]; exact RI.upd kR_f_24 (fun r9 hr9 e9 => by omega)
                        have kG_f_25 : FR P f_25 fae (upd l8 (wyO fawp j i) (l8 (wyO fawp j i))) (upd u8 (wyO fawp j i) (u8 (wyO fawp j i))) fao farn farp fak fawn fawp fat fas := by rw [ef_25]; exact FR.pl kG_f_24 (show wyO fawp j i < 100 by omega) (by omega)
                        have hP : va_P D vwCl [(h0, .inr (9, [.ref ys, .ref yk, .ref yo, .ref yt, .int mk0, .ref yfa, .ref yfe, .int mL, .int mS, .int mM, .ref yro, .ref yhe, .ref ygr, .int mF, .int 1, .int mY, .ref yta, .int (nI (mz)), .int (nI (mf)), .int (nI (mt)), .int mv, .int mw, .ref ywa, .ref ybi, .ref ysi, .ref ynu, .ref ymo])), (ys, .inl (cI, 449, .inl f_25))] H := hP
                        have hD : va_D A [(h0, .inr (9, [.ref ys, .ref yk, .ref yo, .ref yt, .int mk0, .ref yfa, .ref yfe, .int mL, .int mS, .int mM, .ref yro, .ref yhe, .ref ygr, .int mF, .int 1, .int mY, .ref yta, .int (nI (mz)), .int (nI (mf)), .int (nI (mt)), .int mv, .int mw, .ref ywa, .ref ybi, .ref ysi, .ref ynu, .ref ymo])), (ys, .inl (cI, 449, .inl f_25))] := hD
                        refine lv_iinc (v := nI (i + 1)) (lv' := [(5, .int (nI (i + 1))), (11, .int (l8 (wyO fawp j i))), (10, .int (u8 (wyO fawp j i))), (9, .int z), (8, .int v), (7, .int (nI (u))), (6, .int (nI (wyO fawp j i))), (4, .int (fas (j))), (3, .int (fat (j))), (2, .int (nI (q - 1))), (0, .ref h0), (1, .int (nI (j)))]) hx hb dX9_learns_365 hl (k := 6) rfl (nI_1 (i)) (by decide) rfl (fun ls hl => ?_)
                        refine lv_goto (tgt := 62) hx hb dX9_learns_368 (by decide) ?_
                        exact ih_62 (i + 1) 1 f_25 (upd l8 (wyO fawp j i) (l8 (wyO fawp j i))) (upd u8 (wyO fawp j i) (u8 (wyO fawp j i))) _ _ _ (by omega) (by omega) (Or.inr rfl) (hB8.trans (blv_go (by omega) (nw_ok hY9 hX9 h_17) (nwS_m (by rw [hT9]; omega) hY9 hX9 (Or.inl ⟨rfl, Or.inr (fun h => c_23 h.2)⟩)))) k0_f_25 k1_f_25 k2_f_25 kS_f_25 kM_f_25 htp htr htw kR_f_25 kG_f_25 (hP.sub [0, 1] rfl) (hD.sub [0, 1] (by decide) rfl) hS (lv_sub hl [0, 7, 8, 9, 10, 11] rfl)
                      · skip
                        refine lv_iload hx hb dX9_learns_318 (lv_at hl 0 rfl) ?_
                        refine lv_aload_n hx hb dX9_learns_320 rfl (lv_at hl 10 rfl) ?_
                        refine xg hF kf_X9_7 hK hP 0 rfl rfl dX9_learns_321 ?_
                        refine lv_bipush (v := 13) hx hb dX9_learns_324 (by decide) ?_
                        refine lv_iload hx hb dX9_learns_326 (lv_at hl 5 rfl) ?_
                        refine lv_iadd hx hb dX9_learns_328 ?_
                        refine xl_i (y := nI (13 + (wyO fawp j i))) (nI_add 13 (wyO fawp j i)) ?_
                        refine va_iald hx hb hK hP 1 0 rfl rfl (vp_in_nI (show 13 + (wyO fawp j i) < 449 by omega) (by decide)) dX9_learns_329 ?_
                        refine xl_i (y := s8 (13 + (wyO fawp j i))) (congrArg s8 (nI_clamp (show 13 + (wyO fawp j i) < 2 ^ 31 by omega))) ?_
                        refine xl_i (y := l8 (wyO fawp j i)) (FR.gl htG (show wyO fawp j i < 100 by omega) (by omega)) ?_
                        refine lv_icmp_eq (tgt := 337) hx hb dX9_learns_330 (by decide) (fun c_26 => ?_) (fun c_26 => absurd rfl c_26)
                        refine lv_iconst (v := 0) hx hb dX9_learns_337 (by decide) ?_
                        refine xp hF kf_X9_205 tyX9_ok nmX9 hK hP hD hS 0 rfl rfl rfl rfl (Nat.le_of_ble_eq_true rfl) dX9_learns_338 (fun H locs hP hD hS => ?_)
                        have hP : va_P D vwCl [(h0, .inr (9, [.ref ys, .ref yk, .ref yo, .ref yt, .int mk0, .ref yfa, .ref yfe, .int mL, .int mS, .int mM, .ref yro, .ref yhe, .ref ygr, .int mF, .int 0, .int mY, .ref yta, .int (nI (mz)), .int (nI (mf)), .int (nI (mt)), .int mv, .int mw, .ref ywa, .ref ybi, .ref ysi, .ref ynu, .ref ymo])), (ys, .inl (cI, 449, .inl s8))] H := hP
                        have hD : va_D A [(h0, .inr (9, [.ref ys, .ref yk, .ref yo, .ref yt, .int mk0, .ref yfa, .ref yfe, .int mL, .int mS, .int mM, .ref yro, .ref yhe, .ref ygr, .int mF, .int 0, .int mY, .ref yta, .int (nI (mz)), .int (nI (mf)), .int (nI (mt)), .int mv, .int mw, .ref ywa, .ref ybi, .ref ysi, .ref ynu, .ref ymo])), (ys, .inl (cI, 449, .inl s8))] := hD
                        refine lv_aload_n hx hb dX9_learns_341 rfl (lv_at hl 10 rfl) ?_
                        refine xg hF kf_X9_7 hK hP 0 rfl rfl dX9_learns_342 ?_
                        refine lv_bipush (v := 113) hx hb dX9_learns_345 (by decide) ?_
                        refine lv_iload hx hb dX9_learns_347 (lv_at hl 5 rfl) ?_
                        refine lv_iadd hx hb dX9_learns_349 ?_
                        refine xl_i (y := nI (113 + (wyO fawp j i))) (nI_add 113 (wyO fawp j i)) ?_
                        refine lv_iload hx hb dX9_learns_350 (lv_at hl 1 rfl) ?_
                        refine va_iast hx hb hK hP hD hS 1 0 rfl rfl (vp_in_nI (show 113 + (wyO fawp j i) < 449 by omega) (by decide)) dX9_learns_352 (fun H locs hP hD hS => ?_)
                        rw [nI_clamp (show 113 + (wyO fawp j i) < 2 ^ 31 by omega)] at hP hD
                        obtain ⟨f_27, ef_27⟩ : ∃ g, g = upd s8 (113 + (wyO fawp j i)) (u8 (wyO fawp j i)) := ⟨_, rfl⟩
                        rw [← ef_27] at hP hD
                        have k0_f_27 : f_27 0 = nI P := by rw [ef_27]; exact (pk_un (show 0 ≠ (113 + (wyO fawp j i)) by omega)).trans ht0
                        have k1_f_27 : f_27 1 = nI Rn := by rw [ef_27]; exact (pk_un (show 1 ≠ (113 + (wyO fawp j i)) by omega)).trans ht1
                        have k2_f_27 : f_27 2 = nI Wn := by rw [ef_27]; exact (pk_un (show 2 ≠ (113 + (wyO fawp j i)) by omega)).trans ht2
                        have kS_f_27 : SI f_27 := by rw [ef_27]; exact SI.upd htS (okS.low (show (113 + (wyO fawp j i)) < 313 by omega))
                        have kM_f_27 : MI f_27 := by rw [ef_27]; exact MI.upd htM (okM.out (show (113 + (wyO fawp j i)) < 13 ∨ 113 ≤ (113 + (wyO fawp j i)) by omega))
                        have kR_f_27 : RI Rn f_27 := by rw [ef_27]; exact RI.upd htR (fun r9 hr9 e9 => by omega)
                        have kG_f_27 : FR P f_27 fae l8 (upd u8 (wyO fawp j i) (u8 (wyO fawp j i))) fao farn farp fak fawn fawp fat fas := by rw [ef_27]; exact FR.pu htG (show wyO fawp j i < 100 by omega) (by omega)
                        have hP : va_P D vwCl [(h0, .inr (9, [.ref ys, .ref yk, .ref yo, .ref yt, .int mk0, .ref yfa, .ref yfe, .int mL, .int mS, .int mM, .ref yro, .ref yhe, .ref ygr, .int mF, .int 0, .int mY, .ref yta, .int (nI (mz)), .int (nI (mf)), .int (nI (mt)), .int mv, .int mw, .ref ywa, .ref ybi, .ref ysi, .ref ynu, .ref ymo])), (ys, .inl (cI, 449, .inl f_27))] H := hP
                        have hD : va_D A [(h0, .inr (9, [.ref ys, .ref yk, .ref yo, .ref yt, .int mk0, .ref yfa, .ref yfe, .int mL, .int mS, .int mM, .ref yro, .ref yhe, .ref ygr, .int mF, .int 0, .int mY, .ref yta, .int (nI (mz)), .int (nI (mf)), .int (nI (mt)), .int mv, .int mw, .ref ywa, .ref ybi, .ref ysi, .ref ynu, .ref ymo])), (ys, .inl (cI, 449, .inl f_27))] := hD
                        refine lv_aload_n hx hb dX9_learns_353 rfl (lv_at hl 10 rfl) ?_
                        refine xg hF kf_X9_7 hK hP 0 rfl rfl dX9_learns_354 ?_
                        refine lv_bipush (v := 13) hx hb dX9_learns_357 (by decide) ?_
                        refine lv_iload hx hb dX9_learns_359 (lv_at hl 5 rfl) ?_
                        refine lv_iadd hx hb dX9_learns_361 ?_
                        refine xl_i (y := nI (13 + (wyO fawp j i))) (nI_add 13 (wyO fawp j i)) ?_
                        refine lv_iload hx hb dX9_learns_362 (lv_at hl 0 rfl) ?_
                        refine va_iast hx hb hK hP hD hS 1 0 rfl rfl (vp_in_nI (show 13 + (wyO fawp j i) < 449 by omega) (by decide)) dX9_learns_364 (fun H locs hP hD hS => ?_)
                        rw [nI_clamp (show 13 + (wyO fawp j i) < 2 ^ 31 by omega)] at hP hD
                        obtain ⟨f_28, ef_28⟩ : ∃ g, g = upd f_27 (13 + (wyO fawp j i)) (l8 (wyO fawp j i)) := ⟨_, rfl⟩
                        rw [← ef_28] at hP hD
                        have k0_f_28 : f_28 0 = nI P := by rw [ef_28]; exact (pk_un (show 0 ≠ (13 + (wyO fawp j i)) by omega)).trans k0_f_27
                        have k1_f_28 : f_28 1 = nI Rn := by rw [ef_28]; exact (pk_un (show 1 ≠ (13 + (wyO fawp j i)) by omega)).trans k1_f_27
                        have k2_f_28 : f_28 2 = nI Wn := by rw [ef_28]; exact (pk_un (show 2 ≠ (13 + (wyO fawp j i)) by omega)).trans k2_f_27
                        have kS_f_28 : SI f_28 := by rw [ef_28]; exact SI.upd kS_f_27 (okS.low (show (13 + (wyO fawp j i)) < 313 by omega))
                        have kM_f_28 : MI f_28 := by rw [ef_28]; exact MI.upd kM_f_27 (fun _ _ => ends_lo h_17)
                        have kR_f_28 : RI Rn f_28 := by rw [ef_28]; exact RI.upd kR_f_27 (fun r9 hr9 e9 => by omega)
                        have kG_f_28 : FR P f_28 fae (upd l8 (wyO fawp j i) (l8 (wyO fawp j i))) (upd u8 (wyO fawp j i) (u8 (wyO fawp j i))) fao farn farp fak fawn fawp fat fas := by rw [ef_28]; exact FR.pl kG_f_27 (show wyO fawp j i < 100 by omega) (by omega)
                        have hP : va_P D vwCl [(h0, .inr (9, [.ref ys, .ref yk, .ref yo, .ref yt, .int mk0, .ref yfa, .ref yfe, .int mL, .int mS, .int mM, .ref yro, .ref yhe, .ref ygr, .int mF, .int 0, .int mY, .ref yta, .int (nI (mz)), .int (nI (mf)), .int (nI (mt)), .int mv, .int mw, .ref ywa, .ref ybi, .ref ysi, .ref ynu, .ref ymo])), (ys, .inl (cI, 449, .inl f_28))] H := hP
                        have hD : va_D A [(h0, .inr (9, [.ref ys, .ref yk, .ref yo, .ref yt, .int mk0, .ref yfa, .ref yfe, .int mL, .int mS, .int mM, .ref yro, .ref yhe, .ref ygr, .int mF, .int 0, .int mY, .ref yta, .int (nI (mz)), .int (nI (mf)), .int (nI (mt)), .int mv, .int mw, .ref ywa, .ref ybi, .ref ysi, .ref ynu, .ref ymo])), (ys, .inl (cI, 449, .inl f_28))] := hD
                        refine lv_iinc (v := nI (i + 1)) (lv' := [(5, .int (nI (i + 1))), (11, .int (l8 (wyO fawp j i))), (10, .int (u8 (wyO fawp j i))), (9, .int z), (8, .int v), (7, .int (nI (u))), (6, .int (nI (wyO fawp j i))), (4, .int (fas (j))), (3, .int (fat (j))), (2, .int (nI (q - 1))), (0, .ref h0), (1, .int (nI (j)))]) hx hb dX9_learns_365 hl (k := 6) rfl (nI_1 (i)) (by decide) rfl (fun ls hl => ?_)
                        refine lv_goto (tgt := 62) hx hb dX9_learns_368 (by decide) ?_
                        exact ih_62 (i + 1) 0 f_28 (upd l8 (wyO fawp j i) (l8 (wyO fawp j i))) (upd u8 (wyO fawp j i) (u8 (wyO fawp j i))) _ _ _ (by omega) (by omega) (Or.inl rfl) (hB8.trans (blv_go (by omega) (nw_ok hY9 hX9 h_17) (nwS_m (by rw [hT9]; omega) hY9 hX9 (Or.inr ⟨rfl, c_20, c_26, c_23⟩)))) k0_f_28 k1_f_28 k2_f_28 kS_f_28 kM_f_28 htp htr htw kR_f_28 kG_f_28 (hP.sub [0, 1] rfl) (hD.sub [0, 1] (by decide) rfl) hS (lv_sub hl [0, 7, 8, 9, 10, 11] rfl)
                  · skip
                    refine lv_if_ne (tgt := 295) hx hb dX9_learns_290 (by decide) (fun c_29 => absurd (by decide) c_29) (fun c_29 => ?_)
                    refine lv_iconst (v := 0) hx hb dX9_learns_293 (by decide) ?_
                    exact W.zret (v := 0) hx hb hr rfl (fun t ht hW => ⟨⟨0, (c8, s8, l8, u8), rfl, ⟨Or.inr ⟨rfl, bel_y eq0 hq h_2 (hB8.trans (blv_no (by omega) (nw_no (by rw [hT9]; omega) hY9 hX9 h_18)))⟩, hc8, ht0, ht1, ht2, htS, htM, htp, htr, htw, htR, htG⟩, by rw [ht]; exact hP.sub [0, 1] rfl, hD.sub [0, 1] (by decide) rfl⟩, hS.F ht⟩) hS.2.2 dX9_learns_294 hlk
                · skip
                  refine lv_iload_n hx hb dX9_learns_261 rfl (lv_at hl 7 rfl) ?_
                  refine lv_iload hx hb dX9_learns_262 (lv_at hl 6 rfl) ?_
                  refine lv_isub hx hb dX9_learns_264 ?_
                  refine lv_topi (fun x_30 ex_30 => ?_)
                  refine lv_iload hx hb dX9_learns_265 (lv_at hl 1 rfl) ?_
                  refine lv_isub hx hb dX9_learns_267 ?_
                  refine lv_topi (fun x_31 ex_31 => ?_)
                  refine lv_goto (tgt := 281) hx hb dX9_learns_268 (by decide) ?_
                  have hY9 : x_31 = lnY (wyO fawp j) (q - 1) i (fat j) (fas j) l8 u8 := by rw [ex_31, ex_30]; exact lnY_p hZ9 (by rw [← hr7]; exact Int32.not_le.mp c_15)
                  refine lv_istore (lv' := [(11, .int x_31), (10, .int (u8 (wyO fawp j i))), (9, .int z), (8, .int v), (7, .int (nI (u))), (6, .int (nI (wyO fawp j i))), (5, .int (nI (i))), (4, .int (fas (j))), (3, .int (fat (j))), (2, .int (nI (q - 1))), (0, .ref h0), (1, .int (nI (j)))]) hx hb dX9_learns_281 hl (by decide) rfl (fun ls hl => ?_)
                  refine lv_iload hx hb dX9_learns_283 (lv_at hl 0 rfl) ?_
                  refine lv_iload hx hb dX9_learns_285 (lv_at hl 1 rfl) ?_
                  refine xc_Sr hF (c_X9_areEnds l D cI cJ cZ cS ta sa sv H.size x_31 (u8 (wyO fawp j i)) ) ks_X9_84 ⟨rfl, rfl, Nat.le_of_ble_eq_true rfl, Nat.le_of_ble_eq_true rfl⟩ ⟨Nat.le_of_ble_eq_true rfl, Nat.le_of_ble_eq_true rfl⟩ hK hN hZ hP hD hS hA [] rfl rfl rfl hl.1 rfl (Nat.le_of_ble_eq_true rfl) dX9_learns_287 (fun r_32 hw_r_32 => ?_)
                  rcases hw_r_32 with ⟨rfl, h_33⟩ | ⟨rfl, h_34⟩
                  · skip
                    refine lv_if_ne (tgt := 295) hx hb dX9_learns_290 (by decide) (fun c_35 => ?_) (fun c_35 => absurd c_35 (by decide))
                    refine lv_aload_n hx hb dX9_learns_295 rfl (lv_at hl 10 rfl) ?_
                    refine lv_aload_n hx hb dX9_learns_296 rfl (lv_at hl 10 rfl) ?_
                    refine xg hF kf_X9_205 hK hP 0 rfl rfl dX9_learns_297 ?_
                    refine lv_if_ne (tgt := 333) hx hb dX9_learns_300 (by decide) (fun c_36 => ?_) (fun c_36 => ?_)
                    · skip
                      refine lv_iconst (v := 1) hx hb dX9_learns_333 (by decide) ?_
                      refine lv_goto (tgt := 338) hx hb dX9_learns_334 (by decide) ?_
                      refine xp hF kf_X9_205 tyX9_ok nmX9 hK hP hD hS 0 rfl rfl rfl rfl (Nat.le_of_ble_eq_true rfl) dX9_learns_338 (fun H locs hP hD hS => ?_)
                      have hP : va_P D vwCl [(h0, .inr (9, [.ref ys, .ref yk, .ref yo, .ref yt, .int mk0, .ref yfa, .ref yfe, .int mL, .int mS, .int mM, .ref yro, .ref yhe, .ref ygr, .int mF, .int 1, .int mY, .ref yta, .int (nI (mz)), .int (nI (mf)), .int (nI (mt)), .int mv, .int mw, .ref ywa, .ref ybi, .ref ysi, .ref ynu, .ref ymo])), (ys, .inl (cI, 449, .inl s8))] H := hP
                      have hD : va_D A [(h0, .inr (9, [.ref ys, .ref yk, .ref yo, .ref yt, .int mk0, .ref yfa, .ref yfe, .int mL, .int mS, .int mM, .ref yro, .ref yhe, .ref ygr, .int mF, .int 1, .int mY, .ref yta, .int (nI (mz)), .int (nI (mf)), .int (nI (mt)), .int mv, .int mw, .ref ywa, .ref ybi, .ref ysi, .ref ynu, .ref ymo])), (ys, .inl (cI, 449, .inl s8))] := hD
                      refine lv_aload_n hx hb dX9_learns_341 rfl (lv_at hl 10 rfl) ?_
                      refine xg hF kf_X9_7 hK hP 0 rfl rfl dX9_learns_342 ?_
                      refine lv_bipush (v := 113) hx hb dX9_learns_345 (by decide) ?_
                      refine lv_iload hx hb dX9_learns_347 (lv_at hl 5 rfl) ?_
                      refine lv_iadd hx hb dX9_learns_349 ?_
                      refine xl_i (y := nI (113 + (wyO fawp j i))) (nI_add 113 (wyO fawp j i)) ?_
                      refine lv_iload hx hb dX9_learns_350 (lv_at hl 1 rfl) ?_
                      refine va_iast hx hb hK hP hD hS 1 0 rfl rfl (vp_in_nI (show 113 + (wyO fawp j i) < 449 by omega) (by decide)) dX9_learns_352 (fun H locs hP hD hS => ?_)
                      rw [nI_clamp (show 113 + (wyO fawp j i) < 2 ^ 31 by omega)] at hP hD
                      obtain ⟨f_37, ef_37⟩ : ∃ g, g = upd s8 (113 + (wyO fawp j i)) (u8 (wyO fawp j i)) := ⟨_, rfl⟩
                      rw [← ef_37] at hP hD
                      have k0_f_37 : f_37 0 = nI P := by rw [ef_37]; exact (pk_un (show 0 ≠ (113 + (wyO fawp j i)) by omega)).trans ht0
                      have k1_f_37 : f_37 1 = nI Rn := by rw [ef_37]; exact (pk_un (show 1 ≠ (113 + (wyO fawp j i)) by omega)).trans ht1
                      have k2_f_37 : f_37 2 = nI Wn := by rw [ef_37]; exact (pk_un (show 2 ≠ (113 + (wyO fawp j i)) by omega)).trans ht2
                      have kS_f_37 : SI f_37 := by rw [ef_37]; exact SI.upd htS (okS.low (show (113 + (wyO fawp j i)) < 313 by omega))
                      have kM_f_37 : MI f_37 := by rw [ef_37]; exact MI.upd htM (okM.out (show (113 + (wyO fawp j i)) < 13 ∨ 113 ≤ (113 + (wyO fawp j i)) by omega))
                      have kR_f_37 : RI Rn f_37 := by rw [ef_37]; exact RI.upd htR (fun r9 hr9 e9 => by omega)
                      have kG_f_37 : FR P f_37 fae l8 (upd u8 (wyO fawp j i) (u8 (wyO fawp j i))) fao farn farp fak fawn fawp fat fas := by rw [ef_37]; exact FR.pu htG (show wyO fawp j i < 100 by omega) (by omega)
                      have hP : va_P D vwCl [(h0, .inr (9, [.ref ys, .ref yk, .ref yo, .ref yt, .int mk0, .ref yfa, .ref yfe, .int mL, .int mS, .int mM, .ref yro, .ref yhe, .ref ygr, .int mF, .int 1, .int mY, .ref yta, .int (nI (mz)), .int (nI (mf)), .int (nI (mt)), .int mv, .int mw, .ref ywa, .ref ybi, .ref ysi, .ref ynu, .ref ymo])), (ys, .inl (cI, 449, .inl f_37))] H := hP
                      have hD : va_D A [(h0, .inr (9, [.ref ys, .ref yk, .ref yo, .ref yt, .int mk0, .ref yfa, .ref yfe, .int mL, .int mS, .int mM, .ref yro, .ref yhe, .ref ygr, .int mF, .int 1, .int mY, .ref yta, .int (nI (mz)), .int (nI (mf)), .int (nI (mt)), .int mv, .int mw, .ref ywa, .ref ybi, .ref ysi, .ref ynu, .ref ymo])), (ys, .inl (cI, 449, .inl f_37))] := hD
                      refine lv_aload_n hx hb dX9_learns_353 rfl (lv_at hl 10 rfl) ?_
                      refine xg hF kf_X9_7 hK hP 0 rfl rfl dX9_learns_354 ?_
                      refine lv_bipush (v := 13) hx hb dX9_learns_357 (by decide) ?_
                      refine lv_iload hx hb dX9_learns_359 (lv_at hl 5 rfl) ?_
                      refine lv_iadd hx hb dX9_learns_361 ?_
                      refine xl_i (y := nI (13 + (wyO fawp j i))) (nI_add 13 (wyO fawp j i)) ?_
                      refine lv_iload hx hb dX9_learns_362 (lv_at hl 0 rfl) ?_
                      refine va_iast hx hb hK hP hD hS 1 0 rfl rfl (vp_in_nI (show 13 + (wyO fawp j i) < 449 by omega) (by decide)) dX9_learns_364 (fun H locs hP hD hS => ?_)
                      rw [nI_clamp (show 13 + (wyO fawp j i) < 2 ^ 31 by omega)] at hP hD
                      obtain ⟨f_38, ef_38⟩ : ∃ g, g = upd f_37 (13 + (wyO fawp j i)) x_31 := ⟨_, rfl⟩
                      rw [← ef_38] at hP hD
                      have k0_f_38 : f_38 0 = nI P := by rw [ef_38]; exact (pk_un (show 0 ≠ (13 + (wyO fawp j i)) by omega)).trans k0_f_37
                      have k1_f_38 : f_38 1 = nI Rn := by rw [ef_38]; exact (pk_un (show 1 ≠ (13 + (wyO fawp j i)) by omega)).trans k1_f_37
                      have k2_f_38 : f_38 2 = nI Wn := by rw [ef_38]; exact (pk_un (show 2 ≠ (13 + (wyO fawp j i)) by omega)).trans k2_f_37
                      have kS_f_38 : SI f_38 := by rw [ef_38]; exact SI.upd kS_f_37 (okS.low (show (13 + (wyO fawp j i)) < 313 by omega))
                      have kM_f_38 : MI f_38 := by rw [ef_38]; exact MI.upd kM_f_37 (fun _ _ => ends_lo h_33)
                      have kR_f_38 : RI Rn f_38 := by rw [ef_38]; exact RI.upd kR_f_37 (fun r9 hr9 e9 => by omega)
                      have kG_f_38 : FR P f_38 fae (upd l8 (wyO fawp j i) x_31) (upd u8 (wyO fawp j i) (u8 (wyO fawp j i))) fao farn farp fak fawn fawp fat fas := by rw [ef_38]; exact FR.pl kG_f_37 (show wyO fawp j i < 100 by omega) (by omega)
                      have hP : va_P D vwCl [(h0, .inr (9, [.ref ys, .ref yk, .ref yo, .ref yt, .int mk0, .ref yfa, .ref yfe, .int mL, .int mS, .int mM, .ref yro, .ref yhe, .ref ygr, .int mF, .int 1, .int mY, .ref yta, .int (nI (mz)), .int (nI (mf)), .int (nI (mt)), .int mv, .int mw, .ref ywa, .ref ybi, .ref ysi, .ref ynu, .ref ymo])), (ys, .inl (cI, 449, .inl f_38))] H := hP
                      have hD : va_D A [(h0, .inr (9, [.ref ys, .ref yk, .ref yo, .ref yt, .int mk0, .ref yfa, .ref yfe, .int mL, .int mS, .int mM, .ref yro, .ref yhe, .ref ygr, .int mF, .int 1, .int mY, .ref yta, .int (nI (mz)), .int (nI (mf)), .int (nI (mt)), .int mv, .int mw, .ref ywa, .ref ybi, .ref ysi, .ref ynu, .ref ymo])), (ys, .inl (cI, 449, .inl f_38))] := hD
                      refine lv_iinc (v := nI (i + 1)) (lv' := [(5, .int (nI (i + 1))), (11, .int x_31), (10, .int (u8 (wyO fawp j i))), (9, .int z), (8, .int v), (7, .int (nI (u))), (6, .int (nI (wyO fawp j i))), (4, .int (fas (j))), (3, .int (fat (j))), (2, .int (nI (q - 1))), (0, .ref h0), (1, .int (nI (j)))]) hx hb dX9_learns_365 hl (k := 6) rfl (nI_1 (i)) (by decide) rfl (fun ls hl => ?_)
                      refine lv_goto (tgt := 62) hx hb dX9_learns_368 (by decide) ?_
                      exact ih_62 (i + 1) 1 f_38 (upd l8 (wyO fawp j i) x_31) (upd u8 (wyO fawp j i) (u8 (wyO fawp j i))) _ _ _ (by omega) (by omega) (Or.inr rfl) (hB8.trans (blv_go (by omega) (nw_ok hY9 hX9 h_33) (nwS_m (by rw [hT9]; omega) hY9 hX9 (Or.inl ⟨rfl, Or.inl (hc8.resolve_left c_36)⟩)))) k0_f_38 k1_f_38 k2_f_38 kS_f_38 kM_f_38 htp htr htw kR_f_38 kG_f_38 (hP.sub [0, 1] rfl) (hD.sub [0, 1] (by decide) rfl) hS (lv_sub hl [0, 7, 8, 9, 10, 11] rfl)
                    · skip
                      refine lv_iload hx hb dX9_learns_303 (lv_at hl 1 rfl) ?_
                      refine lv_aload_n hx hb dX9_learns_305 rfl (lv_at hl 10 rfl) ?_
                      refine xg hF kf_X9_7 hK hP 0 rfl rfl dX9_learns_306 ?_
                      refine lv_bipush (v := 113) hx hb dX9_learns_309 (by decide) ?_
                      refine lv_iload hx hb dX9_learns_311 (lv_at hl 5 rfl) ?_
                      refine lv_iadd hx hb dX9_learns_313 ?_
                      refine xl_i (y := nI (113 + (wyO fawp j i))) (nI_add 113 (wyO fawp j i)) ?_
                      refine va_iald hx hb hK hP 1 0 rfl rfl (vp_in_nI (show 113 + (wyO fawp j i) < 449 by omega) (by decide)) dX9_learns_314 ?_
                      refine xl_i (y := s8 (113 + (wyO fawp j i))) (congrArg s8 (nI_clamp (show 113 + (wyO fawp j i) < 2 ^ 31 by omega))) ?_
                      refine xl_i (y := u8 (wyO fawp j i)) (FR.gu htG (show wyO fawp j i < 100 by omega) (by omega)) ?_
                      refine lv_icmp_ne (tgt := 333) hx hb dX9_learns_315 (by decide) (fun c_39 => ?_) (fun c_39 => ?_)
                      · skip
                        refine lv_iconst (v := 1) hx hb dX9_learns_333 (by decide) ?_
                        refine lv_goto (tgt := 338) hx hb dX9_learns_334 (by decide) ?_
                        refine xp hF kf_X9_205 tyX9_ok nmX9 hK hP hD hS 0 rfl rfl rfl rfl (Nat.le_of_ble_eq_true rfl) dX9_learns_338 (fun H locs hP hD hS => ?_)
                        have hP : va_P D vwCl [(h0, .inr (9, [.ref ys, .ref yk, .ref yo, .ref yt, .int mk0, .ref yfa, .ref yfe, .int mL, .int mS, .int mM, .ref yro, .ref yhe, .ref ygr, .int mF, .int 1, .int mY, .ref yta, .int (nI (mz)), .int (nI (mf)), .int (nI (mt)), .int mv, .int mw, .ref ywa, .ref ybi, .ref ysi, .ref ynu, .ref ymo])), (ys, .inl (cI, 449, .inl s8))] H := hP
                        have hD : va_D A [(h0, .inr (9, [.ref ys, .ref yk, .ref yo, .ref yt, .int mk0, .ref yfa, .ref yfe, .int mL, .int mS, .int mM, .ref yro, .ref yhe, .ref ygr, .int mF, .int 1, .int mY, .ref yta, .int (nI (mz)), .int (nI (mf)), .int (nI (mt)), .int mv, .int mw, .ref ywa, .ref ybi, .ref ysi, .ref ynu, .ref ymo])), (ys, .inl (cI, 449, .inl s8))] := hD
                        refine lv_aload_n hx hb dX9_learns_341 rfl (lv_at hl 10 rfl) ?_
                        refine xg hF kf_X9_7 hK hP 0 rfl rfl dX9_learns_342 ?_
                        refine lv_bipush (v := 113) hx hb dX9_learns_345 (by decide) ?_
                        refine lv_iload hx hb dX9_learns_347 (lv_at hl 5 rfl) ?_
                        refine lv_iadd hx hb dX9_learns_349 ?_
                        refine xl_i (y := nI (113 + (wyO fawp j i))) (nI_add 113 (wyO fawp j i)) ?_
                        refine lv_iload hx hb dX9_learns_350 (lv_at hl 1 rfl) ?_
                        refine va_iast hx hb hK hP hD hS 1 0 rfl rfl (vp_in_nI (show 113 + (wyO fawp j i) < 449 by omega) (by decide)) dX9_learns_352 (fun H locs hP hD hS => ?_)
                        rw [nI_clamp (show 113 + (wyO fawp j i) < 2 ^ 31 by omega)] at hP hD
                        obtain ⟨f_40, ef_40⟩ : ∃ g, g = upd s8 (113 + (wyO fawp j i)) (u8 (wyO fawp j i)) := ⟨_, rfl⟩
                        rw [← ef_40] at hP hD
                        have k0_f_40 : f_40 0 = nI P := by rw [ef_40]; exact (pk_un (show 0 ≠ (113 + (wyO fawp j i)) by omega)).trans ht0
                        have k1_f_40 : f_40 1 = nI Rn := by rw [ef_40]; exact (pk_un (show 1 ≠ (113 + (wyO fawp j i)) by omega)).trans ht1
                        have k2_f_40 : f_40 2 = nI Wn := by rw [ef_40]; exact (pk_un (show 2 ≠ (113 + (wyO fawp j i)) by omega)).trans ht2
                        have kS_f_40 : SI f_40 := by rw [ef_40]; exact SI.upd htS (okS.low (show (113 + (wyO fawp j i)) < 313 by omega))
                        have kM_f_40 : MI f_40 := by rw [ef_40]; exact MI.upd htM (okM.out (show (113 + (wyO fawp j i)) < 13 ∨ 113 ≤ (113 + (wyO fawp j i)) by omega))
                        have kR_f_40 : RI Rn f_40 := by rw [ef_40]; exact RI.upd htR (fun r9 hr9 e9 => by omega)
                        have kG_f_40 : FR P f_40 fae l8 (upd u8 (wyO fawp j i) (u8 (wyO fawp j i))) fao farn farp fak fawn fawp fat fas := by rw [ef_40]; exact FR.pu htG (show wyO fawp j i < 100 by omega) (by omega)
                        have hP : va_P D vwCl [(h0, .inr (9, [.ref ys, .ref yk, .ref yo, .ref yt, .int mk0, .ref yfa, .ref yfe, .int mL, .int mS, .int mM, .ref yro, .ref yhe, .ref ygr, .int mF, .int 1, .int mY, .ref yta, .int (nI (mz)), .int (nI (mf)), .int (nI (mt)), .int mv, .int mw, .ref ywa, .ref ybi, .ref ysi, .ref ynu, .ref ymo])), (ys, .inl (cI, 449, .inl f_40))] H := hP
                        have hD : va_D A [(h0, .inr (9, [.ref ys, .ref yk, .ref yo, .ref yt, .int mk0, .ref yfa, .ref yfe, .int mL, .int mS, .int mM, .ref yro, .ref yhe, .ref ygr, .int mF, .int 1, .int mY, .ref yta, .int (nI (mz)), .int (nI (mf)), .int (nI (mt)), .int mv, .int mw, .ref ywa, .ref ybi, .ref ysi, .ref ynu, .ref ymo])), (ys, .inl (cI, 449, .inl f_40))] := hD
                        refine lv_aload_n hx hb dX9_learns_353 rfl (lv_at hl 10 rfl) ?_
                        refine xg hF kf_X9_7 hK hP 0 rfl rfl dX9_learns_354 ?_
                        refine lv_bipush (v := 13) hx hb dX9_learns_357 (by decide) ?_
                        refine lv_iload hx hb dX9_learns_359 (lv_at hl 5 rfl) ?_
                        refine lv_iadd hx hb dX9_learns_361 ?_
                        refine xl_i (y := nI (13 + (wyO fawp j i))) (nI_add 13 (wyO fawp j i)) ?_
                        refine lv_iload hx hb dX9_learns_362 (lv_at hl 0 rfl) ?_
                        refine va_iast hx hb hK hP hD hS 1 0 rfl rfl (vp_in_nI (show 13 + (wyO fawp j i) < 449 by omega) (by decide)) dX9_learns_364 (fun H locs hP hD hS => ?_)
                        rw [nI_clamp (show 13 + (wyO fawp j i) < 2 ^ 31 by omega)] at hP hD
                        obtain ⟨f_41, ef_41⟩ : ∃ g, g = upd f_40 (13 + (wyO fawp j i)) x_31 := ⟨_, rfl⟩
                        rw [← ef_41] at hP hD
                        have k0_f_41 : f_41 0 = nI P := by rw [ef_41]; exact (pk_un (show 0 ≠ (13 + (wyO fawp j i)) by omega)).trans k0_f_40
                        have k1_f_41 : f_41 1 = nI Rn := by rw [ef_41]; exact (pk_un (show 1 ≠ (13 + (wyO fawp j i)) by omega)).trans k1_f_40
                        have k2_f_41 : f_41 2 = nI Wn := by rw [ef_41]; exact (pk_un (show 2 ≠ (13 + (wyO fawp j i)) by omega)).trans k2_f_40
                        have kS_f_41 : SI f_41 := by rw [ef_41]; exact SI.upd kS_f_40 (okS.low (show (13 + (wyO fawp j i)) < 313 by omega))
                        have kM_f_41 : MI f_41 := by rw [ef_41]; exact MI.upd kM_f_40 (fun _ _ => ends_lo h_33)
                        have kR_f_41 : RI Rn f_41 := by rw [ef_41]; exact RI.upd kR_f_40 (fun r9 hr9 e9 => by omega)
                        have kG_f_41 : FR P f_41 fae (upd l8 (wyO fawp j i) x_31) (upd u8 (wyO fawp j i) (u8 (wyO fawp j i))) fao farn farp fak fawn fawp fat fas := by rw [ef_41]; exact FR.pl kG_f_40 (show wyO fawp j i < 100 by omega) (by omega)
                        have hP : va_P D vwCl [(h0, .inr (9, [.ref ys, .ref yk, .ref yo, .ref yt, .int mk0, .ref yfa, .ref yfe, .int mL, .int mS, .int mM, .ref yro, .ref yhe, .ref ygr, .int mF, .int 1, .int mY, .ref yta, .int (nI (mz)), .int (nI (mf)), .int (nI (mt)), .int mv, .int mw, .ref ywa, .ref ybi, .ref ysi, .ref ynu, .ref ymo])), (ys, .inl (cI, 449, .inl f_41))] H := hP
                        have hD : va_D A [(h0, .inr (9, [.ref ys, .ref yk, .ref yo, .ref yt, .int mk0, .ref yfa, .ref yfe, .int mL, .int mS, .int mM, .ref yro, .ref yhe, .ref ygr, .int mF, .int 1, .int mY, .ref yta, .int (nI (mz)), .int (nI (mf)), .int (nI (mt)), .int mv, .int mw, .ref ywa, .ref ybi, .ref ysi, .ref ynu, .ref ymo])), (ys, .inl (cI, 449, .inl f_41))] := hD
                        refine lv_iinc (v := nI (i + 1)) (lv' := [(5, .int (nI (i + 1))), (11, .int x_31), (10, .int (u8 (wyO fawp j i))), (9, .int z), (8, .int v), (7, .int (nI (u))), (6, .int (nI (wyO fawp j i))), (4, .int (fas (j))), (3, .int (fat (j))), (2, .int (nI (q - 1))), (0, .ref h0), (1, .int (nI (j)))]) hx hb dX9_learns_365 hl (k := 6) rfl (nI_1 (i)) (by decide) rfl (fun ls hl => ?_)
                        refine lv_goto (tgt := 62) hx hb dX9_learns_368 (by decide) ?_
                        exact ih_62 (i + 1) 1 f_41 (upd l8 (wyO fawp j i) x_31) (upd u8 (wyO fawp j i) (u8 (wyO fawp j i))) _ _ _ (by omega) (by omega) (Or.inr rfl) (hB8.trans (blv_go (by omega) (nw_ok hY9 hX9 h_33) (nwS_m (by rw [hT9]; omega) hY9 hX9 (Or.inl ⟨rfl, Or.inr (fun h => c_39 h.2)⟩)))) k0_f_41 k1_f_41 k2_f_41 kS_f_41 kM_f_41 htp htr htw kR_f_41 kG_f_41 (hP.sub [0, 1] rfl) (hD.sub [0, 1] (by decide) rfl) hS (lv_sub hl [0, 7, 8, 9, 10, 11] rfl)
                      · skip
                        refine lv_iload hx hb dX9_learns_318 (lv_at hl 0 rfl) ?_
                        refine lv_aload_n hx hb dX9_learns_320 rfl (lv_at hl 10 rfl) ?_
                        refine xg hF kf_X9_7 hK hP 0 rfl rfl dX9_learns_321 ?_
                        refine lv_bipush (v := 13) hx hb dX9_learns_324 (by decide) ?_
                        refine lv_iload hx hb dX9_learns_326 (lv_at hl 5 rfl) ?_
                        refine lv_iadd hx hb dX9_learns_328 ?_
                        refine xl_i (y := nI (13 + (wyO fawp j i))) (nI_add 13 (wyO fawp j i)) ?_
                        refine va_iald hx hb hK hP 1 0 rfl rfl (vp_in_nI (show 13 + (wyO fawp j i) < 449 by omega) (by decide)) dX9_learns_329 ?_
                        refine xl_i (y := s8 (13 + (wyO fawp j i))) (congrArg s8 (nI_clamp (show 13 + (wyO fawp j i) < 2 ^ 31 by omega))) ?_
                        refine xl_i (y := l8 (wyO fawp j i)) (FR.gl htG (show wyO fawp j i < 100 by omega) (by omega)) ?_
                        refine lv_icmp_eq (tgt := 337) hx hb dX9_learns_330 (by decide) (fun c_42 => ?_) (fun c_42 => ?_)
                        · skip
                          refine lv_iconst (v := 0) hx hb dX9_learns_337 (by decide) ?_
                          refine xp hF kf_X9_205 tyX9_ok nmX9 hK hP hD hS 0 rfl rfl rfl rfl (Nat.le_of_ble_eq_true rfl) dX9_learns_338 (fun H locs hP hD hS => ?_)
                          have hP : va_P D vwCl [(h0, .inr (9, [.ref ys, .ref yk, .ref yo, .ref yt, .int mk0, .ref yfa, .ref yfe, .int mL, .int mS, .int mM, .ref yro, .ref yhe, .ref ygr, .int mF, .int 0, .int mY, .ref yta, .int (nI (mz)), .int (nI (mf)), .int (nI (mt)), .int mv, .int mw, .ref ywa, .ref ybi, .ref ysi, .ref ynu, .ref ymo])), (ys, .inl (cI, 449, .inl s8))] H := hP
                          have hD : va_D A [(h0, .inr (9, [.ref ys, .ref yk, .ref yo, .ref yt, .int mk0, .ref yfa, .ref yfe, .int mL, .int mS, .int mM, .ref yro, .ref yhe, .ref ygr, .int mF, .int 0, .int mY, .ref yta, .int (nI (mz)), .int (nI (mf)), .int (nI (mt)), .int mv, .int mw, .ref ywa, .ref ybi, .ref ysi, .ref ynu, .ref ymo])), (ys, .inl (cI, 449, .inl s8))] := hD
                          refine lv_aload_n hx hb dX9_learns_341 rfl (lv_at hl 10 rfl) ?_
                          refine xg hF kf_X9_7 hK hP 0 rfl rfl dX9_learns_342 ?_
                          refine lv_bipush (v := 113) hx hb dX9_learns_345 (by decide) ?_
                          refine lv_iload hx hb dX9_learns_347 (lv_at hl 5 rfl) ?_
                          refine lv_iadd hx hb dX9_learns_349 ?_
                          refine xl_i (y := nI (113 + (wyO fawp j i))) (nI_add 113 (wyO fawp j i)) ?_
                          refine lv_iload hx hb dX9_learns_350 (lv_at hl 1 rfl) ?_
                          refine va_iast hx hb hK hP hD hS 1 0 rfl rfl (vp_in_nI (show 113 + (wyO fawp j i) < 449 by omega) (by decide)) dX9_learns_352 (fun H locs hP hD hS => ?_)
                          rw [nI_clamp (show 113 + (wyO fawp j i) < 2 ^ 31 by omega)] at hP hD
                          obtain ⟨f_43, ef_43⟩ : ∃ g, g = upd s8 (113 + (wyO fawp j i)) (u8 (wyO fawp j i)) := ⟨_, rfl⟩
                          rw [← ef_43] at hP hD
                          have k0_f_43 : f_43 0 = nI P := by rw [ef_43]; exact (pk_un (show 0 ≠ (113 + (wyO fawp j i)) by omega)).trans ht0
                          have k1_f_43 : f_43 1 = nI Rn := by rw [ef_43]; exact (pk_un (show 1 ≠ (113 + (wyO fawp j i)) by omega)).trans ht1
                          have k2_f_43 : f_43 2 = nI Wn := by rw [ef_43]; exact (pk_un (show 2 ≠ (113 + (wyO fawp j i)) by omega)).trans ht2
                          have kS_f_43 : SI f_43 := by rw [ef_43]; exact SI.upd htS (okS.low (show (113 + (wyO fawp j i)) < 313 by omega))
                          have kM_f_43 : MI f_43 := by rw [ef_43]; exact MI.upd htM (okM.out (show (113 + (wyO fawp j i)) < 13 ∨ 113 ≤ (113 + (wyO fawp j i)) by omega))
                          have kR_f_43 : RI Rn f_43 := by rw [ef_43]; exact RI.upd htR (fun r9 hr9 e9 => by omega)
                          have kG_f_43 : FR P f_43 fae l8 (upd u8 (wyO fawp j i) (u8 (wyO fawp j i))) fao farn farp fak fawn fawp fat fas := by rw [ef_43]; exact FR.pu htG (show wyO fawp j i < 100 by omega) (by omega)
                          have hP : va_P D vwCl [(h0, .inr (9, [.ref ys, .ref yk, .ref yo, .ref yt, .int mk0, .ref yfa, .ref yfe, .int mL, .int mS, .int mM, .ref yro, .ref yhe, .ref ygr, .int mF, .int 0, .int mY, .ref yta, .int (nI (mz)), .int (nI (mf)), .int (nI (mt)), .int mv, .int mw, .ref ywa, .ref ybi, .ref ysi, .ref ynu, .ref ymo])), (ys, .inl (cI, 449, .inl f_43))] H := hP
                          have hD : va_D A [(h0, .inr (9, [.ref ys, .ref yk, .ref yo, .ref yt, .int mk0, .ref yfa, .ref yfe, .int mL, .int mS, .int mM, .ref yro, .ref yhe, .ref ygr, .int mF, .int 0, .int mY, .ref yta, .int (nI (mz)), .int (nI (mf)), .int (nI (mt)), .int mv, .int mw, .ref ywa, .ref ybi, .ref ysi, .ref ynu, .ref ymo])), (ys, .inl (cI, 449, .inl f_43))] := hD
                          refine lv_aload_n hx hb dX9_learns_353 rfl (lv_at hl 10 rfl) ?_
                          refine xg hF kf_X9_7 hK hP 0 rfl rfl dX9_learns_354 ?_
                          refine lv_bipush (v := 13) hx hb dX9_learns_357 (by decide) ?_
                          refine lv_iload hx hb dX9_learns_359 (lv_at hl 5 rfl) ?_
                          refine lv_iadd hx hb dX9_learns_361 ?_
                          refine xl_i (y := nI (13 + (wyO fawp j i))) (nI_add 13 (wyO fawp j i)) ?_
                          refine lv_iload hx hb dX9_learns_362 (lv_at hl 0 rfl) ?_
                          refine va_iast hx hb hK hP hD hS 1 0 rfl rfl (vp_in_nI (show 13 + (wyO fawp j i) < 449 by omega) (by decide)) dX9_learns_364 (fun H locs hP hD hS => ?_)
                          rw [nI_clamp (show 13 + (wyO fawp j i) < 2 ^ 31 by omega)] at hP hD
                          obtain ⟨f_44, ef_44⟩ : ∃ g, g = upd f_43 (13 + (wyO fawp j i)) x_31 := ⟨_, rfl⟩
                          rw [← ef_44] at hP hD
                          have k0_f_44 : f_44 0 = nI P := by rw [ef_44]; exact (pk_un (show 0 ≠ (13 + (wyO fawp j i)) by omega)).trans k0_f_43
                          have k1_f_44 : f_44 1 = nI Rn := by rw [ef_44]; exact (pk_un (show 1 ≠ (13 + (wyO fawp j i)) by omega)).trans k1_f_43
                          have k2_f_44 : f_44 2 = nI Wn := by rw [ef_44]; exact (pk_un (show 2 ≠ (13 + (wyO fawp j i)) by omega)).trans k2_f_43
                          have kS_f_44 : SI f_44 := by rw [ef_44]; exact SI.upd kS_f_43 (okS.low (show (13 + (wyO fawp j i)) < 313 by omega))
                          have kM_f_44 : MI f_44 := by rw [ef_44]; exact MI.upd kM_f_43 (fun _ _ => ends_lo h_33)
                          have kR_f_44 : RI Rn f_44 := by rw [ef_44]; exact RI.upd kR_f_43 (fun r9 hr9 e9 => by omega)
                          have kG_f_44 : FR P f_44 fae (upd l8 (wyO fawp j i) x_31) (upd u8 (wyO fawp j i) (u8 (wyO fawp j i))) fao farn farp fak fawn fawp fat fas := by rw [ef_44]; exact FR.pl kG_f_43 (show wyO fawp j i < 100 by omega) (by omega)
                          have hP : va_P D vwCl [(h0, .inr (9, [.ref ys, .ref yk, .ref yo, .ref yt, .int mk0, .ref yfa, .ref yfe, .int mL, .int mS, .int mM, .ref yro, .ref yhe, .ref ygr, .int mF, .int 0, .int mY, .ref yta, .int (nI (mz)), .int (nI (mf)), .int (nI (mt)), .int mv, .int mw, .ref ywa, .ref ybi, .ref ysi, .ref ynu, .ref ymo])), (ys, .inl (cI, 449, .inl f_44))] H := hP
                          have hD : va_D A [(h0, .inr (9, [.ref ys, .ref yk, .ref yo, .ref yt, .int mk0, .ref yfa, .ref yfe, .int mL, .int mS, .int mM, .ref yro, .ref yhe, .ref ygr, .int mF, .int 0, .int mY, .ref yta, .int (nI (mz)), .int (nI (mf)), .int (nI (mt)), .int mv, .int mw, .ref ywa, .ref ybi, .ref ysi, .ref ynu, .ref ymo])), (ys, .inl (cI, 449, .inl f_44))] := hD
                          refine lv_iinc (v := nI (i + 1)) (lv' := [(5, .int (nI (i + 1))), (11, .int x_31), (10, .int (u8 (wyO fawp j i))), (9, .int z), (8, .int v), (7, .int (nI (u))), (6, .int (nI (wyO fawp j i))), (4, .int (fas (j))), (3, .int (fat (j))), (2, .int (nI (q - 1))), (0, .ref h0), (1, .int (nI (j)))]) hx hb dX9_learns_365 hl (k := 6) rfl (nI_1 (i)) (by decide) rfl (fun ls hl => ?_)
                          refine lv_goto (tgt := 62) hx hb dX9_learns_368 (by decide) ?_
                          exact ih_62 (i + 1) 0 f_44 (upd l8 (wyO fawp j i) x_31) (upd u8 (wyO fawp j i) (u8 (wyO fawp j i))) _ _ _ (by omega) (by omega) (Or.inl rfl) (hB8.trans (blv_go (by omega) (nw_ok hY9 hX9 h_33) (nwS_m (by rw [hT9]; omega) hY9 hX9 (Or.inr ⟨rfl, c_36, c_42, c_39⟩)))) k0_f_44 k1_f_44 k2_f_44 kS_f_44 kM_f_44 htp htr htw kR_f_44 kG_f_44 (hP.sub [0, 1] rfl) (hD.sub [0, 1] (by decide) rfl) hS (lv_sub hl [0, 7, 8, 9, 10, 11] rfl)
                        · skip
                          refine lv_iconst (v := 1) hx hb dX9_learns_333 (by decide) ?_
                          refine lv_goto (tgt := 338) hx hb dX9_learns_334 (by decide) ?_
                          refine xp hF kf_X9_205 tyX9_ok nmX9 hK hP hD hS 0 rfl rfl rfl rfl (Nat.le_of_ble_eq_true rfl) dX9_learns_338 (fun H locs hP hD hS => ?_)
                          have hP : va_P D vwCl [(h0, .inr (9, [.ref ys, .ref yk, .ref yo, .ref yt, .int mk0, .ref yfa, .ref yfe, .int mL, .int mS, .int mM, .ref yro, .ref yhe, .ref ygr, .int mF, .int 1, .int mY, .ref yta, .int (nI (mz)), .int (nI (mf)), .int (nI (mt)), .int mv, .int mw, .ref ywa, .ref ybi, .ref ysi, .ref ynu, .ref ymo])), (ys, .inl (cI, 449, .inl s8))] H := hP
                          have hD : va_D A [(h0, .inr (9, [.ref ys, .ref yk, .ref yo, .ref yt, .int mk0, .ref yfa, .ref yfe, .int mL, .int mS, .int mM, .ref yro, .ref yhe, .ref ygr, .int mF, .int 1, .int mY, .ref yta, .int (nI (mz)), .int (nI (mf)), .int (nI (mt)), .int mv, .int mw, .ref ywa, .ref ybi, .ref ysi, .ref ynu, .ref ymo])), (ys, .inl (cI, 449, .inl s8))] := hD
                          refine lv_aload_n hx hb dX9_learns_341 rfl (lv_at hl 10 rfl) ?_
                          refine xg hF kf_X9_7 hK hP 0 rfl rfl dX9_learns_342 ?_
                          refine lv_bipush (v := 113) hx hb dX9_learns_345 (by decide) ?_
                          refine lv_iload hx hb dX9_learns_347 (lv_at hl 5 rfl) ?_
                          refine lv_iadd hx hb dX9_learns_349 ?_
                          refine xl_i (y := nI (113 + (wyO fawp j i))) (nI_add 113 (wyO fawp j i)) ?_
                          refine lv_iload hx hb dX9_learns_350 (lv_at hl 1 rfl) ?_
                          refine va_iast hx hb hK hP hD hS 1 0 rfl rfl (vp_in_nI (show 113 + (wyO fawp j i) < 449 by omega) (by decide)) dX9_learns_352 (fun H locs hP hD hS => ?_)
                          rw [nI_clamp (show 113 + (wyO fawp j i) < 2 ^ 31 by omega)] at hP hD
                          obtain ⟨f_45, ef_45⟩ : ∃ g, g = upd s8 (113 + (wyO fawp j i)) (u8 (wyO fawp j i)) := ⟨_, rfl⟩
                          rw [← ef_45] at hP hD
                          have k0_f_45 : f_45 0 = nI P := by rw [ef_45]; exact (pk_un (show 0 ≠ (113 + (wyO fawp j i)) by omega)).trans ht0
                          have k1_f_45 : f_45 1 = nI Rn := by rw [ef_45]; exact (pk_un (show 1 ≠ (113 + (wyO fawp j i)) by omega)).trans ht1
                          have k2_f_45 : f_45 2 = nI Wn := by rw [ef_45]; exact (pk_un (show 2 ≠ (113 + (wyO fawp j i)) by omega)).trans ht2
                          have kS_f_45 : SI f_45 := by rw [ef_45]; exact SI.upd htS (okS.low (show (113 + (wyO fawp j i)) < 313 by omega))
                          have kM_f_45 : MI f_45 := by rw [ef_45]; exact MI.upd htM (okM.out (show (113 + (wyO fawp j i)) < 13 ∨ 113 ≤ (113 + (wyO fawp j i)) by omega))
                          have kR_f_45 : RI Rn f_45 := by rw [ef_45]; exact RI.upd htR (fun r9 hr9 e9 => by omega)
                          have kG_f_45 : FR P f_45 fae l8 (upd u8 (wyO fawp j i) (u8 (wyO fawp j i))) fao farn farp fak fawn fawp fat fas := by rw [ef_45]; exact FR.pu htG (show wyO fawp j i < 100 by omega) (by omega)
                          have hP : va_P D vwCl [(h0, .inr (9, [.ref ys, .ref yk, .ref yo, .ref yt, .int mk0, .ref yfa, .ref yfe, .int mL, .int mS, .int mM, .ref yro, .ref yhe, .ref ygr, .int mF, .int 1, .int mY, .ref yta, .int (nI (mz)), .int (nI (mf)), .int (nI (mt)), .int mv, .int mw, .ref ywa, .ref ybi, .ref ysi, .ref ynu, .ref ymo])), (ys, .inl (cI, 449, .inl f_45))] H := hP
                          have hD : va_D A [(h0, .inr (9, [.ref ys, .ref yk, .ref yo, .ref yt, .int mk0, .ref yfa, .ref yfe, .int mL, .int mS, .int mM, .ref yro, .ref yhe, .ref ygr, .int mF, .int 1, .int mY, .ref yta, .int (nI (mz)), .int (nI (mf)), .int (nI (mt)), .int mv, .int mw, .ref ywa, .ref ybi, .ref ysi, .ref ynu, .ref ymo])), (ys, .inl (cI, 449, .inl f_45))] := hD
                          refine lv_aload_n hx hb dX9_learns_353 rfl (lv_at hl 10 rfl) ?_
                          refine xg hF kf_X9_7 hK hP 0 rfl rfl dX9_learns_354 ?_
                          refine lv_bipush (v := 13) hx hb dX9_learns_357 (by decide) ?_
                          refine lv_iload hx hb dX9_learns_359 (lv_at hl 5 rfl) ?_
                          refine lv_iadd hx hb dX9_learns_361 ?_
                          refine xl_i (y := nI (13 + (wyO fawp j i))) (nI_add 13 (wyO fawp j i)) ?_
                          refine lv_iload hx hb dX9_learns_362 (lv_at hl 0 rfl) ?_
                          refine va_iast hx hb hK hP hD hS 1 0 rfl rfl (vp_in_nI (show 13 + (wyO fawp j i) < 449 by omega) (by decide)) dX9_learns_364 (fun H locs hP hD hS => ?_)
                          rw [nI_clamp (show 13 + (wyO fawp j i) < 2 ^ 31 by omega)] at hP hD
                          obtain ⟨f_46, ef_46⟩ : ∃ g, g = upd f_45 (13 + (wyO fawp j i)) x_31 := ⟨_, rfl⟩
                          rw [← ef_46] at hP hD
                          have k0_f_46 : f_46 0 = nI P := by rw [ef_46]; exact (pk_un (show 0 ≠ (13 + (wyO fawp j i)) by omega)).trans k0_f_45
                          have k1_f_46 : f_46 1 = nI Rn := by rw [ef_46]; exact (pk_un (show 1 ≠ (13 + (wyO fawp j i)) by omega)).trans k1_f_45
                          have k2_f_46 : f_46 2 = nI Wn := by rw [ef_46]; exact (pk_un (show 2 ≠ (13 + (wyO fawp j i)) by omega)).trans k2_f_45
                          have kS_f_46 : SI f_46 := by rw [ef_46]; exact SI.upd kS_f_45 (okS.low (show (13 + (wyO fawp j i)) < 313 by omega))
                          have kM_f_46 : MI f_46 := by rw [ef_46]; exact MI.upd kM_f_45 (fun _ _ => ends_lo h_33)
                          have kR_f_46 : RI Rn f_46 := by rw [ef_46]; exact RI.upd kR_f_45 (fun r9 hr9 e9 => by omega)
                          have kG_f_46 : FR P f_46 fae (upd l8 (wyO fawp j i) x_31) (upd u8 (wyO fawp j i) (u8 (wyO fawp j i))) fao farn farp fak fawn fawp fat fas := by rw [ef_46]; exact FR.pl kG_f_45 (show wyO fawp j i < 100 by omega) (by omega)
                          have hP : va_P D vwCl [(h0, .inr (9, [.ref ys, .ref yk, .ref yo, .ref yt, .int mk0, .ref yfa, .ref yfe, .int mL, .int mS, .int mM, .ref yro, .ref yhe, .ref ygr, .int mF, .int 1, .int mY, .ref yta, .int (nI (mz)), .int (nI (mf)), .int (nI (mt)), .int mv, .int mw, .ref ywa, .ref ybi, .ref ysi, .ref ynu, .ref ymo])), (ys, .inl (cI, 449, .inl f_46))] H := hP
                          have hD : va_D A [(h0, .inr (9, [.ref ys, .ref yk, .ref yo, .ref yt, .int mk0, .ref yfa, .ref yfe, .int mL, .int mS, .int mM, .ref yro, .ref yhe, .ref ygr, .int mF, .int 1, .int mY, .ref yta, .int (nI (mz)), .int (nI (mf)), .int (nI (mt)), .int mv, .int mw, .ref ywa, .ref ybi, .ref ysi, .ref ynu, .ref ymo])), (ys, .inl (cI, 449, .inl f_46))] := hD
                          refine lv_iinc (v := nI (i + 1)) (lv' := [(5, .int (nI (i + 1))), (11, .int x_31), (10, .int (u8 (wyO fawp j i))), (9, .int z), (8, .int v), (7, .int (nI (u))), (6, .int (nI (wyO fawp j i))), (4, .int (fas (j))), (3, .int (fat (j))), (2, .int (nI (q - 1))), (0, .ref h0), (1, .int (nI (j)))]) hx hb dX9_learns_365 hl (k := 6) rfl (nI_1 (i)) (by decide) rfl (fun ls hl => ?_)
                          refine lv_goto (tgt := 62) hx hb dX9_learns_368 (by decide) ?_
                          exact ih_62 (i + 1) 1 f_46 (upd l8 (wyO fawp j i) x_31) (upd u8 (wyO fawp j i) (u8 (wyO fawp j i))) _ _ _ (by omega) (by omega) (Or.inr rfl) (hB8.trans (blv_go (by omega) (nw_ok hY9 hX9 h_33) (nwS_m (by rw [hT9]; omega) hY9 hX9 (Or.inl ⟨rfl, Or.inr (fun h => c_42 h.1)⟩)))) k0_f_46 k1_f_46 k2_f_46 kS_f_46 kM_f_46 htp htr htw kR_f_46 kG_f_46 (hP.sub [0, 1] rfl) (hD.sub [0, 1] (by decide) rfl) hS (lv_sub hl [0, 7, 8, 9, 10, 11] rfl)
                  · skip
                    refine lv_if_ne (tgt := 295) hx hb dX9_learns_290 (by decide) (fun c_47 => absurd (by decide) c_47) (fun c_47 => ?_)
                    refine lv_iconst (v := 0) hx hb dX9_learns_293 (by decide) ?_
                    exact W.zret (v := 0) hx hb hr rfl (fun t ht hW => ⟨⟨0, (c8, s8, l8, u8), rfl, ⟨Or.inr ⟨rfl, bel_y eq0 hq h_2 (hB8.trans (blv_no (by omega) (nw_no (by rw [hT9]; omega) hY9 hX9 h_34)))⟩, hc8, ht0, ht1, ht2, htS, htM, htp, htr, htw, htR, htG⟩, by rw [ht]; exact hP.sub [0, 1] rfl, hD.sub [0, 1] (by decide) rfl⟩, hS.F ht⟩) hS.2.2 dX9_learns_294 hlk
              · skip
                refine lv_iload_n hx hb dX9_learns_219 rfl (lv_at hl 7 rfl) ?_
                refine lv_iload hx hb dX9_learns_220 (lv_at hl 6 rfl) ?_
                refine lv_iadd hx hb dX9_learns_222 ?_
                refine lv_topi (fun x_48 ex_48 => ?_)
                refine lv_iload hx hb dX9_learns_223 (lv_at hl 2 rfl) ?_
                refine lv_isub hx hb dX9_learns_225 ?_
                refine lv_topi (fun x_49 ex_49 => ?_)
                refine lv_goto (tgt := 239) hx hb dX9_learns_226 (by decide) ?_
                have hX9 : x_49 = lnX (wyO fawp j) (q - 1) i (fat j) (fas j) l8 u8 := by rw [ex_49, ex_48]; exact lnX_p hS9 (by rw [← hs7]; exact Int32.not_le.mp c_12)
                refine lv_istore (lv' := [(10, .int x_49), (9, .int z), (8, .int v), (7, .int (nI (u))), (6, .int (nI (wyO fawp j i))), (5, .int (nI (i))), (4, .int (fas (j))), (3, .int (fat (j))), (2, .int (nI (q - 1))), (0, .ref h0), (1, .int (nI (j)))]) hx hb dX9_learns_239 hl (by decide) rfl (fun ls hl => ?_)
                refine lv_iload_n hx hb dX9_learns_241 rfl (lv_at hl 7 rfl) ?_
                refine lv_iload hx hb dX9_learns_242 (lv_at hl 6 rfl) ?_
                refine lv_isub hx hb dX9_learns_244 ?_
                refine lv_topi (fun x_50 ex_50 => ?_)
                refine lv_iload hx hb dX9_learns_245 (lv_at hl 1 rfl) ?_
                refine lv_isub hx hb dX9_learns_247 ?_
                refine lv_topi (fun x_51 ex_51 => ?_)
                have hr7 : x_51 = fat j - fas j - z := by rw [ex_51, ex_50]
                refine lv_aload_n hx hb dX9_learns_248 rfl (lv_at hl 9 rfl) ?_
                refine xg hF kf_X9_7 hK hP 0 rfl rfl dX9_learns_249 ?_
                refine lv_bipush (v := 13) hx hb dX9_learns_252 (by decide) ?_
                refine lv_iload hx hb dX9_learns_254 (lv_at hl 4 rfl) ?_
                refine lv_iadd hx hb dX9_learns_256 ?_
                refine xl_i (y := nI (13 + (wyO fawp j i))) (nI_add 13 (wyO fawp j i)) ?_
                refine va_iald hx hb hK hP 1 0 rfl rfl (vp_in_nI (show 13 + (wyO fawp j i) < 449 by omega) (by decide)) dX9_learns_257 ?_
                refine xl_i (y := s8 (13 + (wyO fawp j i))) (congrArg s8 (nI_clamp (show 13 + (wyO fawp j i) < 2 ^ 31 by omega))) ?_
                refine xl_i (y := l8 (wyO fawp j i)) (FR.gl htG (show wyO fawp j i < 100 by omega) (by omega)) ?_
                refine lv_icmp_le (tgt := 271) hx hb dX9_learns_258 (by decide) (fun c_52 => ?_) (fun c_52 => ?_)
                · skip
                  refine lv_aload_n hx hb dX9_learns_271 rfl (lv_at hl 9 rfl) ?_
                  refine xg hF kf_X9_7 hK hP 0 rfl rfl dX9_learns_272 ?_
                  refine lv_bipush (v := 13) hx hb dX9_learns_275 (by decide) ?_
                  refine lv_iload hx hb dX9_learns_277 (lv_at hl 4 rfl) ?_
                  refine lv_iadd hx hb dX9_learns_279 ?_
                  refine xl_i (y := nI (13 + (wyO fawp j i))) (nI_add 13 (wyO fawp j i)) ?_
                  refine va_iald hx hb hK hP 1 0 rfl rfl (vp_in_nI (show 13 + (wyO fawp j i) < 449 by omega) (by decide)) dX9_learns_280 ?_
                  refine xl_i (y := s8 (13 + (wyO fawp j i))) (congrArg s8 (nI_clamp (show 13 + (wyO fawp j i) < 2 ^ 31 by omega))) ?_
                  refine xl_i (y := l8 (wyO fawp j i)) (FR.gl htG (show wyO fawp j i < 100 by omega) (by omega)) ?_
                  have hY9 : l8 (wyO fawp j i) = lnY (wyO fawp j) (q - 1) i (fat j) (fas j) l8 u8 := lnY_n hZ9 (by rw [← hr7]; exact Int32.not_lt.mpr c_52)
                  refine lv_istore (lv' := [(11, .int (l8 (wyO fawp j i))), (10, .int x_49), (9, .int z), (8, .int v), (7, .int (nI (u))), (6, .int (nI (wyO fawp j i))), (5, .int (nI (i))), (4, .int (fas (j))), (3, .int (fat (j))), (2, .int (nI (q - 1))), (0, .ref h0), (1, .int (nI (j)))]) hx hb dX9_learns_281 hl (by decide) rfl (fun ls hl => ?_)
                  refine lv_iload hx hb dX9_learns_283 (lv_at hl 0 rfl) ?_
                  refine lv_iload hx hb dX9_learns_285 (lv_at hl 1 rfl) ?_
                  refine xc_Sr hF (c_X9_areEnds l D cI cJ cZ cS ta sa sv H.size (l8 (wyO fawp j i)) x_49 ) ks_X9_84 ⟨rfl, rfl, Nat.le_of_ble_eq_true rfl, Nat.le_of_ble_eq_true rfl⟩ ⟨Nat.le_of_ble_eq_true rfl, Nat.le_of_ble_eq_true rfl⟩ hK hN hZ hP hD hS hA [] rfl rfl rfl hl.1 rfl (Nat.le_of_ble_eq_true rfl) dX9_learns_287 (fun r_53 hw_r_53 => ?_)
                  rcases hw_r_53 with ⟨rfl, h_54⟩ | ⟨rfl, h_55⟩
                  · skip
                    refine lv_if_ne (tgt := 295) hx hb dX9_learns_290 (by decide) (fun c_56 => ?_) (fun c_56 => absurd c_56 (by decide))
                    refine lv_aload_n hx hb dX9_learns_295 rfl (lv_at hl 10 rfl) ?_
                    refine lv_aload_n hx hb dX9_learns_296 rfl (lv_at hl 10 rfl) ?_
                    refine xg hF kf_X9_205 hK hP 0 rfl rfl dX9_learns_297 ?_
                    refine lv_if_ne (tgt := 333) hx hb dX9_learns_300 (by decide) (fun c_57 => ?_) (fun c_57 => ?_)
                    · skip
                      refine lv_iconst (v := 1) hx hb dX9_learns_333 (by decide) ?_
                      refine lv_goto (tgt := 338) hx hb dX9_learns_334 (by decide) ?_
                      refine xp hF kf_X9_205 tyX9_ok nmX9 hK hP hD hS 0 rfl rfl rfl rfl (Nat.le_of_ble_eq_true rfl) dX9_learns_338 (fun H locs hP hD hS => ?_)
                      have hP : va_P D vwCl [(h0, .inr (9, [.ref ys, .ref yk, .ref yo, .ref yt, .int mk0, .ref yfa, .ref yfe, .int mL, .int mS, .int mM, .ref yro, .ref yhe, .ref ygr, .int mF, .int 1, .int mY, .ref yta, .int (nI (mz)), .int (nI (mf)), .int (nI (mt)), .int mv, .int mw, .ref ywa, .ref ybi, .ref ysi, .ref ynu, .ref ymo])), (ys, .inl (cI, 449, .inl s8))] H := hP
                      have hD : va_D A [(h0, .inr (9, [.ref ys, .ref yk, .ref yo, .ref yt, .int mk0, .ref yfa, .ref yfe, .int mL, .int mS, .int mM, .ref yro, .ref yhe, .ref ygr, .int mF, .int 1, .int mY, .ref yta, .int (nI (mz)), .int (nI (mf)), .int (nI (mt)), .int mv, .int mw, .ref ywa, .ref ybi, .ref ysi, .ref ynu, .ref ymo])), (ys, .inl (cI, 449, .inl s8))] := hD
                      refine lv_aload_n hx hb dX9_learns_341 rfl (lv_at hl 10 rfl) ?_
                      refine xg hF kf_X9_7 hK hP 0 rfl rfl dX9_learns_342 ?_
                      refine lv_bipush (v := 113) hx hb dX9_learns_345 (by decide) ?_
                      refine lv_iload hx hb dX9_learns_347 (lv_at hl 5 rfl) ?_
                      refine lv_iadd hx hb dX9_learns_349 ?_
                      refine xl_i (y := nI (113 + (wyO fawp j i))) (nI_add 113 (wyO fawp j i)) ?_
                      refine lv_iload hx hb dX9_learns_350 (lv_at hl 1 rfl) ?_
                      refine va_iast hx hb hK hP hD hS 1 0 rfl rfl (vp_in_nI (show 113 + (wyO fawp j i) < 449 by omega) (by decide)) dX9_learns_352 (fun H locs hP hD hS => ?_)
                      rw [nI_clamp (show 113 + (wyO fawp j i) < 2 ^ 31 by omega)] at hP hD
                      obtain ⟨f_58, ef_58⟩ : ∃ g, g = upd s8 (113 + (wyO fawp j i)) x_49 := ⟨_, rfl⟩
                      rw [← ef_58] at hP hD
                      have k0_f_58 : f_58 0 = nI P := by rw [ef_58]; exact (pk_un (show 0 ≠ (113 + (wyO fawp j i)) by omega)).trans ht0
                      have k1_f_58 : f_58 1 = nI Rn := by rw [ef_58]; exact (pk_un (show 1 ≠ (113 + (wyO fawp j i)) by omega)).trans ht1
                      have k2_f_58 : f_58 2 = nI Wn := by rw [ef_58]; exact (pk_un (show 2 ≠ (113 + (wyO fawp j i)) by omega)).trans ht2
                      have kS_f_58 : SI f_58 := by rw [ef_58]; exact SI.upd htS (okS.low (show (113 + (wyO fawp j i)) < 313 by omega))
                      have kM_f_58 : MI f_58 := by rw [ef_58]; exact MI.upd htM (okM.out (show (113 + (wyO fawp j i)) < 13 ∨ 113 ≤ (113 + (wyO fawp j i)) by omega))
                      have kR_f_58 : RI Rn f_58 := by rw [ef_58]; exact RI.upd htR (fun r9 hr9 e9 => by omega)
                      have kG_f_58 : FR P f_58 fae l8 (upd u8 (wyO fawp j i) x_49) fao farn farp fak fawn fawp fat fas := by rw [ef_58]; exact FR.pu htG (show wyO fawp j i < 100 by omega) (by omega)
                      have hP : va_P D vwCl [(h0, .inr (9, [.ref ys, .ref yk, .ref yo, .ref yt, .int mk0, .ref yfa, .ref yfe, .int mL, .int mS, .int mM, .ref yro, .ref yhe, .ref ygr, .int mF, .int 1, .int mY, .ref yta, .int (nI (mz)), .int (nI (mf)), .int (nI (mt)), .int mv, .int mw, .ref ywa, .ref ybi, .ref ysi, .ref ynu, .ref ymo])), (ys, .inl (cI, 449, .inl f_58))] H := hP
                      have hD : va_D A [(h0, .inr (9, [.ref ys, .ref yk, .ref yo, .ref yt, .int mk0, .ref yfa, .ref yfe, .int mL, .int mS, .int mM, .ref yro, .ref yhe, .ref ygr, .int mF, .int 1, .int mY, .ref yta, .int (nI (mz)), .int (nI (mf)), .int (nI (mt)), .int mv, .int mw, .ref ywa, .ref ybi, .ref ysi, .ref ynu, .ref ymo])), (ys, .inl (cI, 449, .inl f_58))] := hD
                      refine lv_aload_n hx hb dX9_learns_353 rfl (lv_at hl 10 rfl) ?_
                      refine xg hF kf_X9_7 hK hP 0 rfl rfl dX9_learns_354 ?_
                      refine lv_bipush (v := 13) hx hb dX9_learns_357 (by decide) ?_
                      refine lv_iload hx hb dX9_learns_359 (lv_at hl 5 rfl) ?_
                      refine lv_iadd hx hb dX9_learns_361 ?_
                      refine xl_i (y := nI (13 + (wyO fawp j i))) (nI_add 13 (wyO fawp j i)) ?_
                      refine lv_iload hx hb dX9_learns_362 (lv_at hl 0 rfl) ?_
                      refine va_iast hx hb hK hP hD hS 1 0 rfl rfl (vp_in_nI (show 13 + (wyO fawp j i) < 449 by omega) (by decide)) dX9_learns_364 (fun H locs hP hD hS => ?_)
                      rw [nI_clamp (show 13 + (wyO fawp j i) < 2 ^ 31 by omega)] at hP hD
                      obtain ⟨f_59, ef_59⟩ : ∃ g, g = upd f_58 (13 + (wyO fawp j i)) (l8 (wyO fawp j i)) := ⟨_, rfl⟩
                      rw [← ef_59] at hP hD
                      have k0_f_59 : f_59 0 = nI P := by rw [ef_59]; exact (pk_un (show 0 ≠ (13 + (wyO fawp j i)) by omega)).trans k0_f_58
                      have k1_f_59 : f_59 1 = nI Rn := by rw [ef_59]; exact (pk_un (show 1 ≠ (13 + (wyO fawp j i)) by omega)).trans k1_f_58
                      have k2_f_59 : f_59 2 = nI Wn := by rw [ef_59]; exact (pk_un (show 2 ≠ (13 + (wyO fawp j i)) by omega)).trans k2_f_58
                      have kS_f_59 : SI f_59 := by rw [ef_59]; exact SI.upd kS_f_58 (okS.low (show (13 + (wyO fawp j i)) < 313 by omega))
                      have kM_f_59 : MI f_59 := by rw [ef_59]; exact MI.upd kM_f_58 (fun _ _ => ends_lo h_54)
                      have kR_f_59 : RI Rn f_59 := by rw [ef_59]; exact RI.upd kR_f_58 (fun r9 hr9 e9 => by omega)
                      have kG_f_59 : FR P f_59 fae (upd l8 (wyO fawp j i) (l8 (wyO fawp j i))) (upd u8 (wyO fawp j i) x_49) fao farn farp fak fawn fawp fat fas := by rw [ef_59]; exact FR.pl kG_f_58 (show wyO fawp j i < 100 by omega) (by omega)
                      have hP : va_P D vwCl [(h0, .inr (9, [.ref ys, .ref yk, .ref yo, .ref yt, .int mk0, .ref yfa, .ref yfe, .int mL, .int mS, .int mM, .ref yro, .ref yhe, .ref ygr, .int mF, .int 1, .int mY, .ref yta, .int (nI (mz)), .int (nI (mf)), .int (nI (mt)), .int mv, .int mw, .ref ywa, .ref ybi, .ref ysi, .ref ynu, .ref ymo])), (ys, .inl (cI, 449, .inl f_59))] H := hP
                      have hD : va_D A [(h0, .inr (9, [.ref ys, .ref yk, .ref yo, .ref yt, .int mk0, .ref yfa, .ref yfe, .int mL, .int mS, .int mM, .ref yro, .ref yhe, .ref ygr, .int mF, .int 1, .int mY, .ref yta, .int (nI (mz)), .int (nI (mf)), .int (nI (mt)), .int mv, .int mw, .ref ywa, .ref ybi, .ref ysi, .ref ynu, .ref ymo])), (ys, .inl (cI, 449, .inl f_59))] := hD
                      refine lv_iinc (v := nI (i + 1)) (lv' := [(5, .int (nI (i + 1))), (11, .int (l8 (wyO fawp j i))), (10, .int x_49), (9, .int z), (8, .int v), (7, .int (nI (u))), (6, .int (nI (wyO fawp j i))), (4, .int (fas (j))), (3, .int (fat (j))), (2, .int (nI (q - 1))), (0, .ref h0), (1, .int (nI (j)))]) hx hb dX9_learns_365 hl (k := 6) rfl (nI_1 (i)) (by decide) rfl (fun ls hl => ?_)
                      refine lv_goto (tgt := 62) hx hb dX9_learns_368 (by decide) ?_
                      exact ih_62 (i + 1) 1 f_59 (upd l8 (wyO fawp j i) (l8 (wyO fawp j i))) (upd u8 (wyO fawp j i) x_49) _ _ _ (by omega) (by omega) (Or.inr rfl) (hB8.trans (blv_go (by omega) (nw_ok hY9 hX9 h_54) (nwS_m (by rw [hT9]; omega) hY9 hX9 (Or.inl ⟨rfl, Or.inl (hc8.resolve_left c_57)⟩)))) k0_f_59 k1_f_59 k2_f_59 kS_f_59 kM_f_59 htp htr htw kR_f_59 kG_f_59 (hP.sub [0, 1] rfl) (hD.sub [0, 1] (by decide) rfl) hS (lv_sub hl [0, 7, 8, 9, 10, 11] rfl)
                    · skip
                      refine lv_iload hx hb dX9_learns_303 (lv_at hl 1 rfl) ?_
                      refine lv_aload_n hx hb dX9_learns_305 rfl (lv_at hl 10 rfl) ?_
                      refine xg hF kf_X9_7 hK hP 0 rfl rfl dX9_learns_306 ?_
                      refine lv_bipush (v := 113) hx hb dX9_learns_309 (by decide) ?_
                      refine lv_iload hx hb dX9_learns_311 (lv_at hl 5 rfl) ?_
                      refine lv_iadd hx hb dX9_learns_313 ?_
                      refine xl_i (y := nI (113 + (wyO fawp j i))) (nI_add 113 (wyO fawp j i)) ?_
                      refine va_iald hx hb hK hP 1 0 rfl rfl (vp_in_nI (show 113 + (wyO fawp j i) < 449 by omega) (by decide)) dX9_learns_314 ?_
                      refine xl_i (y := s8 (113 + (wyO fawp j i))) (congrArg s8 (nI_clamp (show 113 + (wyO fawp j i) < 2 ^ 31 by omega))) ?_
                      refine xl_i (y := u8 (wyO fawp j i)) (FR.gu htG (show wyO fawp j i < 100 by omega) (by omega)) ?_
                      refine lv_icmp_ne (tgt := 333) hx hb dX9_learns_315 (by decide) (fun c_60 => ?_) (fun c_60 => ?_)
                      · skip
                        refine lv_iconst (v := 1) hx hb dX9_learns_333 (by decide) ?_
                        refine lv_goto (tgt := 338) hx hb dX9_learns_334 (by decide) ?_
                        refine xp hF kf_X9_205 tyX9_ok nmX9 hK hP hD hS 0 rfl rfl rfl rfl (Nat.le_of_ble_eq_true rfl) dX9_learns_338 (fun H locs hP hD hS => ?_)
                        have hP : va_P D vwCl [(h0, .inr (9, [.ref ys, .ref yk, .ref yo, .ref yt, .int mk0, .ref yfa, .ref yfe, .int mL, .int mS, .int mM, .ref yro, .ref yhe, .ref ygr, .int mF, .int 1, .int mY, .ref yta, .int (nI (mz)), .int (nI (mf)), .int (nI (mt)), .int mv, .int mw, .ref ywa, .ref ybi, .ref ysi, .ref ynu, .ref ymo])), (ys, .inl (cI, 449, .inl s8))] H := hP
                        have hD : va_D A [(h0, .inr (9, [.ref ys, .ref yk, .ref yo, .ref yt, .int mk0, .ref yfa, .ref yfe, .int mL, .int mS, .int mM, .ref yro, .ref yhe, .ref ygr, .int mF, .int 1, .int mY, .ref yta, .int (nI (mz)), .int (nI (mf)), .int (nI (mt)), .int mv, .int mw, .ref ywa, .ref ybi, .ref ysi, .ref ynu, .ref ymo])), (ys, .inl (cI, 449, .inl s8))] := hD
                        refine lv_aload_n hx hb dX9_learns_341 rfl (lv_at hl 10 rfl) ?_
                        refine xg hF kf_X9_7 hK hP 0 rfl rfl dX9_learns_342 ?_
                        refine lv_bipush (v := 113) hx hb dX9_learns_345 (by decide) ?_
                        refine lv_iload hx hb dX9_learns_347 (lv_at hl 5 rfl) ?_
                        refine lv_iadd hx hb dX9_learns_349 ?_
                        refine xl_i (y := nI (113 + (wyO fawp j i))) (nI_add 113 (wyO fawp j i)) ?_
                        refine lv_iload hx hb dX9_learns_350 (lv_at hl 1 rfl) ?_
                        refine va_iast hx hb hK hP hD hS 1 0 rfl rfl (vp_in_nI (show 113 + (wyO fawp j i) < 449 by omega) (by decide)) dX9_learns_352 (fun H locs hP hD hS => ?_)
                        rw [nI_clamp (show 113 + (wyO fawp j i) < 2 ^ 31 by omega)] at hP hD
                        obtain ⟨f_61, ef_61⟩ : ∃ g, g = upd s8 (113 + (wyO fawp j i)) x_49 := ⟨_, rfl⟩
                        rw [← ef_61] at hP hD
                        have k0_f_61 : f_61 0 = nI P := by rw [ef_61]; exact (pk_un (show 0 ≠ (113 + (wyO fawp j i)) by omega)).trans ht0
                        have k1_f_61 : f_61 1 = nI Rn := by rw [ef_61]; exact (pk_un (show 1 ≠ (113 + (wyO fawp j i)) by omega)).trans ht1
                        have k2_f_61 : f_61 2 = nI Wn := by rw [ef_61]; exact (pk_un (show 2 ≠ (113 + (wyO fawp j i)) by omega)).trans ht2
                        have kS_f_61 : SI f_61 := by rw [ef_61]; exact SI.upd htS (okS.low (show (113 + (wyO fawp j i)) < 313 by omega))
                        have kM_f_61 : MI f_61 := by rw [ef_61]; exact MI.upd htM (okM.out (show (113 + (wyO fawp j i)) < 13 ∨ 113 ≤ (113 + (wyO fawp j i)) by omega))
                        have kR_f_61 : RI Rn f_61 := by rw [ef_61]; exact RI.upd htR (fun r9 hr9 e9 => by omega)
                        have kG_f_61 : FR P f_61 fae l8 (upd u8 (wyO fawp j i) x_49) fao farn farp fak fawn fawp fat fas := by rw [ef_61]; exact FR.pu htG (show wyO fawp j i < 100 by omega) (by omega)
                        have hP : va_P D vwCl [(h0, .inr (9, [.ref ys, .ref yk, .ref yo, .ref yt, .int mk0, .ref yfa, .ref yfe, .int mL, .int mS, .int mM, .ref yro, .ref yhe, .ref ygr, .int mF, .int 1, .int mY, .ref yta, .int (nI (mz)), .int (nI (mf)), .int (nI (mt)), .int mv, .int mw, .ref ywa, .ref ybi, .ref ysi, .ref ynu, .ref ymo])), (ys, .inl (cI, 449, .inl f_61))] H := hP
                        have hD : va_D A [(h0, .inr (9, [.ref ys, .ref yk, .ref yo, .ref yt, .int mk0, .ref yfa, .ref yfe, .int mL, .int mS, .int mM, .ref yro, .ref yhe, .ref ygr, .int mF, .int 1, .int mY, .ref yta, .int (nI (mz)), .int (nI (mf)), .int (nI (mt)), .int mv, .int mw, .ref ywa, .ref ybi, .ref ysi, .ref ynu, .ref ymo])), (ys, .inl (cI, 449, .inl f_61))] := hD
                        refine lv_aload_n hx hb dX9_learns_353 rfl (lv_at hl 10 rfl) ?_
                        refine xg hF kf_X9_7 hK hP 0 rfl rfl dX9_learns_354 ?_
                        refine lv_bipush (v := 13) hx hb dX9_learns_357 (by decide) ?_
                        refine lv_iload hx hb dX9_learns_359 (lv_at hl 5 rfl) ?_
                        refine lv_iadd hx hb dX9_learns_361 ?_
                        refine xl_i (y := nI (13 + (wyO fawp j i))) (nI_add 13 (wyO fawp j i)) ?_
                        refine lv_iload hx hb dX9_learns_362 (lv_at hl 0 rfl) ?_
                        refine va_iast hx hb hK hP hD hS 1 0 rfl rfl (vp_in_nI (show 13 + (wyO fawp j i) < 449 by omega) (by decide)) dX9_learns_364 (fun H locs hP hD hS => ?_)
                        rw [nI_clamp (show 13 + (wyO fawp j i) < 2 ^ 31 by omega)] at hP hD
                        obtain ⟨f_62, ef_62⟩ : ∃ g, g = upd f_61 (13 + (wyO fawp j i)) (l8 (wyO fawp j i)) := ⟨_, rfl⟩
                        rw [← ef_62] at hP hD
                        have k0_f_62 : f_62 0 = nI P := by rw [ef_62]; exact (pk_un (show 0 ≠ (13 + (wyO fawp j i)) by omega)).trans k0_f_61
                        have k1_f_62 : f_62 1 = nI Rn := by rw [ef_62]; exact (pk_un (show 1 ≠ (13 + (wyO fawp j i)) by omega)).trans k1_f_61
                        have k2_f_62 : f_62 2 = nI Wn := by rw [ef_62]; exact (pk_un (show 2 ≠ (13 + (wyO fawp j i)) by omega)).trans k2_f_61
                        have kS_f_62 : SI f_62 := by rw [ef_62]; exact SI.upd kS_f_61 (okS.low (show (13 + (wyO fawp j i)) < 313 by omega))
                        have kM_f_62 : MI f_62 := by rw [ef_62]; exact MI.upd kM_f_61 (fun _ _ => ends_lo h_54)
                        have kR_f_62 : RI Rn f_62 := by rw [ef_62]; exact RI.upd kR_f_61 (fun r9 hr9 e9 => by omega)
                        have kG_f_62 : FR P f_62 fae (upd l8 (wyO fawp j i) (l8 (wyO fawp j i))) (upd u8 (wyO fawp j i) x_49) fao farn farp fak fawn fawp fat fas := by rw [ef_62]; exact FR.pl kG_f_61 (show wyO fawp j i < 100 by omega) (by omega)
                        have hP : va_P D vwCl [(h0, .inr (9, [.ref ys, .ref yk, .ref yo, .ref yt, .int mk0, .ref yfa, .ref yfe, .int mL, .int mS, .int mM, .ref yro, .ref yhe, .ref ygr, .int mF, .int 1, .int mY, .ref yta, .int (nI (mz)), .int (nI (mf)), .int (nI (mt)), .int mv, .int mw, .ref ywa, .ref ybi, .ref ysi, .ref ynu, .ref ymo])), (ys, .inl (cI, 449, .inl f_62))] H := hP
                        have hD : va_D A [(h0, .inr (9, [.ref ys, .ref yk, .ref yo, .ref yt, .int mk0, .ref yfa, .ref yfe, .int mL, .int mS, .int mM, .ref yro, .ref yhe, .ref ygr, .int mF, .int 1, .int mY, .ref yta, .int (nI (mz)), .int (nI (mf)), .int (nI (mt)), .int mv, .int mw, .ref ywa, .ref ybi, .ref ysi, .ref ynu, .ref ymo])), (ys, .inl (cI, 449, .inl f_62))] := hD
                        refine lv_iinc (v := nI (i + 1)) (lv' := [(5, .int (nI (i + 1))), (11, .int (l8 (wyO fawp j i))), (10, .int x_49), (9, .int z), (8, .int v), (7, .int (nI (u))), (6, .int (nI (wyO fawp j i))), (4, .int (fas (j))), (3, .int (fat (j))), (2, .int (nI (q - 1))), (0, .ref h0), (1, .int (nI (j)))]) hx hb dX9_learns_365 hl (k := 6) rfl (nI_1 (i)) (by decide) rfl (fun ls hl => ?_)
                        refine lv_goto (tgt := 62) hx hb dX9_learns_368 (by decide) ?_
                        exact ih_62 (i + 1) 1 f_62 (upd l8 (wyO fawp j i) (l8 (wyO fawp j i))) (upd u8 (wyO fawp j i) x_49) _ _ _ (by omega) (by omega) (Or.inr rfl) (hB8.trans (blv_go (by omega) (nw_ok hY9 hX9 h_54) (nwS_m (by rw [hT9]; omega) hY9 hX9 (Or.inl ⟨rfl, Or.inr (fun h => c_60 h.2)⟩)))) k0_f_62 k1_f_62 k2_f_62 kS_f_62 kM_f_62 htp htr htw kR_f_62 kG_f_62 (hP.sub [0, 1] rfl) (hD.sub [0, 1] (by decide) rfl) hS (lv_sub hl [0, 7, 8, 9, 10, 11] rfl)
                      · skip
                        refine lv_iload hx hb dX9_learns_318 (lv_at hl 0 rfl) ?_
                        refine lv_aload_n hx hb dX9_learns_320 rfl (lv_at hl 10 rfl) ?_
                        refine xg hF kf_X9_7 hK hP 0 rfl rfl dX9_learns_321 ?_
                        refine lv_bipush (v := 13) hx hb dX9_learns_324 (by decide) ?_
                        refine lv_iload hx hb dX9_learns_326 (lv_at hl 5 rfl) ?_
                        refine lv_iadd hx hb dX9_learns_328 ?_
                        refine xl_i (y := nI (13 + (wyO fawp j i))) (nI_add 13 (wyO fawp j i)) ?_
                        refine va_iald hx hb hK hP 1 0 rfl rfl (vp_in_nI (show 13 + (wyO fawp j i) < 449 by omega) (by decide)) dX9_learns_329 ?_
                        refine xl_i (y := s8 (13 + (wyO fawp j i))) (congrArg s8 (nI_clamp (show 13 + (wyO fawp j i) < 2 ^ 31 by omega))) ?_
                        refine xl_i (y := l8 (wyO fawp j i)) (FR.gl htG (show wyO fawp j i < 100 by omega) (by omega)) ?_
                        refine lv_icmp_eq (tgt := 337) hx hb dX9_learns_330 (by decide) (fun c_63 => ?_) (fun c_63 => absurd rfl c_63)
                        refine lv_iconst (v := 0) hx hb dX9_learns_337 (by decide) ?_
                        refine xp hF kf_X9_205 tyX9_ok nmX9 hK hP hD hS 0 rfl rfl rfl rfl (Nat.le_of_ble_eq_true rfl) dX9_learns_338 (fun H locs hP hD hS => ?_)
                        have hP : va_P D vwCl [(h0, .inr (9, [.ref ys, .ref yk, .ref yo, .ref yt, .int mk0, .ref yfa, .ref yfe, .int mL, .int mS, .int mM, .ref yro, .ref yhe, .ref ygr, .int mF, .int 0, .int mY, .ref yta, .int (nI (mz)), .int (nI (mf)), .int (nI (mt)), .int mv, .int mw, .ref ywa, .ref ybi, .ref ysi, .ref ynu, .ref ymo])), (ys, .inl (cI, 449, .inl s8))] H := hP
                        have hD : va_D A [(h0, .inr (9, [.ref ys, .ref yk, .ref yo, .ref yt, .int mk0, .ref yfa, .ref yfe, .int mL, .int mS, .int mM, .ref yro, .ref yhe, .ref ygr, .int mF, .int 0, .int mY, .ref yta, .int (nI (mz)), .int (nI (mf)), .int (nI (mt)), .int mv, .int mw, .ref ywa, .ref ybi, .ref ysi, .ref ynu, .ref ymo])), (ys, .inl (cI, 449, .inl s8))] := hD
                        refine lv_aload_n hx hb dX9_learns_341 rfl (lv_at hl 10 rfl) ?_
                        refine xg hF kf_X9_7 hK hP 0 rfl rfl dX9_learns_342 ?_
                        refine lv_bipush (v := 113) hx hb dX9_learns_345 (by decide) ?_
                        refine lv_iload hx hb dX9_learns_347 (lv_at hl 5 rfl) ?_
                        refine lv_iadd hx hb dX9_learns_349 ?_
                        refine xl_i (y := nI (113 + (wyO fawp j i))) (nI_add 113 (wyO fawp j i)) ?_
                        refine lv_iload hx hb dX9_learns_350 (lv_at hl 1 rfl) ?_
                        refine va_iast hx hb hK hP hD hS 1 0 rfl rfl (vp_in_nI (show 113 + (wyO fawp j i) < 449 by omega) (by decide)) dX9_learns_352 (fun H locs hP hD hS => ?_)
                        rw [nI_clamp (show 113 + (wyO fawp j i) < 2 ^ 31 by omega)] at hP hD
                        obtain ⟨f_64, ef_64⟩ : ∃ g, g = upd s8 (113 + (wyO fawp j i)) x_49 := ⟨_, rfl⟩
                        rw [← ef_64] at hP hD
                        have k0_f_64 : f_64 0 = nI P := by rw [ef_64]; exact (pk_un (show 0 ≠ (113 + (wyO fawp j i)) by omega)).trans ht0
                        have k1_f_64 : f_64 1 = nI Rn := by rw [ef_64]; exact (pk_un (show 1 ≠ (113 + (wyO fawp j i)) by omega)).trans ht1
                        have k2_f_64 : f_64 2 = nI Wn := by rw [ef_64]; exact (pk_un (show 2 ≠ (113 + (wyO fawp j i)) by omega)).trans ht2
                        have kS_f_64 : SI f_64 := by rw [ef_64]; exact SI.upd htS (okS.low (show (113 + (wyO fawp j i)) < 313 by omega))
                        have kM_f_64 : MI f_64 := by rw [ef_64]; exact MI.upd htM (okM.out (show (113 + (wyO fawp j i)) < 13 ∨ 113 ≤ (113 + (wyO fawp j i)) by omega))
                        have kR_f_64 : RI Rn f_64 := by rw [ef_64]; exact RI.upd htR (fun r9 hr9 e9 => by omega)
                        have kG_f_64 : FR P f_64 fae l8 (upd u8 (wyO fawp j i) x_49) fao farn farp fak fawn fawp fat fas := by rw [ef_64]; exact FR.pu htG (show wyO fawp j i < 100 by omega) (by omega)
                        have hP : va_P D vwCl [(h0, .inr (9, [.ref ys, .ref yk, .ref yo, .ref yt, .int mk0, .ref yfa, .ref yfe, .int mL, .int mS, .int mM, .ref yro, .ref yhe, .ref ygr, .int mF, .int 0, .int mY, .ref yta, .int (nI (mz)), .int (nI (mf)), .int (nI (mt)), .int mv, .int mw, .ref ywa, .ref ybi, .ref ysi, .ref ynu, .ref ymo])), (ys, .inl (cI, 449, .inl f_64))] H := hP
                        have hD : va_D A [(h0, .inr (9, [.ref ys, .ref yk, .ref yo, .ref yt, .int mk0, .ref yfa, .ref yfe, .int mL, .int mS, .int mM, .ref yro, .ref yhe, .ref ygr, .int mF, .int 0, .int mY, .ref yta, .int (nI (mz)), .int (nI (mf)), .int (nI (mt)), .int mv, .int mw, .ref ywa, .ref ybi, .ref ysi, .ref ynu, .ref ymo])), (ys, .inl (cI, 449, .inl f_64))] := hD
                        refine lv_aload_n hx hb dX9_learns_353 rfl (lv_at hl 10 rfl) ?_
                        refine xg hF kf_X9_7 hK hP 0 rfl rfl dX9_learns_354 ?_
                        refine lv_bipush (v := 13) hx hb dX9_learns_357 (by decide) ?_
                        refine lv_iload hx hb dX9_learns_359 (lv_at hl 5 rfl) ?_
                        refine lv_iadd hx hb dX9_learns_361 ?_
                        refine xl_i (y := nI (13 + (wyO fawp j i))) (nI_add 13 (wyO fawp j i)) ?_
                        refine lv_iload hx hb dX9_learns_362 (lv_at hl 0 rfl) ?_
                        refine va_iast hx hb hK hP hD hS 1 0 rfl rfl (vp_in_nI (show 13 + (wyO fawp j i) < 449 by omega) (by decide)) dX9_learns_364 (fun H locs hP hD hS => ?_)
                        rw [nI_clamp (show 13 + (wyO fawp j i) < 2 ^ 31 by omega)] at hP hD
                        obtain ⟨f_65, ef_65⟩ : ∃ g, g = upd f_64 (13 + (wyO fawp j i)) (l8 (wyO fawp j i)) := ⟨_, rfl⟩
                        rw [← ef_65] at hP hD
                        have k0_f_65 : f_65 0 = nI P := by rw [ef_65]; exact (pk_un (show 0 ≠ (13 + (wyO fawp j i)) by omega)).trans k0_f_64
                        have k1_f_65 : f_65 1 = nI Rn := by rw [ef_65]; exact (pk_un (show 1 ≠ (13 + (wyO fawp j i)) by omega)).trans k1_f_64
                        have k2_f_65 : f_65 2 = nI Wn := by rw [ef_65]; exact (pk_un (show 2 ≠ (13 + (wyO fawp j i)) by omega)).trans k2_f_64
                        have kS_f_65 : SI f_65 := by rw [ef_65]; exact SI.upd kS_f_64 (okS.low (show (13 + (wyO fawp j i)) < 313 by omega))
                        have kM_f_65 : MI f_65 := by rw [ef_65]; exact MI.upd kM_f_64 (fun _ _ => ends_lo h_54)
                        have kR_f_65 : RI Rn f_65 := by rw [ef_65]; exact RI.upd kR_f_64 (fun r9 hr9 e9 => by omega)
                        have kG_f_65 : FR P f_65 fae (upd l8 (wyO fawp j i) (l8 (wyO fawp j i))) (upd u8 (wyO fawp j i) x_49) fao farn farp fak fawn fawp fat fas := by rw [ef_65]; exact FR.pl kG_f_64 (show wyO fawp j i < 100 by omega) (by omega)
                        have hP : va_P D vwCl [(h0, .inr (9, [.ref ys, .ref yk, .ref yo, .ref yt, .int mk0, .ref yfa, .ref yfe, .int mL, .int mS, .int mM, .ref yro, .ref yhe, .ref ygr, .int mF, .int 0, .int mY, .ref yta, .int (nI (mz)), .int (nI (mf)), .int (nI (mt)), .int mv, .int mw, .ref ywa, .ref ybi, .ref ysi, .ref ynu, .ref ymo])), (ys, .inl (cI, 449, .inl f_65))] H := hP
                        have hD : va_D A [(h0, .inr (9, [.ref ys, .ref yk, .ref yo, .ref yt, .int mk0, .ref yfa, .ref yfe, .int mL, .int mS, .int mM, .ref yro, .ref yhe, .ref ygr, .int mF, .int 0, .int mY, .ref yta, .int (nI (mz)), .int (nI (mf)), .int (nI (mt)), .int mv, .int mw, .ref ywa, .ref ybi, .ref ysi, .ref ynu, .ref ymo])), (ys, .inl (cI, 449, .inl f_65))] := hD
                        refine lv_iinc (v := nI (i + 1)) (lv' := [(5, .int (nI (i + 1))), (11, .int (l8 (wyO fawp j i))), (10, .int x_49), (9, .int z), (8, .int v), (7, .int (nI (u))), (6, .int (nI (wyO fawp j i))), (4, .int (fas (j))), (3, .int (fat (j))), (2, .int (nI (q - 1))), (0, .ref h0), (1, .int (nI (j)))]) hx hb dX9_learns_365 hl (k := 6) rfl (nI_1 (i)) (by decide) rfl (fun ls hl => ?_)
                        refine lv_goto (tgt := 62) hx hb dX9_learns_368 (by decide) ?_
                        exact ih_62 (i + 1) 0 f_65 (upd l8 (wyO fawp j i) (l8 (wyO fawp j i))) (upd u8 (wyO fawp j i) x_49) _ _ _ (by omega) (by omega) (Or.inl rfl) (hB8.trans (blv_go (by omega) (nw_ok hY9 hX9 h_54) (nwS_m (by rw [hT9]; omega) hY9 hX9 (Or.inr ⟨rfl, c_57, c_63, c_60⟩)))) k0_f_65 k1_f_65 k2_f_65 kS_f_65 kM_f_65 htp htr htw kR_f_65 kG_f_65 (hP.sub [0, 1] rfl) (hD.sub [0, 1] (by decide) rfl) hS (lv_sub hl [0, 7, 8, 9, 10, 11] rfl)
                  · skip
                    refine lv_if_ne (tgt := 295) hx hb dX9_learns_290 (by decide) (fun c_66 => absurd (by decide) c_66) (fun c_66 => ?_)
                    refine lv_iconst (v := 0) hx hb dX9_learns_293 (by decide) ?_
                    exact W.zret (v := 0) hx hb hr rfl (fun t ht hW => ⟨⟨0, (c8, s8, l8, u8), rfl, ⟨Or.inr ⟨rfl, bel_y eq0 hq h_2 (hB8.trans (blv_no (by omega) (nw_no (by rw [hT9]; omega) hY9 hX9 h_55)))⟩, hc8, ht0, ht1, ht2, htS, htM, htp, htr, htw, htR, htG⟩, by rw [ht]; exact hP.sub [0, 1] rfl, hD.sub [0, 1] (by decide) rfl⟩, hS.F ht⟩) hS.2.2 dX9_learns_294 hlk
                · skip
                  refine lv_iload_n hx hb dX9_learns_261 rfl (lv_at hl 7 rfl) ?_
                  refine lv_iload hx hb dX9_learns_262 (lv_at hl 6 rfl) ?_
                  refine lv_isub hx hb dX9_learns_264 ?_
                  refine lv_topi (fun x_67 ex_67 => ?_)
                  refine lv_iload hx hb dX9_learns_265 (lv_at hl 1 rfl) ?_
                  refine lv_isub hx hb dX9_learns_267 ?_
                  refine lv_topi (fun x_68 ex_68 => ?_)
                  refine lv_goto (tgt := 281) hx hb dX9_learns_268 (by decide) ?_
                  have hY9 : x_68 = lnY (wyO fawp j) (q - 1) i (fat j) (fas j) l8 u8 := by rw [ex_68, ex_67]; exact lnY_p hZ9 (by rw [← hr7]; exact Int32.not_le.mp c_52)
                  refine lv_istore (lv' := [(11, .int x_68), (10, .int x_49), (9, .int z), (8, .int v), (7, .int (nI (u))), (6, .int (nI (wyO fawp j i))), (5, .int (nI (i))), (4, .int (fas (j))), (3, .int (fat (j))), (2, .int (nI (q - 1))), (0, .ref h0), (1, .int (nI (j)))]) hx hb dX9_learns_281 hl (by decide) rfl (fun ls hl => ?_)
                  refine lv_iload hx hb dX9_learns_283 (lv_at hl 0 rfl) ?_
                  refine lv_iload hx hb dX9_learns_285 (lv_at hl 1 rfl) ?_
                  refine xc_Sr hF (c_X9_areEnds l D cI cJ cZ cS ta sa sv H.size x_68 x_49 ) ks_X9_84 ⟨rfl, rfl, Nat.le_of_ble_eq_true rfl, Nat.le_of_ble_eq_true rfl⟩ ⟨Nat.le_of_ble_eq_true rfl, Nat.le_of_ble_eq_true rfl⟩ hK hN hZ hP hD hS hA [] rfl rfl rfl hl.1 rfl (Nat.le_of_ble_eq_true rfl) dX9_learns_287 (fun r_69 hw_r_69 => ?_)
                  rcases hw_r_69 with ⟨rfl, h_70⟩ | ⟨rfl, h_71⟩
                  · skip
                    refine lv_if_ne (tgt := 295) hx hb dX9_learns_290 (by decide) (fun c_72 => ?_) (fun c_72 => absurd c_72 (by decide))
                    refine lv_aload_n hx hb dX9_learns_295 rfl (lv_at hl 10 rfl) ?_
                    refine lv_aload_n hx hb dX9_learns_296 rfl (lv_at hl 10 rfl) ?_
                    refine xg hF kf_X9_205 hK hP 0 rfl rfl dX9_learns_297 ?_
                    refine lv_if_ne (tgt := 333) hx hb dX9_learns_300 (by decide) (fun c_73 => ?_) (fun c_73 => ?_)
                    · skip
                      refine lv_iconst (v := 1) hx hb dX9_learns_333 (by decide) ?_
                      refine lv_goto (tgt := 338) hx hb dX9_learns_334 (by decide) ?_
                      refine xp hF kf_X9_205 tyX9_ok nmX9 hK hP hD hS 0 rfl rfl rfl rfl (Nat.le_of_ble_eq_true rfl) dX9_learns_338 (fun H locs hP hD hS => ?_)
                      have hP : va_P D vwCl [(h0, .inr (9, [.ref ys, .ref yk, .ref yo, .ref yt, .int mk0, .ref yfa, .ref yfe, .int mL, .int mS, .int mM, .ref yro, .ref yhe, .ref ygr, .int mF, .int 1, .int mY, .ref yta, .int (nI (mz)), .int (nI (mf)), .int (nI (mt)), .int mv, .int mw, .ref ywa, .ref ybi, .ref ysi, .ref ynu, .ref ymo])), (ys, .inl (cI, 449, .inl s8))] H := hP
                      have hD : va_D A [(h0, .inr (9, [.ref ys, .ref yk, .ref yo, .ref yt, .int mk0, .ref yfa, .ref yfe, .int mL, .int mS, .int mM, .ref yro, .ref yhe, .ref ygr, .int mF, .int 1, .int mY, .ref yta, .int (nI (mz)), .int (nI (mf)), .int (nI (mt)), .int mv, .int mw, .ref ywa, .ref ybi, .ref ysi, .ref ynu, .ref ymo])), (ys, .inl (cI, 449, .inl s8))] := hD
                      refine lv_aload_n hx hb dX9_learns_341 rfl (lv_at hl 10 rfl) ?_
                      refine xg hF kf_X9_7 hK hP 0 rfl rfl dX9_learns_342 ?_
                      refine lv_bipush (v := 113) hx hb dX9_learns_345 (by decide) ?_
                      refine lv_iload hx hb dX9_learns_347 (lv_at hl 5 rfl) ?_
                      refine lv_iadd hx hb dX9_learns_349 ?_
                      refine xl_i (y := nI (113 + (wyO fawp j i))) (nI_add 113 (wyO fawp j i)) ?_
                      refine lv_iload hx hb dX9_learns_350 (lv_at hl 1 rfl) ?_
                      refine va_iast hx hb hK hP hD hS 1 0 rfl rfl (vp_in_nI (show 113 + (wyO fawp j i) < 449 by omega) (by decide)) dX9_learns_352 (fun H locs hP hD hS => ?_)
                      rw [nI_clamp (show 113 + (wyO fawp j i) < 2 ^ 31 by omega)] at hP hD
                      obtain ⟨f_74, ef_74⟩ : ∃ g, g = upd s8 (113 + (wyO fawp j i)) x_49 := ⟨_, rfl⟩
                      rw [← ef_74] at hP hD
                      have k0_f_74 : f_74 0 = nI P := by rw [ef_74]; exact (pk_un (show 0 ≠ (113 + (wyO fawp j i)) by omega)).trans ht0
                      have k1_f_74 : f_74 1 = nI Rn := by rw [ef_74]; exact (pk_un (show 1 ≠ (113 + (wyO fawp j i)) by omega)).trans ht1
                      have k2_f_74 : f_74 2 = nI Wn := by rw [ef_74]; exact (pk_un (show 2 ≠ (113 + (wyO fawp j i)) by omega)).trans ht2
                      have kS_f_74 : SI f_74 := by rw [ef_74]; exact SI.upd htS (okS.low (show (113 + (wyO fawp j i)) < 313 by omega))
                      have kM_f_74 : MI f_74 := by rw [ef_74]; exact MI.upd htM (okM.out (show (113 + (wyO fawp j i)) < 13 ∨ 113 ≤ (113 + (wyO fawp j i)) by omega))
                      have kR_f_74 : RI Rn f_74 := by rw [ef_74]; exact RI.upd htR (fun r9 hr9 e9 => by omega)
                      have kG_f_74 : FR P f_74 fae l8 (upd u8 (wyO fawp j i) x_49) fao farn farp fak fawn fawp fat fas := by rw [ef_74]; exact FR.pu htG (show wyO fawp j i < 100 by omega) (by omega)
                      have hP : va_P D vwCl [(h0, .inr (9, [.ref ys, .ref yk, .ref yo, .ref yt, .int mk0, .ref yfa, .ref yfe, .int mL, .int mS, .int mM, .ref yro, .ref yhe, .ref ygr, .int mF, .int 1, .int mY, .ref yta, .int (nI (mz)), .int (nI (mf)), .int (nI (mt)), .int mv, .int mw, .ref ywa, .ref ybi, .ref ysi, .ref ynu, .ref ymo])), (ys, .inl (cI, 449, .inl f_74))] H := hP
                      have hD : va_D A [(h0, .inr (9, [.ref ys, .ref yk, .ref yo, .ref yt, .int mk0, .ref yfa, .ref yfe, .int mL, .int mS, .int mM, .ref yro, .ref yhe, .ref ygr, .int mF, .int 1, .int mY, .ref yta, .int (nI (mz)), .int (nI (mf)), .int (nI (mt)), .int mv, .int mw, .ref ywa, .ref ybi, .ref ysi, .ref ynu, .ref ymo])), (ys, .inl (cI, 449, .inl f_74))] := hD
                      refine lv_aload_n hx hb dX9_learns_353 rfl (lv_at hl 10 rfl) ?_
                      refine xg hF kf_X9_7 hK hP 0 rfl rfl dX9_learns_354 ?_
                      refine lv_bipush (v := 13) hx hb dX9_learns_357 (by decide) ?_
                      refine lv_iload hx hb dX9_learns_359 (lv_at hl 5 rfl) ?_
                      refine lv_iadd hx hb dX9_learns_361 ?_
                      refine xl_i (y := nI (13 + (wyO fawp j i))) (nI_add 13 (wyO fawp j i)) ?_
                      refine lv_iload hx hb dX9_learns_362 (lv_at hl 0 rfl) ?_
                      refine va_iast hx hb hK hP hD hS 1 0 rfl rfl (vp_in_nI (show 13 + (wyO fawp j i) < 449 by omega) (by decide)) dX9_learns_364 (fun H locs hP hD hS => ?_)
                      rw [nI_clamp (show 13 + (wyO fawp j i) < 2 ^ 31 by omega)] at hP hD
                      obtain ⟨f_75, ef_75⟩ : ∃ g, g = upd f_74 (13 + (wyO fawp j i)) x_68 := ⟨_, rfl⟩
                      rw [← ef_75] at hP hD
                      have k0_f_75 : f_75 0 = nI P := by rw [ef_75]; exact (pk_un (show 0 ≠ (13 + (wyO fawp j i)) by omega)).trans k0_f_74
                      have k1_f_75 : f_75 1 = nI Rn := by rw [ef_75]; exact (pk_un (show 1 ≠ (13 + (wyO fawp j i)) by omega)).trans k1_f_74
                      have k2_f_75 : f_75 2 = nI Wn := by rw [ef_75]; exact (pk_un (show 2 ≠ (13 + (wyO fawp j i)) by omega)).trans k2_f_74
                      have kS_f_75 : SI f_75 := by rw [ef_75]; exact SI.upd kS_f_74 (okS.low (show (13 + (wyO fawp j i)) < 313 by omega))
                      have kM_f_75 : MI f_75 := by rw [ef_75]; exact MI.upd kM_f_74 (fun _ _ => ends_lo h_70)
                      have kR_f_75 : RI Rn f_75 := by rw [ef_75]; exact RI.upd kR_f_74 (fun r9 hr9 e9 => by omega)
                      have kG_f_75 : FR P f_75 fae (upd l8 (wyO fawp j i) x_68) (upd u8 (wyO fawp j i) x_49) fao farn farp fak fawn fawp fat fas := by rw [ef_75]; exact FR.pl kG_f_74 (show wyO fawp j i < 100 by omega) (by omega)
                      have hP : va_P D vwCl [(h0, .inr (9, [.ref ys, .ref yk, .ref yo, .ref yt, .int mk0, .ref yfa, .ref yfe, .int mL, .int mS, .int mM, .ref yro, .ref yhe, .ref ygr, .int mF, .int 1, .int mY, .ref yta, .int (nI (mz)), .int (nI (mf)), .int (nI (mt)), .int mv, .int mw, .ref ywa, .ref ybi, .ref ysi, .ref ynu, .ref ymo])), (ys, .inl (cI, 449, .inl f_75))] H := hP
                      have hD : va_D A [(h0, .inr (9, [.ref ys, .ref yk, .ref yo, .ref yt, .int mk0, .ref yfa, .ref yfe, .int mL, .int mS, .int mM, .ref yro, .ref yhe, .ref ygr, .int mF, .int 1, .int mY, .ref yta, .int (nI (mz)), .int (nI (mf)), .int (nI (mt)), .int mv, .int mw, .ref ywa, .ref ybi, .ref ysi, .ref ynu, .ref ymo])), (ys, .inl (cI, 449, .inl f_75))] := hD
                      refine lv_iinc (v := nI (i + 1)) (lv' := [(5, .int (nI (i + 1))), (11, .int x_68), (10, .int x_49), (9, .int z), (8, .int v), (7, .int (nI (u))), (6, .int (nI (wyO fawp j i))), (4, .int (fas (j))), (3, .int (fat (j))), (2, .int (nI (q - 1))), (0, .ref h0), (1, .int (nI (j)))]) hx hb dX9_learns_365 hl (k := 6) rfl (nI_1 (i)) (by decide) rfl (fun ls hl => ?_)
                      refine lv_goto (tgt := 62) hx hb dX9_learns_368 (by decide) ?_
                      exact ih_62 (i + 1) 1 f_75 (upd l8 (wyO fawp j i) x_68) (upd u8 (wyO fawp j i) x_49) _ _ _ (by omega) (by omega) (Or.inr rfl) (hB8.trans (blv_go (by omega) (nw_ok hY9 hX9 h_70) (nwS_m (by rw [hT9]; omega) hY9 hX9 (Or.inl ⟨rfl, Or.inl (hc8.resolve_left c_73)⟩)))) k0_f_75 k1_f_75 k2_f_75 kS_f_75 kM_f_75 htp htr htw kR_f_75 kG_f_75 (hP.sub [0, 1] rfl) (hD.sub [0, 1] (by decide) rfl) hS (lv_sub hl [0, 7, 8, 9, 10, 11] rfl)
                    · skip
                      refine lv_iload hx hb dX9_learns_303 (lv_at hl 1 rfl) ?_
                      refine lv_aload_n hx hb dX9_learns_305 rfl (lv_at hl 10 rfl) ?_
                      refine xg hF kf_X9_7 hK hP 0 rfl rfl dX9_learns_306 ?_
                      refine lv_bipush (v := 113) hx hb dX9_learns_309 (by decide) ?_
                      refine lv_iload hx hb dX9_learns_311 (lv_at hl 5 rfl) ?_
                      refine lv_iadd hx hb dX9_learns_313 ?_
                      refine xl_i (y := nI (113 + (wyO fawp j i))) (nI_add 113 (wyO fawp j i)) ?_
                      refine va_iald hx hb hK hP 1 0 rfl rfl (vp_in_nI (show 113 + (wyO fawp j i) < 449 by omega) (by decide)) dX9_learns_314 ?_
                      refine xl_i (y := s8 (113 + (wyO fawp j i))) (congrArg s8 (nI_clamp (show 113 + (wyO fawp j i) < 2 ^ 31 by omega))) ?_
                      refine xl_i (y := u8 (wyO fawp j i)) (FR.gu htG (show wyO fawp j i < 100 by omega) (by omega)) ?_
                      refine lv_icmp_ne (tgt := 333) hx hb dX9_learns_315 (by decide) (fun c_76 => ?_) (fun c_76 => ?_)
                      · skip
                        refine lv_iconst (v := 1) hx hb dX9_learns_333 (by decide) ?_
                        refine lv_goto (tgt := 338) hx hb dX9_learns_334 (by decide) ?_
                        refine xp hF kf_X9_205 tyX9_ok nmX9 hK hP hD hS 0 rfl rfl rfl rfl (Nat.le_of_ble_eq_true rfl) dX9_learns_338 (fun H locs hP hD hS => ?_)
                        have hP : va_P D vwCl [(h0, .inr (9, [.ref ys, .ref yk, .ref yo, .ref yt, .int mk0, .ref yfa, .ref yfe, .int mL, .int mS, .int mM, .ref yro, .ref yhe, .ref ygr, .int mF, .int 1, .int mY, .ref yta, .int (nI (mz)), .int (nI (mf)), .int (nI (mt)), .int mv, .int mw, .ref ywa, .ref ybi, .ref ysi, .ref ynu, .ref ymo])), (ys, .inl (cI, 449, .inl s8))] H := hP
                        have hD : va_D A [(h0, .inr (9, [.ref ys, .ref yk, .ref yo, .ref yt, .int mk0, .ref yfa, .ref yfe, .int mL, .int mS, .int mM, .ref yro, .ref yhe, .ref ygr, .int mF, .int 1, .int mY, .ref yta, .int (nI (mz)), .int (nI (mf)), .int (nI (mt)), .int mv, .int mw, .ref ywa, .ref ybi, .ref ysi, .ref ynu, .ref ymo])), (ys, .inl (cI, 449, .inl s8))] := hD
                        refine lv_aload_n hx hb dX9_learns_341 rfl (lv_at hl 10 rfl) ?_
                        refine xg hF kf_X9_7 hK hP 0 rfl rfl dX9_learns_342 ?_
                        refine lv_bipush (v := 113) hx hb dX9_learns_345 (by decide) ?_
                        refine lv_iload hx hb dX9_learns_347 (lv_at hl 5 rfl) ?_
                        refine lv_iadd hx hb dX9_learns_349 ?_
                        refine xl_i (y := nI (113 + (wyO fawp j i))) (nI_add 113 (wyO fawp j i)) ?_
                        refine lv_iload hx hb dX9_learns_350 (lv_at hl 1 rfl) ?_
                        refine va_iast hx hb hK hP hD hS 1 0 rfl rfl (vp_in_nI (show 113 + (wyO fawp j i) < 449 by omega) (by decide)) dX9_learns_352 (fun H locs hP hD hS => ?_)
                        rw [nI_clamp (show 113 + (wyO fawp j i) < 2 ^ 31 by omega)] at hP hD
                        obtain ⟨f_77, ef_77⟩ : ∃ g, g = upd s8 (113 + (wyO fawp j i)) x_49 := ⟨_, rfl⟩
                        rw [← ef_77] at hP hD
                        have k0_f_77 : f_77 0 = nI P := by rw [ef_77]; exact (pk_un (show 0 ≠ (113 + (wyO fawp j i)) by omega)).trans ht0
                        have k1_f_77 : f_77 1 = nI Rn := by rw [ef_77]; exact (pk_un (show 1 ≠ (113 + (wyO fawp j i)) by omega)).trans ht1
                        have k2_f_77 : f_77 2 = nI Wn := by rw [ef_77]; exact (pk_un (show 2 ≠ (113 + (wyO fawp j i)) by omega)).trans ht2
                        have kS_f_77 : SI f_77 := by rw [ef_77]; exact SI.upd htS (okS.low (show (113 + (wyO fawp j i)) < 313 by omega))
                        have kM_f_77 : MI f_77 := by rw [ef_77]; exact MI.upd htM (okM.out (show (113 + (wyO fawp j i)) < 13 ∨ 113 ≤ (113 + (wyO fawp j i)) by omega))
                        have kR_f_77 : RI Rn f_77 := by rw [ef_77]; exact RI.upd htR (fun r9 hr9 e9 => by omega)
                        have kG_f_77 : FR P f_77 fae l8 (upd u8 (wyO fawp j i) x_49) fao farn farp fak fawn fawp fat fas := by rw [ef_77]; exact FR.pu htG (show wyO fawp j i < 100 by omega) (by omega)
                        have hP : va_P D vwCl [(h0, .inr (9, [.ref ys, .ref yk, .ref yo, .ref yt, .int mk0, .ref yfa, .ref yfe, .int mL, .int mS, .int mM, .ref yro, .ref yhe, .ref ygr, .int mF, .int 1, .int mY, .ref yta, .int (nI (mz)), .int (nI (mf)), .int (nI (mt)), .int mv, .int mw, .ref ywa, .ref ybi, .ref ysi, .ref ynu, .ref ymo])), (ys, .inl (cI, 449, .inl f_77))] H := hP
                        have hD : va_D A [(h0, .inr (9, [.ref ys, .ref yk, .ref yo, .ref yt, .int mk0, .ref yfa, .ref yfe, .int mL, .int mS, .int mM, .ref yro, .ref yhe, .ref ygr, .int mF, .int 1, .int mY, .ref yta, .int (nI (mz)), .int (nI (mf)), .int (nI (mt)), .int mv, .int mw, .ref ywa, .ref ybi, .ref ysi, .ref ynu, .ref ymo])), (ys, .inl (cI, 449, .inl f_77))] := hD
                        refine lv_aload_n hx hb dX9_learns_353 rfl (lv_at hl 10 rfl) ?_
                        refine xg hF kf_X9_7 hK hP 0 rfl rfl dX9_learns_354 ?_
                        refine lv_bipush (v := 13) hx hb dX9_learns_357 (by decide) ?_
                        refine lv_iload hx hb dX9_learns_359 (lv_at hl 5 rfl) ?_
                        refine lv_iadd hx hb dX9_learns_361 ?_
                        refine xl_i (y := nI (13 + (wyO fawp j i))) (nI_add 13 (wyO fawp j i)) ?_
                        refine lv_iload hx hb dX9_learns_362 (lv_at hl 0 rfl) ?_
                        refine va_iast hx hb hK hP hD hS 1 0 rfl rfl (vp_in_nI (show 13 + (wyO fawp j i) < 449 by omega) (by decide)) dX9_learns_364 (fun H locs hP hD hS => ?_)
                        rw [nI_clamp (show 13 + (wyO fawp j i) < 2 ^ 31 by omega)] at hP hD
                        obtain ⟨f_78, ef_78⟩ : ∃ g, g = upd f_77 (13 + (wyO fawp j i)) x_68 := ⟨_, rfl⟩
                        rw [← ef_78] at hP hD
                        have k0_f_78 : f_78 0 = nI P := by rw [ef_78]; exact (pk_un (show 0 ≠ (13 + (wyO fawp j i)) by omega)).trans k0_f_77
                        have k1_f_78 : f_78 1 = nI Rn := by rw [ef_78]; exact (pk_un (show 1 ≠ (13 + (wyO fawp j i)) by omega)).trans k1_f_77
                        have k2_f_78 : f_78 2 = nI Wn := by rw [ef_78]; exact (pk_un (show 2 ≠ (13 + (wyO fawp j i)) by omega)).trans k2_f_77
                        have kS_f_78 : SI f_78 := by rw [ef_78]; exact SI.upd kS_f_77 (okS.low (show (13 + (wyO fawp j i)) < 313 by omega))
                        have kM_f_78 : MI f_78 := by rw [ef_78]; exact MI.upd kM_f_77 (fun _ _ => ends_lo h_70)
                        have kR_f_78 : RI Rn f_78 := by rw [ef_78]; exact RI.upd kR_f_77 (fun r9 hr9 e9 => by omega)
                        have kG_f_78 : FR P f_78 fae (upd l8 (wyO fawp j i) x_68) (upd u8 (wyO fawp j i) x_49) fao farn farp fak fawn fawp fat fas := by rw [ef_78]; exact FR.pl kG_f_77 (show wyO fawp j i < 100 by omega) (by omega)
                        have hP : va_P D vwCl [(h0, .inr (9, [.ref ys, .ref yk, .ref yo, .ref yt, .int mk0, .ref yfa, .ref yfe, .int mL, .int mS, .int mM, .ref yro, .ref yhe, .ref ygr, .int mF, .int 1, .int mY, .ref yta, .int (nI (mz)), .int (nI (mf)), .int (nI (mt)), .int mv, .int mw, .ref ywa, .ref ybi, .ref ysi, .ref ynu, .ref ymo])), (ys, .inl (cI, 449, .inl f_78))] H := hP
                        have hD : va_D A [(h0, .inr (9, [.ref ys, .ref yk, .ref yo, .ref yt, .int mk0, .ref yfa, .ref yfe, .int mL, .int mS, .int mM, .ref yro, .ref yhe, .ref ygr, .int mF, .int 1, .int mY, .ref yta, .int (nI (mz)), .int (nI (mf)), .int (nI (mt)), .int mv, .int mw, .ref ywa, .ref ybi, .ref ysi, .ref ynu, .ref ymo])), (ys, .inl (cI, 449, .inl f_78))] := hD
                        refine lv_iinc (v := nI (i + 1)) (lv' := [(5, .int (nI (i + 1))), (11, .int x_68), (10, .int x_49), (9, .int z), (8, .int v), (7, .int (nI (u))), (6, .int (nI (wyO fawp j i))), (4, .int (fas (j))), (3, .int (fat (j))), (2, .int (nI (q - 1))), (0, .ref h0), (1, .int (nI (j)))]) hx hb dX9_learns_365 hl (k := 6) rfl (nI_1 (i)) (by decide) rfl (fun ls hl => ?_)
                        refine lv_goto (tgt := 62) hx hb dX9_learns_368 (by decide) ?_
                        exact ih_62 (i + 1) 1 f_78 (upd l8 (wyO fawp j i) x_68) (upd u8 (wyO fawp j i) x_49) _ _ _ (by omega) (by omega) (Or.inr rfl) (hB8.trans (blv_go (by omega) (nw_ok hY9 hX9 h_70) (nwS_m (by rw [hT9]; omega) hY9 hX9 (Or.inl ⟨rfl, Or.inr (fun h => c_76 h.2)⟩)))) k0_f_78 k1_f_78 k2_f_78 kS_f_78 kM_f_78 htp htr htw kR_f_78 kG_f_78 (hP.sub [0, 1] rfl) (hD.sub [0, 1] (by decide) rfl) hS (lv_sub hl [0, 7, 8, 9, 10, 11] rfl)
                      · skip
                        refine lv_iload hx hb dX9_learns_318 (lv_at hl 0 rfl) ?_
                        refine lv_aload_n hx hb dX9_learns_320 rfl (lv_at hl 10 rfl) ?_
                        refine xg hF kf_X9_7 hK hP 0 rfl rfl dX9_learns_321 ?_
                        refine lv_bipush (v := 13) hx hb dX9_learns_324 (by decide) ?_
                        refine lv_iload hx hb dX9_learns_326 (lv_at hl 5 rfl) ?_
                        refine lv_iadd hx hb dX9_learns_328 ?_
                        refine xl_i (y := nI (13 + (wyO fawp j i))) (nI_add 13 (wyO fawp j i)) ?_
                        refine va_iald hx hb hK hP 1 0 rfl rfl (vp_in_nI (show 13 + (wyO fawp j i) < 449 by omega) (by decide)) dX9_learns_329 ?_
                        refine xl_i (y := s8 (13 + (wyO fawp j i))) (congrArg s8 (nI_clamp (show 13 + (wyO fawp j i) < 2 ^ 31 by omega))) ?_
                        refine xl_i (y := l8 (wyO fawp j i)) (FR.gl htG (show wyO fawp j i < 100 by omega) (by omega)) ?_
                        refine lv_icmp_eq (tgt := 337) hx hb dX9_learns_330 (by decide) (fun c_79 => ?_) (fun c_79 => ?_)
                        · skip
                          refine lv_iconst (v := 0) hx hb dX9_learns_337 (by decide) ?_
                          refine xp hF kf_X9_205 tyX9_ok nmX9 hK hP hD hS 0 rfl rfl rfl rfl (Nat.le_of_ble_eq_true rfl) dX9_learns_338 (fun H locs hP hD hS => ?_)
                          have hP : va_P D vwCl [(h0, .inr (9, [.ref ys, .ref yk, .ref yo, .ref yt, .int mk0, .ref yfa, .ref yfe, .int mL, .int mS, .int mM, .ref yro, .ref yhe, .ref ygr, .int mF, .int 0, .int mY, .ref yta, .int (nI (mz)), .int (nI (mf)), .int (nI (mt)), .int mv, .int mw, .ref ywa, .ref ybi, .ref ysi, .ref ynu, .ref ymo])), (ys, .inl (cI, 449, .inl s8))] H := hP
                          have hD : va_D A [(h0, .inr (9, [.ref ys, .ref yk, .ref yo, .ref yt, .int mk0, .ref yfa, .ref yfe, .int mL, .int mS, .int mM, .ref yro, .ref yhe, .ref ygr, .int mF, .int 0, .int mY, .ref yta, .int (nI (mz)), .int (nI (mf)), .int (nI (mt)), .int mv, .int mw, .ref ywa, .ref ybi, .ref ysi, .ref ynu, .ref ymo])), (ys, .inl (cI, 449, .inl s8))] := hD
                          refine lv_aload_n hx hb dX9_learns_341 rfl (lv_at hl 10 rfl) ?_
                          refine xg hF kf_X9_7 hK hP 0 rfl rfl dX9_learns_342 ?_
                          refine lv_bipush (v := 113) hx hb dX9_learns_345 (by decide) ?_
                          refine lv_iload hx hb dX9_learns_347 (lv_at hl 5 rfl) ?_
                          refine lv_iadd hx hb dX9_learns_349 ?_
                          refine xl_i (y := nI (113 + (wyO fawp j i))) (nI_add 113 (wyO fawp j i)) ?_
                          refine lv_iload hx hb dX9_learns_350 (lv_at hl 1 rfl) ?_
                          refine va_iast hx hb hK hP hD hS 1 0 rfl rfl (vp_in_nI (show 113 + (wyO fawp j i) < 449 by omega) (by decide)) dX9_learns_352 (fun H locs hP hD hS => ?_)
                          rw [nI_clamp (show 113 + (wyO fawp j i) < 2 ^ 31 by omega)] at hP hD
                          obtain ⟨f_80, ef_80⟩ : ∃ g, g = upd s8 (113 + (wyO fawp j i)) x_49 := ⟨_, rfl⟩
                          rw [← ef_80] at hP hD
                          have k0_f_80 : f_80 0 = nI P := by rw [ef_80]; exact (pk_un (show 0 ≠ (113 + (wyO fawp j i)) by omega)).trans ht0
                          have k1_f_80 : f_80 1 = nI Rn := by rw [ef_80]; exact (pk_un (show 1 ≠ (113 + (wyO fawp j i)) by omega)).trans ht1
                          have k2_f_80 : f_80 2 = nI Wn := by rw [ef_80]; exact (pk_un (show 2 ≠ (113 + (wyO fawp j i)) by omega)).trans ht2
                          have kS_f_80 : SI f_80 := by rw [ef_80]; exact SI.upd htS (okS.low (show (113 + (wyO fawp j i)) < 313 by omega))
                          have kM_f_80 : MI f_80 := by rw [ef_80]; exact MI.upd htM (okM.out (show (113 + (wyO fawp j i)) < 13 ∨ 113 ≤ (113 + (wyO fawp j i)) by omega))
                          have kR_f_80 : RI Rn f_80 := by rw [ef_80]; exact RI.upd htR (fun r9 hr9 e9 => by omega)
                          have kG_f_80 : FR P f_80 fae l8 (upd u8 (wyO fawp j i) x_49) fao farn farp fak fawn fawp fat fas := by rw [ef_80]; exact FR.pu htG (show wyO fawp j i < 100 by omega) (by omega)
                          have hP : va_P D vwCl [(h0, .inr (9, [.ref ys, .ref yk, .ref yo, .ref yt, .int mk0, .ref yfa, .ref yfe, .int mL, .int mS, .int mM, .ref yro, .ref yhe, .ref ygr, .int mF, .int 0, .int mY, .ref yta, .int (nI (mz)), .int (nI (mf)), .int (nI (mt)), .int mv, .int mw, .ref ywa, .ref ybi, .ref ysi, .ref ynu, .ref ymo])), (ys, .inl (cI, 449, .inl f_80))] H := hP
                          have hD : va_D A [(h0, .inr (9, [.ref ys, .ref yk, .ref yo, .ref yt, .int mk0, .ref yfa, .ref yfe, .int mL, .int mS, .int mM, .ref yro, .ref yhe, .ref ygr, .int mF, .int 0, .int mY, .ref yta, .int (nI (mz)), .int (nI (mf)), .int (nI (mt)), .int mv, .int mw, .ref ywa, .ref ybi, .ref ysi, .ref ynu, .ref ymo])), (ys, .inl (cI, 449, .inl f_80))] := hD
                          refine lv_aload_n hx hb dX9_learns_353 rfl (lv_at hl 10 rfl) ?_
                          refine xg hF kf_X9_7 hK hP 0 rfl rfl dX9_learns_354 ?_
                          refine lv_bipush (v := 13) hx hb dX9_learns_357 (by decide) ?_
                          refine lv_iload hx hb dX9_learns_359 (lv_at hl 5 rfl) ?_
                          refine lv_iadd hx hb dX9_learns_361 ?_
                          refine xl_i (y := nI (13 + (wyO fawp j i))) (nI_add 13 (wyO fawp j i)) ?_
                          refine lv_iload hx hb dX9_learns_362 (lv_at hl 0 rfl) ?_
                          refine va_iast hx hb hK hP hD hS 1 0 rfl rfl (vp_in_nI (show 13 + (wyO fawp j i) < 449 by omega) (by decide)) dX9_learns_364 (fun H locs hP hD hS => ?_)
                          rw [nI_clamp (show 13 + (wyO fawp j i) < 2 ^ 31 by omega)] at hP hD
                          obtain ⟨f_81, ef_81⟩ : ∃ g, g = upd f_80 (13 + (wyO fawp j i)) x_68 := ⟨_, rfl⟩
                          rw [← ef_81] at hP hD
                          have k0_f_81 : f_81 0 = nI P := by rw [ef_81]; exact (pk_un (show 0 ≠ (13 + (wyO fawp j i)) by omega)).trans k0_f_80
                          have k1_f_81 : f_81 1 = nI Rn := by rw [ef_81]; exact (pk_un (show 1 ≠ (13 + (wyO fawp j i)) by omega)).trans k1_f_80
                          have k2_f_81 : f_81 2 = nI Wn := by rw [ef_81]; exact (pk_un (show 2 ≠ (13 + (wyO fawp j i)) by omega)).trans k2_f_80
                          have kS_f_81 : SI f_81 := by rw [ef_81]; exact SI.upd kS_f_80 (okS.low (show (13 + (wyO fawp j i)) < 313 by omega))
                          have kM_f_81 : MI f_81 := by rw [ef_81]; exact MI.upd kM_f_80 (fun _ _ => ends_lo h_70)
                          have kR_f_81 : RI Rn f_81 := by rw [ef_81]; exact RI.upd kR_f_80 (fun r9 hr9 e9 => by omega)
                          have kG_f_81 : FR P f_81 fae (upd l8 (wyO fawp j i) x_68) (upd u8 (wyO fawp j i) x_49) fao farn farp fak fawn fawp fat fas := by rw [ef_81]; exact FR.pl kG_f_80 (show wyO fawp j i < 100 by omega) (by omega)
                          have hP : va_P D vwCl [(h0, .inr (9, [.ref ys, .ref yk, .ref yo, .ref yt, .int mk0, .ref yfa, .ref yfe, .int mL, .int mS, .int mM, .ref yro, .ref yhe, .ref ygr, .int mF, .int 0, .int mY, .ref yta, .int (nI (mz)), .int (nI (mf)), .int (nI (mt)), .int mv, .int mw, .ref ywa, .ref ybi, .ref ysi, .ref ynu, .ref ymo])), (ys, .inl (cI, 449, .inl f_81))] H := hP
                          have hD : va_D A [(h0, .inr (9, [.ref ys, .ref yk, .ref yo, .ref yt, .int mk0, .ref yfa, .ref yfe, .int mL, .int mS, .int mM, .ref yro, .ref yhe, .ref ygr, .int mF, .int 0, .int mY, .ref yta, .int (nI (mz)), .int (nI (mf)), .int (nI (mt)), .int mv, .int mw, .ref ywa, .ref ybi, .ref ysi, .ref ynu, .ref ymo])), (ys, .inl (cI, 449, .inl f_81))] := hD
                          refine lv_iinc (v := nI (i + 1)) (lv' := [(5, .int (nI (i + 1))), (11, .int x_68), (10, .int x_49), (9, .int z), (8, .int v), (7, .int (nI (u))), (6, .int (nI (wyO fawp j i))), (4, .int (fas (j))), (3, .int (fat (j))), (2, .int (nI (q - 1))), (0, .ref h0), (1, .int (nI (j)))]) hx hb dX9_learns_365 hl (k := 6) rfl (nI_1 (i)) (by decide) rfl (fun ls hl => ?_)
                          refine lv_goto (tgt := 62) hx hb dX9_learns_368 (by decide) ?_
                          exact ih_62 (i + 1) 0 f_81 (upd l8 (wyO fawp j i) x_68) (upd u8 (wyO fawp j i) x_49) _ _ _ (by omega) (by omega) (Or.inl rfl) (hB8.trans (blv_go (by omega) (nw_ok hY9 hX9 h_70) (nwS_m (by rw [hT9]; omega) hY9 hX9 (Or.inr ⟨rfl, c_73, c_79, c_76⟩)))) k0_f_81 k1_f_81 k2_f_81 kS_f_81 kM_f_81 htp htr htw kR_f_81 kG_f_81 (hP.sub [0, 1] rfl) (hD.sub [0, 1] (by decide) rfl) hS (lv_sub hl [0, 7, 8, 9, 10, 11] rfl)
                        · skip
                          refine lv_iconst (v := 1) hx hb dX9_learns_333 (by decide) ?_
                          refine lv_goto (tgt := 338) hx hb dX9_learns_334 (by decide) ?_
                          refine xp hF kf_X9_205 tyX9_ok nmX9 hK hP hD hS 0 rfl rfl rfl rfl (Nat.le_of_ble_eq_true rfl) dX9_learns_338 (fun H locs hP hD hS => ?_)
                          have hP : va_P D vwCl [(h0, .inr (9, [.ref ys, .ref yk, .ref yo, .ref yt, .int mk0, .ref yfa, .ref yfe, .int mL, .int mS, .int mM, .ref yro, .ref yhe, .ref ygr, .int mF, .int 1, .int mY, .ref yta, .int (nI (mz)), .int (nI (mf)), .int (nI (mt)), .int mv, .int mw, .ref ywa, .ref ybi, .ref ysi, .ref ynu, .ref ymo])), (ys, .inl (cI, 449, .inl s8))] H := hP
                          have hD : va_D A [(h0, .inr (9, [.ref ys, .ref yk, .ref yo, .ref yt, .int mk0, .ref yfa, .ref yfe, .int mL, .int mS, .int mM, .ref yro, .ref yhe, .ref ygr, .int mF, .int 1, .int mY, .ref yta, .int (nI (mz)), .int (nI (mf)), .int (nI (mt)), .int mv, .int mw, .ref ywa, .ref ybi, .ref ysi, .ref ynu, .ref ymo])), (ys, .inl (cI, 449, .inl s8))] := hD
                          refine lv_aload_n hx hb dX9_learns_341 rfl (lv_at hl 10 rfl) ?_
                          refine xg hF kf_X9_7 hK hP 0 rfl rfl dX9_learns_342 ?_
                          refine lv_bipush (v := 113) hx hb dX9_learns_345 (by decide) ?_
                          refine lv_iload hx hb dX9_learns_347 (lv_at hl 5 rfl) ?_
                          refine lv_iadd hx hb dX9_learns_349 ?_
                          refine xl_i (y := nI (113 + (wyO fawp j i))) (nI_add 113 (wyO fawp j i)) ?_
                          refine lv_iload hx hb dX9_learns_350 (lv_at hl 1 rfl) ?_
                          refine va_iast hx hb hK hP hD hS 1 0 rfl rfl (vp_in_nI (show 113 + (wyO fawp j i) < 449 by omega) (by decide)) dX9_learns_352 (fun H locs hP hD hS => ?_)
                          rw [nI_clamp (show 113 + (wyO fawp j i) < 2 ^ 31 by omega)] at hP hD
                          obtain ⟨f_82, ef_82⟩ : ∃ g, g = upd s8 (113 + (wyO fawp j i)) x_49 := ⟨_, rfl⟩
                          rw [← ef_82] at hP hD
                          have k0_f_82 : f_82 0 = nI P := by rw [ef_82]; exact (pk_un (show 0 ≠ (113 + (wyO fawp j i)) by omega)).trans ht0
                          have k1_f_82 : f_82 1 = nI Rn := by rw [ef_82]; exact (pk_un (show 1 ≠ (113 + (wyO fawp j i)) by omega)).trans ht1
                          have k2_f_82 : f_82 2 = nI Wn := by rw [ef_82]; exact (pk_un (show 2 ≠ (113 + (wyO fawp j i)) by omega)).trans ht2
                          have kS_f_82 : SI f_82 := by rw [ef_82]; exact SI.upd htS (okS.low (show (113 + (wyO fawp j i)) < 313 by omega))
                          have kM_f_82 : MI f_82 := by rw [ef_82]; exact MI.upd htM (okM.out (show (113 + (wyO fawp j i)) < 13 ∨ 113 ≤ (113 + (wyO fawp j i)) by omega))
                          have kR_f_82 : RI Rn f_82 := by rw [ef_82]; exact RI.upd htR (fun r9 hr9 e9 => by omega)
                          have kG_f_82 : FR P f_82 fae l8 (upd u8 (wyO fawp j i) x_49) fao farn farp fak fawn fawp fat fas := by rw [ef_82]; exact FR.pu htG (show wyO fawp j i < 100 by omega) (by omega)
                          have hP : va_P D vwCl [(h0, .inr (9, [.ref ys, .ref yk, .ref yo, .ref yt, .int mk0, .ref yfa, .ref yfe, .int mL, .int mS, .int mM, .ref yro, .ref yhe, .ref ygr, .int mF, .int 1, .int mY, .ref yta, .int (nI (mz)), .int (nI (mf)), .int (nI (mt)), .int mv, .int mw, .ref ywa, .ref ybi, .ref ysi, .ref ynu, .ref ymo])), (ys, .inl (cI, 449, .inl f_82))] H := hP
                          have hD : va_D A [(h0, .inr (9, [.ref ys, .ref yk, .ref yo, .ref yt, .int mk0, .ref yfa, .ref yfe, .int mL, .int mS, .int mM, .ref yro, .ref yhe, .ref ygr, .int mF, .int 1, .int mY, .ref yta, .int (nI (mz)), .int (nI (mf)), .int (nI (mt)), .int mv, .int mw, .ref ywa, .ref ybi, .ref ysi, .ref ynu, .ref ymo])), (ys, .inl (cI, 449, .inl f_82))] := hD
                          refine lv_aload_n hx hb dX9_learns_353 rfl (lv_at hl 10 rfl) ?_
                          refine xg hF kf_X9_7 hK hP 0 rfl rfl dX9_learns_354 ?_
                          refine lv_bipush (v := 13) hx hb dX9_learns_357 (by decide) ?_
                          refine lv_iload hx hb dX9_learns_359 (lv_at hl 5 rfl) ?_
                          refine lv_iadd hx hb dX9_learns_361 ?_
                          refine xl_i (y := nI (13 + (wyO fawp j i))) (nI_add 13 (wyO fawp j i)) ?_
                          refine lv_iload hx hb dX9_learns_362 (lv_at hl 0 rfl) ?_
                          refine va_iast hx hb hK hP hD hS 1 0 rfl rfl (vp_in_nI (show 13 + (wyO fawp j i) < 449 by omega) (by decide)) dX9_learns_364 (fun H locs hP hD hS => ?_)
                          rw [nI_clamp (show 13 + (wyO fawp j i) < 2 ^ 31 by omega)] at hP hD
                          obtain ⟨f_83, ef_83⟩ : ∃ g, g = upd f_82 (13 + (wyO fawp j i)) x_68 := ⟨_, rfl⟩
                          rw [← ef_83] at hP hD
                          have k0_f_83 : f_83 0 = nI P := by rw [ef_83]; exact (pk_un (show 0 ≠ (13 + (wyO fawp j i)) by omega)).trans k0_f_82
                          have k1_f_83 : f_83 1 = nI Rn := by rw [ef_83]; exact (pk_un (show 1 ≠ (13 + (wyO fawp j i)) by omega)).trans k1_f_82
                          have k2_f_83 : f_83 2 = nI Wn := by rw [ef_83]; exact (pk_un (show 2 ≠ (13 + (wyO fawp j i)) by omega)).trans k2_f_82
                          have kS_f_83 : SI f_83 := by rw [ef_83]; exact SI.upd kS_f_82 (okS.low (show (13 + (wyO fawp j i)) < 313 by omega))
                          have kM_f_83 : MI f_83 := by rw [ef_83]; exact MI.upd kM_f_82 (fun _ _ => ends_lo h_70)
                          have kR_f_83 : RI Rn f_83 := by rw [ef_83]; exact RI.upd kR_f_82 (fun r9 hr9 e9 => by omega)
                          have kG_f_83 : FR P f_83 fae (upd l8 (wyO fawp j i) x_68) (upd u8 (wyO fawp j i) x_49) fao farn farp fak fawn fawp fat fas := by rw [ef_83]; exact FR.pl kG_f_82 (show wyO fawp j i < 100 by omega) (by omega)
                          have hP : va_P D vwCl [(h0, .inr (9, [.ref ys, .ref yk, .ref yo, .ref yt, .int mk0, .ref yfa, .ref yfe, .int mL, .int mS, .int mM, .ref yro, .ref yhe, .ref ygr, .int mF, .int 1, .int mY, .ref yta, .int (nI (mz)), .int (nI (mf)), .int (nI (mt)), .int mv, .int mw, .ref ywa, .ref ybi, .ref ysi, .ref ynu, .ref ymo])), (ys, .inl (cI, 449, .inl f_83))] H := hP
                          have hD : va_D A [(h0, .inr (9, [.ref ys, .ref yk, .ref yo, .ref yt, .int mk0, .ref yfa, .ref yfe, .int mL, .int mS, .int mM, .ref yro, .ref yhe, .ref ygr, .int mF, .int 1, .int mY, .ref yta, .int (nI (mz)), .int (nI (mf)), .int (nI (mt)), .int mv, .int mw, .ref ywa, .ref ybi, .ref ysi, .ref ynu, .ref ymo])), (ys, .inl (cI, 449, .inl f_83))] := hD
                          refine lv_iinc (v := nI (i + 1)) (lv' := [(5, .int (nI (i + 1))), (11, .int x_68), (10, .int x_49), (9, .int z), (8, .int v), (7, .int (nI (u))), (6, .int (nI (wyO fawp j i))), (4, .int (fas (j))), (3, .int (fat (j))), (2, .int (nI (q - 1))), (0, .ref h0), (1, .int (nI (j)))]) hx hb dX9_learns_365 hl (k := 6) rfl (nI_1 (i)) (by decide) rfl (fun ls hl => ?_)
                          refine lv_goto (tgt := 62) hx hb dX9_learns_368 (by decide) ?_
                          exact ih_62 (i + 1) 1 f_83 (upd l8 (wyO fawp j i) x_68) (upd u8 (wyO fawp j i) x_49) _ _ _ (by omega) (by omega) (Or.inr rfl) (hB8.trans (blv_go (by omega) (nw_ok hY9 hX9 h_70) (nwS_m (by rw [hT9]; omega) hY9 hX9 (Or.inl ⟨rfl, Or.inr (fun h => c_79 h.1)⟩)))) k0_f_83 k1_f_83 k2_f_83 kS_f_83 kM_f_83 htp htr htw kR_f_83 kG_f_83 (hP.sub [0, 1] rfl) (hD.sub [0, 1] (by decide) rfl) hS (lv_sub hl [0, 7, 8, 9, 10, 11] rfl)
                  · skip
                    refine lv_if_ne (tgt := 295) hx hb dX9_learns_290 (by decide) (fun c_84 => absurd (by decide) c_84) (fun c_84 => ?_)
                    refine lv_iconst (v := 0) hx hb dX9_learns_293 (by decide) ?_
                    exact W.zret (v := 0) hx hb hr rfl (fun t ht hW => ⟨⟨0, (c8, s8, l8, u8), rfl, ⟨Or.inr ⟨rfl, bel_y eq0 hq h_2 (hB8.trans (blv_no (by omega) (nw_no (by rw [hT9]; omega) hY9 hX9 h_71)))⟩, hc8, ht0, ht1, ht2, htS, htM, htp, htr, htw, htR, htG⟩, by rw [ht]; exact hP.sub [0, 1] rfl, hD.sub [0, 1] (by decide) rfl⟩, hS.F ht⟩) hS.2.2 dX9_learns_294 hlk
          · skip
            have nc_8 : i2 < q - 1 := xn_nle (a := (q - 1)) (b := i2) (by omega) (by omega) c_8
            refine lv_aload_n hx hb dX9_learns_95 rfl (lv_at hl 9 rfl) ?_
            refine lv_iload_n hx hb dX9_learns_96 rfl (lv_at hl 10 rfl) ?_
            refine lv_iload hx hb dX9_learns_97 (lv_at hl 0 rfl) ?_
            refine xc_Vr hF (c_X9_wayAt l D cI cJ cZ cS ta sa sv H.size h0 ys yk yo yt mk0 yfa yfe mL mS mM yro yhe ygr mF c8 mY yta mz mf mt mv mw ywa ybi ysi ynu ymo s8 P Rn Wn fae l8 u8 fao farn farp fak fawn fawp fat fas j i2 (by omega) (by omega) ht0 ht1 ht2 htS htM htp htr htw htR htG) kv_X9_199 ⟨rfl, rfl, Nat.le_of_ble_eq_true rfl, Nat.le_of_ble_eq_true rfl⟩ ⟨Nat.le_of_ble_eq_true rfl, Nat.le_of_ble_eq_true rfl⟩ hK hN hZ hP hD hS hA [0, 1] rfl rfl 0 rfl rfl rfl rfl hl.1 rfl (Nat.le_of_ble_eq_true rfl) dX9_learns_99 (fun r_85 hw_r_85 => ?_)
            obtain ⟨rfl, h_86⟩ := hw_r_85
            refine lv_iload hx hb dX9_learns_102 (lv_at hl 4 rfl) ?_
            refine lv_icmp_ne (tgt := 111) hx hb dX9_learns_104 (by decide) (fun c_87 => ?_) (fun c_87 => ?_)
            · skip
              have nc_87 : wyO fawp j i2 ≠ wyO fawp j i := xn_ne (a := (wyO fawp j i2)) (b := (wyO fawp j i)) (by omega) (by omega) c_87
              refine lv_iconst (v := 0) hx hb dX9_learns_111 (by decide) ?_
              refine lv_istore (lv' := [(11, .int 0), (10, .int (nI (i2))), (9, .int z), (8, .int v), (7, .int (nI (u))), (6, .int (nI (wyO fawp j i))), (5, .int (nI (i))), (4, .int (fas (j))), (3, .int (fat (j))), (2, .int (nI (q - 1))), (0, .ref h0), (1, .int (nI (j)))]) hx hb dX9_learns_112 hl (by decide) rfl (fun ls hl => ?_)
              refine lv_iload hx hb dX9_learns_114 (lv_at hl 4 rfl) ?_
              refine lv_iload hx hb dX9_learns_116 (lv_at hl 0 rfl) ?_
              refine lv_if_eq (tgt := 125) hx hb dX9_learns_118 (by decide) (fun c_88 => ?_) (fun c_88 => absurd (by decide) c_88)
              refine lv_iconst (v := 0) hx hb dX9_learns_125 (by decide) ?_
              refine lv_iadd hx hb dX9_learns_126 ?_
              refine xl_i (y := nI (u + 0)) (nI_add u 0) ?_
              refine lv_istore (lv' := [(7, .int (nI (u + 0))), (11, .int 0), (10, .int (nI (i2))), (9, .int z), (8, .int v), (6, .int (nI (wyO fawp j i))), (5, .int (nI (i))), (4, .int (fas (j))), (3, .int (fat (j))), (2, .int (nI (q - 1))), (0, .ref h0), (1, .int (nI (j)))]) hx hb dX9_learns_127 hl (by decide) rfl (fun ls hl => ?_)
              refine lv_iload hx hb dX9_learns_129 (lv_at hl 4 rfl) ?_
              refine lv_iload hx hb dX9_learns_131 (lv_at hl 1 rfl) ?_
              refine lv_if_eq (tgt := 140) hx hb dX9_learns_133 (by decide) (fun c_89 => ?_) (fun c_89 => absurd (by decide) c_89)
              refine lv_aload_n hx hb dX9_learns_140 rfl (lv_at hl 10 rfl) ?_
              refine xg hF kf_X9_7 hK hP 0 rfl rfl dX9_learns_141 ?_
              refine lv_bipush (v := 13) hx hb dX9_learns_144 (by decide) ?_
              refine lv_aload_n hx hb dX9_learns_146 rfl (lv_at hl 10 rfl) ?_
              refine lv_iload_n hx hb dX9_learns_147 rfl (lv_at hl 11 rfl) ?_
              refine lv_iload hx hb dX9_learns_148 (lv_at hl 2 rfl) ?_
              refine xc_Vr hF (c_X9_wayAt l D cI cJ cZ cS ta sa sv H.size h0 ys yk yo yt mk0 yfa yfe mL mS mM yro yhe ygr mF c8 mY yta mz mf mt mv mw ywa ybi ysi ynu ymo s8 P Rn Wn fae l8 u8 fao farn farp fak fawn fawp fat fas j i2 (by omega) (by omega) ht0 ht1 ht2 htS htM htp htr htw htR htG) kv_X9_199 ⟨rfl, rfl, Nat.le_of_ble_eq_true rfl, Nat.le_of_ble_eq_true rfl⟩ ⟨Nat.le_of_ble_eq_true rfl, Nat.le_of_ble_eq_true rfl⟩ hK hN hZ hP hD hS hA [0, 1] rfl rfl 0 rfl rfl rfl rfl hl.1 rfl (Nat.le_of_ble_eq_true rfl) dX9_learns_150 (fun r_90 hw_r_90 => ?_)
              obtain ⟨rfl, h_91⟩ := hw_r_90
              refine lv_iadd hx hb dX9_learns_153 ?_
              refine xl_i (y := nI (13 + (wyO fawp j i2))) (nI_add 13 (wyO fawp j i2)) ?_
              refine va_iald hx hb hK hP 1 0 rfl rfl (vp_in_nI (show 13 + (wyO fawp j i2) < 449 by omega) (by decide)) dX9_learns_154 ?_
              refine xl_i (y := s8 (13 + (wyO fawp j i2))) (congrArg s8 (nI_clamp (show 13 + (wyO fawp j i2) < 2 ^ 31 by omega))) ?_
              refine xl_i (y := l8 (wyO fawp j i2)) (FR.gl htG (show wyO fawp j i2 < 100 by omega) (by omega)) ?_
              refine lv_iadd hx hb dX9_learns_155 ?_
              refine lv_topi (fun x_92 ex_92 => ?_)
              refine lv_istore (lv' := [(8, .int x_92), (7, .int (nI (u + 0))), (11, .int 0), (10, .int (nI (i2))), (9, .int z), (6, .int (nI (wyO fawp j i))), (5, .int (nI (i))), (4, .int (fas (j))), (3, .int (fat (j))), (2, .int (nI (q - 1))), (0, .ref h0), (1, .int (nI (j)))]) hx hb dX9_learns_156 hl (by decide) rfl (fun ls hl => ?_)
              refine lv_iload hx hb dX9_learns_158 (lv_at hl 4 rfl) ?_
              refine lv_iload hx hb dX9_learns_160 (lv_at hl 2 rfl) ?_
              refine lv_if_eq (tgt := 169) hx hb dX9_learns_162 (by decide) (fun c_93 => ?_) (fun c_93 => absurd (by decide) c_93)
              refine lv_aload_n hx hb dX9_learns_169 rfl (lv_at hl 10 rfl) ?_
              refine xg hF kf_X9_7 hK hP 0 rfl rfl dX9_learns_170 ?_
              refine lv_bipush (v := 113) hx hb dX9_learns_173 (by decide) ?_
              refine lv_aload_n hx hb dX9_learns_175 rfl (lv_at hl 10 rfl) ?_
              refine lv_iload_n hx hb dX9_learns_176 rfl (lv_at hl 11 rfl) ?_
              refine lv_iload hx hb dX9_learns_177 (lv_at hl 3 rfl) ?_
              refine xc_Vr hF (c_X9_wayAt l D cI cJ cZ cS ta sa sv H.size h0 ys yk yo yt mk0 yfa yfe mL mS mM yro yhe ygr mF c8 mY yta mz mf mt mv mw ywa ybi ysi ynu ymo s8 P Rn Wn fae l8 u8 fao farn farp fak fawn fawp fat fas j i2 (by omega) (by omega) ht0 ht1 ht2 htS htM htp htr htw htR htG) kv_X9_199 ⟨rfl, rfl, Nat.le_of_ble_eq_true rfl, Nat.le_of_ble_eq_true rfl⟩ ⟨Nat.le_of_ble_eq_true rfl, Nat.le_of_ble_eq_true rfl⟩ hK hN hZ hP hD hS hA [0, 1] rfl rfl 0 rfl rfl rfl rfl hl.1 rfl (Nat.le_of_ble_eq_true rfl) dX9_learns_179 (fun r_94 hw_r_94 => ?_)
              obtain ⟨rfl, h_95⟩ := hw_r_94
              refine lv_iadd hx hb dX9_learns_182 ?_
              refine xl_i (y := nI (113 + (wyO fawp j i2))) (nI_add 113 (wyO fawp j i2)) ?_
              refine va_iald hx hb hK hP 1 0 rfl rfl (vp_in_nI (show 113 + (wyO fawp j i2) < 449 by omega) (by decide)) dX9_learns_183 ?_
              refine xl_i (y := s8 (113 + (wyO fawp j i2))) (congrArg s8 (nI_clamp (show 113 + (wyO fawp j i2) < 2 ^ 31 by omega))) ?_
              refine xl_i (y := u8 (wyO fawp j i2)) (FR.gu htG (show wyO fawp j i2 < 100 by omega) (by omega)) ?_
              refine lv_iadd hx hb dX9_learns_184 ?_
              refine lv_topi (fun x_96 ex_96 => ?_)
              refine lv_istore (lv' := [(9, .int x_96), (8, .int x_92), (7, .int (nI (u + 0))), (11, .int 0), (10, .int (nI (i2))), (6, .int (nI (wyO fawp j i))), (5, .int (nI (i))), (4, .int (fas (j))), (3, .int (fat (j))), (2, .int (nI (q - 1))), (0, .ref h0), (1, .int (nI (j)))]) hx hb dX9_learns_185 hl (by decide) rfl (fun ls hl => ?_)
              refine lv_iinc (v := nI (i2 + 1)) (lv' := [(10, .int (nI (i2 + 1))), (9, .int x_96), (8, .int x_92), (7, .int (nI (u + 0))), (11, .int 0), (6, .int (nI (wyO fawp j i))), (5, .int (nI (i))), (4, .int (fas (j))), (3, .int (fat (j))), (2, .int (nI (q - 1))), (0, .ref h0), (1, .int (nI (j)))]) hx hb dX9_learns_187 hl (k := 4) rfl (nI_1 (i2)) (by decide) rfl (fun ls hl => ?_)
              refine lv_goto (tgt := 89) hx hb dX9_learns_190 (by decide) ?_
              exact ih_89 (i2 + 1) (u + 0) x_92 x_96 _ _ _ (by omega) (by omega) (by omega) (hT8.trans (lnT_n nc_87).symm) (by rw [ex_92, hS8]; exact (lnS_n nc_87).symm) (by rw [ex_96, hZ8]; exact (lnS_n nc_87).symm) (hP.sub [0, 1] rfl) (hD.sub [0, 1] (by decide) rfl) hS (lv_sub hl [0, 1, 2, 3, 5, 6, 7, 8, 9, 10, 11] rfl)
            · skip
              have nc_87 : wyO fawp j i2 = wyO fawp j i := xn_eq (a := (wyO fawp j i2)) (b := (wyO fawp j i)) (by omega) (by omega) c_87
              refine lv_iconst (v := 1) hx hb dX9_learns_107 (by decide) ?_
              refine lv_goto (tgt := 112) hx hb dX9_learns_108 (by decide) ?_
              refine lv_istore (lv' := [(11, .int 1), (10, .int (nI (i2))), (9, .int z), (8, .int v), (7, .int (nI (u))), (6, .int (nI (wyO fawp j i))), (5, .int (nI (i))), (4, .int (fas (j))), (3, .int (fat (j))), (2, .int (nI (q - 1))), (0, .ref h0), (1, .int (nI (j)))]) hx hb dX9_learns_112 hl (by decide) rfl (fun ls hl => ?_)
              refine lv_iload hx hb dX9_learns_114 (lv_at hl 4 rfl) ?_
              refine lv_iload hx hb dX9_learns_116 (lv_at hl 0 rfl) ?_
              refine lv_if_eq (tgt := 125) hx hb dX9_learns_118 (by decide) (fun c_97 => absurd c_97 (by decide)) (fun c_97 => ?_)
              refine lv_iconst (v := 1) hx hb dX9_learns_121 (by decide) ?_
              refine lv_goto (tgt := 126) hx hb dX9_learns_122 (by decide) ?_
              refine lv_iadd hx hb dX9_learns_126 ?_
              refine xl_i (y := nI (u + 1)) (nI_add u 1) ?_
              refine lv_istore (lv' := [(7, .int (nI (u + 1))), (11, .int 1), (10, .int (nI (i2))), (9, .int z), (8, .int v), (6, .int (nI (wyO fawp j i))), (5, .int (nI (i))), (4, .int (fas (j))), (3, .int (fat (j))), (2, .int (nI (q - 1))), (0, .ref h0), (1, .int (nI (j)))]) hx hb dX9_learns_127 hl (by decide) rfl (fun ls hl => ?_)
              refine lv_iload hx hb dX9_learns_129 (lv_at hl 4 rfl) ?_
              refine lv_iload hx hb dX9_learns_131 (lv_at hl 1 rfl) ?_
              refine lv_if_eq (tgt := 140) hx hb dX9_learns_133 (by decide) (fun c_98 => absurd c_98 (by decide)) (fun c_98 => ?_)
              refine lv_iconst (v := 0) hx hb dX9_learns_136 (by decide) ?_
              refine lv_goto (tgt := 155) hx hb dX9_learns_137 (by decide) ?_
              refine lv_iadd hx hb dX9_learns_155 ?_
              refine lv_topi (fun x_99 ex_99 => ?_)
              refine lv_istore (lv' := [(8, .int x_99), (7, .int (nI (u + 1))), (11, .int 1), (10, .int (nI (i2))), (9, .int z), (6, .int (nI (wyO fawp j i))), (5, .int (nI (i))), (4, .int (fas (j))), (3, .int (fat (j))), (2, .int (nI (q - 1))), (0, .ref h0), (1, .int (nI (j)))]) hx hb dX9_learns_156 hl (by decide) rfl (fun ls hl => ?_)
              refine lv_iload hx hb dX9_learns_158 (lv_at hl 4 rfl) ?_
              refine lv_iload hx hb dX9_learns_160 (lv_at hl 2 rfl) ?_
              refine lv_if_eq (tgt := 169) hx hb dX9_learns_162 (by decide) (fun c_100 => absurd c_100 (by decide)) (fun c_100 => ?_)
              refine lv_iconst (v := 0) hx hb dX9_learns_165 (by decide) ?_
              refine lv_goto (tgt := 184) hx hb dX9_learns_166 (by decide) ?_
              refine lv_iadd hx hb dX9_learns_184 ?_
              refine lv_topi (fun x_101 ex_101 => ?_)
              refine lv_istore (lv' := [(9, .int x_101), (8, .int x_99), (7, .int (nI (u + 1))), (11, .int 1), (10, .int (nI (i2))), (6, .int (nI (wyO fawp j i))), (5, .int (nI (i))), (4, .int (fas (j))), (3, .int (fat (j))), (2, .int (nI (q - 1))), (0, .ref h0), (1, .int (nI (j)))]) hx hb dX9_learns_185 hl (by decide) rfl (fun ls hl => ?_)
              refine lv_iinc (v := nI (i2 + 1)) (lv' := [(10, .int (nI (i2 + 1))), (9, .int x_101), (8, .int x_99), (7, .int (nI (u + 1))), (11, .int 1), (6, .int (nI (wyO fawp j i))), (5, .int (nI (i))), (4, .int (fas (j))), (3, .int (fat (j))), (2, .int (nI (q - 1))), (0, .ref h0), (1, .int (nI (j)))]) hx hb dX9_learns_187 hl (k := 4) rfl (nI_1 (i2)) (by decide) rfl (fun ls hl => ?_)
              refine lv_goto (tgt := 89) hx hb dX9_learns_190 (by decide) ?_
              exact ih_89 (i2 + 1) (u + 1) x_99 x_101 _ _ _ (by omega) (by omega) (by omega) ((congrArg (· + 1) hT8).trans (lnT_y nc_87).symm) (by rw [ex_99, Int32.add_zero, hS8]; exact (lnS_y nc_87).symm) (by rw [ex_101, Int32.add_zero, hZ8]; exact (lnS_y nc_87).symm) (hP.sub [0, 1] rfl) (hD.sub [0, 1] (by decide) rfl) hS (lv_sub hl [0, 1, 2, 3, 5, 6, 7, 8, 9, 10, 11] rfl)
  · skip
    refine lv_if_ne (tgt := 10) hx hb dX9_learns_5 (by decide) (fun c_102 => absurd (by decide) c_102) (fun c_102 => ?_)
    refine lv_iconst (v := 0) hx hb dX9_learns_8 (by decide) ?_
    exact W.zret (v := 0) hx hb hr rfl (fun t ht hW => ⟨⟨0, (mC, ms, fal, fau), rfl, ⟨Or.inr ⟨rfl, (by obtain ⟨x, h1, h2⟩ := h_3; exact bel_n eq0 hq h1 h2)⟩, hC, hs0, hs1, hs2, hsS, hsM, hsp, hsr, hsw, hsR, hsG⟩, by rw [ht]; exact hP.sub [0, 1] rfl, hD.sub [0, 1] (by decide) rfl⟩, hS.F ht⟩) hS.2.2 dX9_learns_9 hlk
set_option maxHeartbeats 4000000 in
set_option maxRecDepth 100000 in
theorem c_X9_learning (l : Launch) (D : va_G) (cI cJ cZ cS : ClassId) (ta : Nat) (sa sv : Nat → Nat) (sz : Nat) (h0 : Nat) (ys : Nat) (yk : Nat) (yo : Nat) (yt : Nat) (mk0 : Int32) (yfa : Nat) (yfe : Nat) (mL : Int32) (mS : Int32) (mM : Int32) (yro : Nat) (yhe : Nat) (ygr : Nat) (mF : Int32) (mC : Int32) (mY : Int32) (yta : Nat) (mz : Nat) (mf : Nat) (mt : Nat) (mv : Int32) (mw : Int32) (ywa : Nat) (ybi : Nat) (ysi : Nat) (ynu : Nat) (ymo : Nat) (ms : Nat → Int32) (P : Nat) (Rn : Nat) (Wn : Nat) (fae : Nat → Int32) (fal : Nat → Int32) (fau : Nat → Int32) (fao : Nat → Int32) (farn : Nat → Int32) (farp : Nat → Int32) (fak : Nat → Int32) (fawn : Nat → Int32) (fawp : Nat → Int32) (fat : Nat → Int32) (fas : Nat → Int32) (hLL : LL Wn fawn) (hs0 : ms 0 = nI P) (hs1 : ms 1 = nI Rn) (hs2 : ms 2 = nI Wn) (hsS : SI ms) (hsM : MI ms) (hsp : P ≤ 10) (hsr : Rn ≤ 8) (hsw : Wn ≤ 8) (hsR : RI Rn ms) (hsG : FR P ms fae fal fau fao farn farp fak fawn fawp fat fas) : Met l yX9_learning (Cond.code yX9_learning cX9_learning 4 (some .int) :: wsU) ({ frames := 3, cells := 0, slots := 0, locals := 77 }) (va_Pc [.ref h0] (XW D (xT cI cJ cZ cS) ta sa sv [(h0, .inr (9, [.ref ys, .ref yk, .ref yo, .ref yt, .int mk0, .ref yfa, .ref yfe, .int mL, .int mS, .int mM, .ref yro, .ref yhe, .ref ygr, .int mF, .int mC, .int mY, .ref yta, .int (nI (mz)), .int (nI (mf)), .int (nI (mt)), .int mv, .int mw, .ref ywa, .ref ybi, .ref ysi, .ref ynu, .ref ymo])), (ys, .inl (cI, 449, .inl ms))] sz)) (XQi (fun (r : Int32) (u : Int32 × Int32 × (Nat → Int32) × (Nat → Int32) × (Nat → Int32)) => match u with | (mC2, mY2, ms2, gl, gu) => ((r = nI ((lrn fao fawn fawp fat fas Wn 50 0 fal fau 0).1))) ∧ (gl = (lrn fao fawn fawp fat fas Wn 50 0 fal fau 0).2.1) ∧ (gu = (lrn fao fawn fawp fat fas Wn 50 0 fal fau 0).2.2.1) ∧ (mY2 = (lrn fao fawn fawp fat fas Wn 50 0 fal fau 0).2.2.2) ∧ (ms2 0 = nI P) ∧ (ms2 1 = nI Rn) ∧ (ms2 2 = nI Wn) ∧ (SI ms2) ∧ (MI ms2) ∧ (P ≤ 10) ∧ (Rn ≤ 8) ∧ (Wn ≤ 8) ∧ (RI Rn ms2) ∧ (FR P ms2 fae gl gu fao farn farp fak fawn fawp fat fas)) D (fun (u : Int32 × Int32 × (Nat → Int32) × (Nat → Int32) × (Nat → Int32)) => match u with | (mC2, mY2, ms2, gl, gu) => [(h0, .inr (9, [.ref ys, .ref yk, .ref yo, .ref yt, .int mk0, .ref yfa, .ref yfe, .int mL, .int mS, .int mM, .ref yro, .ref yhe, .ref ygr, .int mF, .int mC2, .int mY2, .ref yta, .int (nI (mz)), .int (nI (mf)), .int (nI (mt)), .int mv, .int mw, .ref ywa, .ref ybi, .ref ysi, .ref ynu, .ref ymo])), (ys, .inl (cI, 449, .inl ms2))]) (va_A [(h0, .inr (9, [.ref ys, .ref yk, .ref yo, .ref yt, .int mk0, .ref yfa, .ref yfe, .int mL, .int mS, .int mM, .ref yro, .ref yhe, .ref ygr, .int mF, .int mC, .int mY, .ref yta, .int (nI (mz)), .int (nI (mf)), .int (nI (mt)), .int mv, .int mw, .ref ywa, .ref ybi, .ref ysi, .ref ynu, .ref ymo])), (ys, .inl (cI, 449, .inl ms))] sz)) 0 0 (va_A [(h0, .inr (9, [.ref ys, .ref yk, .ref yo, .ref yt, .int mk0, .ref yfa, .ref yfe, .int mL, .int mS, .int mM, .ref yro, .ref yhe, .ref ygr, .int mF, .int mC, .int mY, .ref yta, .int (nI (mz)), .int (nI (mf)), .int (nI (mt)), .int mv, .int mw, .ref ywa, .ref ybi, .ref ysi, .ref ynu, .ref ymo])), (ys, .inl (cI, 449, .inl ms))] sz) := by
  refine xh (QA := fun A => XQi (fun (r : Int32) (u : Int32 × Int32 × (Nat → Int32) × (Nat → Int32) × (Nat → Int32)) => match u with | (mC2, mY2, ms2, gl, gu) => ((r = nI ((lrn fao fawn fawp fat fas Wn 50 0 fal fau 0).1))) ∧ (gl = (lrn fao fawn fawp fat fas Wn 50 0 fal fau 0).2.1) ∧ (gu = (lrn fao fawn fawp fat fas Wn 50 0 fal fau 0).2.2.1) ∧ (mY2 = (lrn fao fawn fawp fat fas Wn 50 0 fal fau 0).2.2.2) ∧ (ms2 0 = nI P) ∧ (ms2 1 = nI Rn) ∧ (ms2 2 = nI Wn) ∧ (SI ms2) ∧ (MI ms2) ∧ (P ≤ 10) ∧ (Rn ≤ 8) ∧ (Wn ≤ 8) ∧ (RI Rn ms2) ∧ (FR P ms2 fae gl gu fao farn farp fak fawn fawp fat fas)) D (fun (u : Int32 × Int32 × (Nat → Int32) × (Nat → Int32) × (Nat → Int32)) => match u with | (mC2, mY2, ms2, gl, gu) => [(h0, .inr (9, [.ref ys, .ref yk, .ref yo, .ref yt, .int mk0, .ref yfa, .ref yfe, .int mL, .int mS, .int mM, .ref yro, .ref yhe, .ref ygr, .int mF, .int mC2, .int mY2, .ref yta, .int (nI (mz)), .int (nI (mf)), .int (nI (mt)), .int mv, .int mw, .ref ywa, .ref ybi, .ref ysi, .ref ynu, .ref ymo])), (ys, .inl (cI, 449, .inl ms2))]) A) (fr := fun A => A) (by decide) (Nat.le_of_ble_eq_true rfl) ?_
  intro p e s m below meth c ls A hF hr hlk hin hsz hP hK hD hN hZ hA hS hl
  have hF : CallFix p m c cX9_learning 4 s _ _ RX9 := hF
  have hx := hF.1
  have hb := hF.2.1
  have hml := hF.2.2.1
  have hown := hF.2.2.2.1
  have hu : ∀ w ∈ wsU, w.before _ s = true := fun w h => hF.2.2.2.2 w (List.mem_cons_of_mem _ h)
  have hl : lv_has ls 4 [(0, .ref h0)] := hl
  refine lv_aload_n hx hb dX9_learning_0 rfl (lv_at hl 0 rfl) ?_
  refine lv_iconst (v := 0) hx hb dX9_learning_1 (by decide) ?_
  refine xp hF kf_X9_208 tyX9_ok nmX9 hK hP hD hS 0 rfl rfl rfl rfl (Nat.le_of_ble_eq_true rfl) dX9_learning_2 (fun H locs hP hD hS => ?_)
  have hP : va_P D vwCl [(h0, .inr (9, [.ref ys, .ref yk, .ref yo, .ref yt, .int mk0, .ref yfa, .ref yfe, .int mL, .int mS, .int mM, .ref yro, .ref yhe, .ref ygr, .int mF, .int mC, .int 0, .ref yta, .int (nI (mz)), .int (nI (mf)), .int (nI (mt)), .int mv, .int mw, .ref ywa, .ref ybi, .ref ysi, .ref ynu, .ref ymo])), (ys, .inl (cI, 449, .inl ms))] H := hP
  have hD : va_D A [(h0, .inr (9, [.ref ys, .ref yk, .ref yo, .ref yt, .int mk0, .ref yfa, .ref yfe, .int mL, .int mS, .int mM, .ref yro, .ref yhe, .ref ygr, .int mF, .int mC, .int 0, .ref yta, .int (nI (mz)), .int (nI (mf)), .int (nI (mt)), .int mv, .int mw, .ref ywa, .ref ybi, .ref ysi, .ref ynu, .ref ymo])), (ys, .inl (cI, 449, .inl ms))] := hD
  refine lv_iconst (v := 0) hx hb dX9_learning_5 (by decide) ?_
  refine lv_istore_n (lv' := [(1, .int 0), (0, .ref h0)]) hx hb dX9_learning_6 rfl hl (by decide) rfl (fun ls hl => ?_)
  refine lv_aload_n hx hb dX9_learning_7 rfl (lv_at hl 1 rfl) ?_
  refine lv_iconst (v := 1) hx hb dX9_learning_8 (by decide) ?_
  refine xp hF kf_X9_205 tyX9_ok nmX9 hK hP hD hS 0 rfl rfl rfl rfl (Nat.le_of_ble_eq_true rfl) dX9_learning_9 (fun H locs hP hD hS => ?_)
  have hP : va_P D vwCl [(h0, .inr (9, [.ref ys, .ref yk, .ref yo, .ref yt, .int mk0, .ref yfa, .ref yfe, .int mL, .int mS, .int mM, .ref yro, .ref yhe, .ref ygr, .int mF, .int 1, .int 0, .ref yta, .int (nI (mz)), .int (nI (mf)), .int (nI (mt)), .int mv, .int mw, .ref ywa, .ref ybi, .ref ysi, .ref ynu, .ref ymo])), (ys, .inl (cI, 449, .inl ms))] H := hP
  have hD : va_D A [(h0, .inr (9, [.ref ys, .ref yk, .ref yo, .ref yt, .int mk0, .ref yfa, .ref yfe, .int mL, .int mS, .int mM, .ref yro, .ref yhe, .ref ygr, .int mF, .int 1, .int 0, .ref yta, .int (nI (mz)), .int (nI (mf)), .int (nI (mt)), .int mv, .int mw, .ref ywa, .ref ybi, .ref ysi, .ref ynu, .ref ymo])), (ys, .inl (cI, 449, .inl ms))] := hD
  refine lv_iconst (v := 0) hx hb dX9_learning_12 (by decide) ?_
  refine lv_istore_n (lv' := [(2, .int 0), (1, .int 0), (0, .ref h0)]) hx hb dX9_learning_13 rfl hl (by decide) rfl (fun ls hl => ?_)
  suffices loop_14 : ∀ (n_14 : Nat) (i : Nat) (n8 : Nat) (c8 : Int32) (y8 : Int32) (s8 : Nat → Int32) (l8 : Nat → Int32) (u8 : Nat → Int32) (H : Heap) (locs : List Loc) (ls : Array Slot), 50 - i < n_14 → (i ≤ 50) → (n8 ≤ i) → ((c8 = 1 ∧ (lrn fao fawn fawp fat fas Wn 50 0 fal fau 0) = lrn fao fawn fawp fat fas Wn (50 - i) n8 l8 u8 y8) ∨ (c8 = 0 ∧ (lrn fao fawn fawp fat fas Wn 50 0 fal fau 0) = (n8, l8, u8, y8))) → (s8 0 = nI P) → (s8 1 = nI Rn) → (s8 2 = nI Wn) → (SI s8) → (MI s8) → (P ≤ 10) → (Rn ≤ 8) → (Wn ≤ 8) → (RI Rn s8) → (FR P s8 fae l8 u8 fao farn farp fak fawn fawp fat fas) → va_P D vwCl [(h0, .inr (9, [.ref ys, .ref yk, .ref yo, .ref yt, .int mk0, .ref yfa, .ref yfe, .int mL, .int mS, .int mM, .ref yro, .ref yhe, .ref ygr, .int mF, .int c8, .int y8, .ref yta, .int (nI (mz)), .int (nI (mf)), .int (nI (mt)), .int mv, .int mw, .ref ywa, .ref ybi, .ref ysi, .ref ynu, .ref ymo])), (ys, .inl (cI, 449, .inl s8))] H → va_D A [(h0, .inr (9, [.ref ys, .ref yk, .ref yo, .ref yt, .int mk0, .ref yfa, .ref yfe, .int mL, .int mS, .int mM, .ref yro, .ref yhe, .ref ygr, .int mF, .int c8, .int y8, .ref yta, .int (nI (mz)), .int (nI (mf)), .int (nI (mt)), .int mv, .int mw, .ref ywa, .ref ybi, .ref ysi, .ref ynu, .ref ymo])), (ys, .inl (cI, 449, .inl s8))] → va_S A s.heap H locs → lv_has ls 4 [(2, .int (nI (i))), (1, .int (nI (n8))), (0, .ref h0)] → W p l e ({ frames := 3, cells := 0, slots := 0, locals := 77 }) s m ([.ref h0] : List Value).toArray below meth c H locs 0 0 (MQ below (XQi (fun (r : Int32) (u : Int32 × Int32 × (Nat → Int32) × (Nat → Int32) × (Nat → Int32)) => match u with | (mC2, mY2, ms2, gl, gu) => ((r = nI ((lrn fao fawn fawp fat fas Wn 50 0 fal fau 0).1))) ∧ (gl = (lrn fao fawn fawp fat fas Wn 50 0 fal fau 0).2.1) ∧ (gu = (lrn fao fawn fawp fat fas Wn 50 0 fal fau 0).2.2.1) ∧ (mY2 = (lrn fao fawn fawp fat fas Wn 50 0 fal fau 0).2.2.2) ∧ (ms2 0 = nI P) ∧ (ms2 1 = nI Rn) ∧ (ms2 2 = nI Wn) ∧ (SI ms2) ∧ (MI ms2) ∧ (P ≤ 10) ∧ (Rn ≤ 8) ∧ (Wn ≤ 8) ∧ (RI Rn ms2) ∧ (FR P ms2 fae gl gu fao farn farp fak fawn fawp fat fas)) D (fun (u : Int32 × Int32 × (Nat → Int32) × (Nat → Int32) × (Nat → Int32)) => match u with | (mC2, mY2, ms2, gl, gu) => [(h0, .inr (9, [.ref ys, .ref yk, .ref yo, .ref yt, .int mk0, .ref yfa, .ref yfe, .int mL, .int mS, .int mM, .ref yro, .ref yhe, .ref ygr, .int mF, .int mC2, .int mY2, .ref yta, .int (nI (mz)), .int (nI (mf)), .int (nI (mt)), .int mv, .int mw, .ref ywa, .ref ybi, .ref ysi, .ref ynu, .ref ymo])), (ys, .inl (cI, 449, .inl ms2))]) A) ([.ref h0] : List Value).toArray s 0 0 A) (F0 m 14 ls []) by
    exact loop_14 _ 0 0 1 0 ms fal fau _ _ _ (Nat.lt_succ_self _) (by omega) (by omega) (Or.inl ⟨rfl, rfl⟩) hs0 hs1 hs2 hsS hsM hsp hsr hsw hsR hsG hP hD hS (lv_sub hl [0, 1, 2] rfl)
  intro n_14
  induction n_14 with
  | zero =>
    intro i n8 c8 y8 s8 l8 u8 H locs ls hm_14
    exact absurd hm_14 (Nat.not_lt_zero _)
  | succ n_14 ih_14 =>
    intro i n8 c8 y8 s8 l8 u8 H locs ls hm_14 hi hn8 hL8 ht0 ht1 ht2 htS htM htp htr htw htR htG hP hD hS hl
    refine lv_iload_n hx hb dX9_learning_14 rfl (lv_at hl 0 rfl) ?_
    refine lv_bipush (v := 50) hx hb dX9_learning_15 (by decide) ?_
    refine lv_icmp_ge (tgt := 95) hx hb dX9_learning_17 (by decide) (fun c_1 => ?_) (fun c_1 => ?_)
    · skip
      have nc_1 : 50 ≤ i := xn_le (a := 50) (b := i) (by omega) (by omega) c_1
      refine lv_iload_n hx hb dX9_learning_95 rfl (lv_at hl 1 rfl) ?_
      have hE9 : (lrn fao fawn fawp fat fas Wn 50 0 fal fau 0) = (n8, l8, u8, y8) := (by rcases hL8 with h | h; exact h.2.trans (lrn_end (by omega)); exact h.2)
      exact W.iret (v := nI (n8)) hx hb hr (fun t ht hW => ⟨⟨nI (n8), (c8, y8, s8, l8, u8), rfl, ⟨(by rw [hE9]), (by rw [hE9]), (by rw [hE9]), (by rw [hE9]), ht0, ht1, ht2, htS, htM, htp, htr, htw, htR, htG⟩, by rw [ht]; exact hP.sub [0, 1] rfl, hD.sub [0, 1] (by decide) rfl⟩, hS.F ht⟩) hS.2.2 dX9_learning_96 hlk
    · skip
      have nc_1 : i < 50 := xn_nle (a := 50) (b := i) (by omega) (by omega) c_1
      refine lv_aload_n hx hb dX9_learning_20 rfl (lv_at hl 2 rfl) ?_
      refine xg hF kf_X9_205 hK hP 0 rfl rfl dX9_learning_21 ?_
      refine lv_if_eq (tgt := 95) hx hb dX9_learning_24 (by decide) (fun c_2 => ?_) (fun c_2 => ?_)
      · skip
        refine lv_iload_n hx hb dX9_learning_95 rfl (lv_at hl 1 rfl) ?_
        have hE9 : (lrn fao fawn fawp fat fas Wn 50 0 fal fau 0) = (n8, l8, u8, y8) := (hL8.resolve_left (fun h => absurd (h.1.symm.trans c_2) (by decide))).2
        exact W.iret (v := nI (n8)) hx hb hr (fun t ht hW => ⟨⟨nI (n8), (c8, y8, s8, l8, u8), rfl, ⟨(by rw [hE9]), (by rw [hE9]), (by rw [hE9]), (by rw [hE9]), ht0, ht1, ht2, htS, htM, htp, htr, htw, htR, htG⟩, by rw [ht]; exact hP.sub [0, 1] rfl, hD.sub [0, 1] (by decide) rfl⟩, hS.F ht⟩) hS.2.2 dX9_learning_96 hlk
      · skip
        refine lv_aload_n hx hb dX9_learning_27 rfl (lv_at hl 2 rfl) ?_
        refine lv_iconst (v := 0) hx hb dX9_learning_28 (by decide) ?_
        refine xp hF kf_X9_205 tyX9_ok nmX9 hK hP hD hS 0 rfl rfl rfl rfl (Nat.le_of_ble_eq_true rfl) dX9_learning_29 (fun H locs hP hD hS => ?_)
        have hP : va_P D vwCl [(h0, .inr (9, [.ref ys, .ref yk, .ref yo, .ref yt, .int mk0, .ref yfa, .ref yfe, .int mL, .int mS, .int mM, .ref yro, .ref yhe, .ref ygr, .int mF, .int 0, .int y8, .ref yta, .int (nI (mz)), .int (nI (mf)), .int (nI (mt)), .int mv, .int mw, .ref ywa, .ref ybi, .ref ysi, .ref ynu, .ref ymo])), (ys, .inl (cI, 449, .inl s8))] H := hP
        have hD : va_D A [(h0, .inr (9, [.ref ys, .ref yk, .ref yo, .ref yt, .int mk0, .ref yfa, .ref yfe, .int mL, .int mS, .int mM, .ref yro, .ref yhe, .ref ygr, .int mF, .int 0, .int y8, .ref yta, .int (nI (mz)), .int (nI (mf)), .int (nI (mt)), .int mv, .int mw, .ref ywa, .ref ybi, .ref ysi, .ref ynu, .ref ymo])), (ys, .inl (cI, 449, .inl s8))] := hD
        refine lv_iconst (v := 0) hx hb dX9_learning_32 (by decide) ?_
        refine lv_istore_n (lv' := [(3, .int 0), (2, .int (nI (i))), (1, .int (nI (n8))), (0, .ref h0)]) hx hb dX9_learning_33 rfl hl (by decide) rfl (fun ls hl => ?_)
        suffices loop_34 : ∀ (n_34 : Nat) (i2 : Nat) (c7 : Int32) (y7 : Int32) (s7 : Nat → Int32) (l7 : Nat → Int32) (u7 : Nat → Int32) (H : Heap) (locs : List Loc) (ls : Array Slot), Wn - i2 < n_34 → (i2 ≤ Wn) → (c7 = 0 ∨ c7 = 1) → (rnd fao fawn fawp fat fas Wn 0 (l8, u8, 0) y8 = rnd fao fawn fawp fat fas (Wn - i2) i2 (l7, u7, c7) y7) → (s7 0 = nI P) → (s7 1 = nI Rn) → (s7 2 = nI Wn) → (SI s7) → (MI s7) → (P ≤ 10) → (Rn ≤ 8) → (Wn ≤ 8) → (RI Rn s7) → (FR P s7 fae l7 u7 fao farn farp fak fawn fawp fat fas) → va_P D vwCl [(h0, .inr (9, [.ref ys, .ref yk, .ref yo, .ref yt, .int mk0, .ref yfa, .ref yfe, .int mL, .int mS, .int mM, .ref yro, .ref yhe, .ref ygr, .int mF, .int c7, .int y7, .ref yta, .int (nI (mz)), .int (nI (mf)), .int (nI (mt)), .int mv, .int mw, .ref ywa, .ref ybi, .ref ysi, .ref ynu, .ref ymo])), (ys, .inl (cI, 449, .inl s7))] H → va_D A [(h0, .inr (9, [.ref ys, .ref yk, .ref yo, .ref yt, .int mk0, .ref yfa, .ref yfe, .int mL, .int mS, .int mM, .ref yro, .ref yhe, .ref ygr, .int mF, .int c7, .int y7, .ref yta, .int (nI (mz)), .int (nI (mf)), .int (nI (mt)), .int mv, .int mw, .ref ywa, .ref ybi, .ref ysi, .ref ynu, .ref ymo])), (ys, .inl (cI, 449, .inl s7))] → va_S A s.heap H locs → lv_has ls 4 [(3, .int (nI (i2))), (2, .int (nI (i))), (1, .int (nI (n8))), (0, .ref h0)] → W p l e ({ frames := 3, cells := 0, slots := 0, locals := 77 }) s m ([.ref h0] : List Value).toArray below meth c H locs 0 0 (MQ below (XQi (fun (r : Int32) (u : Int32 × Int32 × (Nat → Int32) × (Nat → Int32) × (Nat → Int32)) => match u with | (mC2, mY2, ms2, gl, gu) => ((r = nI ((lrn fao fawn fawp fat fas Wn 50 0 fal fau 0).1))) ∧ (gl = (lrn fao fawn fawp fat fas Wn 50 0 fal fau 0).2.1) ∧ (gu = (lrn fao fawn fawp fat fas Wn 50 0 fal fau 0).2.2.1) ∧ (mY2 = (lrn fao fawn fawp fat fas Wn 50 0 fal fau 0).2.2.2) ∧ (ms2 0 = nI P) ∧ (ms2 1 = nI Rn) ∧ (ms2 2 = nI Wn) ∧ (SI ms2) ∧ (MI ms2) ∧ (P ≤ 10) ∧ (Rn ≤ 8) ∧ (Wn ≤ 8) ∧ (RI Rn ms2) ∧ (FR P ms2 fae gl gu fao farn farp fak fawn fawp fat fas)) D (fun (u : Int32 × Int32 × (Nat → Int32) × (Nat → Int32) × (Nat → Int32)) => match u with | (mC2, mY2, ms2, gl, gu) => [(h0, .inr (9, [.ref ys, .ref yk, .ref yo, .ref yt, .int mk0, .ref yfa, .ref yfe, .int mL, .int mS, .int mM, .ref yro, .ref yhe, .ref ygr, .int mF, .int mC2, .int mY2, .ref yta, .int (nI (mz)), .int (nI (mf)), .int (nI (mt)), .int mv, .int mw, .ref ywa, .ref ybi, .ref ysi, .ref ynu, .ref ymo])), (ys, .inl (cI, 449, .inl ms2))]) A) ([.ref h0] : List Value).toArray s 0 0 A) (F0 m 34 ls []) by
          exact loop_34 _ 0 0 y8 s8 l8 u8 _ _ _ (Nat.lt_succ_self _) (by omega) (Or.inl rfl) rfl ht0 ht1 ht2 htS htM htp htr htw htR htG hP hD hS (lv_sub hl [0, 1, 2, 3] rfl)
        intro n_34
        induction n_34 with
        | zero =>
          intro i2 c7 y7 s7 l7 u7 H locs ls hm_34
          exact absurd hm_34 (Nat.not_lt_zero _)
        | succ n_34 ih_34 =>
          intro i2 c7 y7 s7 l7 u7 H locs ls hm_34 hi2 hc7 hR8 hv0 hv1 hv2 hvS hvM hvp hvr hvw hvR hvG hP hD hS hl
          refine lv_iload_n hx hb dX9_learning_34 rfl (lv_at hl 0 rfl) ?_
          refine lv_aload_n hx hb dX9_learning_35 rfl (lv_at hl 3 rfl) ?_
          refine xg hF kf_X9_7 hK hP 0 rfl rfl dX9_learning_36 ?_
          refine lv_iconst (v := 2) hx hb dX9_learning_39 (by decide) ?_
          refine va_iald hx hb hK hP 1 0 rfl rfl (xin 2 449 (by decide) (by decide)) dX9_learning_40 ?_
          refine xl_i (y := nI (Wn)) hv2 ?_
          refine lv_icmp_ge (tgt := 74) hx hb dX9_learning_41 (by decide) (fun c_3 => ?_) (fun c_3 => ?_)
          · skip
            have nc_3 : Wn ≤ i2 := xn_le (a := Wn) (b := i2) (by omega) (by omega) c_3
            refine lv_iload_n hx hb dX9_learning_74 rfl (lv_at hl 2 rfl) ?_
            refine lv_aload_n hx hb dX9_learning_75 rfl (lv_at hl 3 rfl) ?_
            refine xg hF kf_X9_205 hK hP 0 rfl rfl dX9_learning_76 ?_
            refine lv_if_eq (tgt := 86) hx hb dX9_learning_79 (by decide) (fun c_4 => ?_) (fun c_4 => ?_)
            · skip
              refine lv_iconst (v := 0) hx hb dX9_learning_86 (by decide) ?_
              refine lv_iadd hx hb dX9_learning_87 ?_
              refine xl_i (y := nI (n8 + 0)) (nI_add n8 0) ?_
              refine lv_istore_n (lv' := [(1, .int (nI (n8 + 0))), (3, .int (nI (i2))), (2, .int (nI (i))), (0, .ref h0)]) hx hb dX9_learning_88 rfl hl (by decide) rfl (fun ls hl => ?_)
              refine lv_iinc (v := nI (i + 1)) (lv' := [(2, .int (nI (i + 1))), (1, .int (nI (n8 + 0))), (3, .int (nI (i2))), (0, .ref h0)]) hx hb dX9_learning_89 hl (k := 2) rfl (nI_1 (i)) (by decide) rfl (fun ls hl => ?_)
              refine lv_goto (tgt := 14) hx hb dX9_learning_92 (by decide) ?_
              exact ih_14 (i + 1) (n8 + 0) c7 y7 s7 l7 u7 _ _ _ (by omega) (by omega) (by omega) (Or.inr ⟨c_4, (hL8.resolve_right (fun h => c_2 h.1)).2.trans (lrn_no (by omega) (hR8.trans (rnd_end (by omega))) c_4)⟩) hv0 hv1 hv2 hvS hvM hvp hvr hvw hvR hvG (hP.sub [0, 1] rfl) (hD.sub [0, 1] (by decide) rfl) hS (lv_sub hl [0, 1, 3] rfl)
            · skip
              refine lv_iconst (v := 1) hx hb dX9_learning_82 (by decide) ?_
              refine lv_goto (tgt := 87) hx hb dX9_learning_83 (by decide) ?_
              refine lv_iadd hx hb dX9_learning_87 ?_
              refine xl_i (y := nI (n8 + 1)) (nI_add n8 1) ?_
              refine lv_istore_n (lv' := [(1, .int (nI (n8 + 1))), (3, .int (nI (i2))), (2, .int (nI (i))), (0, .ref h0)]) hx hb dX9_learning_88 rfl hl (by decide) rfl (fun ls hl => ?_)
              refine lv_iinc (v := nI (i + 1)) (lv' := [(2, .int (nI (i + 1))), (1, .int (nI (n8 + 1))), (3, .int (nI (i2))), (0, .ref h0)]) hx hb dX9_learning_89 hl (k := 2) rfl (nI_1 (i)) (by decide) rfl (fun ls hl => ?_)
              refine lv_goto (tgt := 14) hx hb dX9_learning_92 (by decide) ?_
              exact ih_14 (i + 1) (n8 + 1) c7 y7 s7 l7 u7 _ _ _ (by omega) (by omega) (by omega) (Or.inl ⟨hc7.resolve_left c_4, (hL8.resolve_right (fun h => c_2 h.1)).2.trans (lrn_go (by omega) (hR8.trans (rnd_end (by omega))) c_4)⟩) hv0 hv1 hv2 hvS hvM hvp hvr hvw hvR hvG (hP.sub [0, 1] rfl) (hD.sub [0, 1] (by decide) rfl) hS (lv_sub hl [0, 1, 3] rfl)
          · skip
            have nc_3 : i2 < Wn := xn_nle (a := Wn) (b := i2) (by omega) (by omega) c_3
            refine lv_aload_n hx hb dX9_learning_44 rfl (lv_at hl 3 rfl) ?_
            refine lv_dup hx hb dX9_learning_45 rfl ?_
            refine xg hF kf_X9_208 hK hP 0 rfl rfl dX9_learning_46 ?_
            refine lv_aload_n hx hb dX9_learning_49 rfl (lv_at hl 3 rfl) ?_
            refine lv_iload_n hx hb dX9_learning_50 rfl (lv_at hl 0 rfl) ?_
            obtain ⟨q9, hq91, hq92, eq9⟩ := hLL i2 (by omega)
            refine xc_Vi (wr := []) hF (c_X9_learns l D cI cJ cZ cS ta sa sv H.size h0 ys yk yo yt mk0 yfa yfe mL mS mM yro yhe ygr mF c7 y7 yta mz mf mt mv mw ywa ybi ysi ynu ymo s7 P Rn Wn fae l7 u7 fao farn farp fak fawn fawp fat fas i2 q9 (by omega) hq91 hq92 eq9 hc7 hv0 hv1 hv2 hvS hvM hvp hvr hvw hvR hvG) kv_X9_211 ⟨rfl, rfl, Nat.le_of_ble_eq_true rfl, Nat.le_of_ble_eq_true rfl⟩ ⟨Nat.le_of_ble_eq_true rfl, Nat.le_of_ble_eq_true rfl⟩ hK hN hZ hP hD hS hA [0, 1] [] rfl rfl rfl rfl (by decide) 0 rfl rfl rfl rfl hl.1 rfl (Nat.le_of_ble_eq_true rfl) dX9_learning_51 (fun r_5 u_r_5 H locs hw_r_5 hP hD hS => ?_)
            obtain ⟨mC2_6, ms2_7, gl_8, gu_9⟩ := u_r_5
            try dsimp only at hw_r_5
            obtain ⟨hw_r_5, i_10, i_11, i_12, i_13, i_14, i_15, i_16, i_17, i_18, i_19, i_20⟩ := hw_r_5
            have hP : va_P D vwCl [(h0, .inr (9, [.ref ys, .ref yk, .ref yo, .ref yt, .int mk0, .ref yfa, .ref yfe, .int mL, .int mS, .int mM, .ref yro, .ref yhe, .ref ygr, .int mF, .int mC2_6, .int y7, .ref yta, .int (nI (mz)), .int (nI (mf)), .int (nI (mt)), .int mv, .int mw, .ref ywa, .ref ybi, .ref ysi, .ref ynu, .ref ymo])), (ys, .inl (cI, 449, .inl ms2_7))] H := hP
            have hD : va_D A [(h0, .inr (9, [.ref ys, .ref yk, .ref yo, .ref yt, .int mk0, .ref yfa, .ref yfe, .int mL, .int mS, .int mM, .ref yro, .ref yhe, .ref ygr, .int mF, .int mC2_6, .int y7, .ref yta, .int (nI (mz)), .int (nI (mf)), .int (nI (mt)), .int mv, .int mw, .ref ywa, .ref ybi, .ref ysi, .ref ynu, .ref ymo])), (ys, .inl (cI, 449, .inl ms2_7))] := hD
            rcases hw_r_5 with ⟨rfl, h_21⟩ | ⟨rfl, h_22⟩
            · skip
              refine lv_if_eq (tgt := 61) hx hb dX9_learning_54 (by decide) (fun c_23 => absurd c_23 (by decide)) (fun c_23 => ?_)
              refine lv_iconst (v := 0) hx hb dX9_learning_57 (by decide) ?_
              refine lv_goto (tgt := 64) hx hb dX9_learning_58 (by decide) ?_
              refine lv_ior hx hb dX9_learning_64 ?_
              refine lv_topi (fun x_24 ex_24 => ?_)
              refine xp hF kf_X9_208 tyX9_ok nmX9 hK hP hD hS 0 rfl rfl rfl rfl (Nat.le_of_ble_eq_true rfl) dX9_learning_65 (fun H locs hP hD hS => ?_)
              have hP : va_P D vwCl [(h0, .inr (9, [.ref ys, .ref yk, .ref yo, .ref yt, .int mk0, .ref yfa, .ref yfe, .int mL, .int mS, .int mM, .ref yro, .ref yhe, .ref ygr, .int mF, .int mC2_6, .int x_24, .ref yta, .int (nI (mz)), .int (nI (mf)), .int (nI (mt)), .int mv, .int mw, .ref ywa, .ref ybi, .ref ysi, .ref ynu, .ref ymo])), (ys, .inl (cI, 449, .inl ms2_7))] H := hP
              have hD : va_D A [(h0, .inr (9, [.ref ys, .ref yk, .ref yo, .ref yt, .int mk0, .ref yfa, .ref yfe, .int mL, .int mS, .int mM, .ref yro, .ref yhe, .ref ygr, .int mF, .int mC2_6, .int x_24, .ref yta, .int (nI (mz)), .int (nI (mf)), .int (nI (mt)), .int mv, .int mw, .ref ywa, .ref ybi, .ref ysi, .ref ynu, .ref ymo])), (ys, .inl (cI, 449, .inl ms2_7))] := hD
              refine lv_iinc (v := nI (i2 + 1)) (lv' := [(3, .int (nI (i2 + 1))), (2, .int (nI (i))), (1, .int (nI (n8))), (0, .ref h0)]) hx hb dX9_learning_68 hl (k := 0) rfl (nI_1 (i2)) (by decide) rfl (fun ls hl => ?_)
              refine lv_goto (tgt := 34) hx hb dX9_learning_71 (by decide) ?_
              exact ih_34 (i2 + 1) mC2_6 x_24 ms2_7 gl_8 gu_9 _ _ _ (by omega) (by omega) i_10 (hR8.trans (rnd_go (by omega) h_21 (by rw [ex_24, Int32.or_zero]; exact lyU_1.symm))) i_11 i_12 i_13 i_14 i_15 i_16 i_17 i_18 i_19 i_20 (hP.sub [0, 1] rfl) (hD.sub [0, 1] (by decide) rfl) hS (lv_sub hl [0, 1, 2, 3] rfl)
            · skip
              refine lv_if_eq (tgt := 61) hx hb dX9_learning_54 (by decide) (fun c_25 => ?_) (fun c_25 => absurd (by decide) c_25)
              refine lv_iconst (v := 1) hx hb dX9_learning_61 (by decide) ?_
              refine lv_iload_n hx hb dX9_learning_62 rfl (lv_at hl 0 rfl) ?_
              refine lv_ishl hx hb dX9_learning_63 ?_
              refine lv_topi (fun x_26 ex_26 => ?_)
              refine lv_ior hx hb dX9_learning_64 ?_
              refine lv_topi (fun x_27 ex_27 => ?_)
              refine xp hF kf_X9_208 tyX9_ok nmX9 hK hP hD hS 0 rfl rfl rfl rfl (Nat.le_of_ble_eq_true rfl) dX9_learning_65 (fun H locs hP hD hS => ?_)
              have hP : va_P D vwCl [(h0, .inr (9, [.ref ys, .ref yk, .ref yo, .ref yt, .int mk0, .ref yfa, .ref yfe, .int mL, .int mS, .int mM, .ref yro, .ref yhe, .ref ygr, .int mF, .int mC2_6, .int x_27, .ref yta, .int (nI (mz)), .int (nI (mf)), .int (nI (mt)), .int mv, .int mw, .ref ywa, .ref ybi, .ref ysi, .ref ynu, .ref ymo])), (ys, .inl (cI, 449, .inl ms2_7))] H := hP
              have hD : va_D A [(h0, .inr (9, [.ref ys, .ref yk, .ref yo, .ref yt, .int mk0, .ref yfa, .ref yfe, .int mL, .int mS, .int mM, .ref yro, .ref yhe, .ref ygr, .int mF, .int mC2_6, .int x_27, .ref yta, .int (nI (mz)), .int (nI (mf)), .int (nI (mt)), .int mv, .int mw, .ref ywa, .ref ybi, .ref ysi, .ref ynu, .ref ymo])), (ys, .inl (cI, 449, .inl ms2_7))] := hD
              refine lv_iinc (v := nI (i2 + 1)) (lv' := [(3, .int (nI (i2 + 1))), (2, .int (nI (i))), (1, .int (nI (n8))), (0, .ref h0)]) hx hb dX9_learning_68 hl (k := 0) rfl (nI_1 (i2)) (by decide) rfl (fun ls hl => ?_)
              refine lv_goto (tgt := 34) hx hb dX9_learning_71 (by decide) ?_
              exact ih_34 (i2 + 1) mC2_6 x_27 ms2_7 gl_8 gu_9 _ _ _ (by omega) (by omega) i_10 (hR8.trans (rnd_go (by omega) h_22 (ex_27.trans (lyU_0 ex_26).symm))) i_11 i_12 i_13 i_14 i_15 i_16 i_17 i_18 i_19 i_20 (hP.sub [0, 1] rfl) (hD.sub [0, 1] (by decide) rfl) hS (lv_sub hl [0, 1, 2, 3] rfl)
set_option maxHeartbeats 4000000 in
set_option maxRecDepth 100000 in
theorem c_X9_learn (l : Launch) (D : va_G) (cI cJ cZ cS : ClassId) (ta : Nat) (sa sv : Nat → Nat) (sz : Nat) (h0 : Nat) (ys : Nat) (yk : Nat) (yo : Nat) (yt : Nat) (mk0 : Int32) (yfa : Nat) (yfe : Nat) (mL : Int32) (mS : Int32) (mM : Int32) (yro : Nat) (yhe : Nat) (ygr : Nat) (mF : Int32) (mC : Int32) (mY : Int32) (yta : Nat) (mz : Nat) (mf : Nat) (mt : Nat) (mv : Int32) (mw : Int32) (ywa : Nat) (ybi : Nat) (ysi : Nat) (ynu : Nat) (ymo : Nat) (ms : Nat → Int32) (P : Nat) (Rn : Nat) (Wn : Nat) (fae : Nat → Int32) (fal : Nat → Int32) (fau : Nat → Int32) (fao : Nat → Int32) (farn : Nat → Int32) (farp : Nat → Int32) (fak : Nat → Int32) (fawn : Nat → Int32) (fawp : Nat → Int32) (fat : Nat → Int32) (fas : Nat → Int32) (hLL : LL Wn fawn) (hs0 : ms 0 = nI P) (hs1 : ms 1 = nI Rn) (hs2 : ms 2 = nI Wn) (hsS : SI ms) (hsM : MI ms) (hsp : P ≤ 10) (hsr : Rn ≤ 8) (hsw : Wn ≤ 8) (hsR : RI Rn ms) (hsG : FR P ms fae fal fau fao farn farp fak fawn fawp fat fas) : Met l yX9_learn (Cond.code yX9_learn cX9_learn 1 (some .int) :: wsU) ({ frames := 4, cells := 0, slots := 0, locals := 100 }) (va_Pc [.ref h0] (XW D (xT cI cJ cZ cS) ta sa sv [(h0, .inr (9, [.ref ys, .ref yk, .ref yo, .ref yt, .int mk0, .ref yfa, .ref yfe, .int mL, .int mS, .int mM, .ref yro, .ref yhe, .ref ygr, .int mF, .int mC, .int mY, .ref yta, .int (nI (mz)), .int (nI (mf)), .int (nI (mt)), .int mv, .int mw, .ref ywa, .ref ybi, .ref ysi, .ref ynu, .ref ymo])), (ys, .inl (cI, 449, .inl ms))] sz)) (XQi (fun (r : Int32) (u : Int32 × Int32 × (Nat → Int32) × (Nat → Int32) × (Nat → Int32)) => match u with | (mC2, mY2, ms2, gl, gu) => ((r = nI ((lrn fao fawn fawp fat fas Wn 50 0 fal fau 0).1))) ∧ (gl = (lrn fao fawn fawp fat fas Wn 50 0 fal fau 0).2.1) ∧ (gu = (lrn fao fawn fawp fat fas Wn 50 0 fal fau 0).2.2.1) ∧ (ms2 0 = nI P) ∧ (ms2 1 = nI Rn) ∧ (ms2 2 = nI Wn) ∧ (SI ms2) ∧ (MI ms2) ∧ (P ≤ 10) ∧ (Rn ≤ 8) ∧ (Wn ≤ 8) ∧ (RI Rn ms2) ∧ (FR P ms2 fae gl gu fao farn farp fak fawn fawp fat fas)) D (fun (u : Int32 × Int32 × (Nat → Int32) × (Nat → Int32) × (Nat → Int32)) => match u with | (mC2, mY2, ms2, gl, gu) => [(h0, .inr (9, [.ref ys, .ref yk, .ref yo, .ref yt, .int mk0, .ref yfa, .ref yfe, .int mL, .int mS, .int mM, .ref yro, .ref yhe, .ref ygr, .int mF, .int mC2, .int mY2, .ref yta, .int (nI (mz)), .int (nI (mf)), .int (nI (mt)), .int mv, .int mw, .ref ywa, .ref ybi, .ref ysi, .ref ynu, .ref ymo])), (ys, .inl (cI, 449, .inl ms2))]) (va_A [(h0, .inr (9, [.ref ys, .ref yk, .ref yo, .ref yt, .int mk0, .ref yfa, .ref yfe, .int mL, .int mS, .int mM, .ref yro, .ref yhe, .ref ygr, .int mF, .int mC, .int mY, .ref yta, .int (nI (mz)), .int (nI (mf)), .int (nI (mt)), .int mv, .int mw, .ref ywa, .ref ybi, .ref ysi, .ref ynu, .ref ymo])), (ys, .inl (cI, 449, .inl ms))] sz)) 0 0 (va_A [(h0, .inr (9, [.ref ys, .ref yk, .ref yo, .ref yt, .int mk0, .ref yfa, .ref yfe, .int mL, .int mS, .int mM, .ref yro, .ref yhe, .ref ygr, .int mF, .int mC, .int mY, .ref yta, .int (nI (mz)), .int (nI (mf)), .int (nI (mt)), .int mv, .int mw, .ref ywa, .ref ybi, .ref ysi, .ref ynu, .ref ymo])), (ys, .inl (cI, 449, .inl ms))] sz) := by
  refine xh (QA := fun A => XQi (fun (r : Int32) (u : Int32 × Int32 × (Nat → Int32) × (Nat → Int32) × (Nat → Int32)) => match u with | (mC2, mY2, ms2, gl, gu) => ((r = nI ((lrn fao fawn fawp fat fas Wn 50 0 fal fau 0).1))) ∧ (gl = (lrn fao fawn fawp fat fas Wn 50 0 fal fau 0).2.1) ∧ (gu = (lrn fao fawn fawp fat fas Wn 50 0 fal fau 0).2.2.1) ∧ (ms2 0 = nI P) ∧ (ms2 1 = nI Rn) ∧ (ms2 2 = nI Wn) ∧ (SI ms2) ∧ (MI ms2) ∧ (P ≤ 10) ∧ (Rn ≤ 8) ∧ (Wn ≤ 8) ∧ (RI Rn ms2) ∧ (FR P ms2 fae gl gu fao farn farp fak fawn fawp fat fas)) D (fun (u : Int32 × Int32 × (Nat → Int32) × (Nat → Int32) × (Nat → Int32)) => match u with | (mC2, mY2, ms2, gl, gu) => [(h0, .inr (9, [.ref ys, .ref yk, .ref yo, .ref yt, .int mk0, .ref yfa, .ref yfe, .int mL, .int mS, .int mM, .ref yro, .ref yhe, .ref ygr, .int mF, .int mC2, .int mY2, .ref yta, .int (nI (mz)), .int (nI (mf)), .int (nI (mt)), .int mv, .int mw, .ref ywa, .ref ybi, .ref ysi, .ref ynu, .ref ymo])), (ys, .inl (cI, 449, .inl ms2))]) A) (fr := fun A => A) (by decide) (Nat.le_of_ble_eq_true rfl) ?_
  intro p e s m below meth c ls A hF hr hlk hin hsz hP hK hD hN hZ hA hS hl
  have hF : CallFix p m c cX9_learn 1 s _ _ RX9 := hF
  have hx := hF.1
  have hb := hF.2.1
  have hml := hF.2.2.1
  have hown := hF.2.2.2.1
  have hu : ∀ w ∈ wsU, w.before _ s = true := fun w h => hF.2.2.2.2 w (List.mem_cons_of_mem _ h)
  have hl : lv_has ls 1 [(0, .ref h0)] := hl
  refine lv_aload_n hx hb dX9_learn_0 rfl (lv_at hl 0 rfl) ?_
  refine xc_Vi (wr := []) hF (c_X9_learning l D cI cJ cZ cS ta sa sv s.heap.size h0 ys yk yo yt mk0 yfa yfe mL mS mM yro yhe ygr mF mC mY yta mz mf mt mv mw ywa ybi ysi ynu ymo ms P Rn Wn fae fal fau fao farn farp fak fawn fawp fat fas (by omega) hs0 hs1 hs2 hsS hsM hsp hsr hsw hsR hsG) kv_X9_214 ⟨rfl, rfl, Nat.le_of_ble_eq_true rfl, Nat.le_of_ble_eq_true rfl⟩ ⟨Nat.le_of_ble_eq_true rfl, Nat.le_of_ble_eq_true rfl⟩ hK hN hZ hP hD hS hA [0, 1] [] rfl rfl rfl rfl (by decide) 0 rfl rfl rfl rfl hl.1 rfl (Nat.le_of_ble_eq_true rfl) dX9_learn_1 (fun r_1 u_r_1 H locs hw_r_1 hP hD hS => ?_)
  obtain ⟨mC2_2, mY2_3, ms2_4, gl_5, gu_6⟩ := u_r_1
  try dsimp only at hw_r_1
  obtain ⟨hw_r_1, i_7, i_8, i_9, i_10, i_11, i_12, i_13, i_14, i_15, i_16, i_17, i_18, i_19⟩ := hw_r_1
  have hP : va_P D vwCl [(h0, .inr (9, [.ref ys, .ref yk, .ref yo, .ref yt, .int mk0, .ref yfa, .ref yfe, .int mL, .int mS, .int mM, .ref yro, .ref yhe, .ref ygr, .int mF, .int mC2_2, .int mY2_3, .ref yta, .int (nI (mz)), .int (nI (mf)), .int (nI (mt)), .int mv, .int mw, .ref ywa, .ref ybi, .ref ysi, .ref ynu, .ref ymo])), (ys, .inl (cI, 449, .inl ms2_4))] H := hP
  have hD : va_D A [(h0, .inr (9, [.ref ys, .ref yk, .ref yo, .ref yt, .int mk0, .ref yfa, .ref yfe, .int mL, .int mS, .int mM, .ref yro, .ref yhe, .ref ygr, .int mF, .int mC2_2, .int mY2_3, .ref yta, .int (nI (mz)), .int (nI (mf)), .int (nI (mt)), .int mv, .int mw, .ref ywa, .ref ybi, .ref ysi, .ref ynu, .ref ymo])), (ys, .inl (cI, 449, .inl ms2_4))] := hD
  subst hw_r_1
  exact W.iret (v := nI ((lrn fao fawn fawp fat fas Wn 50 0 fal fau 0).1)) hx hb hr (fun t ht hW => ⟨⟨nI ((lrn fao fawn fawp fat fas Wn 50 0 fal fau 0).1), (mC2_2, mY2_3, ms2_4, gl_5, gu_6), rfl, ⟨(by first | exact rfl), (by first | assumption | omega), (by first | assumption | omega), i_10, i_11, i_12, i_13, i_14, i_15, i_16, i_17, i_18, i_19⟩, by rw [ht]; exact hP.sub [0, 1] rfl, hD.sub [0, 1] (by decide) rfl⟩, hS.F ht⟩) hS.2.2 dX9_learn_4 hlk
set_option maxHeartbeats 4000000 in
set_option maxRecDepth 100000 in
theorem c_X9_puts (l : Launch) (D : va_G) (cI cJ cZ cS : ClassId) (ta : Nat) (sa sv : Nat → Nat) (sz : Nat) (h0 : Nat) (ys : Nat) (yk : Nat) (yo : Nat) (yt : Nat) (mk0 : Int32) (yfa : Nat) (yfe : Nat) (mL : Int32) (mS : Int32) (mM : Int32) (yro : Nat) (yhe : Nat) (ygr : Nat) (mF : Int32) (mC : Int32) (mY : Int32) (yta : Nat) (mz : Nat) (mf : Nat) (mt : Nat) (mv : Int32) (mw : Int32) (ywa : Nat) (ybi : Nat) (ysi : Nat) (ynu : Nat) (ymo : Nat) (ms : Nat → Int32) (oo : Nat → Int32) (P : Nat) (Rn : Nat) (Wn : Nat) (fae : Nat → Int32) (fal : Nat → Int32) (fau : Nat → Int32) (fao : Nat → Int32) (farn : Nat → Int32) (farp : Nat → Int32) (fak : Nat → Int32) (fawn : Nat → Int32) (fawp : Nat → Int32) (fat : Nat → Int32) (fas : Nat → Int32) (hs0 : ms 0 = nI P) (hs1 : ms 1 = nI Rn) (hs2 : ms 2 = nI Wn) (hsS : SI ms) (hsM : MI ms) (hsp : P ≤ 10) (hsr : Rn ≤ 8) (hsw : Wn ≤ 8) (hsR : RI Rn ms) (hsG : FR P ms fae fal fau fao farn farp fak fawn fawp fat fas) : Met l yX9_puts (Cond.code yX9_puts cX9_puts 2 none :: wsU) ({ frames := 0, cells := 0, slots := 0, locals := 0 }) (va_Pc [.ref h0] (XW D (xT cI cJ cZ cS) ta sa sv [(h0, .inr (9, [.ref ys, .ref yk, .ref yo, .ref yt, .int mk0, .ref yfa, .ref yfe, .int mL, .int mS, .int mM, .ref yro, .ref yhe, .ref ygr, .int mF, .int mC, .int mY, .ref yta, .int (nI (mz)), .int (nI (mf)), .int (nI (mt)), .int mv, .int mw, .ref ywa, .ref ybi, .ref ysi, .ref ynu, .ref ymo])), (ys, .inl (cI, 449, .inl ms)), (yo, .inl (cI, 449, .inl oo))] sz)) (XQv (fun (_ : Unit) => True) D (fun _ : Unit => [(h0, .inr (9, [.ref ys, .ref yk, .ref yo, .ref yt, .int mk0, .ref yfa, .ref yfe, .int mL, .int mS, .int mM, .ref yro, .ref yhe, .ref ygr, .int mF, .int mC, .int mY, .ref yta, .int (nI (mz)), .int (nI (mf)), .int (nI (mt)), .int mv, .int mw, .ref ywa, .ref ybi, .ref ysi, .ref ynu, .ref ymo])), (ys, .inl (cI, 449, .inl ms)), (yo, .inl (cI, 449, .inl ms))]) (va_A [(h0, .inr (9, [.ref ys, .ref yk, .ref yo, .ref yt, .int mk0, .ref yfa, .ref yfe, .int mL, .int mS, .int mM, .ref yro, .ref yhe, .ref ygr, .int mF, .int mC, .int mY, .ref yta, .int (nI (mz)), .int (nI (mf)), .int (nI (mt)), .int mv, .int mw, .ref ywa, .ref ybi, .ref ysi, .ref ynu, .ref ymo])), (ys, .inl (cI, 449, .inl ms)), (yo, .inl (cI, 449, .inl oo))] sz)) 0 0 (va_A [(h0, .inr (9, [.ref ys, .ref yk, .ref yo, .ref yt, .int mk0, .ref yfa, .ref yfe, .int mL, .int mS, .int mM, .ref yro, .ref yhe, .ref ygr, .int mF, .int mC, .int mY, .ref yta, .int (nI (mz)), .int (nI (mf)), .int (nI (mt)), .int mv, .int mw, .ref ywa, .ref ybi, .ref ysi, .ref ynu, .ref ymo])), (ys, .inl (cI, 449, .inl ms)), (yo, .inl (cI, 449, .inl oo))] sz) := by
  refine xh (QA := fun A => XQv (fun (_ : Unit) => True) D (fun _ : Unit => [(h0, .inr (9, [.ref ys, .ref yk, .ref yo, .ref yt, .int mk0, .ref yfa, .ref yfe, .int mL, .int mS, .int mM, .ref yro, .ref yhe, .ref ygr, .int mF, .int mC, .int mY, .ref yta, .int (nI (mz)), .int (nI (mf)), .int (nI (mt)), .int mv, .int mw, .ref ywa, .ref ybi, .ref ysi, .ref ynu, .ref ymo])), (ys, .inl (cI, 449, .inl ms)), (yo, .inl (cI, 449, .inl ms))]) A) (fr := fun A => A) (by decide) (Nat.le_of_ble_eq_true rfl) ?_
  intro p e s m below meth c ls A hF hr hlk hin hsz hP hK hD hN hZ hA hS hl
  have hF : CallFix p m c cX9_puts 2 s _ _ RX9 := hF
  have hx := hF.1
  have hb := hF.2.1
  have hml := hF.2.2.1
  have hown := hF.2.2.2.1
  have hu : ∀ w ∈ wsU, w.before _ s = true := fun w h => hF.2.2.2.2 w (List.mem_cons_of_mem _ h)
  have hl : lv_has ls 2 [(0, .ref h0)] := hl
  refine lv_iconst (v := 0) hx hb dX9_puts_0 (by decide) ?_
  refine lv_istore_n (lv' := [(1, .int 0), (0, .ref h0)]) hx hb dX9_puts_1 rfl hl (by decide) rfl (fun ls hl => ?_)
  suffices loop_2 : ∀ (n_2 : Nat) (i : Nat) (o8 : Nat → Int32) (H : Heap) (locs : List Loc) (ls : Array Slot), 449 - i < n_2 → (i ≤ 449) → (∀ j, j < i → o8 j = ms j) → va_P D vwCl [(h0, .inr (9, [.ref ys, .ref yk, .ref yo, .ref yt, .int mk0, .ref yfa, .ref yfe, .int mL, .int mS, .int mM, .ref yro, .ref yhe, .ref ygr, .int mF, .int mC, .int mY, .ref yta, .int (nI (mz)), .int (nI (mf)), .int (nI (mt)), .int mv, .int mw, .ref ywa, .ref ybi, .ref ysi, .ref ynu, .ref ymo])), (ys, .inl (cI, 449, .inl ms)), (yo, .inl (cI, 449, .inl o8))] H → va_D A [(h0, .inr (9, [.ref ys, .ref yk, .ref yo, .ref yt, .int mk0, .ref yfa, .ref yfe, .int mL, .int mS, .int mM, .ref yro, .ref yhe, .ref ygr, .int mF, .int mC, .int mY, .ref yta, .int (nI (mz)), .int (nI (mf)), .int (nI (mt)), .int mv, .int mw, .ref ywa, .ref ybi, .ref ysi, .ref ynu, .ref ymo])), (ys, .inl (cI, 449, .inl ms)), (yo, .inl (cI, 449, .inl o8))] → va_S A s.heap H locs → lv_has ls 2 [(1, .int (nI (i))), (0, .ref h0)] → W p l e ({ frames := 0, cells := 0, slots := 0, locals := 0 }) s m ([.ref h0] : List Value).toArray below meth c H locs 0 0 (MQ below (XQv (fun (_ : Unit) => True) D (fun _ : Unit => [(h0, .inr (9, [.ref ys, .ref yk, .ref yo, .ref yt, .int mk0, .ref yfa, .ref yfe, .int mL, .int mS, .int mM, .ref yro, .ref yhe, .ref ygr, .int mF, .int mC, .int mY, .ref yta, .int (nI (mz)), .int (nI (mf)), .int (nI (mt)), .int mv, .int mw, .ref ywa, .ref ybi, .ref ysi, .ref ynu, .ref ymo])), (ys, .inl (cI, 449, .inl ms)), (yo, .inl (cI, 449, .inl ms))]) A) ([.ref h0] : List Value).toArray s 0 0 A) (F0 m 2 ls []) by
    exact loop_2 _ 0 oo _ _ _ (Nat.lt_succ_self _) (by omega) (fun j hj => absurd hj (Nat.not_lt_zero j)) hP hD hS (lv_sub hl [0, 1] rfl)
  intro n_2
  induction n_2 with
  | zero =>
    intro i o8 H locs ls hm_2
    exact absurd hm_2 (Nat.not_lt_zero _)
  | succ n_2 ih_2 =>
    intro i o8 H locs ls hm_2 hi hE hP hD hS hl
    refine lv_iload_n hx hb dX9_puts_2 rfl (lv_at hl 0 rfl) ?_
    refine lv_sipush (v := 449) hx hb dX9_puts_3 (by decide) ?_
    refine lv_icmp_ge (tgt := 27) hx hb dX9_puts_6 (by decide) (fun c_1 => ?_) (fun c_1 => ?_)
    · skip
      have nc_1 : 449 ≤ i := xn_le (a := 449) (b := i) (by omega) (by omega) c_1
      obtain ⟨hP, hD⟩ := xw_cg hP hD 2 rfl (g := ms) (x_all hE (by omega))
      have hP : va_P D vwCl [(h0, .inr (9, [.ref ys, .ref yk, .ref yo, .ref yt, .int mk0, .ref yfa, .ref yfe, .int mL, .int mS, .int mM, .ref yro, .ref yhe, .ref ygr, .int mF, .int mC, .int mY, .ref yta, .int (nI (mz)), .int (nI (mf)), .int (nI (mt)), .int mv, .int mw, .ref ywa, .ref ybi, .ref ysi, .ref ynu, .ref ymo])), (ys, .inl (cI, 449, .inl ms)), (yo, .inl (cI, 449, .inl ms))] H := hP
      have hD : va_D A [(h0, .inr (9, [.ref ys, .ref yk, .ref yo, .ref yt, .int mk0, .ref yfa, .ref yfe, .int mL, .int mS, .int mM, .ref yro, .ref yhe, .ref ygr, .int mF, .int mC, .int mY, .ref yta, .int (nI (mz)), .int (nI (mf)), .int (nI (mt)), .int mv, .int mw, .ref ywa, .ref ybi, .ref ysi, .ref ynu, .ref ymo])), (ys, .inl (cI, 449, .inl ms)), (yo, .inl (cI, 449, .inl ms))] := hD
      exact W.vret hx hb hr (fun t ht hW => ⟨⟨(), rfl, trivial, by rw [ht]; exact hP.sub [0, 1, 2] rfl, hD.sub [0, 1, 2] (by decide) rfl⟩, hS.F ht⟩) hS.2.2 dX9_puts_27 hlk
    · skip
      have nc_1 : i < 449 := xn_nle (a := 449) (b := i) (by omega) (by omega) c_1
      refine lv_aload_n hx hb dX9_puts_9 rfl (lv_at hl 1 rfl) ?_
      refine xg hF kf_X9_16 hK hP 0 rfl rfl dX9_puts_10 ?_
      refine lv_iload_n hx hb dX9_puts_13 rfl (lv_at hl 0 rfl) ?_
      refine lv_aload_n hx hb dX9_puts_14 rfl (lv_at hl 1 rfl) ?_
      refine xg hF kf_X9_7 hK hP 0 rfl rfl dX9_puts_15 ?_
      refine lv_iload_n hx hb dX9_puts_18 rfl (lv_at hl 0 rfl) ?_
      refine va_iald hx hb hK hP 1 0 rfl rfl (vp_in_nI (show i < 449 by omega) (by decide)) dX9_puts_19 ?_
      refine xl_i (y := ms i) (congrArg ms (nI_clamp (show i < 2 ^ 31 by omega))) ?_
      refine va_iast hx hb hK hP hD hS 2 0 rfl rfl (vp_in_nI (show i < 449 by omega) (by decide)) dX9_puts_20 (fun H locs hP hD hS => ?_)
      rw [nI_clamp (show i < 2 ^ 31 by omega)] at hP hD
      obtain ⟨f_2, ef_2⟩ : ∃ g, g = upd o8 i (ms i) := ⟨_, rfl⟩
      rw [← ef_2] at hP hD
      have hP : va_P D vwCl [(h0, .inr (9, [.ref ys, .ref yk, .ref yo, .ref yt, .int mk0, .ref yfa, .ref yfe, .int mL, .int mS, .int mM, .ref yro, .ref yhe, .ref ygr, .int mF, .int mC, .int mY, .ref yta, .int (nI (mz)), .int (nI (mf)), .int (nI (mt)), .int mv, .int mw, .ref ywa, .ref ybi, .ref ysi, .ref ynu, .ref ymo])), (ys, .inl (cI, 449, .inl ms)), (yo, .inl (cI, 449, .inl f_2))] H := hP
      have hD : va_D A [(h0, .inr (9, [.ref ys, .ref yk, .ref yo, .ref yt, .int mk0, .ref yfa, .ref yfe, .int mL, .int mS, .int mM, .ref yro, .ref yhe, .ref ygr, .int mF, .int mC, .int mY, .ref yta, .int (nI (mz)), .int (nI (mf)), .int (nI (mt)), .int mv, .int mw, .ref ywa, .ref ybi, .ref ysi, .ref ynu, .ref ymo])), (ys, .inl (cI, 449, .inl ms)), (yo, .inl (cI, 449, .inl f_2))] := hD
      refine lv_iinc (v := nI (i + 1)) (lv' := [(1, .int (nI (i + 1))), (0, .ref h0)]) hx hb dX9_puts_21 hl (k := 0) rfl (nI_1 (i)) (by decide) rfl (fun ls hl => ?_)
      refine lv_goto (tgt := 2) hx hb dX9_puts_24 (by decide) ?_
      exact ih_2 (i + 1) f_2 _ _ _ (by omega) (by omega) (x_cpput hE ef_2) (hP.sub [0, 1, 2] rfl) (hD.sub [0, 1, 2] (by decide) rfl) hS (lv_sub hl [0, 1] rfl)
set_option maxHeartbeats 4000000 in
set_option maxRecDepth 100000 in
theorem c_X9_putsBack (l : Launch) (D : va_G) (cI cJ cZ cS : ClassId) (ta : Nat) (sa sv : Nat → Nat) (sz : Nat) (h0 : Nat) (ys : Nat) (yk : Nat) (yo : Nat) (yt : Nat) (mk0 : Int32) (yfa : Nat) (yfe : Nat) (mL : Int32) (mS : Int32) (mM : Int32) (yro : Nat) (yhe : Nat) (ygr : Nat) (mF : Int32) (mC : Int32) (mY : Int32) (yta : Nat) (mz : Nat) (mf : Nat) (mt : Nat) (mv : Int32) (mw : Int32) (ywa : Nat) (ybi : Nat) (ysi : Nat) (ynu : Nat) (ymo : Nat) (ms : Nat → Int32) (oo : Nat → Int32) (Po : Nat) (Ro : Nat) (Wo : Nat) (foe : Nat → Int32) (fol : Nat → Int32) (fou : Nat → Int32) (foo : Nat → Int32) (forn : Nat → Int32) (forp : Nat → Int32) (fok : Nat → Int32) (fown : Nat → Int32) (fowp : Nat → Int32) (fot : Nat → Int32) (fos : Nat → Int32) (ho0 : oo 0 = nI Po) (ho1 : oo 1 = nI Ro) (ho2 : oo 2 = nI Wo) (hoS : SI oo) (hoM : MI oo) (hop : Po ≤ 10) (hor : Ro ≤ 8) (how : Wo ≤ 8) (hoR : RI Ro oo) (hoG : FR Po oo foe fol fou foo forn forp fok fown fowp fot fos) : Met l yX9_putsBack (Cond.code yX9_putsBack cX9_putsBack 2 none :: wsU) ({ frames := 0, cells := 0, slots := 0, locals := 0 }) (va_Pc [.ref h0] (XW D (xT cI cJ cZ cS) ta sa sv [(h0, .inr (9, [.ref ys, .ref yk, .ref yo, .ref yt, .int mk0, .ref yfa, .ref yfe, .int mL, .int mS, .int mM, .ref yro, .ref yhe, .ref ygr, .int mF, .int mC, .int mY, .ref yta, .int (nI (mz)), .int (nI (mf)), .int (nI (mt)), .int mv, .int mw, .ref ywa, .ref ybi, .ref ysi, .ref ynu, .ref ymo])), (ys, .inl (cI, 449, .inl ms)), (yo, .inl (cI, 449, .inl oo))] sz)) (XQv (fun (_ : Unit) => True) D (fun _ : Unit => [(h0, .inr (9, [.ref ys, .ref yk, .ref yo, .ref yt, .int mk0, .ref yfa, .ref yfe, .int mL, .int mS, .int mM, .ref yro, .ref yhe, .ref ygr, .int mF, .int mC, .int mY, .ref yta, .int (nI (mz)), .int (nI (mf)), .int (nI (mt)), .int mv, .int mw, .ref ywa, .ref ybi, .ref ysi, .ref ynu, .ref ymo])), (ys, .inl (cI, 449, .inl oo)), (yo, .inl (cI, 449, .inl oo))]) (va_A [(h0, .inr (9, [.ref ys, .ref yk, .ref yo, .ref yt, .int mk0, .ref yfa, .ref yfe, .int mL, .int mS, .int mM, .ref yro, .ref yhe, .ref ygr, .int mF, .int mC, .int mY, .ref yta, .int (nI (mz)), .int (nI (mf)), .int (nI (mt)), .int mv, .int mw, .ref ywa, .ref ybi, .ref ysi, .ref ynu, .ref ymo])), (ys, .inl (cI, 449, .inl ms)), (yo, .inl (cI, 449, .inl oo))] sz)) 0 0 (va_A [(h0, .inr (9, [.ref ys, .ref yk, .ref yo, .ref yt, .int mk0, .ref yfa, .ref yfe, .int mL, .int mS, .int mM, .ref yro, .ref yhe, .ref ygr, .int mF, .int mC, .int mY, .ref yta, .int (nI (mz)), .int (nI (mf)), .int (nI (mt)), .int mv, .int mw, .ref ywa, .ref ybi, .ref ysi, .ref ynu, .ref ymo])), (ys, .inl (cI, 449, .inl ms)), (yo, .inl (cI, 449, .inl oo))] sz) := by
  refine xh (QA := fun A => XQv (fun (_ : Unit) => True) D (fun _ : Unit => [(h0, .inr (9, [.ref ys, .ref yk, .ref yo, .ref yt, .int mk0, .ref yfa, .ref yfe, .int mL, .int mS, .int mM, .ref yro, .ref yhe, .ref ygr, .int mF, .int mC, .int mY, .ref yta, .int (nI (mz)), .int (nI (mf)), .int (nI (mt)), .int mv, .int mw, .ref ywa, .ref ybi, .ref ysi, .ref ynu, .ref ymo])), (ys, .inl (cI, 449, .inl oo)), (yo, .inl (cI, 449, .inl oo))]) A) (fr := fun A => A) (by decide) (Nat.le_of_ble_eq_true rfl) ?_
  intro p e s m below meth c ls A hF hr hlk hin hsz hP hK hD hN hZ hA hS hl
  have hF : CallFix p m c cX9_putsBack 2 s _ _ RX9 := hF
  have hx := hF.1
  have hb := hF.2.1
  have hml := hF.2.2.1
  have hown := hF.2.2.2.1
  have hu : ∀ w ∈ wsU, w.before _ s = true := fun w h => hF.2.2.2.2 w (List.mem_cons_of_mem _ h)
  have hl : lv_has ls 2 [(0, .ref h0)] := hl
  refine lv_iconst (v := 0) hx hb dX9_putsBack_0 (by decide) ?_
  refine lv_istore_n (lv' := [(1, .int 0), (0, .ref h0)]) hx hb dX9_putsBack_1 rfl hl (by decide) rfl (fun ls hl => ?_)
  suffices loop_2 : ∀ (n_2 : Nat) (i : Nat) (o8 : Nat → Int32) (H : Heap) (locs : List Loc) (ls : Array Slot), 449 - i < n_2 → (i ≤ 449) → (∀ j, j < i → o8 j = oo j) → va_P D vwCl [(h0, .inr (9, [.ref ys, .ref yk, .ref yo, .ref yt, .int mk0, .ref yfa, .ref yfe, .int mL, .int mS, .int mM, .ref yro, .ref yhe, .ref ygr, .int mF, .int mC, .int mY, .ref yta, .int (nI (mz)), .int (nI (mf)), .int (nI (mt)), .int mv, .int mw, .ref ywa, .ref ybi, .ref ysi, .ref ynu, .ref ymo])), (ys, .inl (cI, 449, .inl o8)), (yo, .inl (cI, 449, .inl oo))] H → va_D A [(h0, .inr (9, [.ref ys, .ref yk, .ref yo, .ref yt, .int mk0, .ref yfa, .ref yfe, .int mL, .int mS, .int mM, .ref yro, .ref yhe, .ref ygr, .int mF, .int mC, .int mY, .ref yta, .int (nI (mz)), .int (nI (mf)), .int (nI (mt)), .int mv, .int mw, .ref ywa, .ref ybi, .ref ysi, .ref ynu, .ref ymo])), (ys, .inl (cI, 449, .inl o8)), (yo, .inl (cI, 449, .inl oo))] → va_S A s.heap H locs → lv_has ls 2 [(1, .int (nI (i))), (0, .ref h0)] → W p l e ({ frames := 0, cells := 0, slots := 0, locals := 0 }) s m ([.ref h0] : List Value).toArray below meth c H locs 0 0 (MQ below (XQv (fun (_ : Unit) => True) D (fun _ : Unit => [(h0, .inr (9, [.ref ys, .ref yk, .ref yo, .ref yt, .int mk0, .ref yfa, .ref yfe, .int mL, .int mS, .int mM, .ref yro, .ref yhe, .ref ygr, .int mF, .int mC, .int mY, .ref yta, .int (nI (mz)), .int (nI (mf)), .int (nI (mt)), .int mv, .int mw, .ref ywa, .ref ybi, .ref ysi, .ref ynu, .ref ymo])), (ys, .inl (cI, 449, .inl oo)), (yo, .inl (cI, 449, .inl oo))]) A) ([.ref h0] : List Value).toArray s 0 0 A) (F0 m 2 ls []) by
    exact loop_2 _ 0 ms _ _ _ (Nat.lt_succ_self _) (by omega) (fun j hj => absurd hj (Nat.not_lt_zero j)) hP hD hS (lv_sub hl [0, 1] rfl)
  intro n_2
  induction n_2 with
  | zero =>
    intro i o8 H locs ls hm_2
    exact absurd hm_2 (Nat.not_lt_zero _)
  | succ n_2 ih_2 =>
    intro i o8 H locs ls hm_2 hi hE hP hD hS hl
    refine lv_iload_n hx hb dX9_putsBack_2 rfl (lv_at hl 0 rfl) ?_
    refine lv_sipush (v := 449) hx hb dX9_putsBack_3 (by decide) ?_
    refine lv_icmp_ge (tgt := 27) hx hb dX9_putsBack_6 (by decide) (fun c_1 => ?_) (fun c_1 => ?_)
    · skip
      have nc_1 : 449 ≤ i := xn_le (a := 449) (b := i) (by omega) (by omega) c_1
      obtain ⟨hP, hD⟩ := xw_cg hP hD 1 rfl (g := oo) (x_all hE (by omega))
      have hP : va_P D vwCl [(h0, .inr (9, [.ref ys, .ref yk, .ref yo, .ref yt, .int mk0, .ref yfa, .ref yfe, .int mL, .int mS, .int mM, .ref yro, .ref yhe, .ref ygr, .int mF, .int mC, .int mY, .ref yta, .int (nI (mz)), .int (nI (mf)), .int (nI (mt)), .int mv, .int mw, .ref ywa, .ref ybi, .ref ysi, .ref ynu, .ref ymo])), (ys, .inl (cI, 449, .inl oo)), (yo, .inl (cI, 449, .inl oo))] H := hP
      have hD : va_D A [(h0, .inr (9, [.ref ys, .ref yk, .ref yo, .ref yt, .int mk0, .ref yfa, .ref yfe, .int mL, .int mS, .int mM, .ref yro, .ref yhe, .ref ygr, .int mF, .int mC, .int mY, .ref yta, .int (nI (mz)), .int (nI (mf)), .int (nI (mt)), .int mv, .int mw, .ref ywa, .ref ybi, .ref ysi, .ref ynu, .ref ymo])), (ys, .inl (cI, 449, .inl oo)), (yo, .inl (cI, 449, .inl oo))] := hD
      exact W.vret hx hb hr (fun t ht hW => ⟨⟨(), rfl, trivial, by rw [ht]; exact hP.sub [0, 1, 2] rfl, hD.sub [0, 1, 2] (by decide) rfl⟩, hS.F ht⟩) hS.2.2 dX9_putsBack_27 hlk
    · skip
      have nc_1 : i < 449 := xn_nle (a := 449) (b := i) (by omega) (by omega) c_1
      refine lv_aload_n hx hb dX9_putsBack_9 rfl (lv_at hl 1 rfl) ?_
      refine xg hF kf_X9_7 hK hP 0 rfl rfl dX9_putsBack_10 ?_
      refine lv_iload_n hx hb dX9_putsBack_13 rfl (lv_at hl 0 rfl) ?_
      refine lv_aload_n hx hb dX9_putsBack_14 rfl (lv_at hl 1 rfl) ?_
      refine xg hF kf_X9_16 hK hP 0 rfl rfl dX9_putsBack_15 ?_
      refine lv_iload_n hx hb dX9_putsBack_18 rfl (lv_at hl 0 rfl) ?_
      refine va_iald hx hb hK hP 2 0 rfl rfl (vp_in_nI (show i < 449 by omega) (by decide)) dX9_putsBack_19 ?_
      refine xl_i (y := oo i) (congrArg oo (nI_clamp (show i < 2 ^ 31 by omega))) ?_
      refine va_iast hx hb hK hP hD hS 1 0 rfl rfl (vp_in_nI (show i < 449 by omega) (by decide)) dX9_putsBack_20 (fun H locs hP hD hS => ?_)
      rw [nI_clamp (show i < 2 ^ 31 by omega)] at hP hD
      obtain ⟨f_2, ef_2⟩ : ∃ g, g = upd o8 i (oo i) := ⟨_, rfl⟩
      rw [← ef_2] at hP hD
      have hP : va_P D vwCl [(h0, .inr (9, [.ref ys, .ref yk, .ref yo, .ref yt, .int mk0, .ref yfa, .ref yfe, .int mL, .int mS, .int mM, .ref yro, .ref yhe, .ref ygr, .int mF, .int mC, .int mY, .ref yta, .int (nI (mz)), .int (nI (mf)), .int (nI (mt)), .int mv, .int mw, .ref ywa, .ref ybi, .ref ysi, .ref ynu, .ref ymo])), (ys, .inl (cI, 449, .inl f_2)), (yo, .inl (cI, 449, .inl oo))] H := hP
      have hD : va_D A [(h0, .inr (9, [.ref ys, .ref yk, .ref yo, .ref yt, .int mk0, .ref yfa, .ref yfe, .int mL, .int mS, .int mM, .ref yro, .ref yhe, .ref ygr, .int mF, .int mC, .int mY, .ref yta, .int (nI (mz)), .int (nI (mf)), .int (nI (mt)), .int mv, .int mw, .ref ywa, .ref ybi, .ref ysi, .ref ynu, .ref ymo])), (ys, .inl (cI, 449, .inl f_2)), (yo, .inl (cI, 449, .inl oo))] := hD
      refine lv_iinc (v := nI (i + 1)) (lv' := [(1, .int (nI (i + 1))), (0, .ref h0)]) hx hb dX9_putsBack_21 hl (k := 0) rfl (nI_1 (i)) (by decide) rfl (fun ls hl => ?_)
      refine lv_goto (tgt := 2) hx hb dX9_putsBack_24 (by decide) ?_
      exact ih_2 (i + 1) f_2 _ _ _ (by omega) (by omega) (x_cpput hE ef_2) (hP.sub [0, 1, 2] rfl) (hD.sub [0, 1, 2] (by decide) rfl) hS (lv_sub hl [0, 1] rfl)
set_option maxHeartbeats 4000000 in
set_option maxRecDepth 100000 in
theorem c_X9_lies (l : Launch) (D : va_G) (cI cJ cZ cS : ClassId) (ta : Nat) (sa sv : Nat → Nat) (sz : Nat) (h0 : Nat) (ys : Nat) (yk : Nat) (yo : Nat) (yt : Nat) (mk0 : Int32) (yfa : Nat) (yfe : Nat) (mL : Int32) (mS : Int32) (mM : Int32) (yro : Nat) (yhe : Nat) (ygr : Nat) (mF : Int32) (mC : Int32) (mY : Int32) (yta : Nat) (mz : Nat) (mf : Nat) (mt : Nat) (mv : Int32) (mw : Int32) (ywa : Nat) (ybi : Nat) (ysi : Nat) (ynu : Nat) (ymo : Nat) (ms : Nat → Int32) (oo : Nat → Int32) (P : Nat) (Rn : Nat) (Wn : Nat) (fae : Nat → Int32) (fal : Nat → Int32) (fau : Nat → Int32) (fao : Nat → Int32) (farn : Nat → Int32) (farp : Nat → Int32) (fak : Nat → Int32) (fawn : Nat → Int32) (fawp : Nat → Int32) (fat : Nat → Int32) (fas : Nat → Int32) (hLL : LL Wn fawn) (hs0 : ms 0 = nI P) (hs1 : ms 1 = nI Rn) (hs2 : ms 2 = nI Wn) (hsS : SI ms) (hsM : MI ms) (hsp : P ≤ 10) (hsr : Rn ≤ 8) (hsw : Wn ≤ 8) (hsR : RI Rn ms) (hsG : FR P ms fae fal fau fao farn farp fak fawn fawp fat fas) : Met l yX9_lies (Cond.code yX9_lies cX9_lies 2 (some .int) :: wsU) ({ frames := 4, cells := 0, slots := 0, locals := 100 }) (va_Pc [.ref h0] (XW D (xT cI cJ cZ cS) ta sa sv [(h0, .inr (9, [.ref ys, .ref yk, .ref yo, .ref yt, .int mk0, .ref yfa, .ref yfe, .int mL, .int mS, .int mM, .ref yro, .ref yhe, .ref ygr, .int mF, .int mC, .int mY, .ref yta, .int (nI (mz)), .int (nI (mf)), .int (nI (mt)), .int mv, .int mw, .ref ywa, .ref ybi, .ref ysi, .ref ynu, .ref ymo])), (ys, .inl (cI, 449, .inl ms)), (yo, .inl (cI, 449, .inl oo))] sz)) (XQi (fun (r : Int32) (u : Int32 × Int32 × (Nat → Int32)) => match u with | (mC2, mY2, oo2) => ((r = (lrn fao fawn fawp fat fas Wn 50 0 fal fau 0).2.2.2))) D (fun (u : Int32 × Int32 × (Nat → Int32)) => match u with | (mC2, mY2, oo2) => [(h0, .inr (9, [.ref ys, .ref yk, .ref yo, .ref yt, .int mk0, .ref yfa, .ref yfe, .int mL, .int mS, .int mM, .ref yro, .ref yhe, .ref ygr, .int mF, .int mC2, .int mY2, .ref yta, .int (nI (mz)), .int (nI (mf)), .int (nI (mt)), .int mv, .int mw, .ref ywa, .ref ybi, .ref ysi, .ref ynu, .ref ymo])), (ys, .inl (cI, 449, .inl ms)), (yo, .inl (cI, 449, .inl oo2))]) (va_A [(h0, .inr (9, [.ref ys, .ref yk, .ref yo, .ref yt, .int mk0, .ref yfa, .ref yfe, .int mL, .int mS, .int mM, .ref yro, .ref yhe, .ref ygr, .int mF, .int mC, .int mY, .ref yta, .int (nI (mz)), .int (nI (mf)), .int (nI (mt)), .int mv, .int mw, .ref ywa, .ref ybi, .ref ysi, .ref ynu, .ref ymo])), (ys, .inl (cI, 449, .inl ms)), (yo, .inl (cI, 449, .inl oo))] sz)) 0 0 (va_A [(h0, .inr (9, [.ref ys, .ref yk, .ref yo, .ref yt, .int mk0, .ref yfa, .ref yfe, .int mL, .int mS, .int mM, .ref yro, .ref yhe, .ref ygr, .int mF, .int mC, .int mY, .ref yta, .int (nI (mz)), .int (nI (mf)), .int (nI (mt)), .int mv, .int mw, .ref ywa, .ref ybi, .ref ysi, .ref ynu, .ref ymo])), (ys, .inl (cI, 449, .inl ms)), (yo, .inl (cI, 449, .inl oo))] sz) := by
  refine xh (QA := fun A => XQi (fun (r : Int32) (u : Int32 × Int32 × (Nat → Int32)) => match u with | (mC2, mY2, oo2) => ((r = (lrn fao fawn fawp fat fas Wn 50 0 fal fau 0).2.2.2))) D (fun (u : Int32 × Int32 × (Nat → Int32)) => match u with | (mC2, mY2, oo2) => [(h0, .inr (9, [.ref ys, .ref yk, .ref yo, .ref yt, .int mk0, .ref yfa, .ref yfe, .int mL, .int mS, .int mM, .ref yro, .ref yhe, .ref ygr, .int mF, .int mC2, .int mY2, .ref yta, .int (nI (mz)), .int (nI (mf)), .int (nI (mt)), .int mv, .int mw, .ref ywa, .ref ybi, .ref ysi, .ref ynu, .ref ymo])), (ys, .inl (cI, 449, .inl ms)), (yo, .inl (cI, 449, .inl oo2))]) A) (fr := fun A => A) (by decide) (Nat.le_of_ble_eq_true rfl) ?_
  intro p e s m below meth c ls A hF hr hlk hin hsz hP hK hD hN hZ hA hS hl
  have hF : CallFix p m c cX9_lies 2 s _ _ RX9 := hF
  have hx := hF.1
  have hb := hF.2.1
  have hml := hF.2.2.1
  have hown := hF.2.2.2.1
  have hu : ∀ w ∈ wsU, w.before _ s = true := fun w h => hF.2.2.2.2 w (List.mem_cons_of_mem _ h)
  have hl : lv_has ls 2 [(0, .ref h0)] := hl
  refine lv_aload_n hx hb dX9_lies_0 rfl (lv_at hl 0 rfl) ?_
  refine xc_Vv (wr := []) hF (c_X9_puts l D cI cJ cZ cS ta sa sv s.heap.size h0 ys yk yo yt mk0 yfa yfe mL mS mM yro yhe ygr mF mC mY yta mz mf mt mv mw ywa ybi ysi ynu ymo ms oo P Rn Wn fae fal fau fao farn farp fak fawn fawp fat fas hs0 hs1 hs2 hsS hsM hsp hsr hsw hsR hsG) kv_X9_217 ⟨rfl, rfl, Nat.le_of_ble_eq_true rfl, Nat.le_of_ble_eq_true rfl⟩ ⟨Nat.le_of_ble_eq_true rfl, Nat.le_of_ble_eq_true rfl⟩ hK hN hZ hP hD hS hA [0, 1, 2] [] rfl rfl rfl rfl (by decide) 0 rfl rfl rfl rfl hl.1 rfl (Nat.le_of_ble_eq_true rfl) dX9_lies_1 (fun u_r_1 H locs hw_r_1 hP hD hS => ?_)
  have hP : va_P D vwCl [(h0, .inr (9, [.ref ys, .ref yk, .ref yo, .ref yt, .int mk0, .ref yfa, .ref yfe, .int mL, .int mS, .int mM, .ref yro, .ref yhe, .ref ygr, .int mF, .int mC, .int mY, .ref yta, .int (nI (mz)), .int (nI (mf)), .int (nI (mt)), .int mv, .int mw, .ref ywa, .ref ybi, .ref ysi, .ref ynu, .ref ymo])), (ys, .inl (cI, 449, .inl ms)), (yo, .inl (cI, 449, .inl ms))] H := hP
  have hD : va_D A [(h0, .inr (9, [.ref ys, .ref yk, .ref yo, .ref yt, .int mk0, .ref yfa, .ref yfe, .int mL, .int mS, .int mM, .ref yro, .ref yhe, .ref ygr, .int mF, .int mC, .int mY, .ref yta, .int (nI (mz)), .int (nI (mf)), .int (nI (mt)), .int mv, .int mw, .ref ywa, .ref ybi, .ref ysi, .ref ynu, .ref ymo])), (ys, .inl (cI, 449, .inl ms)), (yo, .inl (cI, 449, .inl ms))] := hD
  refine lv_aload_n hx hb dX9_lies_4 rfl (lv_at hl 0 rfl) ?_
  refine xc_Vi (wr := [(yo, .inl (cI, 449, .inl ms))]) hF (c_X9_learning l D cI cJ cZ cS ta sa sv H.size h0 ys yk yo yt mk0 yfa yfe mL mS mM yro yhe ygr mF mC mY yta mz mf mt mv mw ywa ybi ysi ynu ymo ms P Rn Wn fae fal fau fao farn farp fak fawn fawp fat fas (by omega) hs0 hs1 hs2 hsS hsM hsp hsr hsw hsR hsG) kv_X9_214 ⟨rfl, rfl, Nat.le_of_ble_eq_true rfl, Nat.le_of_ble_eq_true rfl⟩ ⟨Nat.le_of_ble_eq_true rfl, Nat.le_of_ble_eq_true rfl⟩ hK hN hZ hP hD hS hA [0, 1] [2] rfl rfl rfl rfl (by decide) 0 rfl rfl rfl rfl hl.1 rfl (Nat.le_of_ble_eq_true rfl) dX9_lies_5 (fun r_2 u_r_2 H locs hw_r_2 hP hD hS => ?_)
  obtain ⟨mC2_3, mY2_4, ms2_5, gl_6, gu_7⟩ := u_r_2
  try dsimp only at hw_r_2
  obtain ⟨hw_r_2, i_8, i_9, i_10, i_11, i_12, i_13, i_14, i_15, i_16, i_17, i_18, i_19, i_20⟩ := hw_r_2
  have hP : va_P D vwCl [(yo, .inl (cI, 449, .inl ms)), (h0, .inr (9, [.ref ys, .ref yk, .ref yo, .ref yt, .int mk0, .ref yfa, .ref yfe, .int mL, .int mS, .int mM, .ref yro, .ref yhe, .ref ygr, .int mF, .int mC2_3, .int mY2_4, .ref yta, .int (nI (mz)), .int (nI (mf)), .int (nI (mt)), .int mv, .int mw, .ref ywa, .ref ybi, .ref ysi, .ref ynu, .ref ymo])), (ys, .inl (cI, 449, .inl ms2_5))] H := hP
  have hD : va_D A [(yo, .inl (cI, 449, .inl ms)), (h0, .inr (9, [.ref ys, .ref yk, .ref yo, .ref yt, .int mk0, .ref yfa, .ref yfe, .int mL, .int mS, .int mM, .ref yro, .ref yhe, .ref ygr, .int mF, .int mC2_3, .int mY2_4, .ref yta, .int (nI (mz)), .int (nI (mf)), .int (nI (mt)), .int mv, .int mw, .ref ywa, .ref ybi, .ref ysi, .ref ynu, .ref ymo])), (ys, .inl (cI, 449, .inl ms2_5))] := hD
  subst hw_r_2
  refine lv_istore_n (lv' := [(1, .int (nI ((lrn fao fawn fawp fat fas Wn 50 0 fal fau 0).1))), (0, .ref h0)]) hx hb dX9_lies_8 rfl hl (by decide) rfl (fun ls hl => ?_)
  refine lv_aload_n hx hb dX9_lies_9 rfl (lv_at hl 1 rfl) ?_
  refine xc_Vv (wr := []) hF (c_X9_putsBack l D cI cJ cZ cS ta sa sv H.size h0 ys yk yo yt mk0 yfa yfe mL mS mM yro yhe ygr mF mC2_3 mY2_4 yta mz mf mt mv mw ywa ybi ysi ynu ymo ms2_5 ms P Rn Wn fae fal fau fao farn farp fak fawn fawp fat fas hs0 hs1 hs2 hsS hsM hsp hsr hsw hsR hsG) kv_X9_220 ⟨rfl, rfl, Nat.le_of_ble_eq_true rfl, Nat.le_of_ble_eq_true rfl⟩ ⟨Nat.le_of_ble_eq_true rfl, Nat.le_of_ble_eq_true rfl⟩ hK hN hZ hP hD hS hA [1, 2, 0] [] rfl rfl rfl rfl (by decide) 0 rfl rfl rfl rfl hl.1 rfl (Nat.le_of_ble_eq_true rfl) dX9_lies_10 (fun u_r_21 H locs hw_r_21 hP hD hS => ?_)
  have hP : va_P D vwCl [(h0, .inr (9, [.ref ys, .ref yk, .ref yo, .ref yt, .int mk0, .ref yfa, .ref yfe, .int mL, .int mS, .int mM, .ref yro, .ref yhe, .ref ygr, .int mF, .int mC2_3, .int mY2_4, .ref yta, .int (nI (mz)), .int (nI (mf)), .int (nI (mt)), .int mv, .int mw, .ref ywa, .ref ybi, .ref ysi, .ref ynu, .ref ymo])), (ys, .inl (cI, 449, .inl ms)), (yo, .inl (cI, 449, .inl ms))] H := hP
  have hD : va_D A [(h0, .inr (9, [.ref ys, .ref yk, .ref yo, .ref yt, .int mk0, .ref yfa, .ref yfe, .int mL, .int mS, .int mM, .ref yro, .ref yhe, .ref ygr, .int mF, .int mC2_3, .int mY2_4, .ref yta, .int (nI (mz)), .int (nI (mf)), .int (nI (mt)), .int mv, .int mw, .ref ywa, .ref ybi, .ref ysi, .ref ynu, .ref ymo])), (ys, .inl (cI, 449, .inl ms)), (yo, .inl (cI, 449, .inl ms))] := hD
  refine lv_aload_n hx hb dX9_lies_13 rfl (lv_at hl 1 rfl) ?_
  refine xg hF kf_X9_208 hK hP 0 rfl rfl dX9_lies_14 ?_
  exact W.iret (v := mY2_4) hx hb hr (fun t ht hW => ⟨⟨mY2_4, (mC2_3, mY2_4, ms), rfl, (by assumption), by rw [ht]; exact hP.sub [0, 1, 2] rfl, hD.sub [0, 1, 2] (by decide) rfl⟩, hS.F ht⟩) hS.2.2 dX9_lies_17 hlk
set_option maxHeartbeats 4000000 in
set_option maxRecDepth 100000 in
theorem c_X9_between (l : Launch) (D : va_G) (cI cJ cZ cS : ClassId) (ta : Nat) (sa sv : Nat → Nat) (sz : Nat) (h0 : Nat) (ys : Nat) (yk : Nat) (yo : Nat) (yt : Nat) (mk0 : Int32) (yfa : Nat) (yfe : Nat) (mL : Int32) (mS : Int32) (mM : Int32) (yro : Nat) (yhe : Nat) (ygr : Nat) (mF : Int32) (mC : Int32) (mY : Int32) (yta : Nat) (mz : Nat) (mf : Nat) (mt : Nat) (mv : Int32) (mw : Int32) (ywa : Nat) (ybi : Nat) (ysi : Nat) (ynu : Nat) (ymo : Nat) (ms : Nat → Int32) (P : Nat) (Rn : Nat) (Wn : Nat) (fae : Nat → Int32) (fal : Nat → Int32) (fau : Nat → Int32) (fao : Nat → Int32) (farn : Nat → Int32) (farp : Nat → Int32) (fak : Nat → Int32) (fawn : Nat → Int32) (fawp : Nat → Int32) (fat : Nat → Int32) (fas : Nat → Int32) (k : Nat) (hk : k < 100) (hs0 : ms 0 = nI P) (hs1 : ms 1 = nI Rn) (hs2 : ms 2 = nI Wn) (hsS : SI ms) (hsM : MI ms) (hsp : P ≤ 10) (hsr : Rn ≤ 8) (hsw : Wn ≤ 8) (hsR : RI Rn ms) (hsG : FR P ms fae fal fau fao farn farp fak fawn fawp fat fas) : Met l yX9_between (Cond.code yX9_between cX9_between 2 (some .int) :: wsU) ({ frames := 0, cells := 0, slots := 0, locals := 0 }) (va_Pc [.ref h0, .int (nI (k))] (XW D (xT cI cJ cZ cS) ta sa sv [(h0, .inr (9, [.ref ys, .ref yk, .ref yo, .ref yt, .int mk0, .ref yfa, .ref yfe, .int mL, .int mS, .int mM, .ref yro, .ref yhe, .ref ygr, .int mF, .int mC, .int mY, .ref yta, .int (nI (mz)), .int (nI (mf)), .int (nI (mt)), .int mv, .int mw, .ref ywa, .ref ybi, .ref ysi, .ref ynu, .ref ymo])), (ys, .inl (cI, 449, .inl ms))] sz)) (vp_Si (fun r : Int32 => True)) 0 0 (fun _ => False) := by
  refine xh (QA := fun _ => vp_Si (fun r : Int32 => True)) (fr := fun _ _ => False) (by decide) (Nat.le_of_ble_eq_true rfl) ?_
  intro p e s m below meth c ls A hF hr hlk hin hsz hP hK hD hN hZ hA hS hl
  have hF : CallFix p m c cX9_between 2 s _ _ RX9 := hF
  have hx := hF.1
  have hb := hF.2.1
  have hml := hF.2.2.1
  have hown := hF.2.2.2.1
  have hu : ∀ w ∈ wsU, w.before _ s = true := fun w h => hF.2.2.2.2 w (List.mem_cons_of_mem _ h)
  have hl : lv_has ls 2 [(0, .ref h0), (1, .int (nI (k)))] := hl
  refine lv_aload_n hx hb dX9_between_0 rfl (lv_at hl 0 rfl) ?_
  refine xg hF kf_X9_7 hK hP 0 rfl rfl dX9_between_1 ?_
  refine lv_sipush (v := 213) hx hb dX9_between_4 (by decide) ?_
  refine lv_iload_n hx hb dX9_between_7 rfl (lv_at hl 1 rfl) ?_
  refine lv_iadd hx hb dX9_between_8 ?_
  refine xl_i (y := nI (213 + k)) (nI_add 213 k) ?_
  refine va_iald hx hb hK hP 1 0 rfl rfl (vp_in_nI (show 213 + k < 449 by omega) (by decide)) dX9_between_9 ?_
  refine xl_i (y := ms (213 + k)) (congrArg ms (nI_clamp (show 213 + k < 2 ^ 31 by omega))) ?_
  refine lv_if_le (tgt := 35) hx hb dX9_between_10 (by decide) (fun c_1 => ?_) (fun c_1 => ?_)
  · skip
    refine lv_iconst (v := (-1)) hx hb dX9_between_35 (by decide) ?_
    exact W.iret (v := (-1)) hx hb hr (fun t ht hW => ⟨(-1), rfl, trivial, ht⟩) (fun q h => by cases h) dX9_between_36 hlk
  · skip
    refine lv_aload_n hx hb dX9_between_13 rfl (lv_at hl 0 rfl) ?_
    refine xg hF kf_X9_7 hK hP 0 rfl rfl dX9_between_14 ?_
    refine lv_bipush (v := 113) hx hb dX9_between_17 (by decide) ?_
    refine lv_iload_n hx hb dX9_between_19 rfl (lv_at hl 1 rfl) ?_
    refine lv_iadd hx hb dX9_between_20 ?_
    refine xl_i (y := nI (113 + k)) (nI_add 113 k) ?_
    refine va_iald hx hb hK hP 1 0 rfl rfl (vp_in_nI (show 113 + k < 449 by omega) (by decide)) dX9_between_21 ?_
    refine xl_i (y := ms (113 + k)) (congrArg ms (nI_clamp (show 113 + k < 2 ^ 31 by omega))) ?_
    refine lv_aload_n hx hb dX9_between_22 rfl (lv_at hl 0 rfl) ?_
    refine xg hF kf_X9_7 hK hP 0 rfl rfl dX9_between_23 ?_
    refine lv_bipush (v := 13) hx hb dX9_between_26 (by decide) ?_
    refine lv_iload_n hx hb dX9_between_28 rfl (lv_at hl 1 rfl) ?_
    refine lv_iadd hx hb dX9_between_29 ?_
    refine xl_i (y := nI (13 + k)) (nI_add 13 k) ?_
    refine va_iald hx hb hK hP 1 0 rfl rfl (vp_in_nI (show 13 + k < 449 by omega) (by decide)) dX9_between_30 ?_
    refine xl_i (y := ms (13 + k)) (congrArg ms (nI_clamp (show 13 + k < 2 ^ 31 by omega))) ?_
    refine lv_isub hx hb dX9_between_31 ?_
    refine lv_topi (fun x_2 ex_2 => ?_)
    refine lv_goto (tgt := 36) hx hb dX9_between_32 (by decide) ?_
    exact W.iret (v := x_2) hx hb hr (fun t ht hW => ⟨x_2, rfl, trivial, ht⟩) (fun q h => by cases h) dX9_between_36 hlk
set_option maxHeartbeats 4000000 in
set_option maxRecDepth 100000 in
theorem c_X9_known (l : Launch) (D : va_G) (cI cJ cZ cS : ClassId) (ta : Nat) (sa sv : Nat → Nat) (sz : Nat) (h0 : Nat) (ys : Nat) (yk : Nat) (yo : Nat) (yt : Nat) (mk0 : Int32) (yfa : Nat) (yfe : Nat) (mL : Int32) (mS : Int32) (mM : Int32) (yro : Nat) (yhe : Nat) (ygr : Nat) (mF : Int32) (mC : Int32) (mY : Int32) (yta : Nat) (mz : Nat) (mf : Nat) (mt : Nat) (mv : Int32) (mw : Int32) (ywa : Nat) (ybi : Nat) (ysi : Nat) (ynu : Nat) (ymo : Nat) (ms : Nat → Int32) (mq : Nat → Int32) (P : Nat) (Rn : Nat) (Wn : Nat) (fae : Nat → Int32) (fal : Nat → Int32) (fau : Nat → Int32) (fao : Nat → Int32) (farn : Nat → Int32) (farp : Nat → Int32) (fak : Nat → Int32) (fawn : Nat → Int32) (fawp : Nat → Int32) (fat : Nat → Int32) (fas : Nat → Int32) (p0 : Int32) (hs0 : ms 0 = nI P) (hs1 : ms 1 = nI Rn) (hs2 : ms 2 = nI Wn) (hsS : SI ms) (hsM : MI ms) (hsp : P ≤ 10) (hsr : Rn ≤ 8) (hsw : Wn ≤ 8) (hsR : RI Rn ms) (hsG : FR P ms fae fal fau fao farn farp fak fawn fawp fat fas) : Met l yX9_known (Cond.code yX9_known cX9_known 7 (some .int) :: wsU) ({ frames := 1, cells := 0, slots := 0, locals := 25 }) (va_Pc [.ref h0, .int p0] (XW D (xT cI cJ cZ cS) ta sa sv [(h0, .inr (9, [.ref ys, .ref yk, .ref yo, .ref yt, .int mk0, .ref yfa, .ref yfe, .int mL, .int mS, .int mM, .ref yro, .ref yhe, .ref ygr, .int mF, .int mC, .int mY, .ref yta, .int (nI (mz)), .int (nI (mf)), .int (nI (mt)), .int mv, .int mw, .ref ywa, .ref ybi, .ref ysi, .ref ynu, .ref ymo])), (ys, .inl (cI, 449, .inl ms)), (yt, .inl (cI, 7, .inl mq))] sz)) (XQi (fun (r : Int32) (mq2 : (Nat → Int32)) => (True)) D (fun (mq2 : Nat → Int32) => [(h0, .inr (9, [.ref ys, .ref yk, .ref yo, .ref yt, .int mk0, .ref yfa, .ref yfe, .int mL, .int mS, .int mM, .ref yro, .ref yhe, .ref ygr, .int mF, .int mC, .int mY, .ref yta, .int (nI (mz)), .int (nI (mf)), .int (nI (mt)), .int mv, .int mw, .ref ywa, .ref ybi, .ref ysi, .ref ynu, .ref ymo])), (ys, .inl (cI, 449, .inl ms)), (yt, .inl (cI, 7, .inl mq2))]) (va_A [(h0, .inr (9, [.ref ys, .ref yk, .ref yo, .ref yt, .int mk0, .ref yfa, .ref yfe, .int mL, .int mS, .int mM, .ref yro, .ref yhe, .ref ygr, .int mF, .int mC, .int mY, .ref yta, .int (nI (mz)), .int (nI (mf)), .int (nI (mt)), .int mv, .int mw, .ref ywa, .ref ybi, .ref ysi, .ref ynu, .ref ymo])), (ys, .inl (cI, 449, .inl ms)), (yt, .inl (cI, 7, .inl mq))] sz)) 0 0 (va_A [(h0, .inr (9, [.ref ys, .ref yk, .ref yo, .ref yt, .int mk0, .ref yfa, .ref yfe, .int mL, .int mS, .int mM, .ref yro, .ref yhe, .ref ygr, .int mF, .int mC, .int mY, .ref yta, .int (nI (mz)), .int (nI (mf)), .int (nI (mt)), .int mv, .int mw, .ref ywa, .ref ybi, .ref ysi, .ref ynu, .ref ymo])), (ys, .inl (cI, 449, .inl ms)), (yt, .inl (cI, 7, .inl mq))] sz) := by
  refine xh (QA := fun A => XQi (fun (r : Int32) (mq2 : (Nat → Int32)) => (True)) D (fun (mq2 : Nat → Int32) => [(h0, .inr (9, [.ref ys, .ref yk, .ref yo, .ref yt, .int mk0, .ref yfa, .ref yfe, .int mL, .int mS, .int mM, .ref yro, .ref yhe, .ref ygr, .int mF, .int mC, .int mY, .ref yta, .int (nI (mz)), .int (nI (mf)), .int (nI (mt)), .int mv, .int mw, .ref ywa, .ref ybi, .ref ysi, .ref ynu, .ref ymo])), (ys, .inl (cI, 449, .inl ms)), (yt, .inl (cI, 7, .inl mq2))]) A) (fr := fun A => A) (by decide) (Nat.le_of_ble_eq_true rfl) ?_
  intro p e s m below meth c ls A hF hr hlk hin hsz hP hK hD hN hZ hA hS hl
  have hF : CallFix p m c cX9_known 7 s _ _ RX9 := hF
  have hx := hF.1
  have hb := hF.2.1
  have hml := hF.2.2.1
  have hown := hF.2.2.2.1
  have hu : ∀ w ∈ wsU, w.before _ s = true := fun w h => hF.2.2.2.2 w (List.mem_cons_of_mem _ h)
  have hl : lv_has ls 7 [(0, .ref h0), (1, .int p0)] := hl
  refine lv_iload_n hx hb dX9_known_0 rfl (lv_at hl 1 rfl) ?_
  refine lv_i2l (v := p0.toInt64) hx hb dX9_known_1 rfl ?_
  refine lv_lconst (v := 0) hx hb dX9_known_2 (by decide) ?_
  refine xl_l (y := (0 : Int32).toInt64) (by decide) ?_
  refine lv_ldc2 (v := 2) hx hb hown (hu _ uw694) dX9_known_3 ?_
  refine xl_l (y := (2 : Int32).toInt64) (by decide) ?_
  refine xc_Sr hF (c_X9_in l D cI cJ cZ cS ta sa sv s.heap.size p0 0 2 ) ks_X9_57 ⟨rfl, rfl, Nat.le_of_ble_eq_true rfl, Nat.le_of_ble_eq_true rfl⟩ ⟨Nat.le_of_ble_eq_true rfl, Nat.le_of_ble_eq_true rfl⟩ hK hN hZ hP hD hS hA [] rfl rfl rfl hl.1 rfl (Nat.le_of_ble_eq_true rfl) dX9_known_6 (fun r_1 hw_r_1 => ?_)
  rcases hw_r_1 with ⟨rfl, h_2, h_3⟩ | ⟨rfl, h_4⟩
  · skip
    refine lv_if_ne (tgt := 19) hx hb dX9_known_9 (by decide) (fun c_5 => ?_) (fun c_5 => absurd c_5 (by decide))
    refine lv_iconst (v := 0) hx hb dX9_known_19 (by decide) ?_
    refine lv_istore_n (lv' := [(2, .int 0), (0, .ref h0), (1, .int p0)]) hx hb dX9_known_20 rfl hl (by decide) rfl (fun ls hl => ?_)
    refine lv_iconst (v := 0) hx hb dX9_known_21 (by decide) ?_
    refine lv_istore_n (lv' := [(3, .int 0), (2, .int 0), (0, .ref h0), (1, .int p0)]) hx hb dX9_known_22 rfl hl (by decide) rfl (fun ls hl => ?_)
    refine lv_iconst (v := 0) hx hb dX9_known_23 (by decide) ?_
    refine lv_istore (lv' := [(4, .int 0), (3, .int 0), (2, .int 0), (0, .ref h0), (1, .int p0)]) hx hb dX9_known_24 hl (by decide) rfl (fun ls hl => ?_)
    refine lv_iconst (v := 0) hx hb dX9_known_26 (by decide) ?_
    refine lv_istore (lv' := [(5, .int 0), (4, .int 0), (3, .int 0), (2, .int 0), (0, .ref h0), (1, .int p0)]) hx hb dX9_known_27 hl (by decide) rfl (fun ls hl => ?_)
    suffices loop_29 : ∀ (n_29 : Nat) (i : Nat) (u1 : Int32) (u2 : Int32) (u3 : Int32) (H : Heap) (locs : List Loc) (ls : Array Slot), 100 - i < n_29 → (i ≤ 100) → va_P D vwCl [(h0, .inr (9, [.ref ys, .ref yk, .ref yo, .ref yt, .int mk0, .ref yfa, .ref yfe, .int mL, .int mS, .int mM, .ref yro, .ref yhe, .ref ygr, .int mF, .int mC, .int mY, .ref yta, .int (nI (mz)), .int (nI (mf)), .int (nI (mt)), .int mv, .int mw, .ref ywa, .ref ybi, .ref ysi, .ref ynu, .ref ymo])), (ys, .inl (cI, 449, .inl ms)), (yt, .inl (cI, 7, .inl mq))] H → va_D A [(h0, .inr (9, [.ref ys, .ref yk, .ref yo, .ref yt, .int mk0, .ref yfa, .ref yfe, .int mL, .int mS, .int mM, .ref yro, .ref yhe, .ref ygr, .int mF, .int mC, .int mY, .ref yta, .int (nI (mz)), .int (nI (mf)), .int (nI (mt)), .int mv, .int mw, .ref ywa, .ref ybi, .ref ysi, .ref ynu, .ref ymo])), (ys, .inl (cI, 449, .inl ms)), (yt, .inl (cI, 7, .inl mq))] → va_S A s.heap H locs → lv_has ls 7 [(5, .int (nI (i))), (4, .int u3), (3, .int u2), (2, .int u1), (0, .ref h0), (1, .int p0)] → W p l e ({ frames := 1, cells := 0, slots := 0, locals := 25 }) s m ([.ref h0, .int p0] : List Value).toArray below meth c H locs 0 0 (MQ below (XQi (fun (r : Int32) (mq2 : (Nat → Int32)) => (True)) D (fun (mq2 : Nat → Int32) => [(h0, .inr (9, [.ref ys, .ref yk, .ref yo, .ref yt, .int mk0, .ref yfa, .ref yfe, .int mL, .int mS, .int mM, .ref yro, .ref yhe, .ref ygr, .int mF, .int mC, .int mY, .ref yta, .int (nI (mz)), .int (nI (mf)), .int (nI (mt)), .int mv, .int mw, .ref ywa, .ref ybi, .ref ysi, .ref ynu, .ref ymo])), (ys, .inl (cI, 449, .inl ms)), (yt, .inl (cI, 7, .inl mq2))]) A) ([.ref h0, .int p0] : List Value).toArray s 0 0 A) (F0 m 29 ls []) by
      exact loop_29 _ 0 0 0 0 _ _ _ (Nat.lt_succ_self _) (by omega) hP hD hS (lv_sub hl [0, 1, 2, 3, 4, 5] rfl)
    intro n_29
    induction n_29 with
    | zero =>
      intro i u1 u2 u3 H locs ls hm_29
      exact absurd hm_29 (Nat.not_lt_zero _)
    | succ n_29 ih_29 =>
      intro i u1 u2 u3 H locs ls hm_29 hi hP hD hS hl
      refine lv_iload hx hb dX9_known_29 (lv_at hl 0 rfl) ?_
      refine lv_bipush (v := 100) hx hb dX9_known_31 (by decide) ?_
      refine lv_icmp_ge (tgt := 92) hx hb dX9_known_33 (by decide) (fun c_6 => ?_) (fun c_6 => ?_)
      · skip
        have nc_6 : 100 ≤ i := xn_le (a := 100) (b := i) (by omega) (by omega) c_6
        refine lv_iload_n hx hb dX9_known_92 rfl (lv_at hl 5 rfl) ?_
        refine lv_if_ne (tgt := 100) hx hb dX9_known_93 (by decide) (fun c_7 => ?_) (fun c_7 => ?_)
        · skip
          refine lv_iload_n hx hb dX9_known_100 rfl (lv_at hl 5 rfl) ?_
          refine lv_iconst (v := 1) hx hb dX9_known_101 (by decide) ?_
          refine lv_icmp_ne (tgt := 109) hx hb dX9_known_102 (by decide) (fun c_8 => ?_) (fun c_8 => ?_)
          · skip
            refine lv_iload hx hb dX9_known_109 (lv_at hl 1 rfl) ?_
            exact W.iret (v := u3) hx hb hr (fun t ht hW => ⟨⟨u3, mq, rfl, trivial, by rw [ht]; exact hP.sub [0, 1, 2] rfl, hD.sub [0, 1, 2] (by decide) rfl⟩, hS.F ht⟩) hS.2.2 dX9_known_111 hlk
          · skip
            refine lv_iload_n hx hb dX9_known_105 rfl (lv_at hl 2 rfl) ?_
            refine lv_goto (tgt := 111) hx hb dX9_known_106 (by decide) ?_
            exact W.iret (v := u2) hx hb hr (fun t ht hW => ⟨⟨u2, mq, rfl, trivial, by rw [ht]; exact hP.sub [0, 1, 2] rfl, hD.sub [0, 1, 2] (by decide) rfl⟩, hS.F ht⟩) hS.2.2 dX9_known_111 hlk
        · skip
          refine lv_iload_n hx hb dX9_known_96 rfl (lv_at hl 3 rfl) ?_
          refine lv_goto (tgt := 111) hx hb dX9_known_97 (by decide) ?_
          exact W.iret (v := u1) hx hb hr (fun t ht hW => ⟨⟨u1, mq, rfl, trivial, by rw [ht]; exact hP.sub [0, 1, 2] rfl, hD.sub [0, 1, 2] (by decide) rfl⟩, hS.F ht⟩) hS.2.2 dX9_known_111 hlk
      · skip
        have nc_6 : i < 100 := xn_nle (a := 100) (b := i) (by omega) (by omega) c_6
        refine lv_aload_n hx hb dX9_known_36 rfl (lv_at hl 4 rfl) ?_
        refine lv_iload hx hb dX9_known_37 (lv_at hl 0 rfl) ?_
        refine xc_Vr hF (c_X9_between l D cI cJ cZ cS ta sa sv H.size h0 ys yk yo yt mk0 yfa yfe mL mS mM yro yhe ygr mF mC mY yta mz mf mt mv mw ywa ybi ysi ynu ymo ms P Rn Wn fae fal fau fao farn farp fak fawn fawp fat fas i (by omega) hs0 hs1 hs2 hsS hsM hsp hsr hsw hsR hsG) kv_X9_223 ⟨rfl, rfl, Nat.le_of_ble_eq_true rfl, Nat.le_of_ble_eq_true rfl⟩ ⟨Nat.le_of_ble_eq_true rfl, Nat.le_of_ble_eq_true rfl⟩ hK hN hZ hP hD hS hA [0, 1] rfl rfl 0 rfl rfl rfl rfl hl.1 rfl (Nat.le_of_ble_eq_true rfl) dX9_known_39 (fun r_9 hw_r_9 => ?_)
        refine lv_istore (lv' := [(6, .int r_9), (5, .int (nI (i))), (4, .int u3), (3, .int u2), (2, .int u1), (0, .ref h0), (1, .int p0)]) hx hb dX9_known_42 hl (by decide) rfl (fun ls hl => ?_)
        refine lv_iload_n hx hb dX9_known_44 rfl (lv_at hl 4 rfl) ?_
        refine lv_iload hx hb dX9_known_45 (lv_at hl 0 rfl) ?_
        refine lv_if_ge (tgt := 54) hx hb dX9_known_47 (by decide) (fun c_10 => ?_) (fun c_10 => ?_)
        · skip
          refine lv_iconst (v := 1) hx hb dX9_known_54 (by decide) ?_
          refine lv_iadd hx hb dX9_known_55 ?_
          refine lv_topi (fun x_11 ex_11 => ?_)
          refine lv_istore_n (lv' := [(2, .int x_11), (6, .int r_9), (5, .int (nI (i))), (4, .int u3), (3, .int u2), (0, .ref h0), (1, .int p0)]) hx hb dX9_known_56 rfl hl (by decide) rfl (fun ls hl => ?_)
          refine lv_iload_n hx hb dX9_known_57 rfl (lv_at hl 4 rfl) ?_
          refine lv_iload hx hb dX9_known_58 (lv_at hl 1 rfl) ?_
          refine lv_if_le (tgt := 67) hx hb dX9_known_60 (by decide) (fun c_12 => ?_) (fun c_12 => ?_)
          · skip
            refine lv_iconst (v := 0) hx hb dX9_known_67 (by decide) ?_
            refine lv_iadd hx hb dX9_known_68 ?_
            refine lv_topi (fun x_13 ex_13 => ?_)
            refine lv_istore_n (lv' := [(3, .int x_13), (2, .int x_11), (6, .int r_9), (5, .int (nI (i))), (4, .int u3), (0, .ref h0), (1, .int p0)]) hx hb dX9_known_69 rfl hl (by decide) rfl (fun ls hl => ?_)
            refine lv_iload hx hb dX9_known_70 (lv_at hl 4 rfl) ?_
            refine lv_iload hx hb dX9_known_72 (lv_at hl 2 rfl) ?_
            refine lv_if_le (tgt := 82) hx hb dX9_known_74 (by decide) (fun c_14 => ?_) (fun c_14 => ?_)
            · skip
              refine lv_iconst (v := 0) hx hb dX9_known_82 (by decide) ?_
              refine lv_iadd hx hb dX9_known_83 ?_
              refine lv_topi (fun x_15 ex_15 => ?_)
              refine lv_istore (lv' := [(4, .int x_15), (3, .int x_13), (2, .int x_11), (6, .int r_9), (5, .int (nI (i))), (0, .ref h0), (1, .int p0)]) hx hb dX9_known_84 hl (by decide) rfl (fun ls hl => ?_)
              refine lv_iinc (v := nI (i + 1)) (lv' := [(5, .int (nI (i + 1))), (4, .int x_15), (3, .int x_13), (2, .int x_11), (6, .int r_9), (0, .ref h0), (1, .int p0)]) hx hb dX9_known_86 hl (k := 4) rfl (nI_1 (i)) (by decide) rfl (fun ls hl => ?_)
              refine lv_goto (tgt := 29) hx hb dX9_known_89 (by decide) ?_
              exact ih_29 (i + 1) x_11 x_13 x_15 _ _ _ (by omega) (by omega) (hP.sub [0, 1, 2] rfl) (hD.sub [0, 1, 2] (by decide) rfl) hS (lv_sub hl [0, 1, 2, 3, 5, 6] rfl)
            · skip
              refine lv_iload hx hb dX9_known_77 (lv_at hl 2 rfl) ?_
              refine lv_goto (tgt := 83) hx hb dX9_known_79 (by decide) ?_
              refine lv_iadd hx hb dX9_known_83 ?_
              refine lv_topi (fun x_16 ex_16 => ?_)
              refine lv_istore (lv' := [(4, .int x_16), (3, .int x_13), (2, .int x_11), (6, .int r_9), (5, .int (nI (i))), (0, .ref h0), (1, .int p0)]) hx hb dX9_known_84 hl (by decide) rfl (fun ls hl => ?_)
              refine lv_iinc (v := nI (i + 1)) (lv' := [(5, .int (nI (i + 1))), (4, .int x_16), (3, .int x_13), (2, .int x_11), (6, .int r_9), (0, .ref h0), (1, .int p0)]) hx hb dX9_known_86 hl (k := 4) rfl (nI_1 (i)) (by decide) rfl (fun ls hl => ?_)
              refine lv_goto (tgt := 29) hx hb dX9_known_89 (by decide) ?_
              exact ih_29 (i + 1) x_11 x_13 x_16 _ _ _ (by omega) (by omega) (hP.sub [0, 1, 2] rfl) (hD.sub [0, 1, 2] (by decide) rfl) hS (lv_sub hl [0, 1, 2, 3, 5, 6] rfl)
          · skip
            refine lv_iconst (v := 1) hx hb dX9_known_63 (by decide) ?_
            refine lv_goto (tgt := 68) hx hb dX9_known_64 (by decide) ?_
            refine lv_iadd hx hb dX9_known_68 ?_
            refine lv_topi (fun x_17 ex_17 => ?_)
            refine lv_istore_n (lv' := [(3, .int x_17), (2, .int x_11), (6, .int r_9), (5, .int (nI (i))), (4, .int u3), (0, .ref h0), (1, .int p0)]) hx hb dX9_known_69 rfl hl (by decide) rfl (fun ls hl => ?_)
            refine lv_iload hx hb dX9_known_70 (lv_at hl 4 rfl) ?_
            refine lv_iload hx hb dX9_known_72 (lv_at hl 2 rfl) ?_
            refine lv_if_le (tgt := 82) hx hb dX9_known_74 (by decide) (fun c_18 => ?_) (fun c_18 => ?_)
            · skip
              refine lv_iconst (v := 0) hx hb dX9_known_82 (by decide) ?_
              refine lv_iadd hx hb dX9_known_83 ?_
              refine lv_topi (fun x_19 ex_19 => ?_)
              refine lv_istore (lv' := [(4, .int x_19), (3, .int x_17), (2, .int x_11), (6, .int r_9), (5, .int (nI (i))), (0, .ref h0), (1, .int p0)]) hx hb dX9_known_84 hl (by decide) rfl (fun ls hl => ?_)
              refine lv_iinc (v := nI (i + 1)) (lv' := [(5, .int (nI (i + 1))), (4, .int x_19), (3, .int x_17), (2, .int x_11), (6, .int r_9), (0, .ref h0), (1, .int p0)]) hx hb dX9_known_86 hl (k := 4) rfl (nI_1 (i)) (by decide) rfl (fun ls hl => ?_)
              refine lv_goto (tgt := 29) hx hb dX9_known_89 (by decide) ?_
              exact ih_29 (i + 1) x_11 x_17 x_19 _ _ _ (by omega) (by omega) (hP.sub [0, 1, 2] rfl) (hD.sub [0, 1, 2] (by decide) rfl) hS (lv_sub hl [0, 1, 2, 3, 5, 6] rfl)
            · skip
              refine lv_iload hx hb dX9_known_77 (lv_at hl 2 rfl) ?_
              refine lv_goto (tgt := 83) hx hb dX9_known_79 (by decide) ?_
              refine lv_iadd hx hb dX9_known_83 ?_
              refine lv_topi (fun x_20 ex_20 => ?_)
              refine lv_istore (lv' := [(4, .int x_20), (3, .int x_17), (2, .int x_11), (6, .int r_9), (5, .int (nI (i))), (0, .ref h0), (1, .int p0)]) hx hb dX9_known_84 hl (by decide) rfl (fun ls hl => ?_)
              refine lv_iinc (v := nI (i + 1)) (lv' := [(5, .int (nI (i + 1))), (4, .int x_20), (3, .int x_17), (2, .int x_11), (6, .int r_9), (0, .ref h0), (1, .int p0)]) hx hb dX9_known_86 hl (k := 4) rfl (nI_1 (i)) (by decide) rfl (fun ls hl => ?_)
              refine lv_goto (tgt := 29) hx hb dX9_known_89 (by decide) ?_
              exact ih_29 (i + 1) x_11 x_17 x_20 _ _ _ (by omega) (by omega) (hP.sub [0, 1, 2] rfl) (hD.sub [0, 1, 2] (by decide) rfl) hS (lv_sub hl [0, 1, 2, 3, 5, 6] rfl)
        · skip
          refine lv_iconst (v := 0) hx hb dX9_known_50 (by decide) ?_
          refine lv_goto (tgt := 55) hx hb dX9_known_51 (by decide) ?_
          refine lv_iadd hx hb dX9_known_55 ?_
          refine lv_topi (fun x_21 ex_21 => ?_)
          refine lv_istore_n (lv' := [(2, .int x_21), (6, .int r_9), (5, .int (nI (i))), (4, .int u3), (3, .int u2), (0, .ref h0), (1, .int p0)]) hx hb dX9_known_56 rfl hl (by decide) rfl (fun ls hl => ?_)
          refine lv_iload_n hx hb dX9_known_57 rfl (lv_at hl 4 rfl) ?_
          refine lv_iload hx hb dX9_known_58 (lv_at hl 1 rfl) ?_
          refine lv_if_le (tgt := 67) hx hb dX9_known_60 (by decide) (fun c_22 => ?_) (fun c_22 => ?_)
          · skip
            refine lv_iconst (v := 0) hx hb dX9_known_67 (by decide) ?_
            refine lv_iadd hx hb dX9_known_68 ?_
            refine lv_topi (fun x_23 ex_23 => ?_)
            refine lv_istore_n (lv' := [(3, .int x_23), (2, .int x_21), (6, .int r_9), (5, .int (nI (i))), (4, .int u3), (0, .ref h0), (1, .int p0)]) hx hb dX9_known_69 rfl hl (by decide) rfl (fun ls hl => ?_)
            refine lv_iload hx hb dX9_known_70 (lv_at hl 4 rfl) ?_
            refine lv_iload hx hb dX9_known_72 (lv_at hl 2 rfl) ?_
            refine lv_if_le (tgt := 82) hx hb dX9_known_74 (by decide) (fun c_24 => ?_) (fun c_24 => ?_)
            · skip
              refine lv_iconst (v := 0) hx hb dX9_known_82 (by decide) ?_
              refine lv_iadd hx hb dX9_known_83 ?_
              refine lv_topi (fun x_25 ex_25 => ?_)
              refine lv_istore (lv' := [(4, .int x_25), (3, .int x_23), (2, .int x_21), (6, .int r_9), (5, .int (nI (i))), (0, .ref h0), (1, .int p0)]) hx hb dX9_known_84 hl (by decide) rfl (fun ls hl => ?_)
              refine lv_iinc (v := nI (i + 1)) (lv' := [(5, .int (nI (i + 1))), (4, .int x_25), (3, .int x_23), (2, .int x_21), (6, .int r_9), (0, .ref h0), (1, .int p0)]) hx hb dX9_known_86 hl (k := 4) rfl (nI_1 (i)) (by decide) rfl (fun ls hl => ?_)
              refine lv_goto (tgt := 29) hx hb dX9_known_89 (by decide) ?_
              exact ih_29 (i + 1) x_21 x_23 x_25 _ _ _ (by omega) (by omega) (hP.sub [0, 1, 2] rfl) (hD.sub [0, 1, 2] (by decide) rfl) hS (lv_sub hl [0, 1, 2, 3, 5, 6] rfl)
            · skip
              refine lv_iload hx hb dX9_known_77 (lv_at hl 2 rfl) ?_
              refine lv_goto (tgt := 83) hx hb dX9_known_79 (by decide) ?_
              refine lv_iadd hx hb dX9_known_83 ?_
              refine lv_topi (fun x_26 ex_26 => ?_)
              refine lv_istore (lv' := [(4, .int x_26), (3, .int x_23), (2, .int x_21), (6, .int r_9), (5, .int (nI (i))), (0, .ref h0), (1, .int p0)]) hx hb dX9_known_84 hl (by decide) rfl (fun ls hl => ?_)
              refine lv_iinc (v := nI (i + 1)) (lv' := [(5, .int (nI (i + 1))), (4, .int x_26), (3, .int x_23), (2, .int x_21), (6, .int r_9), (0, .ref h0), (1, .int p0)]) hx hb dX9_known_86 hl (k := 4) rfl (nI_1 (i)) (by decide) rfl (fun ls hl => ?_)
              refine lv_goto (tgt := 29) hx hb dX9_known_89 (by decide) ?_
              exact ih_29 (i + 1) x_21 x_23 x_26 _ _ _ (by omega) (by omega) (hP.sub [0, 1, 2] rfl) (hD.sub [0, 1, 2] (by decide) rfl) hS (lv_sub hl [0, 1, 2, 3, 5, 6] rfl)
          · skip
            refine lv_iconst (v := 1) hx hb dX9_known_63 (by decide) ?_
            refine lv_goto (tgt := 68) hx hb dX9_known_64 (by decide) ?_
            refine lv_iadd hx hb dX9_known_68 ?_
            refine lv_topi (fun x_27 ex_27 => ?_)
            refine lv_istore_n (lv' := [(3, .int x_27), (2, .int x_21), (6, .int r_9), (5, .int (nI (i))), (4, .int u3), (0, .ref h0), (1, .int p0)]) hx hb dX9_known_69 rfl hl (by decide) rfl (fun ls hl => ?_)
            refine lv_iload hx hb dX9_known_70 (lv_at hl 4 rfl) ?_
            refine lv_iload hx hb dX9_known_72 (lv_at hl 2 rfl) ?_
            refine lv_if_le (tgt := 82) hx hb dX9_known_74 (by decide) (fun c_28 => ?_) (fun c_28 => ?_)
            · skip
              refine lv_iconst (v := 0) hx hb dX9_known_82 (by decide) ?_
              refine lv_iadd hx hb dX9_known_83 ?_
              refine lv_topi (fun x_29 ex_29 => ?_)
              refine lv_istore (lv' := [(4, .int x_29), (3, .int x_27), (2, .int x_21), (6, .int r_9), (5, .int (nI (i))), (0, .ref h0), (1, .int p0)]) hx hb dX9_known_84 hl (by decide) rfl (fun ls hl => ?_)
              refine lv_iinc (v := nI (i + 1)) (lv' := [(5, .int (nI (i + 1))), (4, .int x_29), (3, .int x_27), (2, .int x_21), (6, .int r_9), (0, .ref h0), (1, .int p0)]) hx hb dX9_known_86 hl (k := 4) rfl (nI_1 (i)) (by decide) rfl (fun ls hl => ?_)
              refine lv_goto (tgt := 29) hx hb dX9_known_89 (by decide) ?_
              exact ih_29 (i + 1) x_21 x_27 x_29 _ _ _ (by omega) (by omega) (hP.sub [0, 1, 2] rfl) (hD.sub [0, 1, 2] (by decide) rfl) hS (lv_sub hl [0, 1, 2, 3, 5, 6] rfl)
            · skip
              refine lv_iload hx hb dX9_known_77 (lv_at hl 2 rfl) ?_
              refine lv_goto (tgt := 83) hx hb dX9_known_79 (by decide) ?_
              refine lv_iadd hx hb dX9_known_83 ?_
              refine lv_topi (fun x_30 ex_30 => ?_)
              refine lv_istore (lv' := [(4, .int x_30), (3, .int x_27), (2, .int x_21), (6, .int r_9), (5, .int (nI (i))), (0, .ref h0), (1, .int p0)]) hx hb dX9_known_84 hl (by decide) rfl (fun ls hl => ?_)
              refine lv_iinc (v := nI (i + 1)) (lv' := [(5, .int (nI (i + 1))), (4, .int x_30), (3, .int x_27), (2, .int x_21), (6, .int r_9), (0, .ref h0), (1, .int p0)]) hx hb dX9_known_86 hl (k := 4) rfl (nI_1 (i)) (by decide) rfl (fun ls hl => ?_)
              refine lv_goto (tgt := 29) hx hb dX9_known_89 (by decide) ?_
              exact ih_29 (i + 1) x_21 x_27 x_30 _ _ _ (by omega) (by omega) (hP.sub [0, 1, 2] rfl) (hD.sub [0, 1, 2] (by decide) rfl) hS (lv_sub hl [0, 1, 2, 3, 5, 6] rfl)
  · skip
    refine lv_if_ne (tgt := 19) hx hb dX9_known_9 (by decide) (fun c_31 => absurd (by decide) c_31) (fun c_31 => ?_)
    refine lv_aload_n hx hb dX9_known_12 rfl (lv_at hl 0 rfl) ?_
    refine lv_ldc (v := (-1000000001)) hx hb hown (hu _ uw648) dX9_known_13 ?_
    refine xc_Vi (wr := [(ys, .inl (cI, 449, .inl ms))]) hF (c_X9_finds_B l D cI cJ cZ cS ta sa sv s.heap.size h0 ys yk yo yt mk0 yfa yfe mL mS mM yro yhe ygr mF mC mY yta mz mf mt mv mw ywa ybi ysi ynu ymo mq ) kv_X9_70 ⟨rfl, rfl, Nat.le_of_ble_eq_true rfl, Nat.le_of_ble_eq_true rfl⟩ ⟨Nat.le_of_ble_eq_true rfl, Nat.le_of_ble_eq_true rfl⟩ hK hN hZ hP hD hS hA [0, 2] [1] rfl rfl rfl rfl (by decide) 0 rfl rfl rfl rfl hl.1 rfl (Nat.le_of_ble_eq_true rfl) dX9_known_15 (fun r_32 u_r_32 H locs hw_r_32 hP hD hS => ?_)
    obtain ⟨mq2_33, rfl⟩ : ∃ z, z = u_r_32 := ⟨_, rfl⟩
    try dsimp only at hw_r_32
    have hP : va_P D vwCl [(ys, .inl (cI, 449, .inl ms)), (h0, .inr (9, [.ref ys, .ref yk, .ref yo, .ref yt, .int mk0, .ref yfa, .ref yfe, .int mL, .int mS, .int mM, .ref yro, .ref yhe, .ref ygr, .int mF, .int mC, .int mY, .ref yta, .int (nI (mz)), .int (nI (mf)), .int (nI (mt)), .int mv, .int mw, .ref ywa, .ref ybi, .ref ysi, .ref ynu, .ref ymo])), (yt, .inl (cI, 7, .inl mq2_33))] H := hP
    have hD : va_D A [(ys, .inl (cI, 449, .inl ms)), (h0, .inr (9, [.ref ys, .ref yk, .ref yo, .ref yt, .int mk0, .ref yfa, .ref yfe, .int mL, .int mS, .int mM, .ref yro, .ref yhe, .ref ygr, .int mF, .int mC, .int mY, .ref yta, .int (nI (mz)), .int (nI (mf)), .int (nI (mt)), .int mv, .int mw, .ref ywa, .ref ybi, .ref ysi, .ref ynu, .ref ymo])), (yt, .inl (cI, 7, .inl mq2_33))] := hD
    subst hw_r_32
    exact W.iret (v := (-1000000001)) hx hb hr (fun t ht hW => ⟨⟨(-1000000001), mq2_33, rfl, trivial, by rw [ht]; exact hP.sub [1, 0, 2] rfl, hD.sub [1, 0, 2] (by decide) rfl⟩, hS.F ht⟩) hS.2.2 dX9_known_18 hlk
set_option maxHeartbeats 4000000 in
set_option maxRecDepth 100000 in
theorem c_X9_ask (l : Launch) (D : va_G) (cI cJ cZ cS : ClassId) (ta : Nat) (sa sv : Nat → Nat) (sz : Nat) (h0 : Nat) (ys : Nat) (yk : Nat) (yo : Nat) (yt : Nat) (mk0 : Int32) (yfa : Nat) (yfe : Nat) (mL : Int32) (mS : Int32) (mM : Int32) (yro : Nat) (yhe : Nat) (ygr : Nat) (mF : Int32) (mC : Int32) (mY : Int32) (yta : Nat) (mz : Nat) (mf : Nat) (mt : Nat) (mv : Int32) (mw : Int32) (ywa : Nat) (ybi : Nat) (ysi : Nat) (ynu : Nat) (ymo : Nat) (ms : Nat → Int32) (mq : Nat → Int32) (P : Nat) (Rn : Nat) (Wn : Nat) (fae : Nat → Int32) (fal : Nat → Int32) (fau : Nat → Int32) (fao : Nat → Int32) (farn : Nat → Int32) (farp : Nat → Int32) (fak : Nat → Int32) (fawn : Nat → Int32) (fawp : Nat → Int32) (fat : Nat → Int32) (fas : Nat → Int32) (hs0 : ms 0 = nI P) (hs1 : ms 1 = nI Rn) (hs2 : ms 2 = nI Wn) (hsS : SI ms) (hsM : MI ms) (hsp : P ≤ 10) (hsr : Rn ≤ 8) (hsw : Wn ≤ 8) (hsR : RI Rn ms) (hsG : FR P ms fae fal fau fao farn farp fak fawn fawp fat fas) : Met l yX9_ask (Cond.code yX9_ask cX9_ask 4 (some .int) :: wsU) ({ frames := 1, cells := 0, slots := 0, locals := 21 }) (va_Pc [.ref h0] (XW D (xT cI cJ cZ cS) ta sa sv [(h0, .inr (9, [.ref ys, .ref yk, .ref yo, .ref yt, .int mk0, .ref yfa, .ref yfe, .int mL, .int mS, .int mM, .ref yro, .ref yhe, .ref ygr, .int mF, .int mC, .int mY, .ref yta, .int (nI (mz)), .int (nI (mf)), .int (nI (mt)), .int mv, .int mw, .ref ywa, .ref ybi, .ref ysi, .ref ynu, .ref ymo])), (ys, .inl (cI, 449, .inl ms)), (yt, .inl (cI, 7, .inl mq))] sz)) (XQi (fun (r : Int32) (mq2 : (Nat → Int32)) => (True)) D (fun (mq2 : Nat → Int32) => [(h0, .inr (9, [.ref ys, .ref yk, .ref yo, .ref yt, .int mk0, .ref yfa, .ref yfe, .int mL, .int mS, .int mM, .ref yro, .ref yhe, .ref ygr, .int mF, .int mC, .int mY, .ref yta, .int (nI (mz)), .int (nI (mf)), .int (nI (mt)), .int mv, .int mw, .ref ywa, .ref ybi, .ref ysi, .ref ynu, .ref ymo])), (ys, .inl (cI, 449, .inl ms)), (yt, .inl (cI, 7, .inl mq2))]) (va_A [(h0, .inr (9, [.ref ys, .ref yk, .ref yo, .ref yt, .int mk0, .ref yfa, .ref yfe, .int mL, .int mS, .int mM, .ref yro, .ref yhe, .ref ygr, .int mF, .int mC, .int mY, .ref yta, .int (nI (mz)), .int (nI (mf)), .int (nI (mt)), .int mv, .int mw, .ref ywa, .ref ybi, .ref ysi, .ref ynu, .ref ymo])), (ys, .inl (cI, 449, .inl ms)), (yt, .inl (cI, 7, .inl mq))] sz)) 0 0 (va_A [(h0, .inr (9, [.ref ys, .ref yk, .ref yo, .ref yt, .int mk0, .ref yfa, .ref yfe, .int mL, .int mS, .int mM, .ref yro, .ref yhe, .ref ygr, .int mF, .int mC, .int mY, .ref yta, .int (nI (mz)), .int (nI (mf)), .int (nI (mt)), .int mv, .int mw, .ref ywa, .ref ybi, .ref ysi, .ref ynu, .ref ymo])), (ys, .inl (cI, 449, .inl ms)), (yt, .inl (cI, 7, .inl mq))] sz) := by
  refine xh (QA := fun A => XQi (fun (r : Int32) (mq2 : (Nat → Int32)) => (True)) D (fun (mq2 : Nat → Int32) => [(h0, .inr (9, [.ref ys, .ref yk, .ref yo, .ref yt, .int mk0, .ref yfa, .ref yfe, .int mL, .int mS, .int mM, .ref yro, .ref yhe, .ref ygr, .int mF, .int mC, .int mY, .ref yta, .int (nI (mz)), .int (nI (mf)), .int (nI (mt)), .int mv, .int mw, .ref ywa, .ref ybi, .ref ysi, .ref ynu, .ref ymo])), (ys, .inl (cI, 449, .inl ms)), (yt, .inl (cI, 7, .inl mq2))]) A) (fr := fun A => A) (by decide) (Nat.le_of_ble_eq_true rfl) ?_
  intro p e s m below meth c ls A hF hr hlk hin hsz hP hK hD hN hZ hA hS hl
  have hF : CallFix p m c cX9_ask 4 s _ _ RX9 := hF
  have hx := hF.1
  have hb := hF.2.1
  have hml := hF.2.2.1
  have hown := hF.2.2.2.1
  have hu : ∀ w ∈ wsU, w.before _ s = true := fun w h => hF.2.2.2.2 w (List.mem_cons_of_mem _ h)
  have hl : lv_has ls 4 [(0, .ref h0)] := hl
  refine lv_iconst (v := (-1)) hx hb dX9_ask_0 (by decide) ?_
  refine lv_istore_n (lv' := [(1, .int (-1)), (0, .ref h0)]) hx hb dX9_ask_1 rfl hl (by decide) rfl (fun ls hl => ?_)
  refine lv_iconst (v := 0) hx hb dX9_ask_2 (by decide) ?_
  refine lv_istore_n (lv' := [(2, .int 0), (1, .int (-1)), (0, .ref h0)]) hx hb dX9_ask_3 rfl hl (by decide) rfl (fun ls hl => ?_)
  refine lv_iconst (v := 0) hx hb dX9_ask_4 (by decide) ?_
  refine lv_istore_n (lv' := [(3, .int 0), (2, .int 0), (1, .int (-1)), (0, .ref h0)]) hx hb dX9_ask_5 rfl hl (by decide) rfl (fun ls hl => ?_)
  suffices loop_6 : ∀ (n_6 : Nat) (i : Nat) (u1 : Int32) (u2 : Int32) (H : Heap) (locs : List Loc) (ls : Array Slot), 100 - i < n_6 → (i ≤ 100) → va_P D vwCl [(h0, .inr (9, [.ref ys, .ref yk, .ref yo, .ref yt, .int mk0, .ref yfa, .ref yfe, .int mL, .int mS, .int mM, .ref yro, .ref yhe, .ref ygr, .int mF, .int mC, .int mY, .ref yta, .int (nI (mz)), .int (nI (mf)), .int (nI (mt)), .int mv, .int mw, .ref ywa, .ref ybi, .ref ysi, .ref ynu, .ref ymo])), (ys, .inl (cI, 449, .inl ms)), (yt, .inl (cI, 7, .inl mq))] H → va_D A [(h0, .inr (9, [.ref ys, .ref yk, .ref yo, .ref yt, .int mk0, .ref yfa, .ref yfe, .int mL, .int mS, .int mM, .ref yro, .ref yhe, .ref ygr, .int mF, .int mC, .int mY, .ref yta, .int (nI (mz)), .int (nI (mf)), .int (nI (mt)), .int mv, .int mw, .ref ywa, .ref ybi, .ref ysi, .ref ynu, .ref ymo])), (ys, .inl (cI, 449, .inl ms)), (yt, .inl (cI, 7, .inl mq))] → va_S A s.heap H locs → lv_has ls 4 [(3, .int (nI (i))), (2, .int u2), (1, .int u1), (0, .ref h0)] → W p l e ({ frames := 1, cells := 0, slots := 0, locals := 21 }) s m ([.ref h0] : List Value).toArray below meth c H locs 0 0 (MQ below (XQi (fun (r : Int32) (mq2 : (Nat → Int32)) => (True)) D (fun (mq2 : Nat → Int32) => [(h0, .inr (9, [.ref ys, .ref yk, .ref yo, .ref yt, .int mk0, .ref yfa, .ref yfe, .int mL, .int mS, .int mM, .ref yro, .ref yhe, .ref ygr, .int mF, .int mC, .int mY, .ref yta, .int (nI (mz)), .int (nI (mf)), .int (nI (mt)), .int mv, .int mw, .ref ywa, .ref ybi, .ref ysi, .ref ynu, .ref ymo])), (ys, .inl (cI, 449, .inl ms)), (yt, .inl (cI, 7, .inl mq2))]) A) ([.ref h0] : List Value).toArray s 0 0 A) (F0 m 6 ls []) by
    exact loop_6 _ 0 (-1) 0 _ _ _ (Nat.lt_succ_self _) (by omega) hP hD hS (lv_sub hl [0, 1, 2, 3] rfl)
  intro n_6
  induction n_6 with
  | zero =>
    intro i u1 u2 H locs ls hm_6
    exact absurd hm_6 (Nat.not_lt_zero _)
  | succ n_6 ih_6 =>
    intro i u1 u2 H locs ls hm_6 hi hP hD hS hl
    refine lv_iload_n hx hb dX9_ask_6 rfl (lv_at hl 0 rfl) ?_
    refine lv_bipush (v := 100) hx hb dX9_ask_7 (by decide) ?_
    refine lv_icmp_ge (tgt := 35) hx hb dX9_ask_9 (by decide) (fun c_1 => ?_) (fun c_1 => ?_)
    · skip
      have nc_1 : 100 ≤ i := xn_le (a := 100) (b := i) (by omega) (by omega) c_1
      refine lv_iload_n hx hb dX9_ask_35 rfl (lv_at hl 2 rfl) ?_
      refine lv_if_ge (tgt := 48) hx hb dX9_ask_36 (by decide) (fun c_2 => ?_) (fun c_2 => ?_)
      · skip
        refine lv_iload_n hx hb dX9_ask_48 rfl (lv_at hl 2 rfl) ?_
        exact W.iret (v := u1) hx hb hr (fun t ht hW => ⟨⟨u1, mq, rfl, trivial, by rw [ht]; exact hP.sub [0, 1, 2] rfl, hD.sub [0, 1, 2] (by decide) rfl⟩, hS.F ht⟩) hS.2.2 dX9_ask_49 hlk
      · skip
        refine lv_aload_n hx hb dX9_ask_39 rfl (lv_at hl 3 rfl) ?_
        refine lv_ldc (v := (-1000000004)) hx hb hown (hu _ uw699) dX9_ask_40 ?_
        refine xc_Vi (wr := [(ys, .inl (cI, 449, .inl ms))]) hF (c_X9_finds_N l D cI cJ cZ cS ta sa sv H.size h0 ys yk yo yt mk0 yfa yfe mL mS mM yro yhe ygr mF mC mY yta mz mf mt mv mw ywa ybi ysi ynu ymo mq ) kv_X9_70 ⟨rfl, rfl, Nat.le_of_ble_eq_true rfl, Nat.le_of_ble_eq_true rfl⟩ ⟨Nat.le_of_ble_eq_true rfl, Nat.le_of_ble_eq_true rfl⟩ hK hN hZ hP hD hS hA [0, 2] [1] rfl rfl rfl rfl (by decide) 0 rfl rfl rfl rfl hl.1 rfl (Nat.le_of_ble_eq_true rfl) dX9_ask_42 (fun r_3 u_r_3 H locs hw_r_3 hP hD hS => ?_)
        obtain ⟨mq2_4, rfl⟩ : ∃ z, z = u_r_3 := ⟨_, rfl⟩
        try dsimp only at hw_r_3
        have hP : va_P D vwCl [(ys, .inl (cI, 449, .inl ms)), (h0, .inr (9, [.ref ys, .ref yk, .ref yo, .ref yt, .int mk0, .ref yfa, .ref yfe, .int mL, .int mS, .int mM, .ref yro, .ref yhe, .ref ygr, .int mF, .int mC, .int mY, .ref yta, .int (nI (mz)), .int (nI (mf)), .int (nI (mt)), .int mv, .int mw, .ref ywa, .ref ybi, .ref ysi, .ref ynu, .ref ymo])), (yt, .inl (cI, 7, .inl mq2_4))] H := hP
        have hD : va_D A [(ys, .inl (cI, 449, .inl ms)), (h0, .inr (9, [.ref ys, .ref yk, .ref yo, .ref yt, .int mk0, .ref yfa, .ref yfe, .int mL, .int mS, .int mM, .ref yro, .ref yhe, .ref ygr, .int mF, .int mC, .int mY, .ref yta, .int (nI (mz)), .int (nI (mf)), .int (nI (mt)), .int mv, .int mw, .ref ywa, .ref ybi, .ref ysi, .ref ynu, .ref ymo])), (yt, .inl (cI, 7, .inl mq2_4))] := hD
        subst hw_r_3
        refine lv_goto (tgt := 49) hx hb dX9_ask_45 (by decide) ?_
        exact W.iret (v := (-1000000004)) hx hb hr (fun t ht hW => ⟨⟨(-1000000004), mq2_4, rfl, trivial, by rw [ht]; exact hP.sub [1, 0, 2] rfl, hD.sub [1, 0, 2] (by decide) rfl⟩, hS.F ht⟩) hS.2.2 dX9_ask_49 hlk
    · skip
      have nc_1 : i < 100 := xn_nle (a := 100) (b := i) (by omega) (by omega) c_1
      refine lv_aload_n hx hb dX9_ask_12 rfl (lv_at hl 3 rfl) ?_
      refine lv_iload_n hx hb dX9_ask_13 rfl (lv_at hl 0 rfl) ?_
      refine xc_Vr hF (c_X9_between l D cI cJ cZ cS ta sa sv H.size h0 ys yk yo yt mk0 yfa yfe mL mS mM yro yhe ygr mF mC mY yta mz mf mt mv mw ywa ybi ysi ynu ymo ms P Rn Wn fae fal fau fao farn farp fak fawn fawp fat fas i (by omega) hs0 hs1 hs2 hsS hsM hsp hsr hsw hsR hsG) kv_X9_223 ⟨rfl, rfl, Nat.le_of_ble_eq_true rfl, Nat.le_of_ble_eq_true rfl⟩ ⟨Nat.le_of_ble_eq_true rfl, Nat.le_of_ble_eq_true rfl⟩ hK hN hZ hP hD hS hA [0, 1] rfl rfl 0 rfl rfl rfl rfl hl.1 rfl (Nat.le_of_ble_eq_true rfl) dX9_ask_14 (fun r_5 hw_r_5 => ?_)
      refine lv_iload_n hx hb dX9_ask_17 rfl (lv_at hl 1 rfl) ?_
      refine lv_icmp_le (tgt := 29) hx hb dX9_ask_18 (by decide) (fun c_6 => ?_) (fun c_6 => ?_)
      · skip
        refine lv_iinc (v := nI (i + 1)) (lv' := [(3, .int (nI (i + 1))), (2, .int u2), (1, .int u1), (0, .ref h0)]) hx hb dX9_ask_29 hl (k := 0) rfl (nI_1 (i)) (by decide) rfl (fun ls hl => ?_)
        refine lv_goto (tgt := 6) hx hb dX9_ask_32 (by decide) ?_
        exact ih_6 (i + 1) u1 u2 _ _ _ (by omega) (by omega) (hP.sub [0, 1, 2] rfl) (hD.sub [0, 1, 2] (by decide) rfl) hS (lv_sub hl [0, 1, 2, 3] rfl)
      · skip
        refine lv_iload_n hx hb dX9_ask_21 rfl (lv_at hl 0 rfl) ?_
        refine lv_istore_n (lv' := [(1, .int (nI (i))), (3, .int (nI (i))), (2, .int u2), (0, .ref h0)]) hx hb dX9_ask_22 rfl hl (by decide) rfl (fun ls hl => ?_)
        refine lv_aload_n hx hb dX9_ask_23 rfl (lv_at hl 3 rfl) ?_
        refine lv_iload_n hx hb dX9_ask_24 rfl (lv_at hl 1 rfl) ?_
        refine xc_Vr hF (c_X9_between l D cI cJ cZ cS ta sa sv H.size h0 ys yk yo yt mk0 yfa yfe mL mS mM yro yhe ygr mF mC mY yta mz mf mt mv mw ywa ybi ysi ynu ymo ms P Rn Wn fae fal fau fao farn farp fak fawn fawp fat fas i (by omega) hs0 hs1 hs2 hsS hsM hsp hsr hsw hsR hsG) kv_X9_223 ⟨rfl, rfl, Nat.le_of_ble_eq_true rfl, Nat.le_of_ble_eq_true rfl⟩ ⟨Nat.le_of_ble_eq_true rfl, Nat.le_of_ble_eq_true rfl⟩ hK hN hZ hP hD hS hA [0, 1] rfl rfl 0 rfl rfl rfl rfl hl.1 rfl (Nat.le_of_ble_eq_true rfl) dX9_ask_25 (fun r_7 hw_r_7 => ?_)
        refine lv_istore_n (lv' := [(2, .int r_7), (1, .int (nI (i))), (3, .int (nI (i))), (0, .ref h0)]) hx hb dX9_ask_28 rfl hl (by decide) rfl (fun ls hl => ?_)
        refine lv_iinc (v := nI (i + 1)) (lv' := [(3, .int (nI (i + 1))), (2, .int r_7), (1, .int (nI (i))), (0, .ref h0)]) hx hb dX9_ask_29 hl (k := 2) rfl (nI_1 (i)) (by decide) rfl (fun ls hl => ?_)
        refine lv_goto (tgt := 6) hx hb dX9_ask_32 (by decide) ?_
        exact ih_6 (i + 1) (nI (i)) r_7 _ _ _ (by omega) (by omega) (hP.sub [0, 1, 2] rfl) (hD.sub [0, 1, 2] (by decide) rfl) hS (lv_sub hl [0, 1, 2, 3] rfl)
