def LRX5_climbFrom_9 : List UInt8 := []
def LBX5_climbFrom_8 : List UInt8 := [0xb5, 0x84, 0x04, 0x01, 0xa7, 0xff, 0x96, 0xb1]
def LRX5_climbFrom_8 : List UInt8 := LBX5_climbFrom_8 ++ LRX5_climbFrom_9
def LBX5_climbFrom_7 : List UInt8 := [0x2a, 0xb4, 0x00, 0x13, 0x1d, 0x15, 0x06, 0x4f, 0x84, 0x03, 0x01, 0x84, 0x06, 0x01, 0xa7, 0xff]
def LRX5_climbFrom_7 : List UInt8 := LBX5_climbFrom_7 ++ LRX5_climbFrom_8
def LBX5_climbFrom_6 : List UInt8 := [0x05, 0x15, 0x06, 0xb8, 0x00, 0x24, 0x60, 0x4f, 0x2a, 0xb4, 0x00, 0x0f, 0x15, 0x06, 0x04, 0x54]
def LRX5_climbFrom_6 : List UInt8 := LBX5_climbFrom_6 ++ LRX5_climbFrom_7
def LBX5_climbFrom_5 : List UInt8 := [0x2d, 0x2a, 0xb4, 0x00, 0x09, 0x15, 0x06, 0x2a, 0xb4, 0x00, 0x09, 0x15, 0x05, 0x2e, 0x2b, 0x15]
def LRX5_climbFrom_5 : List UInt8 := LBX5_climbFrom_5 ++ LRX5_climbFrom_6
def LBX5_climbFrom_4 : List UInt8 := [0x15, 0x06, 0x33, 0x9a, 0x00, 0x38, 0x2b, 0x15, 0x05, 0x15, 0x06, 0xb6, 0x00, 0x20, 0x99, 0x00]
def LRX5_climbFrom_4 : List UInt8 := LBX5_climbFrom_4 ++ LRX5_climbFrom_5
def LBX5_climbFrom_3 : List UInt8 := [0x03, 0x36, 0x06, 0x15, 0x06, 0x2b, 0xb4, 0x00, 0x16, 0xa2, 0x00, 0x48, 0x2a, 0xb4, 0x00, 0x0f]
def LRX5_climbFrom_3 : List UInt8 := LBX5_climbFrom_3 ++ LRX5_climbFrom_4
def LBX5_climbFrom_2 : List UInt8 := [0x15, 0x04, 0x10, 0x0a, 0xa2, 0x00, 0x63, 0x2a, 0xb4, 0x00, 0x13, 0x15, 0x04, 0x2e, 0x36, 0x05]
def LRX5_climbFrom_2 : List UInt8 := LBX5_climbFrom_2 ++ LRX5_climbFrom_3
def LBX5_climbFrom_1 : List UInt8 := [0x00, 0x13, 0x03, 0x1c, 0x4f, 0x04, 0x3e, 0x03, 0x36, 0x04, 0x15, 0x04, 0x1d, 0xa2, 0x00, 0x6a]
def LRX5_climbFrom_1 : List UInt8 := LBX5_climbFrom_1 ++ LRX5_climbFrom_2
def LBX5_climbFrom_0 : List UInt8 := [0x2a, 0xb4, 0x00, 0x09, 0x1c, 0x03, 0x4f, 0x2a, 0xb4, 0x00, 0x0f, 0x1c, 0x04, 0x54, 0x2a, 0xb4]
def LRX5_climbFrom_0 : List UInt8 := LBX5_climbFrom_0 ++ LRX5_climbFrom_1
set_option maxRecDepth 100000 in
theorem LBX5_climbFrom_eq : cX5_climbFrom.data.toList = LRX5_climbFrom_0 := by decide +kernel
theorem LBX5_climbFromr_0 (k : Nat) : cX5_climbFrom.data.toList[0 + k]? = LRX5_climbFrom_0[k]? := by rw [LBX5_climbFrom_eq, Nat.zero_add]
theorem LBX5_climbFromr_1 (k : Nat) : cX5_climbFrom.data.toList[16 + k]? = LRX5_climbFrom_1[k]? := by
  have h := LBX5_climbFromr_0 (16 + k)
  rw [show 0 + (16 + k) = 16 + k by omega] at h
  rw [h]
  exact (List.getElem?_append_right (l₁ := LBX5_climbFrom_0) (l₂ := LRX5_climbFrom_1) (show 16 ≤ 16 + k by omega)).trans (congrArg (fun i => LRX5_climbFrom_1[i]?) (show 16 + k - 16 = k by omega))
theorem LBX5_climbFromr_2 (k : Nat) : cX5_climbFrom.data.toList[32 + k]? = LRX5_climbFrom_2[k]? := by
  have h := LBX5_climbFromr_1 (16 + k)
  rw [show 16 + (16 + k) = 32 + k by omega] at h
  rw [h]
  exact (List.getElem?_append_right (l₁ := LBX5_climbFrom_1) (l₂ := LRX5_climbFrom_2) (show 16 ≤ 16 + k by omega)).trans (congrArg (fun i => LRX5_climbFrom_2[i]?) (show 16 + k - 16 = k by omega))
theorem LBX5_climbFromr_3 (k : Nat) : cX5_climbFrom.data.toList[48 + k]? = LRX5_climbFrom_3[k]? := by
  have h := LBX5_climbFromr_2 (16 + k)
  rw [show 32 + (16 + k) = 48 + k by omega] at h
  rw [h]
  exact (List.getElem?_append_right (l₁ := LBX5_climbFrom_2) (l₂ := LRX5_climbFrom_3) (show 16 ≤ 16 + k by omega)).trans (congrArg (fun i => LRX5_climbFrom_3[i]?) (show 16 + k - 16 = k by omega))
theorem LBX5_climbFromr_4 (k : Nat) : cX5_climbFrom.data.toList[64 + k]? = LRX5_climbFrom_4[k]? := by
  have h := LBX5_climbFromr_3 (16 + k)
  rw [show 48 + (16 + k) = 64 + k by omega] at h
  rw [h]
  exact (List.getElem?_append_right (l₁ := LBX5_climbFrom_3) (l₂ := LRX5_climbFrom_4) (show 16 ≤ 16 + k by omega)).trans (congrArg (fun i => LRX5_climbFrom_4[i]?) (show 16 + k - 16 = k by omega))
theorem LBX5_climbFromr_5 (k : Nat) : cX5_climbFrom.data.toList[80 + k]? = LRX5_climbFrom_5[k]? := by
  have h := LBX5_climbFromr_4 (16 + k)
  rw [show 64 + (16 + k) = 80 + k by omega] at h
  rw [h]
  exact (List.getElem?_append_right (l₁ := LBX5_climbFrom_4) (l₂ := LRX5_climbFrom_5) (show 16 ≤ 16 + k by omega)).trans (congrArg (fun i => LRX5_climbFrom_5[i]?) (show 16 + k - 16 = k by omega))
theorem LBX5_climbFromr_6 (k : Nat) : cX5_climbFrom.data.toList[96 + k]? = LRX5_climbFrom_6[k]? := by
  have h := LBX5_climbFromr_5 (16 + k)
  rw [show 80 + (16 + k) = 96 + k by omega] at h
  rw [h]
  exact (List.getElem?_append_right (l₁ := LBX5_climbFrom_5) (l₂ := LRX5_climbFrom_6) (show 16 ≤ 16 + k by omega)).trans (congrArg (fun i => LRX5_climbFrom_6[i]?) (show 16 + k - 16 = k by omega))
theorem LBX5_climbFromr_7 (k : Nat) : cX5_climbFrom.data.toList[112 + k]? = LRX5_climbFrom_7[k]? := by
  have h := LBX5_climbFromr_6 (16 + k)
  rw [show 96 + (16 + k) = 112 + k by omega] at h
  rw [h]
  exact (List.getElem?_append_right (l₁ := LBX5_climbFrom_6) (l₂ := LRX5_climbFrom_7) (show 16 ≤ 16 + k by omega)).trans (congrArg (fun i => LRX5_climbFrom_7[i]?) (show 16 + k - 16 = k by omega))
theorem LBX5_climbFromr_8 (k : Nat) : cX5_climbFrom.data.toList[128 + k]? = LRX5_climbFrom_8[k]? := by
  have h := LBX5_climbFromr_7 (16 + k)
  rw [show 112 + (16 + k) = 128 + k by omega] at h
  rw [h]
  exact (List.getElem?_append_right (l₁ := LBX5_climbFrom_7) (l₂ := LRX5_climbFrom_8) (show 16 ≤ 16 + k by omega)).trans (congrArg (fun i => LRX5_climbFrom_8[i]?) (show 16 + k - 16 = k by omega))
theorem dX5_climbFrom_0 : decode cX5_climbFrom 0 = .ok (.aload_n 0, 1) := dk_42_ (show cX5_climbFrom.data.toList[0]? = some 0x2a from (LBX5_climbFromr_0 0).trans (by decide +kernel))
theorem dX5_climbFrom_1 : decode cX5_climbFrom 1 = .ok (.getfield 9, 3) := dk_180_ (show cX5_climbFrom.data.toList[1]? = some 0xb4 from (LBX5_climbFromr_0 1).trans (by decide +kernel)) (show cX5_climbFrom.data.toList[2]? = some 0x00 from (LBX5_climbFromr_0 2).trans (by decide +kernel)) (show cX5_climbFrom.data.toList[3]? = some 0x09 from (LBX5_climbFromr_0 3).trans (by decide +kernel)) (by decide)
theorem dX5_climbFrom_4 : decode cX5_climbFrom 4 = .ok (.iload_n 2, 1) := dk_28_ (show cX5_climbFrom.data.toList[4]? = some 0x1c from (LBX5_climbFromr_0 4).trans (by decide +kernel))
theorem dX5_climbFrom_5 : decode cX5_climbFrom 5 = .ok (.iconst 0, 1) := dk_3_ (show cX5_climbFrom.data.toList[5]? = some 0x03 from (LBX5_climbFromr_0 5).trans (by decide +kernel))
theorem dX5_climbFrom_6 : decode cX5_climbFrom 6 = .ok (.iastore, 1) := dk_79_ (show cX5_climbFrom.data.toList[6]? = some 0x4f from (LBX5_climbFromr_0 6).trans (by decide +kernel))
theorem dX5_climbFrom_7 : decode cX5_climbFrom 7 = .ok (.aload_n 0, 1) := dk_42_ (show cX5_climbFrom.data.toList[7]? = some 0x2a from (LBX5_climbFromr_0 7).trans (by decide +kernel))
theorem dX5_climbFrom_8 : decode cX5_climbFrom 8 = .ok (.getfield 15, 3) := dk_180_ (show cX5_climbFrom.data.toList[8]? = some 0xb4 from (LBX5_climbFromr_0 8).trans (by decide +kernel)) (show cX5_climbFrom.data.toList[9]? = some 0x00 from (LBX5_climbFromr_0 9).trans (by decide +kernel)) (show cX5_climbFrom.data.toList[10]? = some 0x0f from (LBX5_climbFromr_0 10).trans (by decide +kernel)) (by decide)
theorem dX5_climbFrom_11 : decode cX5_climbFrom 11 = .ok (.iload_n 2, 1) := dk_28_ (show cX5_climbFrom.data.toList[11]? = some 0x1c from (LBX5_climbFromr_0 11).trans (by decide +kernel))
theorem dX5_climbFrom_12 : decode cX5_climbFrom 12 = .ok (.iconst 1, 1) := dk_4_ (show cX5_climbFrom.data.toList[12]? = some 0x04 from (LBX5_climbFromr_0 12).trans (by decide +kernel))
theorem dX5_climbFrom_13 : decode cX5_climbFrom 13 = .ok (.bastore, 1) := dk_84_ (show cX5_climbFrom.data.toList[13]? = some 0x54 from (LBX5_climbFromr_0 13).trans (by decide +kernel))
theorem dX5_climbFrom_14 : decode cX5_climbFrom 14 = .ok (.aload_n 0, 1) := dk_42_ (show cX5_climbFrom.data.toList[14]? = some 0x2a from (LBX5_climbFromr_0 14).trans (by decide +kernel))
theorem dX5_climbFrom_15 : decode cX5_climbFrom 15 = .ok (.getfield 19, 3) := dk_180_ (show cX5_climbFrom.data.toList[15]? = some 0xb4 from (LBX5_climbFromr_0 15).trans (by decide +kernel)) (show cX5_climbFrom.data.toList[16]? = some 0x00 from (LBX5_climbFromr_1 0).trans (by decide +kernel)) (show cX5_climbFrom.data.toList[17]? = some 0x13 from (LBX5_climbFromr_1 1).trans (by decide +kernel)) (by decide)
theorem dX5_climbFrom_18 : decode cX5_climbFrom 18 = .ok (.iconst 0, 1) := dk_3_ (show cX5_climbFrom.data.toList[18]? = some 0x03 from (LBX5_climbFromr_1 2).trans (by decide +kernel))
theorem dX5_climbFrom_19 : decode cX5_climbFrom 19 = .ok (.iload_n 2, 1) := dk_28_ (show cX5_climbFrom.data.toList[19]? = some 0x1c from (LBX5_climbFromr_1 3).trans (by decide +kernel))
theorem dX5_climbFrom_20 : decode cX5_climbFrom 20 = .ok (.iastore, 1) := dk_79_ (show cX5_climbFrom.data.toList[20]? = some 0x4f from (LBX5_climbFromr_1 4).trans (by decide +kernel))
theorem dX5_climbFrom_21 : decode cX5_climbFrom 21 = .ok (.iconst 1, 1) := dk_4_ (show cX5_climbFrom.data.toList[21]? = some 0x04 from (LBX5_climbFromr_1 5).trans (by decide +kernel))
theorem dX5_climbFrom_22 : decode cX5_climbFrom 22 = .ok (.istore_n 3, 1) := dk_62_ (show cX5_climbFrom.data.toList[22]? = some 0x3e from (LBX5_climbFromr_1 6).trans (by decide +kernel))
theorem dX5_climbFrom_23 : decode cX5_climbFrom 23 = .ok (.iconst 0, 1) := dk_3_ (show cX5_climbFrom.data.toList[23]? = some 0x03 from (LBX5_climbFromr_1 7).trans (by decide +kernel))
theorem dX5_climbFrom_24 : decode cX5_climbFrom 24 = .ok (.istore 4, 2) := dk_54_ (show cX5_climbFrom.data.toList[24]? = some 0x36 from (LBX5_climbFromr_1 8).trans (by decide +kernel)) (show cX5_climbFrom.data.toList[25]? = some 0x04 from (LBX5_climbFromr_1 9).trans (by decide +kernel)) (by decide)
theorem dX5_climbFrom_26 : decode cX5_climbFrom 26 = .ok (.iload 4, 2) := dk_21_ (show cX5_climbFrom.data.toList[26]? = some 0x15 from (LBX5_climbFromr_1 10).trans (by decide +kernel)) (show cX5_climbFrom.data.toList[27]? = some 0x04 from (LBX5_climbFromr_1 11).trans (by decide +kernel)) (by decide)
theorem dX5_climbFrom_28 : decode cX5_climbFrom 28 = .ok (.iload_n 3, 1) := dk_29_ (show cX5_climbFrom.data.toList[28]? = some 0x1d from (LBX5_climbFromr_1 12).trans (by decide +kernel))
theorem dX5_climbFrom_29 : decode cX5_climbFrom 29 = .ok (.if_icmp .ge 106, 3) := dk_162_ (show cX5_climbFrom.data.toList[29]? = some 0xa2 from (LBX5_climbFromr_1 13).trans (by decide +kernel)) (show cX5_climbFrom.data.toList[30]? = some 0x00 from (LBX5_climbFromr_1 14).trans (by decide +kernel)) (show cX5_climbFrom.data.toList[31]? = some 0x6a from (LBX5_climbFromr_1 15).trans (by decide +kernel)) (by decide)
theorem dX5_climbFrom_32 : decode cX5_climbFrom 32 = .ok (.iload 4, 2) := dk_21_ (show cX5_climbFrom.data.toList[32]? = some 0x15 from (LBX5_climbFromr_2 0).trans (by decide +kernel)) (show cX5_climbFrom.data.toList[33]? = some 0x04 from (LBX5_climbFromr_2 1).trans (by decide +kernel)) (by decide)
theorem dX5_climbFrom_34 : decode cX5_climbFrom 34 = .ok (.bipush 10, 2) := dk_16_ (show cX5_climbFrom.data.toList[34]? = some 0x10 from (LBX5_climbFromr_2 2).trans (by decide +kernel)) (show cX5_climbFrom.data.toList[35]? = some 0x0a from (LBX5_climbFromr_2 3).trans (by decide +kernel)) (by decide)
theorem dX5_climbFrom_36 : decode cX5_climbFrom 36 = .ok (.if_icmp .ge 99, 3) := dk_162_ (show cX5_climbFrom.data.toList[36]? = some 0xa2 from (LBX5_climbFromr_2 4).trans (by decide +kernel)) (show cX5_climbFrom.data.toList[37]? = some 0x00 from (LBX5_climbFromr_2 5).trans (by decide +kernel)) (show cX5_climbFrom.data.toList[38]? = some 0x63 from (LBX5_climbFromr_2 6).trans (by decide +kernel)) (by decide)
theorem dX5_climbFrom_39 : decode cX5_climbFrom 39 = .ok (.aload_n 0, 1) := dk_42_ (show cX5_climbFrom.data.toList[39]? = some 0x2a from (LBX5_climbFromr_2 7).trans (by decide +kernel))
theorem dX5_climbFrom_40 : decode cX5_climbFrom 40 = .ok (.getfield 19, 3) := dk_180_ (show cX5_climbFrom.data.toList[40]? = some 0xb4 from (LBX5_climbFromr_2 8).trans (by decide +kernel)) (show cX5_climbFrom.data.toList[41]? = some 0x00 from (LBX5_climbFromr_2 9).trans (by decide +kernel)) (show cX5_climbFrom.data.toList[42]? = some 0x13 from (LBX5_climbFromr_2 10).trans (by decide +kernel)) (by decide)
theorem dX5_climbFrom_43 : decode cX5_climbFrom 43 = .ok (.iload 4, 2) := dk_21_ (show cX5_climbFrom.data.toList[43]? = some 0x15 from (LBX5_climbFromr_2 11).trans (by decide +kernel)) (show cX5_climbFrom.data.toList[44]? = some 0x04 from (LBX5_climbFromr_2 12).trans (by decide +kernel)) (by decide)
theorem dX5_climbFrom_45 : decode cX5_climbFrom 45 = .ok (.iaload, 1) := dk_46_ (show cX5_climbFrom.data.toList[45]? = some 0x2e from (LBX5_climbFromr_2 13).trans (by decide +kernel))
theorem dX5_climbFrom_46 : decode cX5_climbFrom 46 = .ok (.istore 5, 2) := dk_54_ (show cX5_climbFrom.data.toList[46]? = some 0x36 from (LBX5_climbFromr_2 14).trans (by decide +kernel)) (show cX5_climbFrom.data.toList[47]? = some 0x05 from (LBX5_climbFromr_2 15).trans (by decide +kernel)) (by decide)
theorem dX5_climbFrom_48 : decode cX5_climbFrom 48 = .ok (.iconst 0, 1) := dk_3_ (show cX5_climbFrom.data.toList[48]? = some 0x03 from (LBX5_climbFromr_3 0).trans (by decide +kernel))
theorem dX5_climbFrom_49 : decode cX5_climbFrom 49 = .ok (.istore 6, 2) := dk_54_ (show cX5_climbFrom.data.toList[49]? = some 0x36 from (LBX5_climbFromr_3 1).trans (by decide +kernel)) (show cX5_climbFrom.data.toList[50]? = some 0x06 from (LBX5_climbFromr_3 2).trans (by decide +kernel)) (by decide)
theorem dX5_climbFrom_51 : decode cX5_climbFrom 51 = .ok (.iload 6, 2) := dk_21_ (show cX5_climbFrom.data.toList[51]? = some 0x15 from (LBX5_climbFromr_3 3).trans (by decide +kernel)) (show cX5_climbFrom.data.toList[52]? = some 0x06 from (LBX5_climbFromr_3 4).trans (by decide +kernel)) (by decide)
theorem dX5_climbFrom_53 : decode cX5_climbFrom 53 = .ok (.aload_n 1, 1) := dk_43_ (show cX5_climbFrom.data.toList[53]? = some 0x2b from (LBX5_climbFromr_3 5).trans (by decide +kernel))
theorem dX5_climbFrom_54 : decode cX5_climbFrom 54 = .ok (.getfield 22, 3) := dk_180_ (show cX5_climbFrom.data.toList[54]? = some 0xb4 from (LBX5_climbFromr_3 6).trans (by decide +kernel)) (show cX5_climbFrom.data.toList[55]? = some 0x00 from (LBX5_climbFromr_3 7).trans (by decide +kernel)) (show cX5_climbFrom.data.toList[56]? = some 0x16 from (LBX5_climbFromr_3 8).trans (by decide +kernel)) (by decide)
theorem dX5_climbFrom_57 : decode cX5_climbFrom 57 = .ok (.if_icmp .ge 72, 3) := dk_162_ (show cX5_climbFrom.data.toList[57]? = some 0xa2 from (LBX5_climbFromr_3 9).trans (by decide +kernel)) (show cX5_climbFrom.data.toList[58]? = some 0x00 from (LBX5_climbFromr_3 10).trans (by decide +kernel)) (show cX5_climbFrom.data.toList[59]? = some 0x48 from (LBX5_climbFromr_3 11).trans (by decide +kernel)) (by decide)
theorem dX5_climbFrom_60 : decode cX5_climbFrom 60 = .ok (.aload_n 0, 1) := dk_42_ (show cX5_climbFrom.data.toList[60]? = some 0x2a from (LBX5_climbFromr_3 12).trans (by decide +kernel))
theorem dX5_climbFrom_61 : decode cX5_climbFrom 61 = .ok (.getfield 15, 3) := dk_180_ (show cX5_climbFrom.data.toList[61]? = some 0xb4 from (LBX5_climbFromr_3 13).trans (by decide +kernel)) (show cX5_climbFrom.data.toList[62]? = some 0x00 from (LBX5_climbFromr_3 14).trans (by decide +kernel)) (show cX5_climbFrom.data.toList[63]? = some 0x0f from (LBX5_climbFromr_3 15).trans (by decide +kernel)) (by decide)
theorem dX5_climbFrom_64 : decode cX5_climbFrom 64 = .ok (.iload 6, 2) := dk_21_ (show cX5_climbFrom.data.toList[64]? = some 0x15 from (LBX5_climbFromr_4 0).trans (by decide +kernel)) (show cX5_climbFrom.data.toList[65]? = some 0x06 from (LBX5_climbFromr_4 1).trans (by decide +kernel)) (by decide)
theorem dX5_climbFrom_66 : decode cX5_climbFrom 66 = .ok (.baload, 1) := dk_51_ (show cX5_climbFrom.data.toList[66]? = some 0x33 from (LBX5_climbFromr_4 2).trans (by decide +kernel))
theorem dX5_climbFrom_67 : decode cX5_climbFrom 67 = .ok (.ifCond .ne 56, 3) := dk_154_ (show cX5_climbFrom.data.toList[67]? = some 0x9a from (LBX5_climbFromr_4 3).trans (by decide +kernel)) (show cX5_climbFrom.data.toList[68]? = some 0x00 from (LBX5_climbFromr_4 4).trans (by decide +kernel)) (show cX5_climbFrom.data.toList[69]? = some 0x38 from (LBX5_climbFromr_4 5).trans (by decide +kernel)) (by decide)
theorem dX5_climbFrom_70 : decode cX5_climbFrom 70 = .ok (.aload_n 1, 1) := dk_43_ (show cX5_climbFrom.data.toList[70]? = some 0x2b from (LBX5_climbFromr_4 6).trans (by decide +kernel))
theorem dX5_climbFrom_71 : decode cX5_climbFrom 71 = .ok (.iload 5, 2) := dk_21_ (show cX5_climbFrom.data.toList[71]? = some 0x15 from (LBX5_climbFromr_4 7).trans (by decide +kernel)) (show cX5_climbFrom.data.toList[72]? = some 0x05 from (LBX5_climbFromr_4 8).trans (by decide +kernel)) (by decide)
theorem dX5_climbFrom_73 : decode cX5_climbFrom 73 = .ok (.iload 6, 2) := dk_21_ (show cX5_climbFrom.data.toList[73]? = some 0x15 from (LBX5_climbFromr_4 9).trans (by decide +kernel)) (show cX5_climbFrom.data.toList[74]? = some 0x06 from (LBX5_climbFromr_4 10).trans (by decide +kernel)) (by decide)
theorem dX5_climbFrom_75 : decode cX5_climbFrom 75 = .ok (.invokevirtual 32, 3) := dk_182_ (show cX5_climbFrom.data.toList[75]? = some 0xb6 from (LBX5_climbFromr_4 11).trans (by decide +kernel)) (show cX5_climbFrom.data.toList[76]? = some 0x00 from (LBX5_climbFromr_4 12).trans (by decide +kernel)) (show cX5_climbFrom.data.toList[77]? = some 0x20 from (LBX5_climbFromr_4 13).trans (by decide +kernel)) (by decide)
theorem dX5_climbFrom_78 : decode cX5_climbFrom 78 = .ok (.ifCond .eq 45, 3) := dk_153_ (show cX5_climbFrom.data.toList[78]? = some 0x99 from (LBX5_climbFromr_4 14).trans (by decide +kernel)) (show cX5_climbFrom.data.toList[79]? = some 0x00 from (LBX5_climbFromr_4 15).trans (by decide +kernel)) (show cX5_climbFrom.data.toList[80]? = some 0x2d from (LBX5_climbFromr_5 0).trans (by decide +kernel)) (by decide)
theorem dX5_climbFrom_81 : decode cX5_climbFrom 81 = .ok (.aload_n 0, 1) := dk_42_ (show cX5_climbFrom.data.toList[81]? = some 0x2a from (LBX5_climbFromr_5 1).trans (by decide +kernel))
theorem dX5_climbFrom_82 : decode cX5_climbFrom 82 = .ok (.getfield 9, 3) := dk_180_ (show cX5_climbFrom.data.toList[82]? = some 0xb4 from (LBX5_climbFromr_5 2).trans (by decide +kernel)) (show cX5_climbFrom.data.toList[83]? = some 0x00 from (LBX5_climbFromr_5 3).trans (by decide +kernel)) (show cX5_climbFrom.data.toList[84]? = some 0x09 from (LBX5_climbFromr_5 4).trans (by decide +kernel)) (by decide)
theorem dX5_climbFrom_85 : decode cX5_climbFrom 85 = .ok (.iload 6, 2) := dk_21_ (show cX5_climbFrom.data.toList[85]? = some 0x15 from (LBX5_climbFromr_5 5).trans (by decide +kernel)) (show cX5_climbFrom.data.toList[86]? = some 0x06 from (LBX5_climbFromr_5 6).trans (by decide +kernel)) (by decide)
theorem dX5_climbFrom_87 : decode cX5_climbFrom 87 = .ok (.aload_n 0, 1) := dk_42_ (show cX5_climbFrom.data.toList[87]? = some 0x2a from (LBX5_climbFromr_5 7).trans (by decide +kernel))
theorem dX5_climbFrom_88 : decode cX5_climbFrom 88 = .ok (.getfield 9, 3) := dk_180_ (show cX5_climbFrom.data.toList[88]? = some 0xb4 from (LBX5_climbFromr_5 8).trans (by decide +kernel)) (show cX5_climbFrom.data.toList[89]? = some 0x00 from (LBX5_climbFromr_5 9).trans (by decide +kernel)) (show cX5_climbFrom.data.toList[90]? = some 0x09 from (LBX5_climbFromr_5 10).trans (by decide +kernel)) (by decide)
theorem dX5_climbFrom_91 : decode cX5_climbFrom 91 = .ok (.iload 5, 2) := dk_21_ (show cX5_climbFrom.data.toList[91]? = some 0x15 from (LBX5_climbFromr_5 11).trans (by decide +kernel)) (show cX5_climbFrom.data.toList[92]? = some 0x05 from (LBX5_climbFromr_5 12).trans (by decide +kernel)) (by decide)
theorem dX5_climbFrom_93 : decode cX5_climbFrom 93 = .ok (.iaload, 1) := dk_46_ (show cX5_climbFrom.data.toList[93]? = some 0x2e from (LBX5_climbFromr_5 13).trans (by decide +kernel))
theorem dX5_climbFrom_94 : decode cX5_climbFrom 94 = .ok (.aload_n 1, 1) := dk_43_ (show cX5_climbFrom.data.toList[94]? = some 0x2b from (LBX5_climbFromr_5 14).trans (by decide +kernel))
theorem dX5_climbFrom_95 : decode cX5_climbFrom 95 = .ok (.iload 5, 2) := dk_21_ (show cX5_climbFrom.data.toList[95]? = some 0x15 from (LBX5_climbFromr_5 15).trans (by decide +kernel)) (show cX5_climbFrom.data.toList[96]? = some 0x05 from (LBX5_climbFromr_6 0).trans (by decide +kernel)) (by decide)
theorem dX5_climbFrom_97 : decode cX5_climbFrom 97 = .ok (.iload 6, 2) := dk_21_ (show cX5_climbFrom.data.toList[97]? = some 0x15 from (LBX5_climbFromr_6 1).trans (by decide +kernel)) (show cX5_climbFrom.data.toList[98]? = some 0x06 from (LBX5_climbFromr_6 2).trans (by decide +kernel)) (by decide)
theorem dX5_climbFrom_99 : decode cX5_climbFrom 99 = .ok (.invokestatic 36, 3) := dk_184_ (show cX5_climbFrom.data.toList[99]? = some 0xb8 from (LBX5_climbFromr_6 3).trans (by decide +kernel)) (show cX5_climbFrom.data.toList[100]? = some 0x00 from (LBX5_climbFromr_6 4).trans (by decide +kernel)) (show cX5_climbFrom.data.toList[101]? = some 0x24 from (LBX5_climbFromr_6 5).trans (by decide +kernel)) (by decide)
theorem dX5_climbFrom_102 : decode cX5_climbFrom 102 = .ok (.iadd, 1) := dk_96_ (show cX5_climbFrom.data.toList[102]? = some 0x60 from (LBX5_climbFromr_6 6).trans (by decide +kernel))
theorem dX5_climbFrom_103 : decode cX5_climbFrom 103 = .ok (.iastore, 1) := dk_79_ (show cX5_climbFrom.data.toList[103]? = some 0x4f from (LBX5_climbFromr_6 7).trans (by decide +kernel))
theorem dX5_climbFrom_104 : decode cX5_climbFrom 104 = .ok (.aload_n 0, 1) := dk_42_ (show cX5_climbFrom.data.toList[104]? = some 0x2a from (LBX5_climbFromr_6 8).trans (by decide +kernel))
theorem dX5_climbFrom_105 : decode cX5_climbFrom 105 = .ok (.getfield 15, 3) := dk_180_ (show cX5_climbFrom.data.toList[105]? = some 0xb4 from (LBX5_climbFromr_6 9).trans (by decide +kernel)) (show cX5_climbFrom.data.toList[106]? = some 0x00 from (LBX5_climbFromr_6 10).trans (by decide +kernel)) (show cX5_climbFrom.data.toList[107]? = some 0x0f from (LBX5_climbFromr_6 11).trans (by decide +kernel)) (by decide)
theorem dX5_climbFrom_108 : decode cX5_climbFrom 108 = .ok (.iload 6, 2) := dk_21_ (show cX5_climbFrom.data.toList[108]? = some 0x15 from (LBX5_climbFromr_6 12).trans (by decide +kernel)) (show cX5_climbFrom.data.toList[109]? = some 0x06 from (LBX5_climbFromr_6 13).trans (by decide +kernel)) (by decide)
theorem dX5_climbFrom_110 : decode cX5_climbFrom 110 = .ok (.iconst 1, 1) := dk_4_ (show cX5_climbFrom.data.toList[110]? = some 0x04 from (LBX5_climbFromr_6 14).trans (by decide +kernel))
theorem dX5_climbFrom_111 : decode cX5_climbFrom 111 = .ok (.bastore, 1) := dk_84_ (show cX5_climbFrom.data.toList[111]? = some 0x54 from (LBX5_climbFromr_6 15).trans (by decide +kernel))
theorem dX5_climbFrom_112 : decode cX5_climbFrom 112 = .ok (.aload_n 0, 1) := dk_42_ (show cX5_climbFrom.data.toList[112]? = some 0x2a from (LBX5_climbFromr_7 0).trans (by decide +kernel))
theorem dX5_climbFrom_113 : decode cX5_climbFrom 113 = .ok (.getfield 19, 3) := dk_180_ (show cX5_climbFrom.data.toList[113]? = some 0xb4 from (LBX5_climbFromr_7 1).trans (by decide +kernel)) (show cX5_climbFrom.data.toList[114]? = some 0x00 from (LBX5_climbFromr_7 2).trans (by decide +kernel)) (show cX5_climbFrom.data.toList[115]? = some 0x13 from (LBX5_climbFromr_7 3).trans (by decide +kernel)) (by decide)
theorem dX5_climbFrom_116 : decode cX5_climbFrom 116 = .ok (.iload_n 3, 1) := dk_29_ (show cX5_climbFrom.data.toList[116]? = some 0x1d from (LBX5_climbFromr_7 4).trans (by decide +kernel))
theorem dX5_climbFrom_117 : decode cX5_climbFrom 117 = .ok (.iload 6, 2) := dk_21_ (show cX5_climbFrom.data.toList[117]? = some 0x15 from (LBX5_climbFromr_7 5).trans (by decide +kernel)) (show cX5_climbFrom.data.toList[118]? = some 0x06 from (LBX5_climbFromr_7 6).trans (by decide +kernel)) (by decide)
theorem dX5_climbFrom_119 : decode cX5_climbFrom 119 = .ok (.iastore, 1) := dk_79_ (show cX5_climbFrom.data.toList[119]? = some 0x4f from (LBX5_climbFromr_7 7).trans (by decide +kernel))
theorem dX5_climbFrom_120 : decode cX5_climbFrom 120 = .ok (.iinc 3 1, 3) := dk_132_ (show cX5_climbFrom.data.toList[120]? = some 0x84 from (LBX5_climbFromr_7 8).trans (by decide +kernel)) (show cX5_climbFrom.data.toList[121]? = some 0x03 from (LBX5_climbFromr_7 9).trans (by decide +kernel)) (show cX5_climbFrom.data.toList[122]? = some 0x01 from (LBX5_climbFromr_7 10).trans (by decide +kernel)) (by decide) (by decide)
theorem dX5_climbFrom_123 : decode cX5_climbFrom 123 = .ok (.iinc 6 1, 3) := dk_132_ (show cX5_climbFrom.data.toList[123]? = some 0x84 from (LBX5_climbFromr_7 11).trans (by decide +kernel)) (show cX5_climbFrom.data.toList[124]? = some 0x06 from (LBX5_climbFromr_7 12).trans (by decide +kernel)) (show cX5_climbFrom.data.toList[125]? = some 0x01 from (LBX5_climbFromr_7 13).trans (by decide +kernel)) (by decide) (by decide)
theorem dX5_climbFrom_126 : decode cX5_climbFrom 126 = .ok (.goto (-75), 3) := dk_167_ (show cX5_climbFrom.data.toList[126]? = some 0xa7 from (LBX5_climbFromr_7 14).trans (by decide +kernel)) (show cX5_climbFrom.data.toList[127]? = some 0xff from (LBX5_climbFromr_7 15).trans (by decide +kernel)) (show cX5_climbFrom.data.toList[128]? = some 0xb5 from (LBX5_climbFromr_8 0).trans (by decide +kernel)) (by decide)
theorem dX5_climbFrom_129 : decode cX5_climbFrom 129 = .ok (.iinc 4 1, 3) := dk_132_ (show cX5_climbFrom.data.toList[129]? = some 0x84 from (LBX5_climbFromr_8 1).trans (by decide +kernel)) (show cX5_climbFrom.data.toList[130]? = some 0x04 from (LBX5_climbFromr_8 2).trans (by decide +kernel)) (show cX5_climbFrom.data.toList[131]? = some 0x01 from (LBX5_climbFromr_8 3).trans (by decide +kernel)) (by decide) (by decide)
theorem dX5_climbFrom_132 : decode cX5_climbFrom 132 = .ok (.goto (-106), 3) := dk_167_ (show cX5_climbFrom.data.toList[132]? = some 0xa7 from (LBX5_climbFromr_8 4).trans (by decide +kernel)) (show cX5_climbFrom.data.toList[133]? = some 0xff from (LBX5_climbFromr_8 5).trans (by decide +kernel)) (show cX5_climbFrom.data.toList[134]? = some 0x96 from (LBX5_climbFromr_8 6).trans (by decide +kernel)) (by decide)
theorem dX5_climbFrom_135 : decode cX5_climbFrom 135 = .ok (.return_, 1) := dk_177_ (show cX5_climbFrom.data.toList[135]? = some 0xb1 from (LBX5_climbFromr_8 7).trans (by decide +kernel))
def LRX5_climb_4 : List UInt8 := []
def LBX5_climb_3 : List UInt8 := [0x84, 0x02, 0x01, 0xa7, 0xff, 0xe6, 0xb1]
def LRX5_climb_3 : List UInt8 := LBX5_climb_3 ++ LRX5_climb_4
def LBX5_climb_2 : List UInt8 := [0x18, 0x2a, 0xb4, 0x00, 0x0f, 0x1c, 0x33, 0x9a, 0x00, 0x09, 0x2a, 0x2b, 0x1c, 0xb6, 0x00, 0x1c]
def LRX5_climb_2 : List UInt8 := LBX5_climb_2 ++ LRX5_climb_3
def LBX5_climb_1 : List UInt8 := [0x54, 0x84, 0x02, 0x01, 0xa7, 0xff, 0xee, 0x03, 0x3d, 0x1c, 0x2b, 0xb4, 0x00, 0x16, 0xa2, 0x00]
def LRX5_climb_1 : List UInt8 := LBX5_climb_1 ++ LRX5_climb_2
def LBX5_climb_0 : List UInt8 := [0x03, 0x3d, 0x1c, 0x2b, 0xb4, 0x00, 0x16, 0xa2, 0x00, 0x10, 0x2a, 0xb4, 0x00, 0x0f, 0x1c, 0x03]
def LRX5_climb_0 : List UInt8 := LBX5_climb_0 ++ LRX5_climb_1
set_option maxRecDepth 100000 in
theorem LBX5_climb_eq : cX5_climb.data.toList = LRX5_climb_0 := by decide +kernel
theorem LBX5_climbr_0 (k : Nat) : cX5_climb.data.toList[0 + k]? = LRX5_climb_0[k]? := by rw [LBX5_climb_eq, Nat.zero_add]
theorem LBX5_climbr_1 (k : Nat) : cX5_climb.data.toList[16 + k]? = LRX5_climb_1[k]? := by
  have h := LBX5_climbr_0 (16 + k)
  rw [show 0 + (16 + k) = 16 + k by omega] at h
  rw [h]
  exact (List.getElem?_append_right (l₁ := LBX5_climb_0) (l₂ := LRX5_climb_1) (show 16 ≤ 16 + k by omega)).trans (congrArg (fun i => LRX5_climb_1[i]?) (show 16 + k - 16 = k by omega))
theorem LBX5_climbr_2 (k : Nat) : cX5_climb.data.toList[32 + k]? = LRX5_climb_2[k]? := by
  have h := LBX5_climbr_1 (16 + k)
  rw [show 16 + (16 + k) = 32 + k by omega] at h
  rw [h]
  exact (List.getElem?_append_right (l₁ := LBX5_climb_1) (l₂ := LRX5_climb_2) (show 16 ≤ 16 + k by omega)).trans (congrArg (fun i => LRX5_climb_2[i]?) (show 16 + k - 16 = k by omega))
theorem LBX5_climbr_3 (k : Nat) : cX5_climb.data.toList[48 + k]? = LRX5_climb_3[k]? := by
  have h := LBX5_climbr_2 (16 + k)
  rw [show 32 + (16 + k) = 48 + k by omega] at h
  rw [h]
  exact (List.getElem?_append_right (l₁ := LBX5_climb_2) (l₂ := LRX5_climb_3) (show 16 ≤ 16 + k by omega)).trans (congrArg (fun i => LRX5_climb_3[i]?) (show 16 + k - 16 = k by omega))
theorem dX5_climb_0 : decode cX5_climb 0 = .ok (.iconst 0, 1) := dk_3_ (show cX5_climb.data.toList[0]? = some 0x03 from (LBX5_climbr_0 0).trans (by decide +kernel))
theorem dX5_climb_1 : decode cX5_climb 1 = .ok (.istore_n 2, 1) := dk_61_ (show cX5_climb.data.toList[1]? = some 0x3d from (LBX5_climbr_0 1).trans (by decide +kernel))
theorem dX5_climb_2 : decode cX5_climb 2 = .ok (.iload_n 2, 1) := dk_28_ (show cX5_climb.data.toList[2]? = some 0x1c from (LBX5_climbr_0 2).trans (by decide +kernel))
theorem dX5_climb_3 : decode cX5_climb 3 = .ok (.aload_n 1, 1) := dk_43_ (show cX5_climb.data.toList[3]? = some 0x2b from (LBX5_climbr_0 3).trans (by decide +kernel))
theorem dX5_climb_4 : decode cX5_climb 4 = .ok (.getfield 22, 3) := dk_180_ (show cX5_climb.data.toList[4]? = some 0xb4 from (LBX5_climbr_0 4).trans (by decide +kernel)) (show cX5_climb.data.toList[5]? = some 0x00 from (LBX5_climbr_0 5).trans (by decide +kernel)) (show cX5_climb.data.toList[6]? = some 0x16 from (LBX5_climbr_0 6).trans (by decide +kernel)) (by decide)
theorem dX5_climb_7 : decode cX5_climb 7 = .ok (.if_icmp .ge 16, 3) := dk_162_ (show cX5_climb.data.toList[7]? = some 0xa2 from (LBX5_climbr_0 7).trans (by decide +kernel)) (show cX5_climb.data.toList[8]? = some 0x00 from (LBX5_climbr_0 8).trans (by decide +kernel)) (show cX5_climb.data.toList[9]? = some 0x10 from (LBX5_climbr_0 9).trans (by decide +kernel)) (by decide)
theorem dX5_climb_10 : decode cX5_climb 10 = .ok (.aload_n 0, 1) := dk_42_ (show cX5_climb.data.toList[10]? = some 0x2a from (LBX5_climbr_0 10).trans (by decide +kernel))
theorem dX5_climb_11 : decode cX5_climb 11 = .ok (.getfield 15, 3) := dk_180_ (show cX5_climb.data.toList[11]? = some 0xb4 from (LBX5_climbr_0 11).trans (by decide +kernel)) (show cX5_climb.data.toList[12]? = some 0x00 from (LBX5_climbr_0 12).trans (by decide +kernel)) (show cX5_climb.data.toList[13]? = some 0x0f from (LBX5_climbr_0 13).trans (by decide +kernel)) (by decide)
theorem dX5_climb_14 : decode cX5_climb 14 = .ok (.iload_n 2, 1) := dk_28_ (show cX5_climb.data.toList[14]? = some 0x1c from (LBX5_climbr_0 14).trans (by decide +kernel))
theorem dX5_climb_15 : decode cX5_climb 15 = .ok (.iconst 0, 1) := dk_3_ (show cX5_climb.data.toList[15]? = some 0x03 from (LBX5_climbr_0 15).trans (by decide +kernel))
theorem dX5_climb_16 : decode cX5_climb 16 = .ok (.bastore, 1) := dk_84_ (show cX5_climb.data.toList[16]? = some 0x54 from (LBX5_climbr_1 0).trans (by decide +kernel))
theorem dX5_climb_17 : decode cX5_climb 17 = .ok (.iinc 2 1, 3) := dk_132_ (show cX5_climb.data.toList[17]? = some 0x84 from (LBX5_climbr_1 1).trans (by decide +kernel)) (show cX5_climb.data.toList[18]? = some 0x02 from (LBX5_climbr_1 2).trans (by decide +kernel)) (show cX5_climb.data.toList[19]? = some 0x01 from (LBX5_climbr_1 3).trans (by decide +kernel)) (by decide) (by decide)
theorem dX5_climb_20 : decode cX5_climb 20 = .ok (.goto (-18), 3) := dk_167_ (show cX5_climb.data.toList[20]? = some 0xa7 from (LBX5_climbr_1 4).trans (by decide +kernel)) (show cX5_climb.data.toList[21]? = some 0xff from (LBX5_climbr_1 5).trans (by decide +kernel)) (show cX5_climb.data.toList[22]? = some 0xee from (LBX5_climbr_1 6).trans (by decide +kernel)) (by decide)
theorem dX5_climb_23 : decode cX5_climb 23 = .ok (.iconst 0, 1) := dk_3_ (show cX5_climb.data.toList[23]? = some 0x03 from (LBX5_climbr_1 7).trans (by decide +kernel))
theorem dX5_climb_24 : decode cX5_climb 24 = .ok (.istore_n 2, 1) := dk_61_ (show cX5_climb.data.toList[24]? = some 0x3d from (LBX5_climbr_1 8).trans (by decide +kernel))
theorem dX5_climb_25 : decode cX5_climb 25 = .ok (.iload_n 2, 1) := dk_28_ (show cX5_climb.data.toList[25]? = some 0x1c from (LBX5_climbr_1 9).trans (by decide +kernel))
theorem dX5_climb_26 : decode cX5_climb 26 = .ok (.aload_n 1, 1) := dk_43_ (show cX5_climb.data.toList[26]? = some 0x2b from (LBX5_climbr_1 10).trans (by decide +kernel))
theorem dX5_climb_27 : decode cX5_climb 27 = .ok (.getfield 22, 3) := dk_180_ (show cX5_climb.data.toList[27]? = some 0xb4 from (LBX5_climbr_1 11).trans (by decide +kernel)) (show cX5_climb.data.toList[28]? = some 0x00 from (LBX5_climbr_1 12).trans (by decide +kernel)) (show cX5_climb.data.toList[29]? = some 0x16 from (LBX5_climbr_1 13).trans (by decide +kernel)) (by decide)
theorem dX5_climb_30 : decode cX5_climb 30 = .ok (.if_icmp .ge 24, 3) := dk_162_ (show cX5_climb.data.toList[30]? = some 0xa2 from (LBX5_climbr_1 14).trans (by decide +kernel)) (show cX5_climb.data.toList[31]? = some 0x00 from (LBX5_climbr_1 15).trans (by decide +kernel)) (show cX5_climb.data.toList[32]? = some 0x18 from (LBX5_climbr_2 0).trans (by decide +kernel)) (by decide)
theorem dX5_climb_33 : decode cX5_climb 33 = .ok (.aload_n 0, 1) := dk_42_ (show cX5_climb.data.toList[33]? = some 0x2a from (LBX5_climbr_2 1).trans (by decide +kernel))
theorem dX5_climb_34 : decode cX5_climb 34 = .ok (.getfield 15, 3) := dk_180_ (show cX5_climb.data.toList[34]? = some 0xb4 from (LBX5_climbr_2 2).trans (by decide +kernel)) (show cX5_climb.data.toList[35]? = some 0x00 from (LBX5_climbr_2 3).trans (by decide +kernel)) (show cX5_climb.data.toList[36]? = some 0x0f from (LBX5_climbr_2 4).trans (by decide +kernel)) (by decide)
theorem dX5_climb_37 : decode cX5_climb 37 = .ok (.iload_n 2, 1) := dk_28_ (show cX5_climb.data.toList[37]? = some 0x1c from (LBX5_climbr_2 5).trans (by decide +kernel))
theorem dX5_climb_38 : decode cX5_climb 38 = .ok (.baload, 1) := dk_51_ (show cX5_climb.data.toList[38]? = some 0x33 from (LBX5_climbr_2 6).trans (by decide +kernel))
theorem dX5_climb_39 : decode cX5_climb 39 = .ok (.ifCond .ne 9, 3) := dk_154_ (show cX5_climb.data.toList[39]? = some 0x9a from (LBX5_climbr_2 7).trans (by decide +kernel)) (show cX5_climb.data.toList[40]? = some 0x00 from (LBX5_climbr_2 8).trans (by decide +kernel)) (show cX5_climb.data.toList[41]? = some 0x09 from (LBX5_climbr_2 9).trans (by decide +kernel)) (by decide)
theorem dX5_climb_42 : decode cX5_climb 42 = .ok (.aload_n 0, 1) := dk_42_ (show cX5_climb.data.toList[42]? = some 0x2a from (LBX5_climbr_2 10).trans (by decide +kernel))
theorem dX5_climb_43 : decode cX5_climb 43 = .ok (.aload_n 1, 1) := dk_43_ (show cX5_climb.data.toList[43]? = some 0x2b from (LBX5_climbr_2 11).trans (by decide +kernel))
theorem dX5_climb_44 : decode cX5_climb 44 = .ok (.iload_n 2, 1) := dk_28_ (show cX5_climb.data.toList[44]? = some 0x1c from (LBX5_climbr_2 12).trans (by decide +kernel))
theorem dX5_climb_45 : decode cX5_climb 45 = .ok (.invokevirtual 28, 3) := dk_182_ (show cX5_climb.data.toList[45]? = some 0xb6 from (LBX5_climbr_2 13).trans (by decide +kernel)) (show cX5_climb.data.toList[46]? = some 0x00 from (LBX5_climbr_2 14).trans (by decide +kernel)) (show cX5_climb.data.toList[47]? = some 0x1c from (LBX5_climbr_2 15).trans (by decide +kernel)) (by decide)
theorem dX5_climb_48 : decode cX5_climb 48 = .ok (.iinc 2 1, 3) := dk_132_ (show cX5_climb.data.toList[48]? = some 0x84 from (LBX5_climbr_3 0).trans (by decide +kernel)) (show cX5_climb.data.toList[49]? = some 0x02 from (LBX5_climbr_3 1).trans (by decide +kernel)) (show cX5_climb.data.toList[50]? = some 0x01 from (LBX5_climbr_3 2).trans (by decide +kernel)) (by decide) (by decide)
theorem dX5_climb_51 : decode cX5_climb 51 = .ok (.goto (-26), 3) := dk_167_ (show cX5_climb.data.toList[51]? = some 0xa7 from (LBX5_climbr_3 3).trans (by decide +kernel)) (show cX5_climb.data.toList[52]? = some 0xff from (LBX5_climbr_3 4).trans (by decide +kernel)) (show cX5_climb.data.toList[53]? = some 0xe6 from (LBX5_climbr_3 5).trans (by decide +kernel)) (by decide)
theorem dX5_climb_54 : decode cX5_climb 54 = .ok (.return_, 1) := dk_177_ (show cX5_climb.data.toList[54]? = some 0xb1 from (LBX5_climbr_3 6).trans (by decide +kernel))
theorem uw218 : Cond.fieldLink RX5 15 "LongerBack$Slopes" "isClimbed" "[Z" ∈ wsU := ut1 (List.mem_of_getElem? (i := 135) rfl) rfl
theorem uw219 : Cond.fieldLink RX5 19 "LongerBack$Slopes" "queue" "[I" ∈ wsU := ut1 (List.mem_of_getElem? (i := 136) rfl) rfl
theorem uw220 : Cond.methodLink RX5 28 yX5_climbFrom ∈ wsU := ut3 (List.mem_of_getElem? (i := 70) rfl) rfl
theorem uw221 : Cond.instanceMethod yX5_climbFrom ∈ wsU := ut3 (List.mem_of_getElem? (i := 72) rfl) rfl
theorem uw222 : Cond.selects RX5 yX5_climbFrom yX5_climbFrom ∈ wsU := us_sel (q := (yX5_climbFrom, 3)) (List.mem_of_getElem? (i := 10) (by decide +kernel)) rfl
theorem uw223 : Cond.initialized RX5 ∈ wsU := ut1 (List.mem_of_getElem? (i := 6) rfl) rfl
theorem uw224 : Cond.code yX5_climbFrom cX5_climbFrom 7 none ∈ wsU := ut3 (List.mem_of_getElem? (i := 73) rfl) rfl
theorem kf_X5_15 : xWF RX5 15 5 1 RX5 TX5 3 := ⟨inUX5, rfl, by decide, uw218⟩
theorem kf_X5_19 : xWF RX5 19 5 2 RX5 TX5 3 := ⟨inUX5, rfl, by decide, uw219⟩
theorem kv_X5_28 : xWV RX5 28 RX5 yX5_climbFrom cX5_climbFrom 7 none 2 := ⟨⟨uw220, uw221, uw222, uw223, uw224⟩, by decide +kernel⟩
set_option maxHeartbeats 4000000 in
set_option maxRecDepth 100000 in
theorem c_X5_climbFrom (l : Launch) (D : va_G) (cI cJ cZ cS : ClassId) (ta : Nat) (sa sv : Nat → Nat) (sz : Nat) (h0 : Nat) (ah : Nat) (ac : Nat) (aq : Nat) (hh : Nat → Int32) (cl : Nat → Int32) (qu : Nat → Int32) (q1 : Nat) (be : Nat) (bl : Nat) (bu : Nat) (bo : Nat) (br : Nat) (bk : Nat) (bw : Nat) (btt : Nat) (bss : Nat) (P : Nat) (lo : Nat → Int32) (d : Nat → Int32) (j : Nat) (hP0 : P ≤ 10) (hj : j < P) (hqu : BA 10 10 qu) : Met l yX5_climbFrom (Cond.code yX5_climbFrom cX5_climbFrom 7 none :: wsU) ({ frames := 3, cells := 0, slots := 0, locals := 65 }) (va_Pc [.ref h0, .ref q1, .int (nI (j))] (XW D (xT cI cJ cZ cS) ta sa sv [(h0, .inr (5, [.ref ah, .ref ac, .ref aq])), (ah, .inl (cI, 10, .inl hh)), (ac, .inl (cZ, 10, .inl cl)), (aq, .inl (cI, 10, .inl qu)), (q1, .inr (1, [.int (nI (P)), .ref be, .ref bl, .ref bu, .ref bo, .ref br, .ref bk, .ref bw, .ref btt, .ref bss])), (bl, .inl (cI, 100, .inl lo)), (bo, .inl (cI, 100, .inl d))] sz)) (XQv (fun (u : (Nat → Int32) × (Nat → Int32) × (Nat → Int32)) => match u with | (h2, c2, q9) => (BA 10 10 q9)) D (fun (u : (Nat → Int32) × (Nat → Int32) × (Nat → Int32)) => match u with | (h2, c2, q9) => [(h0, .inr (5, [.ref ah, .ref ac, .ref aq])), (ah, .inl (cI, 10, .inl h2)), (ac, .inl (cZ, 10, .inl c2)), (aq, .inl (cI, 10, .inl q9)), (q1, .inr (1, [.int (nI (P)), .ref be, .ref bl, .ref bu, .ref bo, .ref br, .ref bk, .ref bw, .ref btt, .ref bss])), (bl, .inl (cI, 100, .inl lo)), (bo, .inl (cI, 100, .inl d))]) (va_A [(h0, .inr (5, [.ref ah, .ref ac, .ref aq])), (ah, .inl (cI, 10, .inl hh)), (ac, .inl (cZ, 10, .inl cl)), (aq, .inl (cI, 10, .inl qu)), (q1, .inr (1, [.int (nI (P)), .ref be, .ref bl, .ref bu, .ref bo, .ref br, .ref bk, .ref bw, .ref btt, .ref bss])), (bl, .inl (cI, 100, .inl lo)), (bo, .inl (cI, 100, .inl d))] sz)) 0 0 (va_A [(h0, .inr (5, [.ref ah, .ref ac, .ref aq])), (ah, .inl (cI, 10, .inl hh)), (ac, .inl (cZ, 10, .inl cl)), (aq, .inl (cI, 10, .inl qu)), (q1, .inr (1, [.int (nI (P)), .ref be, .ref bl, .ref bu, .ref bo, .ref br, .ref bk, .ref bw, .ref btt, .ref bss])), (bl, .inl (cI, 100, .inl lo)), (bo, .inl (cI, 100, .inl d))] sz) := by
  refine xh (QA := fun A => XQv (fun (u : (Nat → Int32) × (Nat → Int32) × (Nat → Int32)) => match u with | (h2, c2, q9) => (BA 10 10 q9)) D (fun (u : (Nat → Int32) × (Nat → Int32) × (Nat → Int32)) => match u with | (h2, c2, q9) => [(h0, .inr (5, [.ref ah, .ref ac, .ref aq])), (ah, .inl (cI, 10, .inl h2)), (ac, .inl (cZ, 10, .inl c2)), (aq, .inl (cI, 10, .inl q9)), (q1, .inr (1, [.int (nI (P)), .ref be, .ref bl, .ref bu, .ref bo, .ref br, .ref bk, .ref bw, .ref btt, .ref bss])), (bl, .inl (cI, 100, .inl lo)), (bo, .inl (cI, 100, .inl d))]) A) (fr := fun A => A) (by decide) (Nat.le_of_ble_eq_true rfl) ?_
  intro p e s m below meth c ls A hF hr hlk hin hsz hP hK hD hN hZ hA hS hl
  have hF : CallFix p m c cX5_climbFrom 7 s _ _ RX5 := hF
  have hx := hF.1
  have hb := hF.2.1
  have hml := hF.2.2.1
  have hown := hF.2.2.2.1
  have hu : ∀ w ∈ wsU, w.before _ s = true := fun w h => hF.2.2.2.2 w (List.mem_cons_of_mem _ h)
  have hl : lv_has ls 7 [(0, .ref h0), (1, .ref q1), (2, .int (nI (j)))] := hl
  refine lv_aload_n hx hb dX5_climbFrom_0 rfl (lv_at hl 0 rfl) ?_
  refine xg hF kf_X5_9 hK hP 0 rfl rfl dX5_climbFrom_1 ?_
  refine lv_iload_n hx hb dX5_climbFrom_4 rfl (lv_at hl 2 rfl) ?_
  refine lv_iconst (v := 0) hx hb dX5_climbFrom_5 (by decide) ?_
  refine va_iast hx hb hK hP hD hS 1 0 rfl rfl (vp_in_nI (show j < 10 by omega) (by decide)) dX5_climbFrom_6 (fun H locs hP hD hS => ?_)
  rw [nI_clamp (show j < 2 ^ 31 by omega)] at hP hD
  obtain ⟨f_1, ef_1⟩ : ∃ g, g = upd hh j 0 := ⟨_, rfl⟩
  rw [← ef_1] at hP hD
  have hP : va_P D vwCl [(h0, .inr (5, [.ref ah, .ref ac, .ref aq])), (ah, .inl (cI, 10, .inl f_1)), (ac, .inl (cZ, 10, .inl cl)), (aq, .inl (cI, 10, .inl qu)), (q1, .inr (1, [.int (nI (P)), .ref be, .ref bl, .ref bu, .ref bo, .ref br, .ref bk, .ref bw, .ref btt, .ref bss])), (bl, .inl (cI, 100, .inl lo)), (bo, .inl (cI, 100, .inl d))] H := hP
  have hD : va_D A [(h0, .inr (5, [.ref ah, .ref ac, .ref aq])), (ah, .inl (cI, 10, .inl f_1)), (ac, .inl (cZ, 10, .inl cl)), (aq, .inl (cI, 10, .inl qu)), (q1, .inr (1, [.int (nI (P)), .ref be, .ref bl, .ref bu, .ref bo, .ref br, .ref bk, .ref bw, .ref btt, .ref bss])), (bl, .inl (cI, 100, .inl lo)), (bo, .inl (cI, 100, .inl d))] := hD
  refine lv_aload_n hx hb dX5_climbFrom_7 rfl (lv_at hl 0 rfl) ?_
  refine xg hF kf_X5_15 hK hP 0 rfl rfl dX5_climbFrom_8 ?_
  refine lv_iload_n hx hb dX5_climbFrom_11 rfl (lv_at hl 2 rfl) ?_
  refine lv_iconst (v := 1) hx hb dX5_climbFrom_12 (by decide) ?_
  refine va_zast hx hb hK hP hD hS 2 2 rfl rfl (vp_in_nI (show j < 10 by omega) (by decide)) dX5_climbFrom_13 (fun H locs hP hD hS => ?_)
  rw [nI_clamp (show j < 2 ^ 31 by omega)] at hP hD
  obtain ⟨f_2, ef_2⟩ : ∃ g, g = upd cl j (vp_nar .boolean 1) := ⟨_, rfl⟩
  rw [← ef_2] at hP hD
  have hP : va_P D vwCl [(h0, .inr (5, [.ref ah, .ref ac, .ref aq])), (ah, .inl (cI, 10, .inl f_1)), (ac, .inl (cZ, 10, .inl f_2)), (aq, .inl (cI, 10, .inl qu)), (q1, .inr (1, [.int (nI (P)), .ref be, .ref bl, .ref bu, .ref bo, .ref br, .ref bk, .ref bw, .ref btt, .ref bss])), (bl, .inl (cI, 100, .inl lo)), (bo, .inl (cI, 100, .inl d))] H := hP
  have hD : va_D A [(h0, .inr (5, [.ref ah, .ref ac, .ref aq])), (ah, .inl (cI, 10, .inl f_1)), (ac, .inl (cZ, 10, .inl f_2)), (aq, .inl (cI, 10, .inl qu)), (q1, .inr (1, [.int (nI (P)), .ref be, .ref bl, .ref bu, .ref bo, .ref br, .ref bk, .ref bw, .ref btt, .ref bss])), (bl, .inl (cI, 100, .inl lo)), (bo, .inl (cI, 100, .inl d))] := hD
  refine lv_aload_n hx hb dX5_climbFrom_14 rfl (lv_at hl 0 rfl) ?_
  refine xg hF kf_X5_19 hK hP 0 rfl rfl dX5_climbFrom_15 ?_
  refine lv_iconst (v := 0) hx hb dX5_climbFrom_18 (by decide) ?_
  refine lv_iload_n hx hb dX5_climbFrom_19 rfl (lv_at hl 2 rfl) ?_
  refine va_iast hx hb hK hP hD hS 3 0 rfl rfl (xin 0 10 (by decide) (by decide)) dX5_climbFrom_20 (fun H locs hP hD hS => ?_)
  obtain ⟨f_3, ef_3⟩ : ∃ g, g = upd qu 0 (nI (j)) := ⟨_, rfl⟩
  have hP : va_P D vwCl [(h0, .inr (5, [.ref ah, .ref ac, .ref aq])), (ah, .inl (cI, 10, .inl f_1)), (ac, .inl (cZ, 10, .inl f_2)), (aq, .inl (cI, 10, .inl (upd qu 0 (nI (j))))), (q1, .inr (1, [.int (nI (P)), .ref be, .ref bl, .ref bu, .ref bo, .ref br, .ref bk, .ref bw, .ref btt, .ref bss])), (bl, .inl (cI, 100, .inl lo)), (bo, .inl (cI, 100, .inl d))] H := hP
  have hD : va_D A [(h0, .inr (5, [.ref ah, .ref ac, .ref aq])), (ah, .inl (cI, 10, .inl f_1)), (ac, .inl (cZ, 10, .inl f_2)), (aq, .inl (cI, 10, .inl (upd qu 0 (nI (j))))), (q1, .inr (1, [.int (nI (P)), .ref be, .ref bl, .ref bu, .ref bo, .ref br, .ref bk, .ref bw, .ref btt, .ref bss])), (bl, .inl (cI, 100, .inl lo)), (bo, .inl (cI, 100, .inl d))] := hD
  rw [← ef_3] at hP hD
  have hf_3 : BA 10 10 f_3 := by rw [ef_3]; exact BA.upd hqu (show j < 10 by omega)
  have hP : va_P D vwCl [(h0, .inr (5, [.ref ah, .ref ac, .ref aq])), (ah, .inl (cI, 10, .inl f_1)), (ac, .inl (cZ, 10, .inl f_2)), (aq, .inl (cI, 10, .inl f_3)), (q1, .inr (1, [.int (nI (P)), .ref be, .ref bl, .ref bu, .ref bo, .ref br, .ref bk, .ref bw, .ref btt, .ref bss])), (bl, .inl (cI, 100, .inl lo)), (bo, .inl (cI, 100, .inl d))] H := hP
  have hD : va_D A [(h0, .inr (5, [.ref ah, .ref ac, .ref aq])), (ah, .inl (cI, 10, .inl f_1)), (ac, .inl (cZ, 10, .inl f_2)), (aq, .inl (cI, 10, .inl f_3)), (q1, .inr (1, [.int (nI (P)), .ref be, .ref bl, .ref bu, .ref bo, .ref br, .ref bk, .ref bw, .ref btt, .ref bss])), (bl, .inl (cI, 100, .inl lo)), (bo, .inl (cI, 100, .inl d))] := hD
  refine lv_iconst (v := 1) hx hb dX5_climbFrom_21 (by decide) ?_
  refine lv_istore_n (lv' := [(3, .int 1), (0, .ref h0), (1, .ref q1), (2, .int (nI (j)))]) hx hb dX5_climbFrom_22 rfl hl (by decide) rfl (fun ls hl => ?_)
  refine lv_iconst (v := 0) hx hb dX5_climbFrom_23 (by decide) ?_
  refine lv_istore (lv' := [(4, .int 0), (3, .int 1), (0, .ref h0), (1, .ref q1), (2, .int (nI (j)))]) hx hb dX5_climbFrom_24 hl (by decide) rfl (fun ls hl => ?_)
  suffices loop_26 : ∀ (n_26 : Nat) (i : Nat) (w : Nat) (hh9 : Nat → Int32) (cl9 : Nat → Int32) (qu9 : Nat → Int32) (H : Heap) (locs : List Loc) (ls : Array Slot), 10 - i < n_26 → (i ≤ 10) → (w ≤ 10) → (w ≤ mk_n cl9 P) → (BA 10 10 qu9) → va_P D vwCl [(h0, .inr (5, [.ref ah, .ref ac, .ref aq])), (ah, .inl (cI, 10, .inl hh9)), (ac, .inl (cZ, 10, .inl cl9)), (aq, .inl (cI, 10, .inl qu9)), (q1, .inr (1, [.int (nI (P)), .ref be, .ref bl, .ref bu, .ref bo, .ref br, .ref bk, .ref bw, .ref btt, .ref bss])), (bl, .inl (cI, 100, .inl lo)), (bo, .inl (cI, 100, .inl d))] H → va_D A [(h0, .inr (5, [.ref ah, .ref ac, .ref aq])), (ah, .inl (cI, 10, .inl hh9)), (ac, .inl (cZ, 10, .inl cl9)), (aq, .inl (cI, 10, .inl qu9)), (q1, .inr (1, [.int (nI (P)), .ref be, .ref bl, .ref bu, .ref bo, .ref br, .ref bk, .ref bw, .ref btt, .ref bss])), (bl, .inl (cI, 100, .inl lo)), (bo, .inl (cI, 100, .inl d))] → va_S A s.heap H locs → lv_has ls 7 [(4, .int (nI (i))), (3, .int (nI (w))), (0, .ref h0), (1, .ref q1), (2, .int (nI (j)))] → W p l e ({ frames := 3, cells := 0, slots := 0, locals := 65 }) s m ([.ref h0, .ref q1, .int (nI (j))] : List Value).toArray below meth c H locs 0 0 (MQ below (XQv (fun (u : (Nat → Int32) × (Nat → Int32) × (Nat → Int32)) => match u with | (h2, c2, q9) => (BA 10 10 q9)) D (fun (u : (Nat → Int32) × (Nat → Int32) × (Nat → Int32)) => match u with | (h2, c2, q9) => [(h0, .inr (5, [.ref ah, .ref ac, .ref aq])), (ah, .inl (cI, 10, .inl h2)), (ac, .inl (cZ, 10, .inl c2)), (aq, .inl (cI, 10, .inl q9)), (q1, .inr (1, [.int (nI (P)), .ref be, .ref bl, .ref bu, .ref bo, .ref br, .ref bk, .ref bw, .ref btt, .ref bss])), (bl, .inl (cI, 100, .inl lo)), (bo, .inl (cI, 100, .inl d))]) A) ([.ref h0, .ref q1, .int (nI (j))] : List Value).toArray s 0 0 A) (F0 m 26 ls []) by
    exact loop_26 _ 0 1 f_1 f_2 f_3 _ _ _ (Nat.lt_succ_self _) (by omega) (by omega) (mk_any (show j < P by omega) (by rw [ef_2, pk_us]; decide)) hf_3 hP hD hS (lv_sub hl [0, 1, 2, 3, 4] rfl)
  intro n_26
  induction n_26 with
  | zero =>
    intro i w hh9 cl9 qu9 H locs ls hm_26
    exact absurd hm_26 (Nat.not_lt_zero _)
  | succ n_26 ih_26 =>
    intro i w hh9 cl9 qu9 H locs ls hm_26 hi hw0 hmk hqu9 hP hD hS hl
    refine lv_iload hx hb dX5_climbFrom_26 (lv_at hl 0 rfl) ?_
    refine lv_iload_n hx hb dX5_climbFrom_28 rfl (lv_at hl 1 rfl) ?_
    refine lv_icmp_ge (tgt := 135) hx hb dX5_climbFrom_29 (by decide) (fun c_4 => ?_) (fun c_4 => ?_)
    · skip
      have nc_4 : w ≤ i := xn_le (a := w) (b := i) (by omega) (by omega) c_4
      exact W.vret hx hb hr (fun t ht hW => ⟨⟨(hh9, cl9, qu9), rfl, hqu9, by rw [ht]; exact hP.sub [0, 1, 2, 3, 4, 5, 6] rfl, hD.sub [0, 1, 2, 3, 4, 5, 6] (by decide +kernel) rfl⟩, hS.F ht⟩) hS.2.2 dX5_climbFrom_135 hlk
    · skip
      have nc_4 : i < w := xn_nle (a := w) (b := i) (by omega) (by omega) c_4
      refine lv_iload hx hb dX5_climbFrom_32 (lv_at hl 0 rfl) ?_
      refine lv_bipush (v := 10) hx hb dX5_climbFrom_34 (by decide) ?_
      refine lv_icmp_ge (tgt := 135) hx hb dX5_climbFrom_36 (by decide) (fun c_5 => ?_) (fun c_5 => ?_)
      · skip
        have nc_5 : 10 ≤ i := xn_le (a := 10) (b := i) (by omega) (by omega) c_5
        exact W.vret hx hb hr (fun t ht hW => ⟨⟨(hh9, cl9, qu9), rfl, hqu9, by rw [ht]; exact hP.sub [0, 1, 2, 3, 4, 5, 6] rfl, hD.sub [0, 1, 2, 3, 4, 5, 6] (by decide +kernel) rfl⟩, hS.F ht⟩) hS.2.2 dX5_climbFrom_135 hlk
      · skip
        have nc_5 : i < 10 := xn_nle (a := 10) (b := i) (by omega) (by omega) c_5
        refine lv_aload_n hx hb dX5_climbFrom_39 rfl (lv_at hl 2 rfl) ?_
        refine xg hF kf_X5_19 hK hP 0 rfl rfl dX5_climbFrom_40 ?_
        refine lv_iload hx hb dX5_climbFrom_43 (lv_at hl 0 rfl) ?_
        refine va_iald hx hb hK hP 3 0 rfl rfl (vp_in_nI (show i < 10 by omega) (by decide)) dX5_climbFrom_45 ?_
        refine xl_i (y := qu9 i) (congrArg qu9 (nI_clamp (show i < 2 ^ 31 by omega))) ?_
        obtain ⟨q_6, hq_6, eq_6⟩ := hqu9 i (by omega)
        refine xl_i (y := nI (q_6)) eq_6 ?_
        refine lv_istore (lv' := [(5, .int (nI (q_6))), (4, .int (nI (i))), (3, .int (nI (w))), (0, .ref h0), (1, .ref q1), (2, .int (nI (j)))]) hx hb dX5_climbFrom_46 hl (by decide) rfl (fun ls hl => ?_)
        refine lv_iconst (v := 0) hx hb dX5_climbFrom_48 (by decide) ?_
        refine lv_istore (lv' := [(6, .int 0), (5, .int (nI (q_6))), (4, .int (nI (i))), (3, .int (nI (w))), (0, .ref h0), (1, .ref q1), (2, .int (nI (j)))]) hx hb dX5_climbFrom_49 hl (by decide) rfl (fun ls hl => ?_)
        suffices loop_51 : ∀ (n_51 : Nat) (k : Nat) (w8 : Nat) (hh8 : Nat → Int32) (cl8 : Nat → Int32) (qu8 : Nat → Int32) (H : Heap) (locs : List Loc) (ls : Array Slot), P - k < n_51 → (k ≤ P) → (w8 ≤ 10) → (w8 ≤ mk_n cl8 P) → (BA 10 10 qu8) → va_P D vwCl [(h0, .inr (5, [.ref ah, .ref ac, .ref aq])), (ah, .inl (cI, 10, .inl hh8)), (ac, .inl (cZ, 10, .inl cl8)), (aq, .inl (cI, 10, .inl qu8)), (q1, .inr (1, [.int (nI (P)), .ref be, .ref bl, .ref bu, .ref bo, .ref br, .ref bk, .ref bw, .ref btt, .ref bss])), (bl, .inl (cI, 100, .inl lo)), (bo, .inl (cI, 100, .inl d))] H → va_D A [(h0, .inr (5, [.ref ah, .ref ac, .ref aq])), (ah, .inl (cI, 10, .inl hh8)), (ac, .inl (cZ, 10, .inl cl8)), (aq, .inl (cI, 10, .inl qu8)), (q1, .inr (1, [.int (nI (P)), .ref be, .ref bl, .ref bu, .ref bo, .ref br, .ref bk, .ref bw, .ref btt, .ref bss])), (bl, .inl (cI, 100, .inl lo)), (bo, .inl (cI, 100, .inl d))] → va_S A s.heap H locs → lv_has ls 7 [(6, .int (nI (k))), (5, .int (nI (q_6))), (4, .int (nI (i))), (3, .int (nI (w8))), (0, .ref h0), (1, .ref q1), (2, .int (nI (j)))] → W p l e ({ frames := 3, cells := 0, slots := 0, locals := 65 }) s m ([.ref h0, .ref q1, .int (nI (j))] : List Value).toArray below meth c H locs 0 0 (MQ below (XQv (fun (u : (Nat → Int32) × (Nat → Int32) × (Nat → Int32)) => match u with | (h2, c2, q9) => (BA 10 10 q9)) D (fun (u : (Nat → Int32) × (Nat → Int32) × (Nat → Int32)) => match u with | (h2, c2, q9) => [(h0, .inr (5, [.ref ah, .ref ac, .ref aq])), (ah, .inl (cI, 10, .inl h2)), (ac, .inl (cZ, 10, .inl c2)), (aq, .inl (cI, 10, .inl q9)), (q1, .inr (1, [.int (nI (P)), .ref be, .ref bl, .ref bu, .ref bo, .ref br, .ref bk, .ref bw, .ref btt, .ref bss])), (bl, .inl (cI, 100, .inl lo)), (bo, .inl (cI, 100, .inl d))]) A) ([.ref h0, .ref q1, .int (nI (j))] : List Value).toArray s 0 0 A) (F0 m 51 ls []) by
          exact loop_51 _ 0 w hh9 cl9 qu9 _ _ _ (Nat.lt_succ_self _) (by omega) (by omega) hmk hqu9 hP hD hS (lv_sub hl [0, 1, 2, 3, 4, 5, 6] rfl)
        intro n_51
        induction n_51 with
        | zero =>
          intro k w8 hh8 cl8 qu8 H locs ls hm_51
          exact absurd hm_51 (Nat.not_lt_zero _)
        | succ n_51 ih_51 =>
          intro k w8 hh8 cl8 qu8 H locs ls hm_51 hk hw8 hmk8 hqu8 hP hD hS hl
          refine lv_iload hx hb dX5_climbFrom_51 (lv_at hl 0 rfl) ?_
          refine lv_aload_n hx hb dX5_climbFrom_53 rfl (lv_at hl 5 rfl) ?_
          refine xg hF kf_X5_22 hK hP 4 rfl rfl dX5_climbFrom_54 ?_
          refine lv_icmp_ge (tgt := 129) hx hb dX5_climbFrom_57 (by decide) (fun c_7 => ?_) (fun c_7 => ?_)
          · skip
            have nc_7 : P ≤ k := xn_le (a := P) (b := k) (by omega) (by omega) c_7
            refine lv_iinc (v := nI (i + 1)) (lv' := [(4, .int (nI (i + 1))), (6, .int (nI (k))), (5, .int (nI (q_6))), (3, .int (nI (w8))), (0, .ref h0), (1, .ref q1), (2, .int (nI (j)))]) hx hb dX5_climbFrom_129 hl (k := 2) rfl (nI_1 (i)) (by decide) rfl (fun ls hl => ?_)
            refine lv_goto (tgt := 26) hx hb dX5_climbFrom_132 (by decide) ?_
            exact ih_26 (i + 1) w8 hh8 cl8 qu8 _ _ _ (by omega) (by omega) (Nat.le_trans hmk8 (Nat.le_trans (mk_le _ P) hP0)) hmk8 hqu8 (hP.sub [0, 1, 2, 3, 4, 5, 6] rfl) (hD.sub [0, 1, 2, 3, 4, 5, 6] (by decide +kernel) rfl) hS (lv_sub hl [0, 3, 4, 5, 6] rfl)
          · skip
            have nc_7 : k < P := xn_nle (a := P) (b := k) (by omega) (by omega) c_7
            refine lv_aload_n hx hb dX5_climbFrom_60 rfl (lv_at hl 4 rfl) ?_
            refine xg hF kf_X5_15 hK hP 0 rfl rfl dX5_climbFrom_61 ?_
            refine lv_iload hx hb dX5_climbFrom_64 (lv_at hl 0 rfl) ?_
            refine va_zald hx hb hK hP 2 2 rfl rfl (vp_in_nI (show k < 10 by omega) (by decide)) dX5_climbFrom_66 ?_
            refine xl_i (y := cl8 k) (congrArg cl8 (nI_clamp (show k < 2 ^ 31 by omega))) ?_
            refine lv_if_ne (tgt := 123) hx hb dX5_climbFrom_67 (by decide) (fun c_8 => ?_) (fun c_8 => ?_)
            · skip
              refine lv_iinc (v := nI (k + 1)) (lv' := [(6, .int (nI (k + 1))), (5, .int (nI (q_6))), (4, .int (nI (i))), (3, .int (nI (w8))), (0, .ref h0), (1, .ref q1), (2, .int (nI (j)))]) hx hb dX5_climbFrom_123 hl (k := 0) rfl (nI_1 (k)) (by decide) rfl (fun ls hl => ?_)
              refine lv_goto (tgt := 51) hx hb dX5_climbFrom_126 (by decide) ?_
              exact ih_51 (k + 1) w8 hh8 cl8 qu8 _ _ _ (by omega) (by omega) (by omega) hmk8 hqu8 (hP.sub [0, 1, 2, 3, 4, 5, 6] rfl) (hD.sub [0, 1, 2, 3, 4, 5, 6] (by decide +kernel) rfl) hS (lv_sub hl [0, 1, 2, 3, 4, 5, 6] rfl)
            · skip
              refine lv_aload_n hx hb dX5_climbFrom_70 rfl (lv_at hl 5 rfl) ?_
              refine lv_iload hx hb dX5_climbFrom_71 (lv_at hl 1 rfl) ?_
              refine lv_iload hx hb dX5_climbFrom_73 (lv_at hl 0 rfl) ?_
              refine xc_Vr hF (c_X1_areBothWays l D cI cJ cZ cS ta sa sv H.size q1 be bl bu bo br bk bw btt bss P q_6 k d (by omega) (by omega)) kv_X5_32 ⟨rfl, rfl, Nat.le_of_ble_eq_true rfl, Nat.le_of_ble_eq_true rfl⟩ ⟨Nat.le_of_ble_eq_true rfl, Nat.le_of_ble_eq_true rfl⟩ hK hN hZ hP hD hS hA [4, 6] rfl rfl 0 rfl rfl rfl rfl hl.1 rfl (Nat.le_of_ble_eq_true rfl) dX5_climbFrom_75 (fun r_9 hw_r_9 => ?_)
              rcases hw_r_9 with rfl | rfl
              · skip
                refine lv_if_eq (tgt := 123) hx hb dX5_climbFrom_78 (by decide) (fun c_10 => absurd c_10 (by decide)) (fun c_10 => ?_)
                refine lv_aload_n hx hb dX5_climbFrom_81 rfl (lv_at hl 4 rfl) ?_
                refine xg hF kf_X5_9 hK hP 0 rfl rfl dX5_climbFrom_82 ?_
                refine lv_iload hx hb dX5_climbFrom_85 (lv_at hl 0 rfl) ?_
                refine lv_aload_n hx hb dX5_climbFrom_87 rfl (lv_at hl 4 rfl) ?_
                refine xg hF kf_X5_9 hK hP 0 rfl rfl dX5_climbFrom_88 ?_
                refine lv_iload hx hb dX5_climbFrom_91 (lv_at hl 1 rfl) ?_
                refine va_iald hx hb hK hP 1 0 rfl rfl (vp_in_nI (show q_6 < 10 by omega) (by decide)) dX5_climbFrom_93 ?_
                refine xl_i (y := hh8 q_6) (congrArg hh8 (nI_clamp (show q_6 < 2 ^ 31 by omega))) ?_
                refine lv_aload_n hx hb dX5_climbFrom_94 rfl (lv_at hl 5 rfl) ?_
                refine lv_iload hx hb dX5_climbFrom_95 (lv_at hl 1 rfl) ?_
                refine lv_iload hx hb dX5_climbFrom_97 (lv_at hl 0 rfl) ?_
                refine xc_Sr hF (c_X5_riseOf l D cI cJ cZ cS ta sa sv H.size q1 be bl bu bo br bk bw btt bss P q_6 k lo (by omega) (by omega)) ks_X5_36 ⟨rfl, rfl, Nat.le_of_ble_eq_true rfl, Nat.le_of_ble_eq_true rfl⟩ ⟨Nat.le_of_ble_eq_true rfl, Nat.le_of_ble_eq_true rfl⟩ hK hN hZ hP hD hS hA [4, 5] rfl rfl rfl hl.1 rfl (Nat.le_of_ble_eq_true rfl) dX5_climbFrom_99 (fun r_11 hw_r_11 => ?_)
                subst hw_r_11
                refine lv_iadd hx hb dX5_climbFrom_102 ?_
                refine lv_topi (fun x_12 ex_12 => ?_)
                refine va_iast hx hb hK hP hD hS 1 0 rfl rfl (vp_in_nI (show k < 10 by omega) (by decide)) dX5_climbFrom_103 (fun H locs hP hD hS => ?_)
                rw [nI_clamp (show k < 2 ^ 31 by omega)] at hP hD
                obtain ⟨f_13, ef_13⟩ : ∃ g, g = upd hh8 k x_12 := ⟨_, rfl⟩
                rw [← ef_13] at hP hD
                have hP : va_P D vwCl [(h0, .inr (5, [.ref ah, .ref ac, .ref aq])), (ah, .inl (cI, 10, .inl f_13)), (ac, .inl (cZ, 10, .inl cl8)), (aq, .inl (cI, 10, .inl qu8)), (q1, .inr (1, [.int (nI (P)), .ref be, .ref bl, .ref bu, .ref bo, .ref br, .ref bk, .ref bw, .ref btt, .ref bss])), (bl, .inl (cI, 100, .inl lo)), (bo, .inl (cI, 100, .inl d))] H := hP
                have hD : va_D A [(h0, .inr (5, [.ref ah, .ref ac, .ref aq])), (ah, .inl (cI, 10, .inl f_13)), (ac, .inl (cZ, 10, .inl cl8)), (aq, .inl (cI, 10, .inl qu8)), (q1, .inr (1, [.int (nI (P)), .ref be, .ref bl, .ref bu, .ref bo, .ref br, .ref bk, .ref bw, .ref btt, .ref bss])), (bl, .inl (cI, 100, .inl lo)), (bo, .inl (cI, 100, .inl d))] := hD
                refine lv_aload_n hx hb dX5_climbFrom_104 rfl (lv_at hl 4 rfl) ?_
                refine xg hF kf_X5_15 hK hP 0 rfl rfl dX5_climbFrom_105 ?_
                refine lv_iload hx hb dX5_climbFrom_108 (lv_at hl 0 rfl) ?_
                refine lv_iconst (v := 1) hx hb dX5_climbFrom_110 (by decide) ?_
                refine va_zast hx hb hK hP hD hS 2 2 rfl rfl (vp_in_nI (show k < 10 by omega) (by decide)) dX5_climbFrom_111 (fun H locs hP hD hS => ?_)
                rw [nI_clamp (show k < 2 ^ 31 by omega)] at hP hD
                obtain ⟨f_14, ef_14⟩ : ∃ g, g = upd cl8 k (vp_nar .boolean 1) := ⟨_, rfl⟩
                rw [← ef_14] at hP hD
                have hP : va_P D vwCl [(h0, .inr (5, [.ref ah, .ref ac, .ref aq])), (ah, .inl (cI, 10, .inl f_13)), (ac, .inl (cZ, 10, .inl f_14)), (aq, .inl (cI, 10, .inl qu8)), (q1, .inr (1, [.int (nI (P)), .ref be, .ref bl, .ref bu, .ref bo, .ref br, .ref bk, .ref bw, .ref btt, .ref bss])), (bl, .inl (cI, 100, .inl lo)), (bo, .inl (cI, 100, .inl d))] H := hP
                have hD : va_D A [(h0, .inr (5, [.ref ah, .ref ac, .ref aq])), (ah, .inl (cI, 10, .inl f_13)), (ac, .inl (cZ, 10, .inl f_14)), (aq, .inl (cI, 10, .inl qu8)), (q1, .inr (1, [.int (nI (P)), .ref be, .ref bl, .ref bu, .ref bo, .ref br, .ref bk, .ref bw, .ref btt, .ref bss])), (bl, .inl (cI, 100, .inl lo)), (bo, .inl (cI, 100, .inl d))] := hD
                refine lv_aload_n hx hb dX5_climbFrom_112 rfl (lv_at hl 4 rfl) ?_
                refine xg hF kf_X5_19 hK hP 0 rfl rfl dX5_climbFrom_113 ?_
                refine lv_iload_n hx hb dX5_climbFrom_116 rfl (lv_at hl 3 rfl) ?_
                refine lv_iload hx hb dX5_climbFrom_117 (lv_at hl 0 rfl) ?_
                have hw7 := mk_lt (show k < P by omega) c_8
                refine va_iast hx hb hK hP hD hS 3 0 rfl rfl (vp_in_nI (show w8 < 10 by omega) (by decide)) dX5_climbFrom_119 (fun H locs hP hD hS => ?_)
                rw [nI_clamp (show w8 < 2 ^ 31 by omega)] at hP hD
                obtain ⟨f_15, ef_15⟩ : ∃ g, g = upd qu8 w8 (nI (k)) := ⟨_, rfl⟩
                rw [← ef_15] at hP hD
                have hf_15 : BA 10 10 f_15 := by rw [ef_15]; exact BA.upd hqu8 (show k < 10 by omega)
                have hP : va_P D vwCl [(h0, .inr (5, [.ref ah, .ref ac, .ref aq])), (ah, .inl (cI, 10, .inl f_13)), (ac, .inl (cZ, 10, .inl f_14)), (aq, .inl (cI, 10, .inl f_15)), (q1, .inr (1, [.int (nI (P)), .ref be, .ref bl, .ref bu, .ref bo, .ref br, .ref bk, .ref bw, .ref btt, .ref bss])), (bl, .inl (cI, 100, .inl lo)), (bo, .inl (cI, 100, .inl d))] H := hP
                have hD : va_D A [(h0, .inr (5, [.ref ah, .ref ac, .ref aq])), (ah, .inl (cI, 10, .inl f_13)), (ac, .inl (cZ, 10, .inl f_14)), (aq, .inl (cI, 10, .inl f_15)), (q1, .inr (1, [.int (nI (P)), .ref be, .ref bl, .ref bu, .ref bo, .ref br, .ref bk, .ref bw, .ref btt, .ref bss])), (bl, .inl (cI, 100, .inl lo)), (bo, .inl (cI, 100, .inl d))] := hD
                refine lv_iinc (v := nI (w8 + 1)) (lv' := [(3, .int (nI (w8 + 1))), (6, .int (nI (k))), (5, .int (nI (q_6))), (4, .int (nI (i))), (0, .ref h0), (1, .ref q1), (2, .int (nI (j)))]) hx hb dX5_climbFrom_120 hl (k := 3) rfl (nI_1 (w8)) (by decide) rfl (fun ls hl => ?_)
                refine lv_iinc (v := nI (k + 1)) (lv' := [(6, .int (nI (k + 1))), (3, .int (nI (w8 + 1))), (5, .int (nI (q_6))), (4, .int (nI (i))), (0, .ref h0), (1, .ref q1), (2, .int (nI (j)))]) hx hb dX5_climbFrom_123 hl (k := 1) rfl (nI_1 (k)) (by decide) rfl (fun ls hl => ?_)
                refine lv_goto (tgt := 51) hx hb dX5_climbFrom_126 (by decide) ?_
                exact ih_51 (k + 1) (w8 + 1) f_13 f_14 f_15 _ _ _ (by omega) (by omega) (by omega) (by rw [ef_14, show vp_nar .boolean (1 : Int32) = 1 from rfl, mk_set (show k < P by omega) c_8]; omega) hf_15 (hP.sub [0, 1, 2, 3, 4, 5, 6] rfl) (hD.sub [0, 1, 2, 3, 4, 5, 6] (by decide +kernel) rfl) hS (lv_sub hl [0, 2, 3, 1, 4, 5, 6] rfl)
              · skip
                refine lv_if_eq (tgt := 123) hx hb dX5_climbFrom_78 (by decide) (fun c_16 => ?_) (fun c_16 => absurd (by decide) c_16)
                refine lv_iinc (v := nI (k + 1)) (lv' := [(6, .int (nI (k + 1))), (5, .int (nI (q_6))), (4, .int (nI (i))), (3, .int (nI (w8))), (0, .ref h0), (1, .ref q1), (2, .int (nI (j)))]) hx hb dX5_climbFrom_123 hl (k := 0) rfl (nI_1 (k)) (by decide) rfl (fun ls hl => ?_)
                refine lv_goto (tgt := 51) hx hb dX5_climbFrom_126 (by decide) ?_
                exact ih_51 (k + 1) w8 hh8 cl8 qu8 _ _ _ (by omega) (by omega) (by omega) hmk8 hqu8 (hP.sub [0, 1, 2, 3, 4, 5, 6] rfl) (hD.sub [0, 1, 2, 3, 4, 5, 6] (by decide +kernel) rfl) hS (lv_sub hl [0, 1, 2, 3, 4, 5, 6] rfl)
set_option maxHeartbeats 4000000 in
set_option maxRecDepth 100000 in
theorem c_X5_climb (l : Launch) (D : va_G) (cI cJ cZ cS : ClassId) (ta : Nat) (sa sv : Nat → Nat) (sz : Nat) (h0 : Nat) (ah : Nat) (ac : Nat) (aq : Nat) (hh : Nat → Int32) (cl : Nat → Int32) (qu : Nat → Int32) (q1 : Nat) (be : Nat) (bl : Nat) (bu : Nat) (bo : Nat) (br : Nat) (bk : Nat) (bw : Nat) (btt : Nat) (bss : Nat) (P : Nat) (lo : Nat → Int32) (d : Nat → Int32) (hP0 : P ≤ 10) (hqu : BA 10 10 qu) : Met l yX5_climb (Cond.code yX5_climb cX5_climb 3 none :: wsU) ({ frames := 4, cells := 0, slots := 0, locals := 91 }) (va_Pc [.ref h0, .ref q1] (XW D (xT cI cJ cZ cS) ta sa sv [(h0, .inr (5, [.ref ah, .ref ac, .ref aq])), (ah, .inl (cI, 10, .inl hh)), (ac, .inl (cZ, 10, .inl cl)), (aq, .inl (cI, 10, .inl qu)), (q1, .inr (1, [.int (nI (P)), .ref be, .ref bl, .ref bu, .ref bo, .ref br, .ref bk, .ref bw, .ref btt, .ref bss])), (bl, .inl (cI, 100, .inl lo)), (bo, .inl (cI, 100, .inl d))] sz)) (XQv (fun (u : (Nat → Int32) × (Nat → Int32) × (Nat → Int32)) => match u with | (h2, c2, q9) => (BA 10 10 q9)) D (fun (u : (Nat → Int32) × (Nat → Int32) × (Nat → Int32)) => match u with | (h2, c2, q9) => [(h0, .inr (5, [.ref ah, .ref ac, .ref aq])), (ah, .inl (cI, 10, .inl h2)), (ac, .inl (cZ, 10, .inl c2)), (aq, .inl (cI, 10, .inl q9)), (q1, .inr (1, [.int (nI (P)), .ref be, .ref bl, .ref bu, .ref bo, .ref br, .ref bk, .ref bw, .ref btt, .ref bss])), (bl, .inl (cI, 100, .inl lo)), (bo, .inl (cI, 100, .inl d))]) (va_A [(h0, .inr (5, [.ref ah, .ref ac, .ref aq])), (ah, .inl (cI, 10, .inl hh)), (ac, .inl (cZ, 10, .inl cl)), (aq, .inl (cI, 10, .inl qu)), (q1, .inr (1, [.int (nI (P)), .ref be, .ref bl, .ref bu, .ref bo, .ref br, .ref bk, .ref bw, .ref btt, .ref bss])), (bl, .inl (cI, 100, .inl lo)), (bo, .inl (cI, 100, .inl d))] sz)) 0 0 (va_A [(h0, .inr (5, [.ref ah, .ref ac, .ref aq])), (ah, .inl (cI, 10, .inl hh)), (ac, .inl (cZ, 10, .inl cl)), (aq, .inl (cI, 10, .inl qu)), (q1, .inr (1, [.int (nI (P)), .ref be, .ref bl, .ref bu, .ref bo, .ref br, .ref bk, .ref bw, .ref btt, .ref bss])), (bl, .inl (cI, 100, .inl lo)), (bo, .inl (cI, 100, .inl d))] sz) := by
  refine xh (QA := fun A => XQv (fun (u : (Nat → Int32) × (Nat → Int32) × (Nat → Int32)) => match u with | (h2, c2, q9) => (BA 10 10 q9)) D (fun (u : (Nat → Int32) × (Nat → Int32) × (Nat → Int32)) => match u with | (h2, c2, q9) => [(h0, .inr (5, [.ref ah, .ref ac, .ref aq])), (ah, .inl (cI, 10, .inl h2)), (ac, .inl (cZ, 10, .inl c2)), (aq, .inl (cI, 10, .inl q9)), (q1, .inr (1, [.int (nI (P)), .ref be, .ref bl, .ref bu, .ref bo, .ref br, .ref bk, .ref bw, .ref btt, .ref bss])), (bl, .inl (cI, 100, .inl lo)), (bo, .inl (cI, 100, .inl d))]) A) (fr := fun A => A) (by decide) (Nat.le_of_ble_eq_true rfl) ?_
  intro p e s m below meth c ls A hF hr hlk hin hsz hP hK hD hN hZ hA hS hl
  have hF : CallFix p m c cX5_climb 3 s _ _ RX5 := hF
  have hx := hF.1
  have hb := hF.2.1
  have hml := hF.2.2.1
  have hown := hF.2.2.2.1
  have hu : ∀ w ∈ wsU, w.before _ s = true := fun w h => hF.2.2.2.2 w (List.mem_cons_of_mem _ h)
  have hl : lv_has ls 3 [(0, .ref h0), (1, .ref q1)] := hl
  refine lv_iconst (v := 0) hx hb dX5_climb_0 (by decide) ?_
  refine lv_istore_n (lv' := [(2, .int 0), (0, .ref h0), (1, .ref q1)]) hx hb dX5_climb_1 rfl hl (by decide) rfl (fun ls hl => ?_)
  suffices loop_2 : ∀ (n_2 : Nat) (i : Nat) (cl9 : Nat → Int32) (H : Heap) (locs : List Loc) (ls : Array Slot), P - i < n_2 → (i ≤ P) → va_P D vwCl [(h0, .inr (5, [.ref ah, .ref ac, .ref aq])), (ah, .inl (cI, 10, .inl hh)), (ac, .inl (cZ, 10, .inl cl9)), (aq, .inl (cI, 10, .inl qu)), (q1, .inr (1, [.int (nI (P)), .ref be, .ref bl, .ref bu, .ref bo, .ref br, .ref bk, .ref bw, .ref btt, .ref bss])), (bl, .inl (cI, 100, .inl lo)), (bo, .inl (cI, 100, .inl d))] H → va_D A [(h0, .inr (5, [.ref ah, .ref ac, .ref aq])), (ah, .inl (cI, 10, .inl hh)), (ac, .inl (cZ, 10, .inl cl9)), (aq, .inl (cI, 10, .inl qu)), (q1, .inr (1, [.int (nI (P)), .ref be, .ref bl, .ref bu, .ref bo, .ref br, .ref bk, .ref bw, .ref btt, .ref bss])), (bl, .inl (cI, 100, .inl lo)), (bo, .inl (cI, 100, .inl d))] → va_S A s.heap H locs → lv_has ls 3 [(2, .int (nI (i))), (0, .ref h0), (1, .ref q1)] → W p l e ({ frames := 4, cells := 0, slots := 0, locals := 91 }) s m ([.ref h0, .ref q1] : List Value).toArray below meth c H locs 0 0 (MQ below (XQv (fun (u : (Nat → Int32) × (Nat → Int32) × (Nat → Int32)) => match u with | (h2, c2, q9) => (BA 10 10 q9)) D (fun (u : (Nat → Int32) × (Nat → Int32) × (Nat → Int32)) => match u with | (h2, c2, q9) => [(h0, .inr (5, [.ref ah, .ref ac, .ref aq])), (ah, .inl (cI, 10, .inl h2)), (ac, .inl (cZ, 10, .inl c2)), (aq, .inl (cI, 10, .inl q9)), (q1, .inr (1, [.int (nI (P)), .ref be, .ref bl, .ref bu, .ref bo, .ref br, .ref bk, .ref bw, .ref btt, .ref bss])), (bl, .inl (cI, 100, .inl lo)), (bo, .inl (cI, 100, .inl d))]) A) ([.ref h0, .ref q1] : List Value).toArray s 0 0 A) (F0 m 2 ls []) by
    exact loop_2 _ 0 cl _ _ _ (Nat.lt_succ_self _) (by omega) hP hD hS (lv_sub hl [0, 1, 2] rfl)
  intro n_2
  induction n_2 with
  | zero =>
    intro i cl9 H locs ls hm_2
    exact absurd hm_2 (Nat.not_lt_zero _)
  | succ n_2 ih_2 =>
    intro i cl9 H locs ls hm_2 hi hP hD hS hl
    refine lv_iload_n hx hb dX5_climb_2 rfl (lv_at hl 0 rfl) ?_
    refine lv_aload_n hx hb dX5_climb_3 rfl (lv_at hl 2 rfl) ?_
    refine xg hF kf_X5_22 hK hP 4 rfl rfl dX5_climb_4 ?_
    refine lv_icmp_ge (tgt := 23) hx hb dX5_climb_7 (by decide) (fun c_1 => ?_) (fun c_1 => ?_)
    · skip
      have nc_1 : P ≤ i := xn_le (a := P) (b := i) (by omega) (by omega) c_1
      refine lv_iconst (v := 0) hx hb dX5_climb_23 (by decide) ?_
      refine lv_istore_n (lv' := [(2, .int 0), (0, .ref h0), (1, .ref q1)]) hx hb dX5_climb_24 rfl hl (by decide) rfl (fun ls hl => ?_)
      suffices loop_25 : ∀ (n_25 : Nat) (i2 : Nat) (hh8 : Nat → Int32) (cl8 : Nat → Int32) (qu8 : Nat → Int32) (H : Heap) (locs : List Loc) (ls : Array Slot), P - i2 < n_25 → (i2 ≤ P) → (BA 10 10 qu8) → va_P D vwCl [(h0, .inr (5, [.ref ah, .ref ac, .ref aq])), (ah, .inl (cI, 10, .inl hh8)), (ac, .inl (cZ, 10, .inl cl8)), (aq, .inl (cI, 10, .inl qu8)), (q1, .inr (1, [.int (nI (P)), .ref be, .ref bl, .ref bu, .ref bo, .ref br, .ref bk, .ref bw, .ref btt, .ref bss])), (bl, .inl (cI, 100, .inl lo)), (bo, .inl (cI, 100, .inl d))] H → va_D A [(h0, .inr (5, [.ref ah, .ref ac, .ref aq])), (ah, .inl (cI, 10, .inl hh8)), (ac, .inl (cZ, 10, .inl cl8)), (aq, .inl (cI, 10, .inl qu8)), (q1, .inr (1, [.int (nI (P)), .ref be, .ref bl, .ref bu, .ref bo, .ref br, .ref bk, .ref bw, .ref btt, .ref bss])), (bl, .inl (cI, 100, .inl lo)), (bo, .inl (cI, 100, .inl d))] → va_S A s.heap H locs → lv_has ls 3 [(2, .int (nI (i2))), (0, .ref h0), (1, .ref q1)] → W p l e ({ frames := 4, cells := 0, slots := 0, locals := 91 }) s m ([.ref h0, .ref q1] : List Value).toArray below meth c H locs 0 0 (MQ below (XQv (fun (u : (Nat → Int32) × (Nat → Int32) × (Nat → Int32)) => match u with | (h2, c2, q9) => (BA 10 10 q9)) D (fun (u : (Nat → Int32) × (Nat → Int32) × (Nat → Int32)) => match u with | (h2, c2, q9) => [(h0, .inr (5, [.ref ah, .ref ac, .ref aq])), (ah, .inl (cI, 10, .inl h2)), (ac, .inl (cZ, 10, .inl c2)), (aq, .inl (cI, 10, .inl q9)), (q1, .inr (1, [.int (nI (P)), .ref be, .ref bl, .ref bu, .ref bo, .ref br, .ref bk, .ref bw, .ref btt, .ref bss])), (bl, .inl (cI, 100, .inl lo)), (bo, .inl (cI, 100, .inl d))]) A) ([.ref h0, .ref q1] : List Value).toArray s 0 0 A) (F0 m 25 ls []) by
        exact loop_25 _ 0 hh cl9 qu _ _ _ (Nat.lt_succ_self _) (by omega) hqu hP hD hS (lv_sub hl [0, 1, 2] rfl)
      intro n_25
      induction n_25 with
      | zero =>
        intro i2 hh8 cl8 qu8 H locs ls hm_25
        exact absurd hm_25 (Nat.not_lt_zero _)
      | succ n_25 ih_25 =>
        intro i2 hh8 cl8 qu8 H locs ls hm_25 hi2 hqu8 hP hD hS hl
        refine lv_iload_n hx hb dX5_climb_25 rfl (lv_at hl 0 rfl) ?_
        refine lv_aload_n hx hb dX5_climb_26 rfl (lv_at hl 2 rfl) ?_
        refine xg hF kf_X5_22 hK hP 4 rfl rfl dX5_climb_27 ?_
        refine lv_icmp_ge (tgt := 54) hx hb dX5_climb_30 (by decide) (fun c_2 => ?_) (fun c_2 => ?_)
        · skip
          have nc_2 : P ≤ i2 := xn_le (a := P) (b := i2) (by omega) (by omega) c_2
          exact W.vret hx hb hr (fun t ht hW => ⟨⟨(hh8, cl8, qu8), rfl, hqu8, by rw [ht]; exact hP.sub [0, 1, 2, 3, 4, 5, 6] rfl, hD.sub [0, 1, 2, 3, 4, 5, 6] (by decide +kernel) rfl⟩, hS.F ht⟩) hS.2.2 dX5_climb_54 hlk
        · skip
          have nc_2 : i2 < P := xn_nle (a := P) (b := i2) (by omega) (by omega) c_2
          refine lv_aload_n hx hb dX5_climb_33 rfl (lv_at hl 1 rfl) ?_
          refine xg hF kf_X5_15 hK hP 0 rfl rfl dX5_climb_34 ?_
          refine lv_iload_n hx hb dX5_climb_37 rfl (lv_at hl 0 rfl) ?_
          refine va_zald hx hb hK hP 2 2 rfl rfl (vp_in_nI (show i2 < 10 by omega) (by decide)) dX5_climb_38 ?_
          refine xl_i (y := cl8 i2) (congrArg cl8 (nI_clamp (show i2 < 2 ^ 31 by omega))) ?_
          refine lv_if_ne (tgt := 48) hx hb dX5_climb_39 (by decide) (fun c_3 => ?_) (fun c_3 => ?_)
          · skip
            refine lv_iinc (v := nI (i2 + 1)) (lv' := [(2, .int (nI (i2 + 1))), (0, .ref h0), (1, .ref q1)]) hx hb dX5_climb_48 hl (k := 0) rfl (nI_1 (i2)) (by decide) rfl (fun ls hl => ?_)
            refine lv_goto (tgt := 25) hx hb dX5_climb_51 (by decide) ?_
            exact ih_25 (i2 + 1) hh8 cl8 qu8 _ _ _ (by omega) (by omega) hqu8 (hP.sub [0, 1, 2, 3, 4, 5, 6] rfl) (hD.sub [0, 1, 2, 3, 4, 5, 6] (by decide +kernel) rfl) hS (lv_sub hl [0, 1, 2] rfl)
          · skip
            refine lv_aload_n hx hb dX5_climb_42 rfl (lv_at hl 1 rfl) ?_
            refine lv_aload_n hx hb dX5_climb_43 rfl (lv_at hl 2 rfl) ?_
            refine lv_iload_n hx hb dX5_climb_44 rfl (lv_at hl 0 rfl) ?_
            refine xc_Vv (wr := []) hF (c_X5_climbFrom l D cI cJ cZ cS ta sa sv H.size h0 ah ac aq hh8 cl8 qu8 q1 be bl bu bo br bk bw btt bss P lo d i2 (by omega) (by omega) hqu8) kv_X5_28 ⟨rfl, rfl, Nat.le_of_ble_eq_true rfl, Nat.le_of_ble_eq_true rfl⟩ ⟨Nat.le_of_ble_eq_true rfl, Nat.le_of_ble_eq_true rfl⟩ hK hN hZ hP hD hS hA [0, 1, 2, 3, 4, 5, 6] [] rfl rfl (by decide +kernel) rfl (by decide +kernel) 0 rfl rfl rfl rfl hl.1 rfl (Nat.le_of_ble_eq_true rfl) dX5_climb_45 (fun u_r_4 H locs hw_r_4 hP hD hS => ?_)
            obtain ⟨h2_5, c2_6, q9_7⟩ := u_r_4
            try dsimp only at hw_r_4
            have i_8 := hw_r_4
            have hP : va_P D vwCl [(h0, .inr (5, [.ref ah, .ref ac, .ref aq])), (ah, .inl (cI, 10, .inl h2_5)), (ac, .inl (cZ, 10, .inl c2_6)), (aq, .inl (cI, 10, .inl q9_7)), (q1, .inr (1, [.int (nI (P)), .ref be, .ref bl, .ref bu, .ref bo, .ref br, .ref bk, .ref bw, .ref btt, .ref bss])), (bl, .inl (cI, 100, .inl lo)), (bo, .inl (cI, 100, .inl d))] H := hP
            have hD : va_D A [(h0, .inr (5, [.ref ah, .ref ac, .ref aq])), (ah, .inl (cI, 10, .inl h2_5)), (ac, .inl (cZ, 10, .inl c2_6)), (aq, .inl (cI, 10, .inl q9_7)), (q1, .inr (1, [.int (nI (P)), .ref be, .ref bl, .ref bu, .ref bo, .ref br, .ref bk, .ref bw, .ref btt, .ref bss])), (bl, .inl (cI, 100, .inl lo)), (bo, .inl (cI, 100, .inl d))] := hD
            refine lv_iinc (v := nI (i2 + 1)) (lv' := [(2, .int (nI (i2 + 1))), (0, .ref h0), (1, .ref q1)]) hx hb dX5_climb_48 hl (k := 0) rfl (nI_1 (i2)) (by decide) rfl (fun ls hl => ?_)
            refine lv_goto (tgt := 25) hx hb dX5_climb_51 (by decide) ?_
            exact ih_25 (i2 + 1) h2_5 c2_6 q9_7 _ _ _ (by omega) (by omega) i_8 (hP.sub [0, 1, 2, 3, 4, 5, 6] rfl) (hD.sub [0, 1, 2, 3, 4, 5, 6] (by decide +kernel) rfl) hS (lv_sub hl [0, 1, 2] rfl)
    · skip
      have nc_1 : i < P := xn_nle (a := P) (b := i) (by omega) (by omega) c_1
      refine lv_aload_n hx hb dX5_climb_10 rfl (lv_at hl 1 rfl) ?_
      refine xg hF kf_X5_15 hK hP 0 rfl rfl dX5_climb_11 ?_
      refine lv_iload_n hx hb dX5_climb_14 rfl (lv_at hl 0 rfl) ?_
      refine lv_iconst (v := 0) hx hb dX5_climb_15 (by decide) ?_
      refine va_zast hx hb hK hP hD hS 2 2 rfl rfl (vp_in_nI (show i < 10 by omega) (by decide)) dX5_climb_16 (fun H locs hP hD hS => ?_)
      rw [nI_clamp (show i < 2 ^ 31 by omega)] at hP hD
      obtain ⟨f_9, ef_9⟩ : ∃ g, g = upd cl9 i (vp_nar .boolean 0) := ⟨_, rfl⟩
      rw [← ef_9] at hP hD
      have hP : va_P D vwCl [(h0, .inr (5, [.ref ah, .ref ac, .ref aq])), (ah, .inl (cI, 10, .inl hh)), (ac, .inl (cZ, 10, .inl f_9)), (aq, .inl (cI, 10, .inl qu)), (q1, .inr (1, [.int (nI (P)), .ref be, .ref bl, .ref bu, .ref bo, .ref br, .ref bk, .ref bw, .ref btt, .ref bss])), (bl, .inl (cI, 100, .inl lo)), (bo, .inl (cI, 100, .inl d))] H := hP
      have hD : va_D A [(h0, .inr (5, [.ref ah, .ref ac, .ref aq])), (ah, .inl (cI, 10, .inl hh)), (ac, .inl (cZ, 10, .inl f_9)), (aq, .inl (cI, 10, .inl qu)), (q1, .inr (1, [.int (nI (P)), .ref be, .ref bl, .ref bu, .ref bo, .ref br, .ref bk, .ref bw, .ref btt, .ref bss])), (bl, .inl (cI, 100, .inl lo)), (bo, .inl (cI, 100, .inl d))] := hD
      refine lv_iinc (v := nI (i + 1)) (lv' := [(2, .int (nI (i + 1))), (0, .ref h0), (1, .ref q1)]) hx hb dX5_climb_17 hl (k := 0) rfl (nI_1 (i)) (by decide) rfl (fun ls hl => ?_)
      refine lv_goto (tgt := 2) hx hb dX5_climb_20 (by decide) ?_
      exact ih_2 (i + 1) f_9 _ _ _ (by omega) (by omega) (hP.sub [0, 1, 2, 3, 4, 5, 6] rfl) (hD.sub [0, 1, 2, 3, 4, 5, 6] (by decide +kernel) rfl) hS (lv_sub hl [0, 1, 2] rfl)
