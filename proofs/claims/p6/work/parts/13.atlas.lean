theorem dX0_lengthOf_0 : decode cX0_lengthOf 0 = .ok (.aload_n 0, 1) := dk_42_ (show cX0_lengthOf.data.toList[0]? = some 0x2a from by decide +kernel)
theorem dX0_lengthOf_1 : decode cX0_lengthOf 1 = .ok (.getfield 15, 3) := dk_180_ (show cX0_lengthOf.data.toList[1]? = some 0xb4 from by decide +kernel) (show cX0_lengthOf.data.toList[2]? = some 0x00 from by decide +kernel) (show cX0_lengthOf.data.toList[3]? = some 0x0f from by decide +kernel) (by decide)
theorem dX0_lengthOf_4 : decode cX0_lengthOf 4 = .ok (.bipush 10, 2) := dk_16_ (show cX0_lengthOf.data.toList[4]? = some 0x10 from by decide +kernel) (show cX0_lengthOf.data.toList[5]? = some 0x0a from by decide +kernel) (by decide)
theorem dX0_lengthOf_6 : decode cX0_lengthOf 6 = .ok (.iload_n 1, 1) := dk_27_ (show cX0_lengthOf.data.toList[6]? = some 0x1b from by decide +kernel)
theorem dX0_lengthOf_7 : decode cX0_lengthOf 7 = .ok (.imul, 1) := dk_104_ (show cX0_lengthOf.data.toList[7]? = some 0x68 from by decide +kernel)
theorem dX0_lengthOf_8 : decode cX0_lengthOf 8 = .ok (.iload_n 2, 1) := dk_28_ (show cX0_lengthOf.data.toList[8]? = some 0x1c from by decide +kernel)
theorem dX0_lengthOf_9 : decode cX0_lengthOf 9 = .ok (.iadd, 1) := dk_96_ (show cX0_lengthOf.data.toList[9]? = some 0x60 from by decide +kernel)
theorem dX0_lengthOf_10 : decode cX0_lengthOf 10 = .ok (.iaload, 1) := dk_46_ (show cX0_lengthOf.data.toList[10]? = some 0x2e from by decide +kernel)
theorem dX0_lengthOf_11 : decode cX0_lengthOf 11 = .ok (.ireturn, 1) := dk_172_ (show cX0_lengthOf.data.toList[11]? = some 0xac from by decide +kernel)
def LRX0_oneWay_2 : List UInt8 := []
def LBX0_oneWay_1 : List UInt8 := [0x22, 0x68, 0x04, 0x60, 0xa7, 0x00, 0x05, 0x12, 0x26, 0xac]
def LRX0_oneWay_1 : List UInt8 := LBX0_oneWay_1 ++ LRX0_oneWay_2
def LBX0_oneWay_0 : List UInt8 := [0x2a, 0x1b, 0x1c, 0xb6, 0x00, 0x1e, 0x99, 0x00, 0x11, 0x10, 0x64, 0x2a, 0x1b, 0x1c, 0xb6, 0x00]
def LRX0_oneWay_0 : List UInt8 := LBX0_oneWay_0 ++ LRX0_oneWay_1
set_option maxRecDepth 100000 in
theorem LBX0_oneWay_eq : cX0_oneWay.data.toList = LRX0_oneWay_0 := by decide +kernel
theorem LBX0_oneWayr_0 (k : Nat) : cX0_oneWay.data.toList[0 + k]? = LRX0_oneWay_0[k]? := by rw [LBX0_oneWay_eq, Nat.zero_add]
theorem LBX0_oneWayr_1 (k : Nat) : cX0_oneWay.data.toList[16 + k]? = LRX0_oneWay_1[k]? := by
  have h := LBX0_oneWayr_0 (16 + k)
  rw [show 0 + (16 + k) = 16 + k by omega] at h
  rw [h]
  exact (List.getElem?_append_right (l₁ := LBX0_oneWay_0) (l₂ := LRX0_oneWay_1) (show 16 ≤ 16 + k by omega)).trans (congrArg (fun i => LRX0_oneWay_1[i]?) (show 16 + k - 16 = k by omega))
theorem dX0_oneWay_0 : decode cX0_oneWay 0 = .ok (.aload_n 0, 1) := dk_42_ (show cX0_oneWay.data.toList[0]? = some 0x2a from (LBX0_oneWayr_0 0).trans (by decide +kernel))
theorem dX0_oneWay_1 : decode cX0_oneWay 1 = .ok (.iload_n 1, 1) := dk_27_ (show cX0_oneWay.data.toList[1]? = some 0x1b from (LBX0_oneWayr_0 1).trans (by decide +kernel))
theorem dX0_oneWay_2 : decode cX0_oneWay 2 = .ok (.iload_n 2, 1) := dk_28_ (show cX0_oneWay.data.toList[2]? = some 0x1c from (LBX0_oneWayr_0 2).trans (by decide +kernel))
theorem dX0_oneWay_3 : decode cX0_oneWay 3 = .ok (.invokevirtual 30, 3) := dk_182_ (show cX0_oneWay.data.toList[3]? = some 0xb6 from (LBX0_oneWayr_0 3).trans (by decide +kernel)) (show cX0_oneWay.data.toList[4]? = some 0x00 from (LBX0_oneWayr_0 4).trans (by decide +kernel)) (show cX0_oneWay.data.toList[5]? = some 0x1e from (LBX0_oneWayr_0 5).trans (by decide +kernel)) (by decide)
theorem dX0_oneWay_6 : decode cX0_oneWay 6 = .ok (.ifCond .eq 17, 3) := dk_153_ (show cX0_oneWay.data.toList[6]? = some 0x99 from (LBX0_oneWayr_0 6).trans (by decide +kernel)) (show cX0_oneWay.data.toList[7]? = some 0x00 from (LBX0_oneWayr_0 7).trans (by decide +kernel)) (show cX0_oneWay.data.toList[8]? = some 0x11 from (LBX0_oneWayr_0 8).trans (by decide +kernel)) (by decide)
theorem dX0_oneWay_9 : decode cX0_oneWay 9 = .ok (.bipush 100, 2) := dk_16_ (show cX0_oneWay.data.toList[9]? = some 0x10 from (LBX0_oneWayr_0 9).trans (by decide +kernel)) (show cX0_oneWay.data.toList[10]? = some 0x64 from (LBX0_oneWayr_0 10).trans (by decide +kernel)) (by decide)
theorem dX0_oneWay_11 : decode cX0_oneWay 11 = .ok (.aload_n 0, 1) := dk_42_ (show cX0_oneWay.data.toList[11]? = some 0x2a from (LBX0_oneWayr_0 11).trans (by decide +kernel))
theorem dX0_oneWay_12 : decode cX0_oneWay 12 = .ok (.iload_n 1, 1) := dk_27_ (show cX0_oneWay.data.toList[12]? = some 0x1b from (LBX0_oneWayr_0 12).trans (by decide +kernel))
theorem dX0_oneWay_13 : decode cX0_oneWay 13 = .ok (.iload_n 2, 1) := dk_28_ (show cX0_oneWay.data.toList[13]? = some 0x1c from (LBX0_oneWayr_0 13).trans (by decide +kernel))
theorem dX0_oneWay_14 : decode cX0_oneWay 14 = .ok (.invokevirtual 34, 3) := dk_182_ (show cX0_oneWay.data.toList[14]? = some 0xb6 from (LBX0_oneWayr_0 14).trans (by decide +kernel)) (show cX0_oneWay.data.toList[15]? = some 0x00 from (LBX0_oneWayr_0 15).trans (by decide +kernel)) (show cX0_oneWay.data.toList[16]? = some 0x22 from (LBX0_oneWayr_1 0).trans (by decide +kernel)) (by decide)
theorem dX0_oneWay_17 : decode cX0_oneWay 17 = .ok (.imul, 1) := dk_104_ (show cX0_oneWay.data.toList[17]? = some 0x68 from (LBX0_oneWayr_1 1).trans (by decide +kernel))
theorem dX0_oneWay_18 : decode cX0_oneWay 18 = .ok (.iconst 1, 1) := dk_4_ (show cX0_oneWay.data.toList[18]? = some 0x04 from (LBX0_oneWayr_1 2).trans (by decide +kernel))
theorem dX0_oneWay_19 : decode cX0_oneWay 19 = .ok (.iadd, 1) := dk_96_ (show cX0_oneWay.data.toList[19]? = some 0x60 from (LBX0_oneWayr_1 3).trans (by decide +kernel))
theorem dX0_oneWay_20 : decode cX0_oneWay 20 = .ok (.goto 5, 3) := dk_167_ (show cX0_oneWay.data.toList[20]? = some 0xa7 from (LBX0_oneWayr_1 4).trans (by decide +kernel)) (show cX0_oneWay.data.toList[21]? = some 0x00 from (LBX0_oneWayr_1 5).trans (by decide +kernel)) (show cX0_oneWay.data.toList[22]? = some 0x05 from (LBX0_oneWayr_1 6).trans (by decide +kernel)) (by decide)
theorem dX0_oneWay_23 : decode cX0_oneWay 23 = .ok (.ldc 38, 2) := dk_18_ (show cX0_oneWay.data.toList[23]? = some 0x12 from (LBX0_oneWayr_1 7).trans (by decide +kernel)) (show cX0_oneWay.data.toList[24]? = some 0x26 from (LBX0_oneWayr_1 8).trans (by decide +kernel)) (by decide)
theorem dX0_oneWay_25 : decode cX0_oneWay 25 = .ok (.ireturn, 1) := dk_172_ (show cX0_oneWay.data.toList[25]? = some 0xac from (LBX0_oneWayr_1 9).trans (by decide +kernel))
def LRX0_shortenOver_6 : List UInt8 := []
def LBX0_shortenOver_5 : List UInt8 := [0x04, 0x01, 0xa7, 0xff, 0xc2, 0x84, 0x02, 0x01, 0xa7, 0xff, 0xaa, 0xb1]
def LRX0_shortenOver_5 : List UInt8 := LBX0_shortenOver_5 ++ LRX0_shortenOver_6
def LBX0_shortenOver_4 : List UInt8 := [0x10, 0x0a, 0x1c, 0x68, 0x15, 0x04, 0x60, 0x15, 0x05, 0x12, 0x2d, 0xb8, 0x00, 0x2e, 0x4f, 0x84]
def LRX0_shortenOver_4 : List UInt8 := LBX0_shortenOver_4 ++ LRX0_shortenOver_5
def LBX0_shortenOver_3 : List UInt8 := [0x15, 0x05, 0x2a, 0x1c, 0x15, 0x04, 0xb6, 0x00, 0x27, 0xa2, 0x00, 0x16, 0x2a, 0xb4, 0x00, 0x0f]
def LRX0_shortenOver_3 : List UInt8 := LBX0_shortenOver_3 ++ LRX0_shortenOver_4
def LBX0_shortenOver_2 : List UInt8 := [0x9f, 0x00, 0x35, 0x1d, 0x2a, 0x1b, 0x15, 0x04, 0xb6, 0x00, 0x27, 0xb8, 0x00, 0x2a, 0x36, 0x05]
def LRX0_shortenOver_2 : List UInt8 := LBX0_shortenOver_2 ++ LRX0_shortenOver_3
def LBX0_shortenOver_1 : List UInt8 := [0x3e, 0x03, 0x36, 0x04, 0x15, 0x04, 0x2a, 0xb4, 0x00, 0x09, 0xa2, 0x00, 0x3b, 0x1d, 0x12, 0x26]
def LRX0_shortenOver_1 : List UInt8 := LBX0_shortenOver_1 ++ LRX0_shortenOver_2
def LBX0_shortenOver_0 : List UInt8 := [0x03, 0x3d, 0x1c, 0x2a, 0xb4, 0x00, 0x09, 0xa2, 0x00, 0x54, 0x2a, 0x1c, 0x1b, 0xb6, 0x00, 0x27]
def LRX0_shortenOver_0 : List UInt8 := LBX0_shortenOver_0 ++ LRX0_shortenOver_1
set_option maxRecDepth 100000 in
theorem LBX0_shortenOver_eq : cX0_shortenOver.data.toList = LRX0_shortenOver_0 := by decide +kernel
theorem LBX0_shortenOverr_0 (k : Nat) : cX0_shortenOver.data.toList[0 + k]? = LRX0_shortenOver_0[k]? := by rw [LBX0_shortenOver_eq, Nat.zero_add]
theorem LBX0_shortenOverr_1 (k : Nat) : cX0_shortenOver.data.toList[16 + k]? = LRX0_shortenOver_1[k]? := by
  have h := LBX0_shortenOverr_0 (16 + k)
  rw [show 0 + (16 + k) = 16 + k by omega] at h
  rw [h]
  exact (List.getElem?_append_right (l₁ := LBX0_shortenOver_0) (l₂ := LRX0_shortenOver_1) (show 16 ≤ 16 + k by omega)).trans (congrArg (fun i => LRX0_shortenOver_1[i]?) (show 16 + k - 16 = k by omega))
theorem LBX0_shortenOverr_2 (k : Nat) : cX0_shortenOver.data.toList[32 + k]? = LRX0_shortenOver_2[k]? := by
  have h := LBX0_shortenOverr_1 (16 + k)
  rw [show 16 + (16 + k) = 32 + k by omega] at h
  rw [h]
  exact (List.getElem?_append_right (l₁ := LBX0_shortenOver_1) (l₂ := LRX0_shortenOver_2) (show 16 ≤ 16 + k by omega)).trans (congrArg (fun i => LRX0_shortenOver_2[i]?) (show 16 + k - 16 = k by omega))
theorem LBX0_shortenOverr_3 (k : Nat) : cX0_shortenOver.data.toList[48 + k]? = LRX0_shortenOver_3[k]? := by
  have h := LBX0_shortenOverr_2 (16 + k)
  rw [show 32 + (16 + k) = 48 + k by omega] at h
  rw [h]
  exact (List.getElem?_append_right (l₁ := LBX0_shortenOver_2) (l₂ := LRX0_shortenOver_3) (show 16 ≤ 16 + k by omega)).trans (congrArg (fun i => LRX0_shortenOver_3[i]?) (show 16 + k - 16 = k by omega))
theorem LBX0_shortenOverr_4 (k : Nat) : cX0_shortenOver.data.toList[64 + k]? = LRX0_shortenOver_4[k]? := by
  have h := LBX0_shortenOverr_3 (16 + k)
  rw [show 48 + (16 + k) = 64 + k by omega] at h
  rw [h]
  exact (List.getElem?_append_right (l₁ := LBX0_shortenOver_3) (l₂ := LRX0_shortenOver_4) (show 16 ≤ 16 + k by omega)).trans (congrArg (fun i => LRX0_shortenOver_4[i]?) (show 16 + k - 16 = k by omega))
theorem LBX0_shortenOverr_5 (k : Nat) : cX0_shortenOver.data.toList[80 + k]? = LRX0_shortenOver_5[k]? := by
  have h := LBX0_shortenOverr_4 (16 + k)
  rw [show 64 + (16 + k) = 80 + k by omega] at h
  rw [h]
  exact (List.getElem?_append_right (l₁ := LBX0_shortenOver_4) (l₂ := LRX0_shortenOver_5) (show 16 ≤ 16 + k by omega)).trans (congrArg (fun i => LRX0_shortenOver_5[i]?) (show 16 + k - 16 = k by omega))
theorem dX0_shortenOver_0 : decode cX0_shortenOver 0 = .ok (.iconst 0, 1) := dk_3_ (show cX0_shortenOver.data.toList[0]? = some 0x03 from (LBX0_shortenOverr_0 0).trans (by decide +kernel))
theorem dX0_shortenOver_1 : decode cX0_shortenOver 1 = .ok (.istore_n 2, 1) := dk_61_ (show cX0_shortenOver.data.toList[1]? = some 0x3d from (LBX0_shortenOverr_0 1).trans (by decide +kernel))
theorem dX0_shortenOver_2 : decode cX0_shortenOver 2 = .ok (.iload_n 2, 1) := dk_28_ (show cX0_shortenOver.data.toList[2]? = some 0x1c from (LBX0_shortenOverr_0 2).trans (by decide +kernel))
theorem dX0_shortenOver_3 : decode cX0_shortenOver 3 = .ok (.aload_n 0, 1) := dk_42_ (show cX0_shortenOver.data.toList[3]? = some 0x2a from (LBX0_shortenOverr_0 3).trans (by decide +kernel))
theorem dX0_shortenOver_4 : decode cX0_shortenOver 4 = .ok (.getfield 9, 3) := dk_180_ (show cX0_shortenOver.data.toList[4]? = some 0xb4 from (LBX0_shortenOverr_0 4).trans (by decide +kernel)) (show cX0_shortenOver.data.toList[5]? = some 0x00 from (LBX0_shortenOverr_0 5).trans (by decide +kernel)) (show cX0_shortenOver.data.toList[6]? = some 0x09 from (LBX0_shortenOverr_0 6).trans (by decide +kernel)) (by decide)
theorem dX0_shortenOver_7 : decode cX0_shortenOver 7 = .ok (.if_icmp .ge 84, 3) := dk_162_ (show cX0_shortenOver.data.toList[7]? = some 0xa2 from (LBX0_shortenOverr_0 7).trans (by decide +kernel)) (show cX0_shortenOver.data.toList[8]? = some 0x00 from (LBX0_shortenOverr_0 8).trans (by decide +kernel)) (show cX0_shortenOver.data.toList[9]? = some 0x54 from (LBX0_shortenOverr_0 9).trans (by decide +kernel)) (by decide)
theorem dX0_shortenOver_10 : decode cX0_shortenOver 10 = .ok (.aload_n 0, 1) := dk_42_ (show cX0_shortenOver.data.toList[10]? = some 0x2a from (LBX0_shortenOverr_0 10).trans (by decide +kernel))
theorem dX0_shortenOver_11 : decode cX0_shortenOver 11 = .ok (.iload_n 2, 1) := dk_28_ (show cX0_shortenOver.data.toList[11]? = some 0x1c from (LBX0_shortenOverr_0 11).trans (by decide +kernel))
theorem dX0_shortenOver_12 : decode cX0_shortenOver 12 = .ok (.iload_n 1, 1) := dk_27_ (show cX0_shortenOver.data.toList[12]? = some 0x1b from (LBX0_shortenOverr_0 12).trans (by decide +kernel))
theorem dX0_shortenOver_13 : decode cX0_shortenOver 13 = .ok (.invokevirtual 39, 3) := dk_182_ (show cX0_shortenOver.data.toList[13]? = some 0xb6 from (LBX0_shortenOverr_0 13).trans (by decide +kernel)) (show cX0_shortenOver.data.toList[14]? = some 0x00 from (LBX0_shortenOverr_0 14).trans (by decide +kernel)) (show cX0_shortenOver.data.toList[15]? = some 0x27 from (LBX0_shortenOverr_0 15).trans (by decide +kernel)) (by decide)
theorem dX0_shortenOver_16 : decode cX0_shortenOver 16 = .ok (.istore_n 3, 1) := dk_62_ (show cX0_shortenOver.data.toList[16]? = some 0x3e from (LBX0_shortenOverr_1 0).trans (by decide +kernel))
theorem dX0_shortenOver_17 : decode cX0_shortenOver 17 = .ok (.iconst 0, 1) := dk_3_ (show cX0_shortenOver.data.toList[17]? = some 0x03 from (LBX0_shortenOverr_1 1).trans (by decide +kernel))
theorem dX0_shortenOver_18 : decode cX0_shortenOver 18 = .ok (.istore 4, 2) := dk_54_ (show cX0_shortenOver.data.toList[18]? = some 0x36 from (LBX0_shortenOverr_1 2).trans (by decide +kernel)) (show cX0_shortenOver.data.toList[19]? = some 0x04 from (LBX0_shortenOverr_1 3).trans (by decide +kernel)) (by decide)
theorem dX0_shortenOver_20 : decode cX0_shortenOver 20 = .ok (.iload 4, 2) := dk_21_ (show cX0_shortenOver.data.toList[20]? = some 0x15 from (LBX0_shortenOverr_1 4).trans (by decide +kernel)) (show cX0_shortenOver.data.toList[21]? = some 0x04 from (LBX0_shortenOverr_1 5).trans (by decide +kernel)) (by decide)
theorem dX0_shortenOver_22 : decode cX0_shortenOver 22 = .ok (.aload_n 0, 1) := dk_42_ (show cX0_shortenOver.data.toList[22]? = some 0x2a from (LBX0_shortenOverr_1 6).trans (by decide +kernel))
theorem dX0_shortenOver_23 : decode cX0_shortenOver 23 = .ok (.getfield 9, 3) := dk_180_ (show cX0_shortenOver.data.toList[23]? = some 0xb4 from (LBX0_shortenOverr_1 7).trans (by decide +kernel)) (show cX0_shortenOver.data.toList[24]? = some 0x00 from (LBX0_shortenOverr_1 8).trans (by decide +kernel)) (show cX0_shortenOver.data.toList[25]? = some 0x09 from (LBX0_shortenOverr_1 9).trans (by decide +kernel)) (by decide)
theorem dX0_shortenOver_26 : decode cX0_shortenOver 26 = .ok (.if_icmp .ge 59, 3) := dk_162_ (show cX0_shortenOver.data.toList[26]? = some 0xa2 from (LBX0_shortenOverr_1 10).trans (by decide +kernel)) (show cX0_shortenOver.data.toList[27]? = some 0x00 from (LBX0_shortenOverr_1 11).trans (by decide +kernel)) (show cX0_shortenOver.data.toList[28]? = some 0x3b from (LBX0_shortenOverr_1 12).trans (by decide +kernel)) (by decide)
theorem dX0_shortenOver_29 : decode cX0_shortenOver 29 = .ok (.iload_n 3, 1) := dk_29_ (show cX0_shortenOver.data.toList[29]? = some 0x1d from (LBX0_shortenOverr_1 13).trans (by decide +kernel))
theorem dX0_shortenOver_30 : decode cX0_shortenOver 30 = .ok (.ldc 38, 2) := dk_18_ (show cX0_shortenOver.data.toList[30]? = some 0x12 from (LBX0_shortenOverr_1 14).trans (by decide +kernel)) (show cX0_shortenOver.data.toList[31]? = some 0x26 from (LBX0_shortenOverr_1 15).trans (by decide +kernel)) (by decide)
theorem dX0_shortenOver_32 : decode cX0_shortenOver 32 = .ok (.if_icmp .eq 53, 3) := dk_159_ (show cX0_shortenOver.data.toList[32]? = some 0x9f from (LBX0_shortenOverr_2 0).trans (by decide +kernel)) (show cX0_shortenOver.data.toList[33]? = some 0x00 from (LBX0_shortenOverr_2 1).trans (by decide +kernel)) (show cX0_shortenOver.data.toList[34]? = some 0x35 from (LBX0_shortenOverr_2 2).trans (by decide +kernel)) (by decide)
theorem dX0_shortenOver_35 : decode cX0_shortenOver 35 = .ok (.iload_n 3, 1) := dk_29_ (show cX0_shortenOver.data.toList[35]? = some 0x1d from (LBX0_shortenOverr_2 3).trans (by decide +kernel))
theorem dX0_shortenOver_36 : decode cX0_shortenOver 36 = .ok (.aload_n 0, 1) := dk_42_ (show cX0_shortenOver.data.toList[36]? = some 0x2a from (LBX0_shortenOverr_2 4).trans (by decide +kernel))
theorem dX0_shortenOver_37 : decode cX0_shortenOver 37 = .ok (.iload_n 1, 1) := dk_27_ (show cX0_shortenOver.data.toList[37]? = some 0x1b from (LBX0_shortenOverr_2 5).trans (by decide +kernel))
theorem dX0_shortenOver_38 : decode cX0_shortenOver 38 = .ok (.iload 4, 2) := dk_21_ (show cX0_shortenOver.data.toList[38]? = some 0x15 from (LBX0_shortenOverr_2 6).trans (by decide +kernel)) (show cX0_shortenOver.data.toList[39]? = some 0x04 from (LBX0_shortenOverr_2 7).trans (by decide +kernel)) (by decide)
theorem dX0_shortenOver_40 : decode cX0_shortenOver 40 = .ok (.invokevirtual 39, 3) := dk_182_ (show cX0_shortenOver.data.toList[40]? = some 0xb6 from (LBX0_shortenOverr_2 8).trans (by decide +kernel)) (show cX0_shortenOver.data.toList[41]? = some 0x00 from (LBX0_shortenOverr_2 9).trans (by decide +kernel)) (show cX0_shortenOver.data.toList[42]? = some 0x27 from (LBX0_shortenOverr_2 10).trans (by decide +kernel)) (by decide)
theorem dX0_shortenOver_43 : decode cX0_shortenOver 43 = .ok (.invokestatic 42, 3) := dk_184_ (show cX0_shortenOver.data.toList[43]? = some 0xb8 from (LBX0_shortenOverr_2 11).trans (by decide +kernel)) (show cX0_shortenOver.data.toList[44]? = some 0x00 from (LBX0_shortenOverr_2 12).trans (by decide +kernel)) (show cX0_shortenOver.data.toList[45]? = some 0x2a from (LBX0_shortenOverr_2 13).trans (by decide +kernel)) (by decide)
theorem dX0_shortenOver_46 : decode cX0_shortenOver 46 = .ok (.istore 5, 2) := dk_54_ (show cX0_shortenOver.data.toList[46]? = some 0x36 from (LBX0_shortenOverr_2 14).trans (by decide +kernel)) (show cX0_shortenOver.data.toList[47]? = some 0x05 from (LBX0_shortenOverr_2 15).trans (by decide +kernel)) (by decide)
theorem dX0_shortenOver_48 : decode cX0_shortenOver 48 = .ok (.iload 5, 2) := dk_21_ (show cX0_shortenOver.data.toList[48]? = some 0x15 from (LBX0_shortenOverr_3 0).trans (by decide +kernel)) (show cX0_shortenOver.data.toList[49]? = some 0x05 from (LBX0_shortenOverr_3 1).trans (by decide +kernel)) (by decide)
theorem dX0_shortenOver_50 : decode cX0_shortenOver 50 = .ok (.aload_n 0, 1) := dk_42_ (show cX0_shortenOver.data.toList[50]? = some 0x2a from (LBX0_shortenOverr_3 2).trans (by decide +kernel))
theorem dX0_shortenOver_51 : decode cX0_shortenOver 51 = .ok (.iload_n 2, 1) := dk_28_ (show cX0_shortenOver.data.toList[51]? = some 0x1c from (LBX0_shortenOverr_3 3).trans (by decide +kernel))
theorem dX0_shortenOver_52 : decode cX0_shortenOver 52 = .ok (.iload 4, 2) := dk_21_ (show cX0_shortenOver.data.toList[52]? = some 0x15 from (LBX0_shortenOverr_3 4).trans (by decide +kernel)) (show cX0_shortenOver.data.toList[53]? = some 0x04 from (LBX0_shortenOverr_3 5).trans (by decide +kernel)) (by decide)
theorem dX0_shortenOver_54 : decode cX0_shortenOver 54 = .ok (.invokevirtual 39, 3) := dk_182_ (show cX0_shortenOver.data.toList[54]? = some 0xb6 from (LBX0_shortenOverr_3 6).trans (by decide +kernel)) (show cX0_shortenOver.data.toList[55]? = some 0x00 from (LBX0_shortenOverr_3 7).trans (by decide +kernel)) (show cX0_shortenOver.data.toList[56]? = some 0x27 from (LBX0_shortenOverr_3 8).trans (by decide +kernel)) (by decide)
theorem dX0_shortenOver_57 : decode cX0_shortenOver 57 = .ok (.if_icmp .ge 22, 3) := dk_162_ (show cX0_shortenOver.data.toList[57]? = some 0xa2 from (LBX0_shortenOverr_3 9).trans (by decide +kernel)) (show cX0_shortenOver.data.toList[58]? = some 0x00 from (LBX0_shortenOverr_3 10).trans (by decide +kernel)) (show cX0_shortenOver.data.toList[59]? = some 0x16 from (LBX0_shortenOverr_3 11).trans (by decide +kernel)) (by decide)
theorem dX0_shortenOver_60 : decode cX0_shortenOver 60 = .ok (.aload_n 0, 1) := dk_42_ (show cX0_shortenOver.data.toList[60]? = some 0x2a from (LBX0_shortenOverr_3 12).trans (by decide +kernel))
theorem dX0_shortenOver_61 : decode cX0_shortenOver 61 = .ok (.getfield 15, 3) := dk_180_ (show cX0_shortenOver.data.toList[61]? = some 0xb4 from (LBX0_shortenOverr_3 13).trans (by decide +kernel)) (show cX0_shortenOver.data.toList[62]? = some 0x00 from (LBX0_shortenOverr_3 14).trans (by decide +kernel)) (show cX0_shortenOver.data.toList[63]? = some 0x0f from (LBX0_shortenOverr_3 15).trans (by decide +kernel)) (by decide)
theorem dX0_shortenOver_64 : decode cX0_shortenOver 64 = .ok (.bipush 10, 2) := dk_16_ (show cX0_shortenOver.data.toList[64]? = some 0x10 from (LBX0_shortenOverr_4 0).trans (by decide +kernel)) (show cX0_shortenOver.data.toList[65]? = some 0x0a from (LBX0_shortenOverr_4 1).trans (by decide +kernel)) (by decide)
theorem dX0_shortenOver_66 : decode cX0_shortenOver 66 = .ok (.iload_n 2, 1) := dk_28_ (show cX0_shortenOver.data.toList[66]? = some 0x1c from (LBX0_shortenOverr_4 2).trans (by decide +kernel))
theorem dX0_shortenOver_67 : decode cX0_shortenOver 67 = .ok (.imul, 1) := dk_104_ (show cX0_shortenOver.data.toList[67]? = some 0x68 from (LBX0_shortenOverr_4 3).trans (by decide +kernel))
theorem dX0_shortenOver_68 : decode cX0_shortenOver 68 = .ok (.iload 4, 2) := dk_21_ (show cX0_shortenOver.data.toList[68]? = some 0x15 from (LBX0_shortenOverr_4 4).trans (by decide +kernel)) (show cX0_shortenOver.data.toList[69]? = some 0x04 from (LBX0_shortenOverr_4 5).trans (by decide +kernel)) (by decide)
theorem dX0_shortenOver_70 : decode cX0_shortenOver 70 = .ok (.iadd, 1) := dk_96_ (show cX0_shortenOver.data.toList[70]? = some 0x60 from (LBX0_shortenOverr_4 6).trans (by decide +kernel))
theorem dX0_shortenOver_71 : decode cX0_shortenOver 71 = .ok (.iload 5, 2) := dk_21_ (show cX0_shortenOver.data.toList[71]? = some 0x15 from (LBX0_shortenOverr_4 7).trans (by decide +kernel)) (show cX0_shortenOver.data.toList[72]? = some 0x05 from (LBX0_shortenOverr_4 8).trans (by decide +kernel)) (by decide)
theorem dX0_shortenOver_73 : decode cX0_shortenOver 73 = .ok (.ldc 45, 2) := dk_18_ (show cX0_shortenOver.data.toList[73]? = some 0x12 from (LBX0_shortenOverr_4 9).trans (by decide +kernel)) (show cX0_shortenOver.data.toList[74]? = some 0x2d from (LBX0_shortenOverr_4 10).trans (by decide +kernel)) (by decide)
theorem dX0_shortenOver_75 : decode cX0_shortenOver 75 = .ok (.invokestatic 46, 3) := dk_184_ (show cX0_shortenOver.data.toList[75]? = some 0xb8 from (LBX0_shortenOverr_4 11).trans (by decide +kernel)) (show cX0_shortenOver.data.toList[76]? = some 0x00 from (LBX0_shortenOverr_4 12).trans (by decide +kernel)) (show cX0_shortenOver.data.toList[77]? = some 0x2e from (LBX0_shortenOverr_4 13).trans (by decide +kernel)) (by decide)
theorem dX0_shortenOver_78 : decode cX0_shortenOver 78 = .ok (.iastore, 1) := dk_79_ (show cX0_shortenOver.data.toList[78]? = some 0x4f from (LBX0_shortenOverr_4 14).trans (by decide +kernel))
theorem dX0_shortenOver_79 : decode cX0_shortenOver 79 = .ok (.iinc 4 1, 3) := dk_132_ (show cX0_shortenOver.data.toList[79]? = some 0x84 from (LBX0_shortenOverr_4 15).trans (by decide +kernel)) (show cX0_shortenOver.data.toList[80]? = some 0x04 from (LBX0_shortenOverr_5 0).trans (by decide +kernel)) (show cX0_shortenOver.data.toList[81]? = some 0x01 from (LBX0_shortenOverr_5 1).trans (by decide +kernel)) (by decide) (by decide)
theorem dX0_shortenOver_82 : decode cX0_shortenOver 82 = .ok (.goto (-62), 3) := dk_167_ (show cX0_shortenOver.data.toList[82]? = some 0xa7 from (LBX0_shortenOverr_5 2).trans (by decide +kernel)) (show cX0_shortenOver.data.toList[83]? = some 0xff from (LBX0_shortenOverr_5 3).trans (by decide +kernel)) (show cX0_shortenOver.data.toList[84]? = some 0xc2 from (LBX0_shortenOverr_5 4).trans (by decide +kernel)) (by decide)
theorem dX0_shortenOver_85 : decode cX0_shortenOver 85 = .ok (.iinc 2 1, 3) := dk_132_ (show cX0_shortenOver.data.toList[85]? = some 0x84 from (LBX0_shortenOverr_5 5).trans (by decide +kernel)) (show cX0_shortenOver.data.toList[86]? = some 0x02 from (LBX0_shortenOverr_5 6).trans (by decide +kernel)) (show cX0_shortenOver.data.toList[87]? = some 0x01 from (LBX0_shortenOverr_5 7).trans (by decide +kernel)) (by decide) (by decide)
theorem dX0_shortenOver_88 : decode cX0_shortenOver 88 = .ok (.goto (-86), 3) := dk_167_ (show cX0_shortenOver.data.toList[88]? = some 0xa7 from (LBX0_shortenOverr_5 8).trans (by decide +kernel)) (show cX0_shortenOver.data.toList[89]? = some 0xff from (LBX0_shortenOverr_5 9).trans (by decide +kernel)) (show cX0_shortenOver.data.toList[90]? = some 0xaa from (LBX0_shortenOverr_5 10).trans (by decide +kernel)) (by decide)
theorem dX0_shortenOver_91 : decode cX0_shortenOver 91 = .ok (.return_, 1) := dk_177_ (show cX0_shortenOver.data.toList[91]? = some 0xb1 from (LBX0_shortenOverr_5 11).trans (by decide +kernel))
def LRX0_measure_6 : List UInt8 := []
def LBX0_measure_5 : List UInt8 := [0x1a, 0x84, 0x02, 0x01, 0xa7, 0xff, 0xf0, 0xb1]
def LRX0_measure_5 : List UInt8 := LBX0_measure_5 ++ LRX0_measure_6
def LBX0_measure_4 : List UInt8 := [0xff, 0xcb, 0x03, 0x3d, 0x1c, 0x2a, 0xb4, 0x00, 0x09, 0xa2, 0x00, 0x0e, 0x2a, 0x1c, 0xb6, 0x00]
def LRX0_measure_4 : List UInt8 := LBX0_measure_4 ++ LRX0_measure_5
def LBX0_measure_3 : List UInt8 := [0x1c, 0x1d, 0xb8, 0x00, 0x16, 0x4f, 0x84, 0x03, 0x01, 0xa7, 0xff, 0xdb, 0x84, 0x02, 0x01, 0xa7]
def LRX0_measure_3 : List UInt8 := LBX0_measure_3 ++ LRX0_measure_4
def LBX0_measure_2 : List UInt8 := [0x10, 0x0a, 0x1c, 0x68, 0x1d, 0x60, 0x1c, 0x1d, 0xa0, 0x00, 0x07, 0x03, 0xa7, 0x00, 0x09, 0x2b]
def LRX0_measure_2 : List UInt8 := LBX0_measure_2 ++ LRX0_measure_3
def LBX0_measure_1 : List UInt8 := [0x00, 0x33, 0x03, 0x3e, 0x1d, 0x2a, 0xb4, 0x00, 0x09, 0xa2, 0x00, 0x23, 0x2a, 0xb4, 0x00, 0x0f]
def LRX0_measure_1 : List UInt8 := LBX0_measure_1 ++ LRX0_measure_2
def LBX0_measure_0 : List UInt8 := [0x2a, 0x2b, 0xb4, 0x00, 0x13, 0xb5, 0x00, 0x09, 0x03, 0x3d, 0x1c, 0x2a, 0xb4, 0x00, 0x09, 0xa2]
def LRX0_measure_0 : List UInt8 := LBX0_measure_0 ++ LRX0_measure_1
set_option maxRecDepth 100000 in
theorem LBX0_measure_eq : cX0_measure.data.toList = LRX0_measure_0 := by decide +kernel
theorem LBX0_measurer_0 (k : Nat) : cX0_measure.data.toList[0 + k]? = LRX0_measure_0[k]? := by rw [LBX0_measure_eq, Nat.zero_add]
theorem LBX0_measurer_1 (k : Nat) : cX0_measure.data.toList[16 + k]? = LRX0_measure_1[k]? := by
  have h := LBX0_measurer_0 (16 + k)
  rw [show 0 + (16 + k) = 16 + k by omega] at h
  rw [h]
  exact (List.getElem?_append_right (l₁ := LBX0_measure_0) (l₂ := LRX0_measure_1) (show 16 ≤ 16 + k by omega)).trans (congrArg (fun i => LRX0_measure_1[i]?) (show 16 + k - 16 = k by omega))
theorem LBX0_measurer_2 (k : Nat) : cX0_measure.data.toList[32 + k]? = LRX0_measure_2[k]? := by
  have h := LBX0_measurer_1 (16 + k)
  rw [show 16 + (16 + k) = 32 + k by omega] at h
  rw [h]
  exact (List.getElem?_append_right (l₁ := LBX0_measure_1) (l₂ := LRX0_measure_2) (show 16 ≤ 16 + k by omega)).trans (congrArg (fun i => LRX0_measure_2[i]?) (show 16 + k - 16 = k by omega))
theorem LBX0_measurer_3 (k : Nat) : cX0_measure.data.toList[48 + k]? = LRX0_measure_3[k]? := by
  have h := LBX0_measurer_2 (16 + k)
  rw [show 32 + (16 + k) = 48 + k by omega] at h
  rw [h]
  exact (List.getElem?_append_right (l₁ := LBX0_measure_2) (l₂ := LRX0_measure_3) (show 16 ≤ 16 + k by omega)).trans (congrArg (fun i => LRX0_measure_3[i]?) (show 16 + k - 16 = k by omega))
theorem LBX0_measurer_4 (k : Nat) : cX0_measure.data.toList[64 + k]? = LRX0_measure_4[k]? := by
  have h := LBX0_measurer_3 (16 + k)
  rw [show 48 + (16 + k) = 64 + k by omega] at h
  rw [h]
  exact (List.getElem?_append_right (l₁ := LBX0_measure_3) (l₂ := LRX0_measure_4) (show 16 ≤ 16 + k by omega)).trans (congrArg (fun i => LRX0_measure_4[i]?) (show 16 + k - 16 = k by omega))
theorem LBX0_measurer_5 (k : Nat) : cX0_measure.data.toList[80 + k]? = LRX0_measure_5[k]? := by
  have h := LBX0_measurer_4 (16 + k)
  rw [show 64 + (16 + k) = 80 + k by omega] at h
  rw [h]
  exact (List.getElem?_append_right (l₁ := LBX0_measure_4) (l₂ := LRX0_measure_5) (show 16 ≤ 16 + k by omega)).trans (congrArg (fun i => LRX0_measure_5[i]?) (show 16 + k - 16 = k by omega))
theorem dX0_measure_0 : decode cX0_measure 0 = .ok (.aload_n 0, 1) := dk_42_ (show cX0_measure.data.toList[0]? = some 0x2a from (LBX0_measurer_0 0).trans (by decide +kernel))
theorem dX0_measure_1 : decode cX0_measure 1 = .ok (.aload_n 1, 1) := dk_43_ (show cX0_measure.data.toList[1]? = some 0x2b from (LBX0_measurer_0 1).trans (by decide +kernel))
theorem dX0_measure_2 : decode cX0_measure 2 = .ok (.getfield 19, 3) := dk_180_ (show cX0_measure.data.toList[2]? = some 0xb4 from (LBX0_measurer_0 2).trans (by decide +kernel)) (show cX0_measure.data.toList[3]? = some 0x00 from (LBX0_measurer_0 3).trans (by decide +kernel)) (show cX0_measure.data.toList[4]? = some 0x13 from (LBX0_measurer_0 4).trans (by decide +kernel)) (by decide)
theorem dX0_measure_5 : decode cX0_measure 5 = .ok (.putfield 9, 3) := dk_181_ (show cX0_measure.data.toList[5]? = some 0xb5 from (LBX0_measurer_0 5).trans (by decide +kernel)) (show cX0_measure.data.toList[6]? = some 0x00 from (LBX0_measurer_0 6).trans (by decide +kernel)) (show cX0_measure.data.toList[7]? = some 0x09 from (LBX0_measurer_0 7).trans (by decide +kernel)) (by decide)
theorem dX0_measure_8 : decode cX0_measure 8 = .ok (.iconst 0, 1) := dk_3_ (show cX0_measure.data.toList[8]? = some 0x03 from (LBX0_measurer_0 8).trans (by decide +kernel))
theorem dX0_measure_9 : decode cX0_measure 9 = .ok (.istore_n 2, 1) := dk_61_ (show cX0_measure.data.toList[9]? = some 0x3d from (LBX0_measurer_0 9).trans (by decide +kernel))
theorem dX0_measure_10 : decode cX0_measure 10 = .ok (.iload_n 2, 1) := dk_28_ (show cX0_measure.data.toList[10]? = some 0x1c from (LBX0_measurer_0 10).trans (by decide +kernel))
theorem dX0_measure_11 : decode cX0_measure 11 = .ok (.aload_n 0, 1) := dk_42_ (show cX0_measure.data.toList[11]? = some 0x2a from (LBX0_measurer_0 11).trans (by decide +kernel))
theorem dX0_measure_12 : decode cX0_measure 12 = .ok (.getfield 9, 3) := dk_180_ (show cX0_measure.data.toList[12]? = some 0xb4 from (LBX0_measurer_0 12).trans (by decide +kernel)) (show cX0_measure.data.toList[13]? = some 0x00 from (LBX0_measurer_0 13).trans (by decide +kernel)) (show cX0_measure.data.toList[14]? = some 0x09 from (LBX0_measurer_0 14).trans (by decide +kernel)) (by decide)
theorem dX0_measure_15 : decode cX0_measure 15 = .ok (.if_icmp .ge 51, 3) := dk_162_ (show cX0_measure.data.toList[15]? = some 0xa2 from (LBX0_measurer_0 15).trans (by decide +kernel)) (show cX0_measure.data.toList[16]? = some 0x00 from (LBX0_measurer_1 0).trans (by decide +kernel)) (show cX0_measure.data.toList[17]? = some 0x33 from (LBX0_measurer_1 1).trans (by decide +kernel)) (by decide)
theorem dX0_measure_18 : decode cX0_measure 18 = .ok (.iconst 0, 1) := dk_3_ (show cX0_measure.data.toList[18]? = some 0x03 from (LBX0_measurer_1 2).trans (by decide +kernel))
theorem dX0_measure_19 : decode cX0_measure 19 = .ok (.istore_n 3, 1) := dk_62_ (show cX0_measure.data.toList[19]? = some 0x3e from (LBX0_measurer_1 3).trans (by decide +kernel))
theorem dX0_measure_20 : decode cX0_measure 20 = .ok (.iload_n 3, 1) := dk_29_ (show cX0_measure.data.toList[20]? = some 0x1d from (LBX0_measurer_1 4).trans (by decide +kernel))
theorem dX0_measure_21 : decode cX0_measure 21 = .ok (.aload_n 0, 1) := dk_42_ (show cX0_measure.data.toList[21]? = some 0x2a from (LBX0_measurer_1 5).trans (by decide +kernel))
theorem dX0_measure_22 : decode cX0_measure 22 = .ok (.getfield 9, 3) := dk_180_ (show cX0_measure.data.toList[22]? = some 0xb4 from (LBX0_measurer_1 6).trans (by decide +kernel)) (show cX0_measure.data.toList[23]? = some 0x00 from (LBX0_measurer_1 7).trans (by decide +kernel)) (show cX0_measure.data.toList[24]? = some 0x09 from (LBX0_measurer_1 8).trans (by decide +kernel)) (by decide)
theorem dX0_measure_25 : decode cX0_measure 25 = .ok (.if_icmp .ge 35, 3) := dk_162_ (show cX0_measure.data.toList[25]? = some 0xa2 from (LBX0_measurer_1 9).trans (by decide +kernel)) (show cX0_measure.data.toList[26]? = some 0x00 from (LBX0_measurer_1 10).trans (by decide +kernel)) (show cX0_measure.data.toList[27]? = some 0x23 from (LBX0_measurer_1 11).trans (by decide +kernel)) (by decide)
theorem dX0_measure_28 : decode cX0_measure 28 = .ok (.aload_n 0, 1) := dk_42_ (show cX0_measure.data.toList[28]? = some 0x2a from (LBX0_measurer_1 12).trans (by decide +kernel))
theorem dX0_measure_29 : decode cX0_measure 29 = .ok (.getfield 15, 3) := dk_180_ (show cX0_measure.data.toList[29]? = some 0xb4 from (LBX0_measurer_1 13).trans (by decide +kernel)) (show cX0_measure.data.toList[30]? = some 0x00 from (LBX0_measurer_1 14).trans (by decide +kernel)) (show cX0_measure.data.toList[31]? = some 0x0f from (LBX0_measurer_1 15).trans (by decide +kernel)) (by decide)
theorem dX0_measure_32 : decode cX0_measure 32 = .ok (.bipush 10, 2) := dk_16_ (show cX0_measure.data.toList[32]? = some 0x10 from (LBX0_measurer_2 0).trans (by decide +kernel)) (show cX0_measure.data.toList[33]? = some 0x0a from (LBX0_measurer_2 1).trans (by decide +kernel)) (by decide)
theorem dX0_measure_34 : decode cX0_measure 34 = .ok (.iload_n 2, 1) := dk_28_ (show cX0_measure.data.toList[34]? = some 0x1c from (LBX0_measurer_2 2).trans (by decide +kernel))
theorem dX0_measure_35 : decode cX0_measure 35 = .ok (.imul, 1) := dk_104_ (show cX0_measure.data.toList[35]? = some 0x68 from (LBX0_measurer_2 3).trans (by decide +kernel))
theorem dX0_measure_36 : decode cX0_measure 36 = .ok (.iload_n 3, 1) := dk_29_ (show cX0_measure.data.toList[36]? = some 0x1d from (LBX0_measurer_2 4).trans (by decide +kernel))
theorem dX0_measure_37 : decode cX0_measure 37 = .ok (.iadd, 1) := dk_96_ (show cX0_measure.data.toList[37]? = some 0x60 from (LBX0_measurer_2 5).trans (by decide +kernel))
theorem dX0_measure_38 : decode cX0_measure 38 = .ok (.iload_n 2, 1) := dk_28_ (show cX0_measure.data.toList[38]? = some 0x1c from (LBX0_measurer_2 6).trans (by decide +kernel))
theorem dX0_measure_39 : decode cX0_measure 39 = .ok (.iload_n 3, 1) := dk_29_ (show cX0_measure.data.toList[39]? = some 0x1d from (LBX0_measurer_2 7).trans (by decide +kernel))
theorem dX0_measure_40 : decode cX0_measure 40 = .ok (.if_icmp .ne 7, 3) := dk_160_ (show cX0_measure.data.toList[40]? = some 0xa0 from (LBX0_measurer_2 8).trans (by decide +kernel)) (show cX0_measure.data.toList[41]? = some 0x00 from (LBX0_measurer_2 9).trans (by decide +kernel)) (show cX0_measure.data.toList[42]? = some 0x07 from (LBX0_measurer_2 10).trans (by decide +kernel)) (by decide)
theorem dX0_measure_43 : decode cX0_measure 43 = .ok (.iconst 0, 1) := dk_3_ (show cX0_measure.data.toList[43]? = some 0x03 from (LBX0_measurer_2 11).trans (by decide +kernel))
theorem dX0_measure_44 : decode cX0_measure 44 = .ok (.goto 9, 3) := dk_167_ (show cX0_measure.data.toList[44]? = some 0xa7 from (LBX0_measurer_2 12).trans (by decide +kernel)) (show cX0_measure.data.toList[45]? = some 0x00 from (LBX0_measurer_2 13).trans (by decide +kernel)) (show cX0_measure.data.toList[46]? = some 0x09 from (LBX0_measurer_2 14).trans (by decide +kernel)) (by decide)
theorem dX0_measure_47 : decode cX0_measure 47 = .ok (.aload_n 1, 1) := dk_43_ (show cX0_measure.data.toList[47]? = some 0x2b from (LBX0_measurer_2 15).trans (by decide +kernel))
theorem dX0_measure_48 : decode cX0_measure 48 = .ok (.iload_n 2, 1) := dk_28_ (show cX0_measure.data.toList[48]? = some 0x1c from (LBX0_measurer_3 0).trans (by decide +kernel))
theorem dX0_measure_49 : decode cX0_measure 49 = .ok (.iload_n 3, 1) := dk_29_ (show cX0_measure.data.toList[49]? = some 0x1d from (LBX0_measurer_3 1).trans (by decide +kernel))
theorem dX0_measure_50 : decode cX0_measure 50 = .ok (.invokestatic 22, 3) := dk_184_ (show cX0_measure.data.toList[50]? = some 0xb8 from (LBX0_measurer_3 2).trans (by decide +kernel)) (show cX0_measure.data.toList[51]? = some 0x00 from (LBX0_measurer_3 3).trans (by decide +kernel)) (show cX0_measure.data.toList[52]? = some 0x16 from (LBX0_measurer_3 4).trans (by decide +kernel)) (by decide)
theorem dX0_measure_53 : decode cX0_measure 53 = .ok (.iastore, 1) := dk_79_ (show cX0_measure.data.toList[53]? = some 0x4f from (LBX0_measurer_3 5).trans (by decide +kernel))
theorem dX0_measure_54 : decode cX0_measure 54 = .ok (.iinc 3 1, 3) := dk_132_ (show cX0_measure.data.toList[54]? = some 0x84 from (LBX0_measurer_3 6).trans (by decide +kernel)) (show cX0_measure.data.toList[55]? = some 0x03 from (LBX0_measurer_3 7).trans (by decide +kernel)) (show cX0_measure.data.toList[56]? = some 0x01 from (LBX0_measurer_3 8).trans (by decide +kernel)) (by decide) (by decide)
theorem dX0_measure_57 : decode cX0_measure 57 = .ok (.goto (-37), 3) := dk_167_ (show cX0_measure.data.toList[57]? = some 0xa7 from (LBX0_measurer_3 9).trans (by decide +kernel)) (show cX0_measure.data.toList[58]? = some 0xff from (LBX0_measurer_3 10).trans (by decide +kernel)) (show cX0_measure.data.toList[59]? = some 0xdb from (LBX0_measurer_3 11).trans (by decide +kernel)) (by decide)
theorem dX0_measure_60 : decode cX0_measure 60 = .ok (.iinc 2 1, 3) := dk_132_ (show cX0_measure.data.toList[60]? = some 0x84 from (LBX0_measurer_3 12).trans (by decide +kernel)) (show cX0_measure.data.toList[61]? = some 0x02 from (LBX0_measurer_3 13).trans (by decide +kernel)) (show cX0_measure.data.toList[62]? = some 0x01 from (LBX0_measurer_3 14).trans (by decide +kernel)) (by decide) (by decide)
theorem dX0_measure_63 : decode cX0_measure 63 = .ok (.goto (-53), 3) := dk_167_ (show cX0_measure.data.toList[63]? = some 0xa7 from (LBX0_measurer_3 15).trans (by decide +kernel)) (show cX0_measure.data.toList[64]? = some 0xff from (LBX0_measurer_4 0).trans (by decide +kernel)) (show cX0_measure.data.toList[65]? = some 0xcb from (LBX0_measurer_4 1).trans (by decide +kernel)) (by decide)
theorem dX0_measure_66 : decode cX0_measure 66 = .ok (.iconst 0, 1) := dk_3_ (show cX0_measure.data.toList[66]? = some 0x03 from (LBX0_measurer_4 2).trans (by decide +kernel))
theorem dX0_measure_67 : decode cX0_measure 67 = .ok (.istore_n 2, 1) := dk_61_ (show cX0_measure.data.toList[67]? = some 0x3d from (LBX0_measurer_4 3).trans (by decide +kernel))
theorem dX0_measure_68 : decode cX0_measure 68 = .ok (.iload_n 2, 1) := dk_28_ (show cX0_measure.data.toList[68]? = some 0x1c from (LBX0_measurer_4 4).trans (by decide +kernel))
theorem dX0_measure_69 : decode cX0_measure 69 = .ok (.aload_n 0, 1) := dk_42_ (show cX0_measure.data.toList[69]? = some 0x2a from (LBX0_measurer_4 5).trans (by decide +kernel))
theorem dX0_measure_70 : decode cX0_measure 70 = .ok (.getfield 9, 3) := dk_180_ (show cX0_measure.data.toList[70]? = some 0xb4 from (LBX0_measurer_4 6).trans (by decide +kernel)) (show cX0_measure.data.toList[71]? = some 0x00 from (LBX0_measurer_4 7).trans (by decide +kernel)) (show cX0_measure.data.toList[72]? = some 0x09 from (LBX0_measurer_4 8).trans (by decide +kernel)) (by decide)
theorem dX0_measure_73 : decode cX0_measure 73 = .ok (.if_icmp .ge 14, 3) := dk_162_ (show cX0_measure.data.toList[73]? = some 0xa2 from (LBX0_measurer_4 9).trans (by decide +kernel)) (show cX0_measure.data.toList[74]? = some 0x00 from (LBX0_measurer_4 10).trans (by decide +kernel)) (show cX0_measure.data.toList[75]? = some 0x0e from (LBX0_measurer_4 11).trans (by decide +kernel)) (by decide)
theorem dX0_measure_76 : decode cX0_measure 76 = .ok (.aload_n 0, 1) := dk_42_ (show cX0_measure.data.toList[76]? = some 0x2a from (LBX0_measurer_4 12).trans (by decide +kernel))
theorem dX0_measure_77 : decode cX0_measure 77 = .ok (.iload_n 2, 1) := dk_28_ (show cX0_measure.data.toList[77]? = some 0x1c from (LBX0_measurer_4 13).trans (by decide +kernel))
theorem dX0_measure_78 : decode cX0_measure 78 = .ok (.invokevirtual 26, 3) := dk_182_ (show cX0_measure.data.toList[78]? = some 0xb6 from (LBX0_measurer_4 14).trans (by decide +kernel)) (show cX0_measure.data.toList[79]? = some 0x00 from (LBX0_measurer_4 15).trans (by decide +kernel)) (show cX0_measure.data.toList[80]? = some 0x1a from (LBX0_measurer_5 0).trans (by decide +kernel)) (by decide)
theorem dX0_measure_81 : decode cX0_measure 81 = .ok (.iinc 2 1, 3) := dk_132_ (show cX0_measure.data.toList[81]? = some 0x84 from (LBX0_measurer_5 1).trans (by decide +kernel)) (show cX0_measure.data.toList[82]? = some 0x02 from (LBX0_measurer_5 2).trans (by decide +kernel)) (show cX0_measure.data.toList[83]? = some 0x01 from (LBX0_measurer_5 3).trans (by decide +kernel)) (by decide) (by decide)
theorem dX0_measure_84 : decode cX0_measure 84 = .ok (.goto (-16), 3) := dk_167_ (show cX0_measure.data.toList[84]? = some 0xa7 from (LBX0_measurer_5 4).trans (by decide +kernel)) (show cX0_measure.data.toList[85]? = some 0xff from (LBX0_measurer_5 5).trans (by decide +kernel)) (show cX0_measure.data.toList[86]? = some 0xf0 from (LBX0_measurer_5 6).trans (by decide +kernel)) (by decide)
theorem dX0_measure_87 : decode cX0_measure 87 = .ok (.return_, 1) := dk_177_ (show cX0_measure.data.toList[87]? = some 0xb1 from (LBX0_measurer_5 7).trans (by decide +kernel))
def LRX0_hasLoop_2 : List UInt8 := []
def LBX0_hasLoop_1 : List UInt8 := [0x9c, 0x00, 0x05, 0x04, 0xac, 0x84, 0x01, 0x01, 0xa7, 0xff, 0xea, 0x03, 0xac]
def LRX0_hasLoop_1 : List UInt8 := LBX0_hasLoop_1 ++ LRX0_hasLoop_2
def LBX0_hasLoop_0 : List UInt8 := [0x03, 0x3c, 0x1b, 0x2a, 0xb4, 0x00, 0x09, 0xa2, 0x00, 0x14, 0x2a, 0x1b, 0x1b, 0xb6, 0x00, 0x27]
def LRX0_hasLoop_0 : List UInt8 := LBX0_hasLoop_0 ++ LRX0_hasLoop_1
set_option maxRecDepth 100000 in
theorem LBX0_hasLoop_eq : cX0_hasLoop.data.toList = LRX0_hasLoop_0 := by decide +kernel
theorem LBX0_hasLoopr_0 (k : Nat) : cX0_hasLoop.data.toList[0 + k]? = LRX0_hasLoop_0[k]? := by rw [LBX0_hasLoop_eq, Nat.zero_add]
theorem LBX0_hasLoopr_1 (k : Nat) : cX0_hasLoop.data.toList[16 + k]? = LRX0_hasLoop_1[k]? := by
  have h := LBX0_hasLoopr_0 (16 + k)
  rw [show 0 + (16 + k) = 16 + k by omega] at h
  rw [h]
  exact (List.getElem?_append_right (l₁ := LBX0_hasLoop_0) (l₂ := LRX0_hasLoop_1) (show 16 ≤ 16 + k by omega)).trans (congrArg (fun i => LRX0_hasLoop_1[i]?) (show 16 + k - 16 = k by omega))
theorem dX0_hasLoop_0 : decode cX0_hasLoop 0 = .ok (.iconst 0, 1) := dk_3_ (show cX0_hasLoop.data.toList[0]? = some 0x03 from (LBX0_hasLoopr_0 0).trans (by decide +kernel))
theorem dX0_hasLoop_1 : decode cX0_hasLoop 1 = .ok (.istore_n 1, 1) := dk_60_ (show cX0_hasLoop.data.toList[1]? = some 0x3c from (LBX0_hasLoopr_0 1).trans (by decide +kernel))
theorem dX0_hasLoop_2 : decode cX0_hasLoop 2 = .ok (.iload_n 1, 1) := dk_27_ (show cX0_hasLoop.data.toList[2]? = some 0x1b from (LBX0_hasLoopr_0 2).trans (by decide +kernel))
theorem dX0_hasLoop_3 : decode cX0_hasLoop 3 = .ok (.aload_n 0, 1) := dk_42_ (show cX0_hasLoop.data.toList[3]? = some 0x2a from (LBX0_hasLoopr_0 3).trans (by decide +kernel))
theorem dX0_hasLoop_4 : decode cX0_hasLoop 4 = .ok (.getfield 9, 3) := dk_180_ (show cX0_hasLoop.data.toList[4]? = some 0xb4 from (LBX0_hasLoopr_0 4).trans (by decide +kernel)) (show cX0_hasLoop.data.toList[5]? = some 0x00 from (LBX0_hasLoopr_0 5).trans (by decide +kernel)) (show cX0_hasLoop.data.toList[6]? = some 0x09 from (LBX0_hasLoopr_0 6).trans (by decide +kernel)) (by decide)
theorem dX0_hasLoop_7 : decode cX0_hasLoop 7 = .ok (.if_icmp .ge 20, 3) := dk_162_ (show cX0_hasLoop.data.toList[7]? = some 0xa2 from (LBX0_hasLoopr_0 7).trans (by decide +kernel)) (show cX0_hasLoop.data.toList[8]? = some 0x00 from (LBX0_hasLoopr_0 8).trans (by decide +kernel)) (show cX0_hasLoop.data.toList[9]? = some 0x14 from (LBX0_hasLoopr_0 9).trans (by decide +kernel)) (by decide)
theorem dX0_hasLoop_10 : decode cX0_hasLoop 10 = .ok (.aload_n 0, 1) := dk_42_ (show cX0_hasLoop.data.toList[10]? = some 0x2a from (LBX0_hasLoopr_0 10).trans (by decide +kernel))
theorem dX0_hasLoop_11 : decode cX0_hasLoop 11 = .ok (.iload_n 1, 1) := dk_27_ (show cX0_hasLoop.data.toList[11]? = some 0x1b from (LBX0_hasLoopr_0 11).trans (by decide +kernel))
theorem dX0_hasLoop_12 : decode cX0_hasLoop 12 = .ok (.iload_n 1, 1) := dk_27_ (show cX0_hasLoop.data.toList[12]? = some 0x1b from (LBX0_hasLoopr_0 12).trans (by decide +kernel))
theorem dX0_hasLoop_13 : decode cX0_hasLoop 13 = .ok (.invokevirtual 39, 3) := dk_182_ (show cX0_hasLoop.data.toList[13]? = some 0xb6 from (LBX0_hasLoopr_0 13).trans (by decide +kernel)) (show cX0_hasLoop.data.toList[14]? = some 0x00 from (LBX0_hasLoopr_0 14).trans (by decide +kernel)) (show cX0_hasLoop.data.toList[15]? = some 0x27 from (LBX0_hasLoopr_0 15).trans (by decide +kernel)) (by decide)
theorem dX0_hasLoop_16 : decode cX0_hasLoop 16 = .ok (.ifCond .ge 5, 3) := dk_156_ (show cX0_hasLoop.data.toList[16]? = some 0x9c from (LBX0_hasLoopr_1 0).trans (by decide +kernel)) (show cX0_hasLoop.data.toList[17]? = some 0x00 from (LBX0_hasLoopr_1 1).trans (by decide +kernel)) (show cX0_hasLoop.data.toList[18]? = some 0x05 from (LBX0_hasLoopr_1 2).trans (by decide +kernel)) (by decide)
theorem dX0_hasLoop_19 : decode cX0_hasLoop 19 = .ok (.iconst 1, 1) := dk_4_ (show cX0_hasLoop.data.toList[19]? = some 0x04 from (LBX0_hasLoopr_1 3).trans (by decide +kernel))
theorem dX0_hasLoop_20 : decode cX0_hasLoop 20 = .ok (.ireturn, 1) := dk_172_ (show cX0_hasLoop.data.toList[20]? = some 0xac from (LBX0_hasLoopr_1 4).trans (by decide +kernel))
theorem dX0_hasLoop_21 : decode cX0_hasLoop 21 = .ok (.iinc 1 1, 3) := dk_132_ (show cX0_hasLoop.data.toList[21]? = some 0x84 from (LBX0_hasLoopr_1 5).trans (by decide +kernel)) (show cX0_hasLoop.data.toList[22]? = some 0x01 from (LBX0_hasLoopr_1 6).trans (by decide +kernel)) (show cX0_hasLoop.data.toList[23]? = some 0x01 from (LBX0_hasLoopr_1 7).trans (by decide +kernel)) (by decide) (by decide)
theorem dX0_hasLoop_24 : decode cX0_hasLoop 24 = .ok (.goto (-22), 3) := dk_167_ (show cX0_hasLoop.data.toList[24]? = some 0xa7 from (LBX0_hasLoopr_1 8).trans (by decide +kernel)) (show cX0_hasLoop.data.toList[25]? = some 0xff from (LBX0_hasLoopr_1 9).trans (by decide +kernel)) (show cX0_hasLoop.data.toList[26]? = some 0xea from (LBX0_hasLoopr_1 10).trans (by decide +kernel)) (by decide)
theorem dX0_hasLoop_27 : decode cX0_hasLoop 27 = .ok (.iconst 0, 1) := dk_3_ (show cX0_hasLoop.data.toList[27]? = some 0x03 from (LBX0_hasLoopr_1 11).trans (by decide +kernel))
theorem dX0_hasLoop_28 : decode cX0_hasLoop 28 = .ok (.ireturn, 1) := dk_172_ (show cX0_hasLoop.data.toList[28]? = some 0xac from (LBX0_hasLoopr_1 12).trans (by decide +kernel))
def LRX0_isBackAndForth_2 : List UInt8 := []
def LBX0_isBackAndForth_1 : List UInt8 := [0x27, 0x12, 0x26, 0x9f, 0x00, 0x07, 0x04, 0xa7, 0x00, 0x04, 0x03, 0xac]
def LRX0_isBackAndForth_1 : List UInt8 := LBX0_isBackAndForth_1 ++ LRX0_isBackAndForth_2
def LBX0_isBackAndForth_0 : List UInt8 := [0x2a, 0x1b, 0x1c, 0xb6, 0x00, 0x27, 0x12, 0x26, 0x9f, 0x00, 0x12, 0x2a, 0x1c, 0x1b, 0xb6, 0x00]
def LRX0_isBackAndForth_0 : List UInt8 := LBX0_isBackAndForth_0 ++ LRX0_isBackAndForth_1
set_option maxRecDepth 100000 in
theorem LBX0_isBackAndForth_eq : cX0_isBackAndForth.data.toList = LRX0_isBackAndForth_0 := by decide +kernel
theorem LBX0_isBackAndForthr_0 (k : Nat) : cX0_isBackAndForth.data.toList[0 + k]? = LRX0_isBackAndForth_0[k]? := by rw [LBX0_isBackAndForth_eq, Nat.zero_add]
theorem LBX0_isBackAndForthr_1 (k : Nat) : cX0_isBackAndForth.data.toList[16 + k]? = LRX0_isBackAndForth_1[k]? := by
  have h := LBX0_isBackAndForthr_0 (16 + k)
  rw [show 0 + (16 + k) = 16 + k by omega] at h
  rw [h]
  exact (List.getElem?_append_right (l₁ := LBX0_isBackAndForth_0) (l₂ := LRX0_isBackAndForth_1) (show 16 ≤ 16 + k by omega)).trans (congrArg (fun i => LRX0_isBackAndForth_1[i]?) (show 16 + k - 16 = k by omega))
theorem dX0_isBackAndForth_0 : decode cX0_isBackAndForth 0 = .ok (.aload_n 0, 1) := dk_42_ (show cX0_isBackAndForth.data.toList[0]? = some 0x2a from (LBX0_isBackAndForthr_0 0).trans (by decide +kernel))
theorem dX0_isBackAndForth_1 : decode cX0_isBackAndForth 1 = .ok (.iload_n 1, 1) := dk_27_ (show cX0_isBackAndForth.data.toList[1]? = some 0x1b from (LBX0_isBackAndForthr_0 1).trans (by decide +kernel))
theorem dX0_isBackAndForth_2 : decode cX0_isBackAndForth 2 = .ok (.iload_n 2, 1) := dk_28_ (show cX0_isBackAndForth.data.toList[2]? = some 0x1c from (LBX0_isBackAndForthr_0 2).trans (by decide +kernel))
theorem dX0_isBackAndForth_3 : decode cX0_isBackAndForth 3 = .ok (.invokevirtual 39, 3) := dk_182_ (show cX0_isBackAndForth.data.toList[3]? = some 0xb6 from (LBX0_isBackAndForthr_0 3).trans (by decide +kernel)) (show cX0_isBackAndForth.data.toList[4]? = some 0x00 from (LBX0_isBackAndForthr_0 4).trans (by decide +kernel)) (show cX0_isBackAndForth.data.toList[5]? = some 0x27 from (LBX0_isBackAndForthr_0 5).trans (by decide +kernel)) (by decide)
theorem dX0_isBackAndForth_6 : decode cX0_isBackAndForth 6 = .ok (.ldc 38, 2) := dk_18_ (show cX0_isBackAndForth.data.toList[6]? = some 0x12 from (LBX0_isBackAndForthr_0 6).trans (by decide +kernel)) (show cX0_isBackAndForth.data.toList[7]? = some 0x26 from (LBX0_isBackAndForthr_0 7).trans (by decide +kernel)) (by decide)
theorem dX0_isBackAndForth_8 : decode cX0_isBackAndForth 8 = .ok (.if_icmp .eq 18, 3) := dk_159_ (show cX0_isBackAndForth.data.toList[8]? = some 0x9f from (LBX0_isBackAndForthr_0 8).trans (by decide +kernel)) (show cX0_isBackAndForth.data.toList[9]? = some 0x00 from (LBX0_isBackAndForthr_0 9).trans (by decide +kernel)) (show cX0_isBackAndForth.data.toList[10]? = some 0x12 from (LBX0_isBackAndForthr_0 10).trans (by decide +kernel)) (by decide)
theorem dX0_isBackAndForth_11 : decode cX0_isBackAndForth 11 = .ok (.aload_n 0, 1) := dk_42_ (show cX0_isBackAndForth.data.toList[11]? = some 0x2a from (LBX0_isBackAndForthr_0 11).trans (by decide +kernel))
theorem dX0_isBackAndForth_12 : decode cX0_isBackAndForth 12 = .ok (.iload_n 2, 1) := dk_28_ (show cX0_isBackAndForth.data.toList[12]? = some 0x1c from (LBX0_isBackAndForthr_0 12).trans (by decide +kernel))
theorem dX0_isBackAndForth_13 : decode cX0_isBackAndForth 13 = .ok (.iload_n 1, 1) := dk_27_ (show cX0_isBackAndForth.data.toList[13]? = some 0x1b from (LBX0_isBackAndForthr_0 13).trans (by decide +kernel))
theorem dX0_isBackAndForth_14 : decode cX0_isBackAndForth 14 = .ok (.invokevirtual 39, 3) := dk_182_ (show cX0_isBackAndForth.data.toList[14]? = some 0xb6 from (LBX0_isBackAndForthr_0 14).trans (by decide +kernel)) (show cX0_isBackAndForth.data.toList[15]? = some 0x00 from (LBX0_isBackAndForthr_0 15).trans (by decide +kernel)) (show cX0_isBackAndForth.data.toList[16]? = some 0x27 from (LBX0_isBackAndForthr_1 0).trans (by decide +kernel)) (by decide)
theorem dX0_isBackAndForth_17 : decode cX0_isBackAndForth 17 = .ok (.ldc 38, 2) := dk_18_ (show cX0_isBackAndForth.data.toList[17]? = some 0x12 from (LBX0_isBackAndForthr_1 1).trans (by decide +kernel)) (show cX0_isBackAndForth.data.toList[18]? = some 0x26 from (LBX0_isBackAndForthr_1 2).trans (by decide +kernel)) (by decide)
theorem dX0_isBackAndForth_19 : decode cX0_isBackAndForth 19 = .ok (.if_icmp .eq 7, 3) := dk_159_ (show cX0_isBackAndForth.data.toList[19]? = some 0x9f from (LBX0_isBackAndForthr_1 3).trans (by decide +kernel)) (show cX0_isBackAndForth.data.toList[20]? = some 0x00 from (LBX0_isBackAndForthr_1 4).trans (by decide +kernel)) (show cX0_isBackAndForth.data.toList[21]? = some 0x07 from (LBX0_isBackAndForthr_1 5).trans (by decide +kernel)) (by decide)
theorem dX0_isBackAndForth_22 : decode cX0_isBackAndForth 22 = .ok (.iconst 1, 1) := dk_4_ (show cX0_isBackAndForth.data.toList[22]? = some 0x04 from (LBX0_isBackAndForthr_1 6).trans (by decide +kernel))
theorem dX0_isBackAndForth_23 : decode cX0_isBackAndForth 23 = .ok (.goto 4, 3) := dk_167_ (show cX0_isBackAndForth.data.toList[23]? = some 0xa7 from (LBX0_isBackAndForthr_1 7).trans (by decide +kernel)) (show cX0_isBackAndForth.data.toList[24]? = some 0x00 from (LBX0_isBackAndForthr_1 8).trans (by decide +kernel)) (show cX0_isBackAndForth.data.toList[25]? = some 0x04 from (LBX0_isBackAndForthr_1 9).trans (by decide +kernel)) (by decide)
theorem dX0_isBackAndForth_26 : decode cX0_isBackAndForth 26 = .ok (.iconst 0, 1) := dk_3_ (show cX0_isBackAndForth.data.toList[26]? = some 0x03 from (LBX0_isBackAndForthr_1 10).trans (by decide +kernel))
theorem dX0_isBackAndForth_27 : decode cX0_isBackAndForth 27 = .ok (.ireturn, 1) := dk_172_ (show cX0_isBackAndForth.data.toList[27]? = some 0xac from (LBX0_isBackAndForthr_1 11).trans (by decide +kernel))
def LRX0_loopSet_4 : List UInt8 := []
def LBX0_loopSet_3 : List UInt8 := [0x01, 0xa7, 0xff, 0xdd, 0x84, 0x02, 0x01, 0xa7, 0xff, 0xcd, 0x1b, 0xac]
def LRX0_loopSet_3 : List UInt8 := LBX0_loopSet_3 ++ LRX0_loopSet_4
def LBX0_loopSet_2 : List UInt8 := [0x1c, 0x1d, 0xb6, 0x00, 0x33, 0x99, 0x00, 0x09, 0x1b, 0x04, 0x1c, 0x78, 0x80, 0x3c, 0x84, 0x03]
def LRX0_loopSet_2 : List UInt8 := LBX0_loopSet_2 ++ LRX0_loopSet_3
def LBX0_loopSet_1 : List UInt8 := [0xb4, 0x00, 0x09, 0xa2, 0x00, 0x21, 0x2a, 0x1d, 0x1d, 0xb6, 0x00, 0x27, 0x9c, 0x00, 0x12, 0x2a]
def LRX0_loopSet_1 : List UInt8 := LBX0_loopSet_1 ++ LRX0_loopSet_2
def LBX0_loopSet_0 : List UInt8 := [0x03, 0x3c, 0x03, 0x3d, 0x1c, 0x2a, 0xb4, 0x00, 0x09, 0xa2, 0x00, 0x31, 0x03, 0x3e, 0x1d, 0x2a]
def LRX0_loopSet_0 : List UInt8 := LBX0_loopSet_0 ++ LRX0_loopSet_1
set_option maxRecDepth 100000 in
theorem LBX0_loopSet_eq : cX0_loopSet.data.toList = LRX0_loopSet_0 := by decide +kernel
theorem LBX0_loopSetr_0 (k : Nat) : cX0_loopSet.data.toList[0 + k]? = LRX0_loopSet_0[k]? := by rw [LBX0_loopSet_eq, Nat.zero_add]
theorem LBX0_loopSetr_1 (k : Nat) : cX0_loopSet.data.toList[16 + k]? = LRX0_loopSet_1[k]? := by
  have h := LBX0_loopSetr_0 (16 + k)
  rw [show 0 + (16 + k) = 16 + k by omega] at h
  rw [h]
  exact (List.getElem?_append_right (l₁ := LBX0_loopSet_0) (l₂ := LRX0_loopSet_1) (show 16 ≤ 16 + k by omega)).trans (congrArg (fun i => LRX0_loopSet_1[i]?) (show 16 + k - 16 = k by omega))
theorem LBX0_loopSetr_2 (k : Nat) : cX0_loopSet.data.toList[32 + k]? = LRX0_loopSet_2[k]? := by
  have h := LBX0_loopSetr_1 (16 + k)
  rw [show 16 + (16 + k) = 32 + k by omega] at h
  rw [h]
  exact (List.getElem?_append_right (l₁ := LBX0_loopSet_1) (l₂ := LRX0_loopSet_2) (show 16 ≤ 16 + k by omega)).trans (congrArg (fun i => LRX0_loopSet_2[i]?) (show 16 + k - 16 = k by omega))
theorem LBX0_loopSetr_3 (k : Nat) : cX0_loopSet.data.toList[48 + k]? = LRX0_loopSet_3[k]? := by
  have h := LBX0_loopSetr_2 (16 + k)
  rw [show 32 + (16 + k) = 48 + k by omega] at h
  rw [h]
  exact (List.getElem?_append_right (l₁ := LBX0_loopSet_2) (l₂ := LRX0_loopSet_3) (show 16 ≤ 16 + k by omega)).trans (congrArg (fun i => LRX0_loopSet_3[i]?) (show 16 + k - 16 = k by omega))
theorem dX0_loopSet_0 : decode cX0_loopSet 0 = .ok (.iconst 0, 1) := dk_3_ (show cX0_loopSet.data.toList[0]? = some 0x03 from (LBX0_loopSetr_0 0).trans (by decide +kernel))
theorem dX0_loopSet_1 : decode cX0_loopSet 1 = .ok (.istore_n 1, 1) := dk_60_ (show cX0_loopSet.data.toList[1]? = some 0x3c from (LBX0_loopSetr_0 1).trans (by decide +kernel))
theorem dX0_loopSet_2 : decode cX0_loopSet 2 = .ok (.iconst 0, 1) := dk_3_ (show cX0_loopSet.data.toList[2]? = some 0x03 from (LBX0_loopSetr_0 2).trans (by decide +kernel))
theorem dX0_loopSet_3 : decode cX0_loopSet 3 = .ok (.istore_n 2, 1) := dk_61_ (show cX0_loopSet.data.toList[3]? = some 0x3d from (LBX0_loopSetr_0 3).trans (by decide +kernel))
theorem dX0_loopSet_4 : decode cX0_loopSet 4 = .ok (.iload_n 2, 1) := dk_28_ (show cX0_loopSet.data.toList[4]? = some 0x1c from (LBX0_loopSetr_0 4).trans (by decide +kernel))
theorem dX0_loopSet_5 : decode cX0_loopSet 5 = .ok (.aload_n 0, 1) := dk_42_ (show cX0_loopSet.data.toList[5]? = some 0x2a from (LBX0_loopSetr_0 5).trans (by decide +kernel))
theorem dX0_loopSet_6 : decode cX0_loopSet 6 = .ok (.getfield 9, 3) := dk_180_ (show cX0_loopSet.data.toList[6]? = some 0xb4 from (LBX0_loopSetr_0 6).trans (by decide +kernel)) (show cX0_loopSet.data.toList[7]? = some 0x00 from (LBX0_loopSetr_0 7).trans (by decide +kernel)) (show cX0_loopSet.data.toList[8]? = some 0x09 from (LBX0_loopSetr_0 8).trans (by decide +kernel)) (by decide)
theorem dX0_loopSet_9 : decode cX0_loopSet 9 = .ok (.if_icmp .ge 49, 3) := dk_162_ (show cX0_loopSet.data.toList[9]? = some 0xa2 from (LBX0_loopSetr_0 9).trans (by decide +kernel)) (show cX0_loopSet.data.toList[10]? = some 0x00 from (LBX0_loopSetr_0 10).trans (by decide +kernel)) (show cX0_loopSet.data.toList[11]? = some 0x31 from (LBX0_loopSetr_0 11).trans (by decide +kernel)) (by decide)
theorem dX0_loopSet_12 : decode cX0_loopSet 12 = .ok (.iconst 0, 1) := dk_3_ (show cX0_loopSet.data.toList[12]? = some 0x03 from (LBX0_loopSetr_0 12).trans (by decide +kernel))
theorem dX0_loopSet_13 : decode cX0_loopSet 13 = .ok (.istore_n 3, 1) := dk_62_ (show cX0_loopSet.data.toList[13]? = some 0x3e from (LBX0_loopSetr_0 13).trans (by decide +kernel))
theorem dX0_loopSet_14 : decode cX0_loopSet 14 = .ok (.iload_n 3, 1) := dk_29_ (show cX0_loopSet.data.toList[14]? = some 0x1d from (LBX0_loopSetr_0 14).trans (by decide +kernel))
theorem dX0_loopSet_15 : decode cX0_loopSet 15 = .ok (.aload_n 0, 1) := dk_42_ (show cX0_loopSet.data.toList[15]? = some 0x2a from (LBX0_loopSetr_0 15).trans (by decide +kernel))
theorem dX0_loopSet_16 : decode cX0_loopSet 16 = .ok (.getfield 9, 3) := dk_180_ (show cX0_loopSet.data.toList[16]? = some 0xb4 from (LBX0_loopSetr_1 0).trans (by decide +kernel)) (show cX0_loopSet.data.toList[17]? = some 0x00 from (LBX0_loopSetr_1 1).trans (by decide +kernel)) (show cX0_loopSet.data.toList[18]? = some 0x09 from (LBX0_loopSetr_1 2).trans (by decide +kernel)) (by decide)
theorem dX0_loopSet_19 : decode cX0_loopSet 19 = .ok (.if_icmp .ge 33, 3) := dk_162_ (show cX0_loopSet.data.toList[19]? = some 0xa2 from (LBX0_loopSetr_1 3).trans (by decide +kernel)) (show cX0_loopSet.data.toList[20]? = some 0x00 from (LBX0_loopSetr_1 4).trans (by decide +kernel)) (show cX0_loopSet.data.toList[21]? = some 0x21 from (LBX0_loopSetr_1 5).trans (by decide +kernel)) (by decide)
theorem dX0_loopSet_22 : decode cX0_loopSet 22 = .ok (.aload_n 0, 1) := dk_42_ (show cX0_loopSet.data.toList[22]? = some 0x2a from (LBX0_loopSetr_1 6).trans (by decide +kernel))
theorem dX0_loopSet_23 : decode cX0_loopSet 23 = .ok (.iload_n 3, 1) := dk_29_ (show cX0_loopSet.data.toList[23]? = some 0x1d from (LBX0_loopSetr_1 7).trans (by decide +kernel))
theorem dX0_loopSet_24 : decode cX0_loopSet 24 = .ok (.iload_n 3, 1) := dk_29_ (show cX0_loopSet.data.toList[24]? = some 0x1d from (LBX0_loopSetr_1 8).trans (by decide +kernel))
theorem dX0_loopSet_25 : decode cX0_loopSet 25 = .ok (.invokevirtual 39, 3) := dk_182_ (show cX0_loopSet.data.toList[25]? = some 0xb6 from (LBX0_loopSetr_1 9).trans (by decide +kernel)) (show cX0_loopSet.data.toList[26]? = some 0x00 from (LBX0_loopSetr_1 10).trans (by decide +kernel)) (show cX0_loopSet.data.toList[27]? = some 0x27 from (LBX0_loopSetr_1 11).trans (by decide +kernel)) (by decide)
theorem dX0_loopSet_28 : decode cX0_loopSet 28 = .ok (.ifCond .ge 18, 3) := dk_156_ (show cX0_loopSet.data.toList[28]? = some 0x9c from (LBX0_loopSetr_1 12).trans (by decide +kernel)) (show cX0_loopSet.data.toList[29]? = some 0x00 from (LBX0_loopSetr_1 13).trans (by decide +kernel)) (show cX0_loopSet.data.toList[30]? = some 0x12 from (LBX0_loopSetr_1 14).trans (by decide +kernel)) (by decide)
theorem dX0_loopSet_31 : decode cX0_loopSet 31 = .ok (.aload_n 0, 1) := dk_42_ (show cX0_loopSet.data.toList[31]? = some 0x2a from (LBX0_loopSetr_1 15).trans (by decide +kernel))
theorem dX0_loopSet_32 : decode cX0_loopSet 32 = .ok (.iload_n 2, 1) := dk_28_ (show cX0_loopSet.data.toList[32]? = some 0x1c from (LBX0_loopSetr_2 0).trans (by decide +kernel))
theorem dX0_loopSet_33 : decode cX0_loopSet 33 = .ok (.iload_n 3, 1) := dk_29_ (show cX0_loopSet.data.toList[33]? = some 0x1d from (LBX0_loopSetr_2 1).trans (by decide +kernel))
theorem dX0_loopSet_34 : decode cX0_loopSet 34 = .ok (.invokevirtual 51, 3) := dk_182_ (show cX0_loopSet.data.toList[34]? = some 0xb6 from (LBX0_loopSetr_2 2).trans (by decide +kernel)) (show cX0_loopSet.data.toList[35]? = some 0x00 from (LBX0_loopSetr_2 3).trans (by decide +kernel)) (show cX0_loopSet.data.toList[36]? = some 0x33 from (LBX0_loopSetr_2 4).trans (by decide +kernel)) (by decide)
theorem dX0_loopSet_37 : decode cX0_loopSet 37 = .ok (.ifCond .eq 9, 3) := dk_153_ (show cX0_loopSet.data.toList[37]? = some 0x99 from (LBX0_loopSetr_2 5).trans (by decide +kernel)) (show cX0_loopSet.data.toList[38]? = some 0x00 from (LBX0_loopSetr_2 6).trans (by decide +kernel)) (show cX0_loopSet.data.toList[39]? = some 0x09 from (LBX0_loopSetr_2 7).trans (by decide +kernel)) (by decide)
theorem dX0_loopSet_40 : decode cX0_loopSet 40 = .ok (.iload_n 1, 1) := dk_27_ (show cX0_loopSet.data.toList[40]? = some 0x1b from (LBX0_loopSetr_2 8).trans (by decide +kernel))
theorem dX0_loopSet_41 : decode cX0_loopSet 41 = .ok (.iconst 1, 1) := dk_4_ (show cX0_loopSet.data.toList[41]? = some 0x04 from (LBX0_loopSetr_2 9).trans (by decide +kernel))
theorem dX0_loopSet_42 : decode cX0_loopSet 42 = .ok (.iload_n 2, 1) := dk_28_ (show cX0_loopSet.data.toList[42]? = some 0x1c from (LBX0_loopSetr_2 10).trans (by decide +kernel))
theorem dX0_loopSet_43 : decode cX0_loopSet 43 = .ok (.ishl, 1) := dk_120_ (show cX0_loopSet.data.toList[43]? = some 0x78 from (LBX0_loopSetr_2 11).trans (by decide +kernel))
theorem dX0_loopSet_44 : decode cX0_loopSet 44 = .ok (.ior, 1) := dk_128_ (show cX0_loopSet.data.toList[44]? = some 0x80 from (LBX0_loopSetr_2 12).trans (by decide +kernel))
theorem dX0_loopSet_45 : decode cX0_loopSet 45 = .ok (.istore_n 1, 1) := dk_60_ (show cX0_loopSet.data.toList[45]? = some 0x3c from (LBX0_loopSetr_2 13).trans (by decide +kernel))
theorem dX0_loopSet_46 : decode cX0_loopSet 46 = .ok (.iinc 3 1, 3) := dk_132_ (show cX0_loopSet.data.toList[46]? = some 0x84 from (LBX0_loopSetr_2 14).trans (by decide +kernel)) (show cX0_loopSet.data.toList[47]? = some 0x03 from (LBX0_loopSetr_2 15).trans (by decide +kernel)) (show cX0_loopSet.data.toList[48]? = some 0x01 from (LBX0_loopSetr_3 0).trans (by decide +kernel)) (by decide) (by decide)
theorem dX0_loopSet_49 : decode cX0_loopSet 49 = .ok (.goto (-35), 3) := dk_167_ (show cX0_loopSet.data.toList[49]? = some 0xa7 from (LBX0_loopSetr_3 1).trans (by decide +kernel)) (show cX0_loopSet.data.toList[50]? = some 0xff from (LBX0_loopSetr_3 2).trans (by decide +kernel)) (show cX0_loopSet.data.toList[51]? = some 0xdd from (LBX0_loopSetr_3 3).trans (by decide +kernel)) (by decide)
theorem dX0_loopSet_52 : decode cX0_loopSet 52 = .ok (.iinc 2 1, 3) := dk_132_ (show cX0_loopSet.data.toList[52]? = some 0x84 from (LBX0_loopSetr_3 4).trans (by decide +kernel)) (show cX0_loopSet.data.toList[53]? = some 0x02 from (LBX0_loopSetr_3 5).trans (by decide +kernel)) (show cX0_loopSet.data.toList[54]? = some 0x01 from (LBX0_loopSetr_3 6).trans (by decide +kernel)) (by decide) (by decide)
theorem dX0_loopSet_55 : decode cX0_loopSet 55 = .ok (.goto (-51), 3) := dk_167_ (show cX0_loopSet.data.toList[55]? = some 0xa7 from (LBX0_loopSetr_3 7).trans (by decide +kernel)) (show cX0_loopSet.data.toList[56]? = some 0xff from (LBX0_loopSetr_3 8).trans (by decide +kernel)) (show cX0_loopSet.data.toList[57]? = some 0xcd from (LBX0_loopSetr_3 9).trans (by decide +kernel)) (by decide)
theorem dX0_loopSet_58 : decode cX0_loopSet 58 = .ok (.iload_n 1, 1) := dk_27_ (show cX0_loopSet.data.toList[58]? = some 0x1b from (LBX0_loopSetr_3 10).trans (by decide +kernel))
theorem dX0_loopSet_59 : decode cX0_loopSet 59 = .ok (.ireturn, 1) := dk_172_ (show cX0_loopSet.data.toList[59]? = some 0xac from (LBX0_loopSetr_3 11).trans (by decide +kernel))
def LRX0_farOf_2 : List UInt8 := []
def LBX0_farOf_1 : List UInt8 := [0x00, 0x09, 0x1d, 0x10, 0x64, 0xb8, 0x00, 0x36, 0xac]
def LRX0_farOf_1 : List UInt8 := LBX0_farOf_1 ++ LRX0_farOf_2
def LBX0_farOf_0 : List UInt8 := [0x2a, 0x1b, 0x1c, 0xb6, 0x00, 0x27, 0x3e, 0x1d, 0x12, 0x26, 0xa0, 0x00, 0x08, 0x12, 0x26, 0xa7]
def LRX0_farOf_0 : List UInt8 := LBX0_farOf_0 ++ LRX0_farOf_1
set_option maxRecDepth 100000 in
theorem LBX0_farOf_eq : cX0_farOf.data.toList = LRX0_farOf_0 := by decide +kernel
theorem LBX0_farOfr_0 (k : Nat) : cX0_farOf.data.toList[0 + k]? = LRX0_farOf_0[k]? := by rw [LBX0_farOf_eq, Nat.zero_add]
theorem LBX0_farOfr_1 (k : Nat) : cX0_farOf.data.toList[16 + k]? = LRX0_farOf_1[k]? := by
  have h := LBX0_farOfr_0 (16 + k)
  rw [show 0 + (16 + k) = 16 + k by omega] at h
  rw [h]
  exact (List.getElem?_append_right (l₁ := LBX0_farOf_0) (l₂ := LRX0_farOf_1) (show 16 ≤ 16 + k by omega)).trans (congrArg (fun i => LRX0_farOf_1[i]?) (show 16 + k - 16 = k by omega))
theorem dX0_farOf_0 : decode cX0_farOf 0 = .ok (.aload_n 0, 1) := dk_42_ (show cX0_farOf.data.toList[0]? = some 0x2a from (LBX0_farOfr_0 0).trans (by decide +kernel))
theorem dX0_farOf_1 : decode cX0_farOf 1 = .ok (.iload_n 1, 1) := dk_27_ (show cX0_farOf.data.toList[1]? = some 0x1b from (LBX0_farOfr_0 1).trans (by decide +kernel))
theorem dX0_farOf_2 : decode cX0_farOf 2 = .ok (.iload_n 2, 1) := dk_28_ (show cX0_farOf.data.toList[2]? = some 0x1c from (LBX0_farOfr_0 2).trans (by decide +kernel))
theorem dX0_farOf_3 : decode cX0_farOf 3 = .ok (.invokevirtual 39, 3) := dk_182_ (show cX0_farOf.data.toList[3]? = some 0xb6 from (LBX0_farOfr_0 3).trans (by decide +kernel)) (show cX0_farOf.data.toList[4]? = some 0x00 from (LBX0_farOfr_0 4).trans (by decide +kernel)) (show cX0_farOf.data.toList[5]? = some 0x27 from (LBX0_farOfr_0 5).trans (by decide +kernel)) (by decide)
theorem dX0_farOf_6 : decode cX0_farOf 6 = .ok (.istore_n 3, 1) := dk_62_ (show cX0_farOf.data.toList[6]? = some 0x3e from (LBX0_farOfr_0 6).trans (by decide +kernel))
theorem dX0_farOf_7 : decode cX0_farOf 7 = .ok (.iload_n 3, 1) := dk_29_ (show cX0_farOf.data.toList[7]? = some 0x1d from (LBX0_farOfr_0 7).trans (by decide +kernel))
theorem dX0_farOf_8 : decode cX0_farOf 8 = .ok (.ldc 38, 2) := dk_18_ (show cX0_farOf.data.toList[8]? = some 0x12 from (LBX0_farOfr_0 8).trans (by decide +kernel)) (show cX0_farOf.data.toList[9]? = some 0x26 from (LBX0_farOfr_0 9).trans (by decide +kernel)) (by decide)
theorem dX0_farOf_10 : decode cX0_farOf 10 = .ok (.if_icmp .ne 8, 3) := dk_160_ (show cX0_farOf.data.toList[10]? = some 0xa0 from (LBX0_farOfr_0 10).trans (by decide +kernel)) (show cX0_farOf.data.toList[11]? = some 0x00 from (LBX0_farOfr_0 11).trans (by decide +kernel)) (show cX0_farOf.data.toList[12]? = some 0x08 from (LBX0_farOfr_0 12).trans (by decide +kernel)) (by decide)
theorem dX0_farOf_13 : decode cX0_farOf 13 = .ok (.ldc 38, 2) := dk_18_ (show cX0_farOf.data.toList[13]? = some 0x12 from (LBX0_farOfr_0 13).trans (by decide +kernel)) (show cX0_farOf.data.toList[14]? = some 0x26 from (LBX0_farOfr_0 14).trans (by decide +kernel)) (by decide)
theorem dX0_farOf_15 : decode cX0_farOf 15 = .ok (.goto 9, 3) := dk_167_ (show cX0_farOf.data.toList[15]? = some 0xa7 from (LBX0_farOfr_0 15).trans (by decide +kernel)) (show cX0_farOf.data.toList[16]? = some 0x00 from (LBX0_farOfr_1 0).trans (by decide +kernel)) (show cX0_farOf.data.toList[17]? = some 0x09 from (LBX0_farOfr_1 1).trans (by decide +kernel)) (by decide)
theorem dX0_farOf_18 : decode cX0_farOf 18 = .ok (.iload_n 3, 1) := dk_29_ (show cX0_farOf.data.toList[18]? = some 0x1d from (LBX0_farOfr_1 2).trans (by decide +kernel))
theorem dX0_farOf_19 : decode cX0_farOf 19 = .ok (.bipush 100, 2) := dk_16_ (show cX0_farOf.data.toList[19]? = some 0x10 from (LBX0_farOfr_1 3).trans (by decide +kernel)) (show cX0_farOf.data.toList[20]? = some 0x64 from (LBX0_farOfr_1 4).trans (by decide +kernel)) (by decide)
theorem dX0_farOf_21 : decode cX0_farOf 21 = .ok (.invokestatic 54, 3) := dk_184_ (show cX0_farOf.data.toList[21]? = some 0xb8 from (LBX0_farOfr_1 5).trans (by decide +kernel)) (show cX0_farOf.data.toList[22]? = some 0x00 from (LBX0_farOfr_1 6).trans (by decide +kernel)) (show cX0_farOf.data.toList[23]? = some 0x36 from (LBX0_farOfr_1 7).trans (by decide +kernel)) (by decide)
theorem dX0_farOf_24 : decode cX0_farOf 24 = .ok (.ireturn, 1) := dk_172_ (show cX0_farOf.data.toList[24]? = some 0xac from (LBX0_farOfr_1 8).trans (by decide +kernel))
def LRX0_waysOf_2 : List UInt8 := []
def LBX0_waysOf_1 : List UInt8 := [0x09, 0x1d, 0x10, 0x64, 0xb8, 0x00, 0x39, 0xac]
def LRX0_waysOf_1 : List UInt8 := LBX0_waysOf_1 ++ LRX0_waysOf_2
def LBX0_waysOf_0 : List UInt8 := [0x2a, 0x1b, 0x1c, 0xb6, 0x00, 0x27, 0x3e, 0x1d, 0x12, 0x26, 0xa0, 0x00, 0x07, 0x02, 0xa7, 0x00]
def LRX0_waysOf_0 : List UInt8 := LBX0_waysOf_0 ++ LRX0_waysOf_1
set_option maxRecDepth 100000 in
theorem LBX0_waysOf_eq : cX0_waysOf.data.toList = LRX0_waysOf_0 := by decide +kernel
theorem LBX0_waysOfr_0 (k : Nat) : cX0_waysOf.data.toList[0 + k]? = LRX0_waysOf_0[k]? := by rw [LBX0_waysOf_eq, Nat.zero_add]
theorem LBX0_waysOfr_1 (k : Nat) : cX0_waysOf.data.toList[16 + k]? = LRX0_waysOf_1[k]? := by
  have h := LBX0_waysOfr_0 (16 + k)
  rw [show 0 + (16 + k) = 16 + k by omega] at h
  rw [h]
  exact (List.getElem?_append_right (l₁ := LBX0_waysOf_0) (l₂ := LRX0_waysOf_1) (show 16 ≤ 16 + k by omega)).trans (congrArg (fun i => LRX0_waysOf_1[i]?) (show 16 + k - 16 = k by omega))
theorem dX0_waysOf_0 : decode cX0_waysOf 0 = .ok (.aload_n 0, 1) := dk_42_ (show cX0_waysOf.data.toList[0]? = some 0x2a from (LBX0_waysOfr_0 0).trans (by decide +kernel))
theorem dX0_waysOf_1 : decode cX0_waysOf 1 = .ok (.iload_n 1, 1) := dk_27_ (show cX0_waysOf.data.toList[1]? = some 0x1b from (LBX0_waysOfr_0 1).trans (by decide +kernel))
theorem dX0_waysOf_2 : decode cX0_waysOf 2 = .ok (.iload_n 2, 1) := dk_28_ (show cX0_waysOf.data.toList[2]? = some 0x1c from (LBX0_waysOfr_0 2).trans (by decide +kernel))
theorem dX0_waysOf_3 : decode cX0_waysOf 3 = .ok (.invokevirtual 39, 3) := dk_182_ (show cX0_waysOf.data.toList[3]? = some 0xb6 from (LBX0_waysOfr_0 3).trans (by decide +kernel)) (show cX0_waysOf.data.toList[4]? = some 0x00 from (LBX0_waysOfr_0 4).trans (by decide +kernel)) (show cX0_waysOf.data.toList[5]? = some 0x27 from (LBX0_waysOfr_0 5).trans (by decide +kernel)) (by decide)
theorem dX0_waysOf_6 : decode cX0_waysOf 6 = .ok (.istore_n 3, 1) := dk_62_ (show cX0_waysOf.data.toList[6]? = some 0x3e from (LBX0_waysOfr_0 6).trans (by decide +kernel))
theorem dX0_waysOf_7 : decode cX0_waysOf 7 = .ok (.iload_n 3, 1) := dk_29_ (show cX0_waysOf.data.toList[7]? = some 0x1d from (LBX0_waysOfr_0 7).trans (by decide +kernel))
theorem dX0_waysOf_8 : decode cX0_waysOf 8 = .ok (.ldc 38, 2) := dk_18_ (show cX0_waysOf.data.toList[8]? = some 0x12 from (LBX0_waysOfr_0 8).trans (by decide +kernel)) (show cX0_waysOf.data.toList[9]? = some 0x26 from (LBX0_waysOfr_0 9).trans (by decide +kernel)) (by decide)
theorem dX0_waysOf_10 : decode cX0_waysOf 10 = .ok (.if_icmp .ne 7, 3) := dk_160_ (show cX0_waysOf.data.toList[10]? = some 0xa0 from (LBX0_waysOfr_0 10).trans (by decide +kernel)) (show cX0_waysOf.data.toList[11]? = some 0x00 from (LBX0_waysOfr_0 11).trans (by decide +kernel)) (show cX0_waysOf.data.toList[12]? = some 0x07 from (LBX0_waysOfr_0 12).trans (by decide +kernel)) (by decide)
theorem dX0_waysOf_13 : decode cX0_waysOf 13 = .ok (.iconst (-1), 1) := dk_2_ (show cX0_waysOf.data.toList[13]? = some 0x02 from (LBX0_waysOfr_0 13).trans (by decide +kernel))
theorem dX0_waysOf_14 : decode cX0_waysOf 14 = .ok (.goto 9, 3) := dk_167_ (show cX0_waysOf.data.toList[14]? = some 0xa7 from (LBX0_waysOfr_0 14).trans (by decide +kernel)) (show cX0_waysOf.data.toList[15]? = some 0x00 from (LBX0_waysOfr_0 15).trans (by decide +kernel)) (show cX0_waysOf.data.toList[16]? = some 0x09 from (LBX0_waysOfr_1 0).trans (by decide +kernel)) (by decide)
theorem dX0_waysOf_17 : decode cX0_waysOf 17 = .ok (.iload_n 3, 1) := dk_29_ (show cX0_waysOf.data.toList[17]? = some 0x1d from (LBX0_waysOfr_1 1).trans (by decide +kernel))
theorem dX0_waysOf_18 : decode cX0_waysOf 18 = .ok (.bipush 100, 2) := dk_16_ (show cX0_waysOf.data.toList[18]? = some 0x10 from (LBX0_waysOfr_1 2).trans (by decide +kernel)) (show cX0_waysOf.data.toList[19]? = some 0x64 from (LBX0_waysOfr_1 3).trans (by decide +kernel)) (by decide)
theorem dX0_waysOf_20 : decode cX0_waysOf 20 = .ok (.invokestatic 57, 3) := dk_184_ (show cX0_waysOf.data.toList[20]? = some 0xb8 from (LBX0_waysOfr_1 4).trans (by decide +kernel)) (show cX0_waysOf.data.toList[21]? = some 0x00 from (LBX0_waysOfr_1 5).trans (by decide +kernel)) (show cX0_waysOf.data.toList[22]? = some 0x39 from (LBX0_waysOfr_1 6).trans (by decide +kernel)) (by decide)
theorem dX0_waysOf_23 : decode cX0_waysOf 23 = .ok (.ireturn, 1) := dk_172_ (show cX0_waysOf.data.toList[23]? = some 0xac from (LBX0_waysOfr_1 7).trans (by decide +kernel))
def LRX0_nextStop_4 : List UInt8 := []
def LBX0_nextStop_3 : List UInt8 := [0x04, 0x01, 0xa7, 0xff, 0xd1, 0x1d, 0xac]
def LRX0_nextStop_3 : List UInt8 := LBX0_nextStop_3 ++ LRX0_nextStop_4
def LBX0_nextStop_2 : List UInt8 := [0xb8, 0x00, 0x2a, 0x2a, 0x1c, 0x1d, 0xb6, 0x00, 0x27, 0xa0, 0x00, 0x06, 0x15, 0x04, 0xac, 0x84]
def LRX0_nextStop_2 : List UInt8 := LBX0_nextStop_2 ++ LRX0_nextStop_3
def LBX0_nextStop_1 : List UInt8 := [0x00, 0x20, 0x2b, 0x1c, 0x15, 0x04, 0xb8, 0x00, 0x16, 0x2a, 0x15, 0x04, 0x1d, 0xb6, 0x00, 0x27]
def LRX0_nextStop_1 : List UInt8 := LBX0_nextStop_1 ++ LRX0_nextStop_2
def LBX0_nextStop_0 : List UInt8 := [0x03, 0x36, 0x04, 0x15, 0x04, 0x2a, 0xb4, 0x00, 0x09, 0xa2, 0x00, 0x2c, 0x15, 0x04, 0x1c, 0x9f]
def LRX0_nextStop_0 : List UInt8 := LBX0_nextStop_0 ++ LRX0_nextStop_1
set_option maxRecDepth 100000 in
theorem LBX0_nextStop_eq : cX0_nextStop.data.toList = LRX0_nextStop_0 := by decide +kernel
theorem LBX0_nextStopr_0 (k : Nat) : cX0_nextStop.data.toList[0 + k]? = LRX0_nextStop_0[k]? := by rw [LBX0_nextStop_eq, Nat.zero_add]
theorem LBX0_nextStopr_1 (k : Nat) : cX0_nextStop.data.toList[16 + k]? = LRX0_nextStop_1[k]? := by
  have h := LBX0_nextStopr_0 (16 + k)
  rw [show 0 + (16 + k) = 16 + k by omega] at h
  rw [h]
  exact (List.getElem?_append_right (l₁ := LBX0_nextStop_0) (l₂ := LRX0_nextStop_1) (show 16 ≤ 16 + k by omega)).trans (congrArg (fun i => LRX0_nextStop_1[i]?) (show 16 + k - 16 = k by omega))
theorem LBX0_nextStopr_2 (k : Nat) : cX0_nextStop.data.toList[32 + k]? = LRX0_nextStop_2[k]? := by
  have h := LBX0_nextStopr_1 (16 + k)
  rw [show 16 + (16 + k) = 32 + k by omega] at h
  rw [h]
  exact (List.getElem?_append_right (l₁ := LBX0_nextStop_1) (l₂ := LRX0_nextStop_2) (show 16 ≤ 16 + k by omega)).trans (congrArg (fun i => LRX0_nextStop_2[i]?) (show 16 + k - 16 = k by omega))
theorem LBX0_nextStopr_3 (k : Nat) : cX0_nextStop.data.toList[48 + k]? = LRX0_nextStop_3[k]? := by
  have h := LBX0_nextStopr_2 (16 + k)
  rw [show 32 + (16 + k) = 48 + k by omega] at h
  rw [h]
  exact (List.getElem?_append_right (l₁ := LBX0_nextStop_2) (l₂ := LRX0_nextStop_3) (show 16 ≤ 16 + k by omega)).trans (congrArg (fun i => LRX0_nextStop_3[i]?) (show 16 + k - 16 = k by omega))
theorem dX0_nextStop_0 : decode cX0_nextStop 0 = .ok (.iconst 0, 1) := dk_3_ (show cX0_nextStop.data.toList[0]? = some 0x03 from (LBX0_nextStopr_0 0).trans (by decide +kernel))
theorem dX0_nextStop_1 : decode cX0_nextStop 1 = .ok (.istore 4, 2) := dk_54_ (show cX0_nextStop.data.toList[1]? = some 0x36 from (LBX0_nextStopr_0 1).trans (by decide +kernel)) (show cX0_nextStop.data.toList[2]? = some 0x04 from (LBX0_nextStopr_0 2).trans (by decide +kernel)) (by decide)
theorem dX0_nextStop_3 : decode cX0_nextStop 3 = .ok (.iload 4, 2) := dk_21_ (show cX0_nextStop.data.toList[3]? = some 0x15 from (LBX0_nextStopr_0 3).trans (by decide +kernel)) (show cX0_nextStop.data.toList[4]? = some 0x04 from (LBX0_nextStopr_0 4).trans (by decide +kernel)) (by decide)
theorem dX0_nextStop_5 : decode cX0_nextStop 5 = .ok (.aload_n 0, 1) := dk_42_ (show cX0_nextStop.data.toList[5]? = some 0x2a from (LBX0_nextStopr_0 5).trans (by decide +kernel))
theorem dX0_nextStop_6 : decode cX0_nextStop 6 = .ok (.getfield 9, 3) := dk_180_ (show cX0_nextStop.data.toList[6]? = some 0xb4 from (LBX0_nextStopr_0 6).trans (by decide +kernel)) (show cX0_nextStop.data.toList[7]? = some 0x00 from (LBX0_nextStopr_0 7).trans (by decide +kernel)) (show cX0_nextStop.data.toList[8]? = some 0x09 from (LBX0_nextStopr_0 8).trans (by decide +kernel)) (by decide)
theorem dX0_nextStop_9 : decode cX0_nextStop 9 = .ok (.if_icmp .ge 44, 3) := dk_162_ (show cX0_nextStop.data.toList[9]? = some 0xa2 from (LBX0_nextStopr_0 9).trans (by decide +kernel)) (show cX0_nextStop.data.toList[10]? = some 0x00 from (LBX0_nextStopr_0 10).trans (by decide +kernel)) (show cX0_nextStop.data.toList[11]? = some 0x2c from (LBX0_nextStopr_0 11).trans (by decide +kernel)) (by decide)
theorem dX0_nextStop_12 : decode cX0_nextStop 12 = .ok (.iload 4, 2) := dk_21_ (show cX0_nextStop.data.toList[12]? = some 0x15 from (LBX0_nextStopr_0 12).trans (by decide +kernel)) (show cX0_nextStop.data.toList[13]? = some 0x04 from (LBX0_nextStopr_0 13).trans (by decide +kernel)) (by decide)
theorem dX0_nextStop_14 : decode cX0_nextStop 14 = .ok (.iload_n 2, 1) := dk_28_ (show cX0_nextStop.data.toList[14]? = some 0x1c from (LBX0_nextStopr_0 14).trans (by decide +kernel))
theorem dX0_nextStop_15 : decode cX0_nextStop 15 = .ok (.if_icmp .eq 32, 3) := dk_159_ (show cX0_nextStop.data.toList[15]? = some 0x9f from (LBX0_nextStopr_0 15).trans (by decide +kernel)) (show cX0_nextStop.data.toList[16]? = some 0x00 from (LBX0_nextStopr_1 0).trans (by decide +kernel)) (show cX0_nextStop.data.toList[17]? = some 0x20 from (LBX0_nextStopr_1 1).trans (by decide +kernel)) (by decide)
theorem dX0_nextStop_18 : decode cX0_nextStop 18 = .ok (.aload_n 1, 1) := dk_43_ (show cX0_nextStop.data.toList[18]? = some 0x2b from (LBX0_nextStopr_1 2).trans (by decide +kernel))
theorem dX0_nextStop_19 : decode cX0_nextStop 19 = .ok (.iload_n 2, 1) := dk_28_ (show cX0_nextStop.data.toList[19]? = some 0x1c from (LBX0_nextStopr_1 3).trans (by decide +kernel))
theorem dX0_nextStop_20 : decode cX0_nextStop 20 = .ok (.iload 4, 2) := dk_21_ (show cX0_nextStop.data.toList[20]? = some 0x15 from (LBX0_nextStopr_1 4).trans (by decide +kernel)) (show cX0_nextStop.data.toList[21]? = some 0x04 from (LBX0_nextStopr_1 5).trans (by decide +kernel)) (by decide)
theorem dX0_nextStop_22 : decode cX0_nextStop 22 = .ok (.invokestatic 22, 3) := dk_184_ (show cX0_nextStop.data.toList[22]? = some 0xb8 from (LBX0_nextStopr_1 6).trans (by decide +kernel)) (show cX0_nextStop.data.toList[23]? = some 0x00 from (LBX0_nextStopr_1 7).trans (by decide +kernel)) (show cX0_nextStop.data.toList[24]? = some 0x16 from (LBX0_nextStopr_1 8).trans (by decide +kernel)) (by decide)
theorem dX0_nextStop_25 : decode cX0_nextStop 25 = .ok (.aload_n 0, 1) := dk_42_ (show cX0_nextStop.data.toList[25]? = some 0x2a from (LBX0_nextStopr_1 9).trans (by decide +kernel))
theorem dX0_nextStop_26 : decode cX0_nextStop 26 = .ok (.iload 4, 2) := dk_21_ (show cX0_nextStop.data.toList[26]? = some 0x15 from (LBX0_nextStopr_1 10).trans (by decide +kernel)) (show cX0_nextStop.data.toList[27]? = some 0x04 from (LBX0_nextStopr_1 11).trans (by decide +kernel)) (by decide)
theorem dX0_nextStop_28 : decode cX0_nextStop 28 = .ok (.iload_n 3, 1) := dk_29_ (show cX0_nextStop.data.toList[28]? = some 0x1d from (LBX0_nextStopr_1 12).trans (by decide +kernel))
theorem dX0_nextStop_29 : decode cX0_nextStop 29 = .ok (.invokevirtual 39, 3) := dk_182_ (show cX0_nextStop.data.toList[29]? = some 0xb6 from (LBX0_nextStopr_1 13).trans (by decide +kernel)) (show cX0_nextStop.data.toList[30]? = some 0x00 from (LBX0_nextStopr_1 14).trans (by decide +kernel)) (show cX0_nextStop.data.toList[31]? = some 0x27 from (LBX0_nextStopr_1 15).trans (by decide +kernel)) (by decide)
theorem dX0_nextStop_32 : decode cX0_nextStop 32 = .ok (.invokestatic 42, 3) := dk_184_ (show cX0_nextStop.data.toList[32]? = some 0xb8 from (LBX0_nextStopr_2 0).trans (by decide +kernel)) (show cX0_nextStop.data.toList[33]? = some 0x00 from (LBX0_nextStopr_2 1).trans (by decide +kernel)) (show cX0_nextStop.data.toList[34]? = some 0x2a from (LBX0_nextStopr_2 2).trans (by decide +kernel)) (by decide)
theorem dX0_nextStop_35 : decode cX0_nextStop 35 = .ok (.aload_n 0, 1) := dk_42_ (show cX0_nextStop.data.toList[35]? = some 0x2a from (LBX0_nextStopr_2 3).trans (by decide +kernel))
theorem dX0_nextStop_36 : decode cX0_nextStop 36 = .ok (.iload_n 2, 1) := dk_28_ (show cX0_nextStop.data.toList[36]? = some 0x1c from (LBX0_nextStopr_2 4).trans (by decide +kernel))
theorem dX0_nextStop_37 : decode cX0_nextStop 37 = .ok (.iload_n 3, 1) := dk_29_ (show cX0_nextStop.data.toList[37]? = some 0x1d from (LBX0_nextStopr_2 5).trans (by decide +kernel))
theorem dX0_nextStop_38 : decode cX0_nextStop 38 = .ok (.invokevirtual 39, 3) := dk_182_ (show cX0_nextStop.data.toList[38]? = some 0xb6 from (LBX0_nextStopr_2 6).trans (by decide +kernel)) (show cX0_nextStop.data.toList[39]? = some 0x00 from (LBX0_nextStopr_2 7).trans (by decide +kernel)) (show cX0_nextStop.data.toList[40]? = some 0x27 from (LBX0_nextStopr_2 8).trans (by decide +kernel)) (by decide)
theorem dX0_nextStop_41 : decode cX0_nextStop 41 = .ok (.if_icmp .ne 6, 3) := dk_160_ (show cX0_nextStop.data.toList[41]? = some 0xa0 from (LBX0_nextStopr_2 9).trans (by decide +kernel)) (show cX0_nextStop.data.toList[42]? = some 0x00 from (LBX0_nextStopr_2 10).trans (by decide +kernel)) (show cX0_nextStop.data.toList[43]? = some 0x06 from (LBX0_nextStopr_2 11).trans (by decide +kernel)) (by decide)
theorem dX0_nextStop_44 : decode cX0_nextStop 44 = .ok (.iload 4, 2) := dk_21_ (show cX0_nextStop.data.toList[44]? = some 0x15 from (LBX0_nextStopr_2 12).trans (by decide +kernel)) (show cX0_nextStop.data.toList[45]? = some 0x04 from (LBX0_nextStopr_2 13).trans (by decide +kernel)) (by decide)
theorem dX0_nextStop_46 : decode cX0_nextStop 46 = .ok (.ireturn, 1) := dk_172_ (show cX0_nextStop.data.toList[46]? = some 0xac from (LBX0_nextStopr_2 14).trans (by decide +kernel))
theorem dX0_nextStop_47 : decode cX0_nextStop 47 = .ok (.iinc 4 1, 3) := dk_132_ (show cX0_nextStop.data.toList[47]? = some 0x84 from (LBX0_nextStopr_2 15).trans (by decide +kernel)) (show cX0_nextStop.data.toList[48]? = some 0x04 from (LBX0_nextStopr_3 0).trans (by decide +kernel)) (show cX0_nextStop.data.toList[49]? = some 0x01 from (LBX0_nextStopr_3 1).trans (by decide +kernel)) (by decide) (by decide)
theorem dX0_nextStop_50 : decode cX0_nextStop 50 = .ok (.goto (-47), 3) := dk_167_ (show cX0_nextStop.data.toList[50]? = some 0xa7 from (LBX0_nextStopr_3 2).trans (by decide +kernel)) (show cX0_nextStop.data.toList[51]? = some 0xff from (LBX0_nextStopr_3 3).trans (by decide +kernel)) (show cX0_nextStop.data.toList[52]? = some 0xd1 from (LBX0_nextStopr_3 4).trans (by decide +kernel)) (by decide)
theorem dX0_nextStop_53 : decode cX0_nextStop 53 = .ok (.iload_n 3, 1) := dk_29_ (show cX0_nextStop.data.toList[53]? = some 0x1d from (LBX0_nextStopr_3 5).trans (by decide +kernel))
theorem dX0_nextStop_54 : decode cX0_nextStop 54 = .ok (.ireturn, 1) := dk_172_ (show cX0_nextStop.data.toList[54]? = some 0xac from (LBX0_nextStopr_3 6).trans (by decide +kernel))
def LRX0_stopOf_2 : List UInt8 := []
def LBX0_stopOf_1 : List UInt8 := [0x05, 0x1d, 0xb6, 0x00, 0x3c, 0x36, 0x05, 0x84, 0x06, 0x01, 0xa7, 0xff, 0xec, 0x15, 0x05, 0xac]
def LRX0_stopOf_1 : List UInt8 := LBX0_stopOf_1 ++ LRX0_stopOf_2
def LBX0_stopOf_0 : List UInt8 := [0x1c, 0x36, 0x05, 0x03, 0x36, 0x06, 0x15, 0x06, 0x15, 0x04, 0xa2, 0x00, 0x13, 0x2a, 0x2b, 0x15]
def LRX0_stopOf_0 : List UInt8 := LBX0_stopOf_0 ++ LRX0_stopOf_1
set_option maxRecDepth 100000 in
theorem LBX0_stopOf_eq : cX0_stopOf.data.toList = LRX0_stopOf_0 := by decide +kernel
theorem LBX0_stopOfr_0 (k : Nat) : cX0_stopOf.data.toList[0 + k]? = LRX0_stopOf_0[k]? := by rw [LBX0_stopOf_eq, Nat.zero_add]
theorem LBX0_stopOfr_1 (k : Nat) : cX0_stopOf.data.toList[16 + k]? = LRX0_stopOf_1[k]? := by
  have h := LBX0_stopOfr_0 (16 + k)
  rw [show 0 + (16 + k) = 16 + k by omega] at h
  rw [h]
  exact (List.getElem?_append_right (l₁ := LBX0_stopOf_0) (l₂ := LRX0_stopOf_1) (show 16 ≤ 16 + k by omega)).trans (congrArg (fun i => LRX0_stopOf_1[i]?) (show 16 + k - 16 = k by omega))
theorem dX0_stopOf_0 : decode cX0_stopOf 0 = .ok (.iload_n 2, 1) := dk_28_ (show cX0_stopOf.data.toList[0]? = some 0x1c from (LBX0_stopOfr_0 0).trans (by decide +kernel))
theorem dX0_stopOf_1 : decode cX0_stopOf 1 = .ok (.istore 5, 2) := dk_54_ (show cX0_stopOf.data.toList[1]? = some 0x36 from (LBX0_stopOfr_0 1).trans (by decide +kernel)) (show cX0_stopOf.data.toList[2]? = some 0x05 from (LBX0_stopOfr_0 2).trans (by decide +kernel)) (by decide)
theorem dX0_stopOf_3 : decode cX0_stopOf 3 = .ok (.iconst 0, 1) := dk_3_ (show cX0_stopOf.data.toList[3]? = some 0x03 from (LBX0_stopOfr_0 3).trans (by decide +kernel))
theorem dX0_stopOf_4 : decode cX0_stopOf 4 = .ok (.istore 6, 2) := dk_54_ (show cX0_stopOf.data.toList[4]? = some 0x36 from (LBX0_stopOfr_0 4).trans (by decide +kernel)) (show cX0_stopOf.data.toList[5]? = some 0x06 from (LBX0_stopOfr_0 5).trans (by decide +kernel)) (by decide)
theorem dX0_stopOf_6 : decode cX0_stopOf 6 = .ok (.iload 6, 2) := dk_21_ (show cX0_stopOf.data.toList[6]? = some 0x15 from (LBX0_stopOfr_0 6).trans (by decide +kernel)) (show cX0_stopOf.data.toList[7]? = some 0x06 from (LBX0_stopOfr_0 7).trans (by decide +kernel)) (by decide)
theorem dX0_stopOf_8 : decode cX0_stopOf 8 = .ok (.iload 4, 2) := dk_21_ (show cX0_stopOf.data.toList[8]? = some 0x15 from (LBX0_stopOfr_0 8).trans (by decide +kernel)) (show cX0_stopOf.data.toList[9]? = some 0x04 from (LBX0_stopOfr_0 9).trans (by decide +kernel)) (by decide)
theorem dX0_stopOf_10 : decode cX0_stopOf 10 = .ok (.if_icmp .ge 19, 3) := dk_162_ (show cX0_stopOf.data.toList[10]? = some 0xa2 from (LBX0_stopOfr_0 10).trans (by decide +kernel)) (show cX0_stopOf.data.toList[11]? = some 0x00 from (LBX0_stopOfr_0 11).trans (by decide +kernel)) (show cX0_stopOf.data.toList[12]? = some 0x13 from (LBX0_stopOfr_0 12).trans (by decide +kernel)) (by decide)
theorem dX0_stopOf_13 : decode cX0_stopOf 13 = .ok (.aload_n 0, 1) := dk_42_ (show cX0_stopOf.data.toList[13]? = some 0x2a from (LBX0_stopOfr_0 13).trans (by decide +kernel))
theorem dX0_stopOf_14 : decode cX0_stopOf 14 = .ok (.aload_n 1, 1) := dk_43_ (show cX0_stopOf.data.toList[14]? = some 0x2b from (LBX0_stopOfr_0 14).trans (by decide +kernel))
theorem dX0_stopOf_15 : decode cX0_stopOf 15 = .ok (.iload 5, 2) := dk_21_ (show cX0_stopOf.data.toList[15]? = some 0x15 from (LBX0_stopOfr_0 15).trans (by decide +kernel)) (show cX0_stopOf.data.toList[16]? = some 0x05 from (LBX0_stopOfr_1 0).trans (by decide +kernel)) (by decide)
theorem dX0_stopOf_17 : decode cX0_stopOf 17 = .ok (.iload_n 3, 1) := dk_29_ (show cX0_stopOf.data.toList[17]? = some 0x1d from (LBX0_stopOfr_1 1).trans (by decide +kernel))
theorem dX0_stopOf_18 : decode cX0_stopOf 18 = .ok (.invokevirtual 60, 3) := dk_182_ (show cX0_stopOf.data.toList[18]? = some 0xb6 from (LBX0_stopOfr_1 2).trans (by decide +kernel)) (show cX0_stopOf.data.toList[19]? = some 0x00 from (LBX0_stopOfr_1 3).trans (by decide +kernel)) (show cX0_stopOf.data.toList[20]? = some 0x3c from (LBX0_stopOfr_1 4).trans (by decide +kernel)) (by decide)
theorem dX0_stopOf_21 : decode cX0_stopOf 21 = .ok (.istore 5, 2) := dk_54_ (show cX0_stopOf.data.toList[21]? = some 0x36 from (LBX0_stopOfr_1 5).trans (by decide +kernel)) (show cX0_stopOf.data.toList[22]? = some 0x05 from (LBX0_stopOfr_1 6).trans (by decide +kernel)) (by decide)
theorem dX0_stopOf_23 : decode cX0_stopOf 23 = .ok (.iinc 6 1, 3) := dk_132_ (show cX0_stopOf.data.toList[23]? = some 0x84 from (LBX0_stopOfr_1 7).trans (by decide +kernel)) (show cX0_stopOf.data.toList[24]? = some 0x06 from (LBX0_stopOfr_1 8).trans (by decide +kernel)) (show cX0_stopOf.data.toList[25]? = some 0x01 from (LBX0_stopOfr_1 9).trans (by decide +kernel)) (by decide) (by decide)
theorem dX0_stopOf_26 : decode cX0_stopOf 26 = .ok (.goto (-20), 3) := dk_167_ (show cX0_stopOf.data.toList[26]? = some 0xa7 from (LBX0_stopOfr_1 10).trans (by decide +kernel)) (show cX0_stopOf.data.toList[27]? = some 0xff from (LBX0_stopOfr_1 11).trans (by decide +kernel)) (show cX0_stopOf.data.toList[28]? = some 0xec from (LBX0_stopOfr_1 12).trans (by decide +kernel)) (by decide)
theorem dX0_stopOf_29 : decode cX0_stopOf 29 = .ok (.iload 5, 2) := dk_21_ (show cX0_stopOf.data.toList[29]? = some 0x15 from (LBX0_stopOfr_1 13).trans (by decide +kernel)) (show cX0_stopOf.data.toList[30]? = some 0x05 from (LBX0_stopOfr_1 14).trans (by decide +kernel)) (by decide)
theorem dX0_stopOf_31 : decode cX0_stopOf 31 = .ok (.ireturn, 1) := dk_172_ (show cX0_stopOf.data.toList[31]? = some 0xac from (LBX0_stopOfr_1 15).trans (by decide +kernel))
def LRX0_tripOf_5 : List UInt8 := []
def LBX0_tripOf_4 : List UInt8 := [0x60, 0x3e, 0x84, 0x04, 0x01, 0xa7, 0xff, 0xc0, 0x1d, 0xac]
def LRX0_tripOf_4 : List UInt8 := LBX0_tripOf_4 ++ LRX0_tripOf_5
def LBX0_tripOf_3 : List UInt8 := [0x00, 0x06, 0x12, 0x26, 0xac, 0x1d, 0x2b, 0xb4, 0x00, 0x3f, 0x15, 0x04, 0x2e, 0x15, 0x05, 0x68]
def LRX0_tripOf_3 : List UInt8 := LBX0_tripOf_3 ++ LRX0_tripOf_4
def LBX0_tripOf_2 : List UInt8 := [0x15, 0x04, 0x1c, 0xb6, 0x00, 0x42, 0xb8, 0x00, 0x2a, 0x36, 0x05, 0x15, 0x05, 0x12, 0x26, 0xa0]
def LRX0_tripOf_2 : List UInt8 := LBX0_tripOf_2 ++ LRX0_tripOf_3
def LBX0_tripOf_1 : List UInt8 := [0x00, 0x3f, 0x15, 0x04, 0x2e, 0x9e, 0x00, 0x2d, 0x2a, 0x1c, 0x15, 0x04, 0xb6, 0x00, 0x42, 0x2a]
def LRX0_tripOf_1 : List UInt8 := LBX0_tripOf_1 ++ LRX0_tripOf_2
def LBX0_tripOf_0 : List UInt8 := [0x03, 0x3e, 0x03, 0x36, 0x04, 0x15, 0x04, 0x2a, 0xb4, 0x00, 0x09, 0xa2, 0x00, 0x3d, 0x2b, 0xb4]
def LRX0_tripOf_0 : List UInt8 := LBX0_tripOf_0 ++ LRX0_tripOf_1
set_option maxRecDepth 100000 in
theorem LBX0_tripOf_eq : cX0_tripOf.data.toList = LRX0_tripOf_0 := by decide +kernel
theorem LBX0_tripOfr_0 (k : Nat) : cX0_tripOf.data.toList[0 + k]? = LRX0_tripOf_0[k]? := by rw [LBX0_tripOf_eq, Nat.zero_add]
theorem LBX0_tripOfr_1 (k : Nat) : cX0_tripOf.data.toList[16 + k]? = LRX0_tripOf_1[k]? := by
  have h := LBX0_tripOfr_0 (16 + k)
  rw [show 0 + (16 + k) = 16 + k by omega] at h
  rw [h]
  exact (List.getElem?_append_right (l₁ := LBX0_tripOf_0) (l₂ := LRX0_tripOf_1) (show 16 ≤ 16 + k by omega)).trans (congrArg (fun i => LRX0_tripOf_1[i]?) (show 16 + k - 16 = k by omega))
theorem LBX0_tripOfr_2 (k : Nat) : cX0_tripOf.data.toList[32 + k]? = LRX0_tripOf_2[k]? := by
  have h := LBX0_tripOfr_1 (16 + k)
  rw [show 16 + (16 + k) = 32 + k by omega] at h
  rw [h]
  exact (List.getElem?_append_right (l₁ := LBX0_tripOf_1) (l₂ := LRX0_tripOf_2) (show 16 ≤ 16 + k by omega)).trans (congrArg (fun i => LRX0_tripOf_2[i]?) (show 16 + k - 16 = k by omega))
theorem LBX0_tripOfr_3 (k : Nat) : cX0_tripOf.data.toList[48 + k]? = LRX0_tripOf_3[k]? := by
  have h := LBX0_tripOfr_2 (16 + k)
  rw [show 32 + (16 + k) = 48 + k by omega] at h
  rw [h]
  exact (List.getElem?_append_right (l₁ := LBX0_tripOf_2) (l₂ := LRX0_tripOf_3) (show 16 ≤ 16 + k by omega)).trans (congrArg (fun i => LRX0_tripOf_3[i]?) (show 16 + k - 16 = k by omega))
theorem LBX0_tripOfr_4 (k : Nat) : cX0_tripOf.data.toList[64 + k]? = LRX0_tripOf_4[k]? := by
  have h := LBX0_tripOfr_3 (16 + k)
  rw [show 48 + (16 + k) = 64 + k by omega] at h
  rw [h]
  exact (List.getElem?_append_right (l₁ := LBX0_tripOf_3) (l₂ := LRX0_tripOf_4) (show 16 ≤ 16 + k by omega)).trans (congrArg (fun i => LRX0_tripOf_4[i]?) (show 16 + k - 16 = k by omega))
theorem dX0_tripOf_0 : decode cX0_tripOf 0 = .ok (.iconst 0, 1) := dk_3_ (show cX0_tripOf.data.toList[0]? = some 0x03 from (LBX0_tripOfr_0 0).trans (by decide +kernel))
theorem dX0_tripOf_1 : decode cX0_tripOf 1 = .ok (.istore_n 3, 1) := dk_62_ (show cX0_tripOf.data.toList[1]? = some 0x3e from (LBX0_tripOfr_0 1).trans (by decide +kernel))
theorem dX0_tripOf_2 : decode cX0_tripOf 2 = .ok (.iconst 0, 1) := dk_3_ (show cX0_tripOf.data.toList[2]? = some 0x03 from (LBX0_tripOfr_0 2).trans (by decide +kernel))
theorem dX0_tripOf_3 : decode cX0_tripOf 3 = .ok (.istore 4, 2) := dk_54_ (show cX0_tripOf.data.toList[3]? = some 0x36 from (LBX0_tripOfr_0 3).trans (by decide +kernel)) (show cX0_tripOf.data.toList[4]? = some 0x04 from (LBX0_tripOfr_0 4).trans (by decide +kernel)) (by decide)
theorem dX0_tripOf_5 : decode cX0_tripOf 5 = .ok (.iload 4, 2) := dk_21_ (show cX0_tripOf.data.toList[5]? = some 0x15 from (LBX0_tripOfr_0 5).trans (by decide +kernel)) (show cX0_tripOf.data.toList[6]? = some 0x04 from (LBX0_tripOfr_0 6).trans (by decide +kernel)) (by decide)
theorem dX0_tripOf_7 : decode cX0_tripOf 7 = .ok (.aload_n 0, 1) := dk_42_ (show cX0_tripOf.data.toList[7]? = some 0x2a from (LBX0_tripOfr_0 7).trans (by decide +kernel))
theorem dX0_tripOf_8 : decode cX0_tripOf 8 = .ok (.getfield 9, 3) := dk_180_ (show cX0_tripOf.data.toList[8]? = some 0xb4 from (LBX0_tripOfr_0 8).trans (by decide +kernel)) (show cX0_tripOf.data.toList[9]? = some 0x00 from (LBX0_tripOfr_0 9).trans (by decide +kernel)) (show cX0_tripOf.data.toList[10]? = some 0x09 from (LBX0_tripOfr_0 10).trans (by decide +kernel)) (by decide)
theorem dX0_tripOf_11 : decode cX0_tripOf 11 = .ok (.if_icmp .ge 61, 3) := dk_162_ (show cX0_tripOf.data.toList[11]? = some 0xa2 from (LBX0_tripOfr_0 11).trans (by decide +kernel)) (show cX0_tripOf.data.toList[12]? = some 0x00 from (LBX0_tripOfr_0 12).trans (by decide +kernel)) (show cX0_tripOf.data.toList[13]? = some 0x3d from (LBX0_tripOfr_0 13).trans (by decide +kernel)) (by decide)
theorem dX0_tripOf_14 : decode cX0_tripOf 14 = .ok (.aload_n 1, 1) := dk_43_ (show cX0_tripOf.data.toList[14]? = some 0x2b from (LBX0_tripOfr_0 14).trans (by decide +kernel))
theorem dX0_tripOf_15 : decode cX0_tripOf 15 = .ok (.getfield 63, 3) := dk_180_ (show cX0_tripOf.data.toList[15]? = some 0xb4 from (LBX0_tripOfr_0 15).trans (by decide +kernel)) (show cX0_tripOf.data.toList[16]? = some 0x00 from (LBX0_tripOfr_1 0).trans (by decide +kernel)) (show cX0_tripOf.data.toList[17]? = some 0x3f from (LBX0_tripOfr_1 1).trans (by decide +kernel)) (by decide)
theorem dX0_tripOf_18 : decode cX0_tripOf 18 = .ok (.iload 4, 2) := dk_21_ (show cX0_tripOf.data.toList[18]? = some 0x15 from (LBX0_tripOfr_1 2).trans (by decide +kernel)) (show cX0_tripOf.data.toList[19]? = some 0x04 from (LBX0_tripOfr_1 3).trans (by decide +kernel)) (by decide)
theorem dX0_tripOf_20 : decode cX0_tripOf 20 = .ok (.iaload, 1) := dk_46_ (show cX0_tripOf.data.toList[20]? = some 0x2e from (LBX0_tripOfr_1 4).trans (by decide +kernel))
theorem dX0_tripOf_21 : decode cX0_tripOf 21 = .ok (.ifCond .le 45, 3) := dk_158_ (show cX0_tripOf.data.toList[21]? = some 0x9e from (LBX0_tripOfr_1 5).trans (by decide +kernel)) (show cX0_tripOf.data.toList[22]? = some 0x00 from (LBX0_tripOfr_1 6).trans (by decide +kernel)) (show cX0_tripOf.data.toList[23]? = some 0x2d from (LBX0_tripOfr_1 7).trans (by decide +kernel)) (by decide)
theorem dX0_tripOf_24 : decode cX0_tripOf 24 = .ok (.aload_n 0, 1) := dk_42_ (show cX0_tripOf.data.toList[24]? = some 0x2a from (LBX0_tripOfr_1 8).trans (by decide +kernel))
theorem dX0_tripOf_25 : decode cX0_tripOf 25 = .ok (.iload_n 2, 1) := dk_28_ (show cX0_tripOf.data.toList[25]? = some 0x1c from (LBX0_tripOfr_1 9).trans (by decide +kernel))
theorem dX0_tripOf_26 : decode cX0_tripOf 26 = .ok (.iload 4, 2) := dk_21_ (show cX0_tripOf.data.toList[26]? = some 0x15 from (LBX0_tripOfr_1 10).trans (by decide +kernel)) (show cX0_tripOf.data.toList[27]? = some 0x04 from (LBX0_tripOfr_1 11).trans (by decide +kernel)) (by decide)
theorem dX0_tripOf_28 : decode cX0_tripOf 28 = .ok (.invokevirtual 66, 3) := dk_182_ (show cX0_tripOf.data.toList[28]? = some 0xb6 from (LBX0_tripOfr_1 12).trans (by decide +kernel)) (show cX0_tripOf.data.toList[29]? = some 0x00 from (LBX0_tripOfr_1 13).trans (by decide +kernel)) (show cX0_tripOf.data.toList[30]? = some 0x42 from (LBX0_tripOfr_1 14).trans (by decide +kernel)) (by decide)
theorem dX0_tripOf_31 : decode cX0_tripOf 31 = .ok (.aload_n 0, 1) := dk_42_ (show cX0_tripOf.data.toList[31]? = some 0x2a from (LBX0_tripOfr_1 15).trans (by decide +kernel))
theorem dX0_tripOf_32 : decode cX0_tripOf 32 = .ok (.iload 4, 2) := dk_21_ (show cX0_tripOf.data.toList[32]? = some 0x15 from (LBX0_tripOfr_2 0).trans (by decide +kernel)) (show cX0_tripOf.data.toList[33]? = some 0x04 from (LBX0_tripOfr_2 1).trans (by decide +kernel)) (by decide)
theorem dX0_tripOf_34 : decode cX0_tripOf 34 = .ok (.iload_n 2, 1) := dk_28_ (show cX0_tripOf.data.toList[34]? = some 0x1c from (LBX0_tripOfr_2 2).trans (by decide +kernel))
theorem dX0_tripOf_35 : decode cX0_tripOf 35 = .ok (.invokevirtual 66, 3) := dk_182_ (show cX0_tripOf.data.toList[35]? = some 0xb6 from (LBX0_tripOfr_2 3).trans (by decide +kernel)) (show cX0_tripOf.data.toList[36]? = some 0x00 from (LBX0_tripOfr_2 4).trans (by decide +kernel)) (show cX0_tripOf.data.toList[37]? = some 0x42 from (LBX0_tripOfr_2 5).trans (by decide +kernel)) (by decide)
theorem dX0_tripOf_38 : decode cX0_tripOf 38 = .ok (.invokestatic 42, 3) := dk_184_ (show cX0_tripOf.data.toList[38]? = some 0xb8 from (LBX0_tripOfr_2 6).trans (by decide +kernel)) (show cX0_tripOf.data.toList[39]? = some 0x00 from (LBX0_tripOfr_2 7).trans (by decide +kernel)) (show cX0_tripOf.data.toList[40]? = some 0x2a from (LBX0_tripOfr_2 8).trans (by decide +kernel)) (by decide)
theorem dX0_tripOf_41 : decode cX0_tripOf 41 = .ok (.istore 5, 2) := dk_54_ (show cX0_tripOf.data.toList[41]? = some 0x36 from (LBX0_tripOfr_2 9).trans (by decide +kernel)) (show cX0_tripOf.data.toList[42]? = some 0x05 from (LBX0_tripOfr_2 10).trans (by decide +kernel)) (by decide)
theorem dX0_tripOf_43 : decode cX0_tripOf 43 = .ok (.iload 5, 2) := dk_21_ (show cX0_tripOf.data.toList[43]? = some 0x15 from (LBX0_tripOfr_2 11).trans (by decide +kernel)) (show cX0_tripOf.data.toList[44]? = some 0x05 from (LBX0_tripOfr_2 12).trans (by decide +kernel)) (by decide)
theorem dX0_tripOf_45 : decode cX0_tripOf 45 = .ok (.ldc 38, 2) := dk_18_ (show cX0_tripOf.data.toList[45]? = some 0x12 from (LBX0_tripOfr_2 13).trans (by decide +kernel)) (show cX0_tripOf.data.toList[46]? = some 0x26 from (LBX0_tripOfr_2 14).trans (by decide +kernel)) (by decide)
theorem dX0_tripOf_47 : decode cX0_tripOf 47 = .ok (.if_icmp .ne 6, 3) := dk_160_ (show cX0_tripOf.data.toList[47]? = some 0xa0 from (LBX0_tripOfr_2 15).trans (by decide +kernel)) (show cX0_tripOf.data.toList[48]? = some 0x00 from (LBX0_tripOfr_3 0).trans (by decide +kernel)) (show cX0_tripOf.data.toList[49]? = some 0x06 from (LBX0_tripOfr_3 1).trans (by decide +kernel)) (by decide)
theorem dX0_tripOf_50 : decode cX0_tripOf 50 = .ok (.ldc 38, 2) := dk_18_ (show cX0_tripOf.data.toList[50]? = some 0x12 from (LBX0_tripOfr_3 2).trans (by decide +kernel)) (show cX0_tripOf.data.toList[51]? = some 0x26 from (LBX0_tripOfr_3 3).trans (by decide +kernel)) (by decide)
theorem dX0_tripOf_52 : decode cX0_tripOf 52 = .ok (.ireturn, 1) := dk_172_ (show cX0_tripOf.data.toList[52]? = some 0xac from (LBX0_tripOfr_3 4).trans (by decide +kernel))
theorem dX0_tripOf_53 : decode cX0_tripOf 53 = .ok (.iload_n 3, 1) := dk_29_ (show cX0_tripOf.data.toList[53]? = some 0x1d from (LBX0_tripOfr_3 5).trans (by decide +kernel))
theorem dX0_tripOf_54 : decode cX0_tripOf 54 = .ok (.aload_n 1, 1) := dk_43_ (show cX0_tripOf.data.toList[54]? = some 0x2b from (LBX0_tripOfr_3 6).trans (by decide +kernel))
theorem dX0_tripOf_55 : decode cX0_tripOf 55 = .ok (.getfield 63, 3) := dk_180_ (show cX0_tripOf.data.toList[55]? = some 0xb4 from (LBX0_tripOfr_3 7).trans (by decide +kernel)) (show cX0_tripOf.data.toList[56]? = some 0x00 from (LBX0_tripOfr_3 8).trans (by decide +kernel)) (show cX0_tripOf.data.toList[57]? = some 0x3f from (LBX0_tripOfr_3 9).trans (by decide +kernel)) (by decide)
theorem dX0_tripOf_58 : decode cX0_tripOf 58 = .ok (.iload 4, 2) := dk_21_ (show cX0_tripOf.data.toList[58]? = some 0x15 from (LBX0_tripOfr_3 10).trans (by decide +kernel)) (show cX0_tripOf.data.toList[59]? = some 0x04 from (LBX0_tripOfr_3 11).trans (by decide +kernel)) (by decide)
theorem dX0_tripOf_60 : decode cX0_tripOf 60 = .ok (.iaload, 1) := dk_46_ (show cX0_tripOf.data.toList[60]? = some 0x2e from (LBX0_tripOfr_3 12).trans (by decide +kernel))
theorem dX0_tripOf_61 : decode cX0_tripOf 61 = .ok (.iload 5, 2) := dk_21_ (show cX0_tripOf.data.toList[61]? = some 0x15 from (LBX0_tripOfr_3 13).trans (by decide +kernel)) (show cX0_tripOf.data.toList[62]? = some 0x05 from (LBX0_tripOfr_3 14).trans (by decide +kernel)) (by decide)
theorem dX0_tripOf_63 : decode cX0_tripOf 63 = .ok (.imul, 1) := dk_104_ (show cX0_tripOf.data.toList[63]? = some 0x68 from (LBX0_tripOfr_3 15).trans (by decide +kernel))
theorem dX0_tripOf_64 : decode cX0_tripOf 64 = .ok (.iadd, 1) := dk_96_ (show cX0_tripOf.data.toList[64]? = some 0x60 from (LBX0_tripOfr_4 0).trans (by decide +kernel))
theorem dX0_tripOf_65 : decode cX0_tripOf 65 = .ok (.istore_n 3, 1) := dk_62_ (show cX0_tripOf.data.toList[65]? = some 0x3e from (LBX0_tripOfr_4 1).trans (by decide +kernel))
theorem dX0_tripOf_66 : decode cX0_tripOf 66 = .ok (.iinc 4 1, 3) := dk_132_ (show cX0_tripOf.data.toList[66]? = some 0x84 from (LBX0_tripOfr_4 2).trans (by decide +kernel)) (show cX0_tripOf.data.toList[67]? = some 0x04 from (LBX0_tripOfr_4 3).trans (by decide +kernel)) (show cX0_tripOf.data.toList[68]? = some 0x01 from (LBX0_tripOfr_4 4).trans (by decide +kernel)) (by decide) (by decide)
theorem dX0_tripOf_69 : decode cX0_tripOf 69 = .ok (.goto (-64), 3) := dk_167_ (show cX0_tripOf.data.toList[69]? = some 0xa7 from (LBX0_tripOfr_4 5).trans (by decide +kernel)) (show cX0_tripOf.data.toList[70]? = some 0xff from (LBX0_tripOfr_4 6).trans (by decide +kernel)) (show cX0_tripOf.data.toList[71]? = some 0xc0 from (LBX0_tripOfr_4 7).trans (by decide +kernel)) (by decide)
theorem dX0_tripOf_72 : decode cX0_tripOf 72 = .ok (.iload_n 3, 1) := dk_29_ (show cX0_tripOf.data.toList[72]? = some 0x1d from (LBX0_tripOfr_4 8).trans (by decide +kernel))
theorem dX0_tripOf_73 : decode cX0_tripOf 73 = .ok (.ireturn, 1) := dk_172_ (show cX0_tripOf.data.toList[73]? = some 0xac from (LBX0_tripOfr_4 9).trans (by decide +kernel))
def LRX0_homeOf_3 : List UInt8 := []
def LBX0_homeOf_2 : List UInt8 := [0x15, 0x04, 0x3d, 0x15, 0x05, 0x3e, 0x84, 0x04, 0x01, 0xa7, 0xff, 0xdf, 0x1c, 0xac]
def LRX0_homeOf_2 : List UInt8 := LBX0_homeOf_2 ++ LRX0_homeOf_3
def LBX0_homeOf_1 : List UInt8 := [0x1e, 0x2a, 0x2b, 0x15, 0x04, 0xb6, 0x00, 0x45, 0x36, 0x05, 0x15, 0x05, 0x1d, 0xa2, 0x00, 0x09]
def LRX0_homeOf_1 : List UInt8 := LBX0_homeOf_1 ++ LRX0_homeOf_2
def LBX0_homeOf_0 : List UInt8 := [0x02, 0x3d, 0x12, 0x26, 0x3e, 0x03, 0x36, 0x04, 0x15, 0x04, 0x2a, 0xb4, 0x00, 0x09, 0xa2, 0x00]
def LRX0_homeOf_0 : List UInt8 := LBX0_homeOf_0 ++ LRX0_homeOf_1
set_option maxRecDepth 100000 in
theorem LBX0_homeOf_eq : cX0_homeOf.data.toList = LRX0_homeOf_0 := by decide +kernel
theorem LBX0_homeOfr_0 (k : Nat) : cX0_homeOf.data.toList[0 + k]? = LRX0_homeOf_0[k]? := by rw [LBX0_homeOf_eq, Nat.zero_add]
theorem LBX0_homeOfr_1 (k : Nat) : cX0_homeOf.data.toList[16 + k]? = LRX0_homeOf_1[k]? := by
  have h := LBX0_homeOfr_0 (16 + k)
  rw [show 0 + (16 + k) = 16 + k by omega] at h
  rw [h]
  exact (List.getElem?_append_right (l₁ := LBX0_homeOf_0) (l₂ := LRX0_homeOf_1) (show 16 ≤ 16 + k by omega)).trans (congrArg (fun i => LRX0_homeOf_1[i]?) (show 16 + k - 16 = k by omega))
theorem LBX0_homeOfr_2 (k : Nat) : cX0_homeOf.data.toList[32 + k]? = LRX0_homeOf_2[k]? := by
  have h := LBX0_homeOfr_1 (16 + k)
  rw [show 16 + (16 + k) = 32 + k by omega] at h
  rw [h]
  exact (List.getElem?_append_right (l₁ := LBX0_homeOf_1) (l₂ := LRX0_homeOf_2) (show 16 ≤ 16 + k by omega)).trans (congrArg (fun i => LRX0_homeOf_2[i]?) (show 16 + k - 16 = k by omega))
theorem dX0_homeOf_0 : decode cX0_homeOf 0 = .ok (.iconst (-1), 1) := dk_2_ (show cX0_homeOf.data.toList[0]? = some 0x02 from (LBX0_homeOfr_0 0).trans (by decide +kernel))
theorem dX0_homeOf_1 : decode cX0_homeOf 1 = .ok (.istore_n 2, 1) := dk_61_ (show cX0_homeOf.data.toList[1]? = some 0x3d from (LBX0_homeOfr_0 1).trans (by decide +kernel))
theorem dX0_homeOf_2 : decode cX0_homeOf 2 = .ok (.ldc 38, 2) := dk_18_ (show cX0_homeOf.data.toList[2]? = some 0x12 from (LBX0_homeOfr_0 2).trans (by decide +kernel)) (show cX0_homeOf.data.toList[3]? = some 0x26 from (LBX0_homeOfr_0 3).trans (by decide +kernel)) (by decide)
theorem dX0_homeOf_4 : decode cX0_homeOf 4 = .ok (.istore_n 3, 1) := dk_62_ (show cX0_homeOf.data.toList[4]? = some 0x3e from (LBX0_homeOfr_0 4).trans (by decide +kernel))
theorem dX0_homeOf_5 : decode cX0_homeOf 5 = .ok (.iconst 0, 1) := dk_3_ (show cX0_homeOf.data.toList[5]? = some 0x03 from (LBX0_homeOfr_0 5).trans (by decide +kernel))
theorem dX0_homeOf_6 : decode cX0_homeOf 6 = .ok (.istore 4, 2) := dk_54_ (show cX0_homeOf.data.toList[6]? = some 0x36 from (LBX0_homeOfr_0 6).trans (by decide +kernel)) (show cX0_homeOf.data.toList[7]? = some 0x04 from (LBX0_homeOfr_0 7).trans (by decide +kernel)) (by decide)
theorem dX0_homeOf_8 : decode cX0_homeOf 8 = .ok (.iload 4, 2) := dk_21_ (show cX0_homeOf.data.toList[8]? = some 0x15 from (LBX0_homeOfr_0 8).trans (by decide +kernel)) (show cX0_homeOf.data.toList[9]? = some 0x04 from (LBX0_homeOfr_0 9).trans (by decide +kernel)) (by decide)
theorem dX0_homeOf_10 : decode cX0_homeOf 10 = .ok (.aload_n 0, 1) := dk_42_ (show cX0_homeOf.data.toList[10]? = some 0x2a from (LBX0_homeOfr_0 10).trans (by decide +kernel))
theorem dX0_homeOf_11 : decode cX0_homeOf 11 = .ok (.getfield 9, 3) := dk_180_ (show cX0_homeOf.data.toList[11]? = some 0xb4 from (LBX0_homeOfr_0 11).trans (by decide +kernel)) (show cX0_homeOf.data.toList[12]? = some 0x00 from (LBX0_homeOfr_0 12).trans (by decide +kernel)) (show cX0_homeOf.data.toList[13]? = some 0x09 from (LBX0_homeOfr_0 13).trans (by decide +kernel)) (by decide)
theorem dX0_homeOf_14 : decode cX0_homeOf 14 = .ok (.if_icmp .ge 30, 3) := dk_162_ (show cX0_homeOf.data.toList[14]? = some 0xa2 from (LBX0_homeOfr_0 14).trans (by decide +kernel)) (show cX0_homeOf.data.toList[15]? = some 0x00 from (LBX0_homeOfr_0 15).trans (by decide +kernel)) (show cX0_homeOf.data.toList[16]? = some 0x1e from (LBX0_homeOfr_1 0).trans (by decide +kernel)) (by decide)
theorem dX0_homeOf_17 : decode cX0_homeOf 17 = .ok (.aload_n 0, 1) := dk_42_ (show cX0_homeOf.data.toList[17]? = some 0x2a from (LBX0_homeOfr_1 1).trans (by decide +kernel))
theorem dX0_homeOf_18 : decode cX0_homeOf 18 = .ok (.aload_n 1, 1) := dk_43_ (show cX0_homeOf.data.toList[18]? = some 0x2b from (LBX0_homeOfr_1 2).trans (by decide +kernel))
theorem dX0_homeOf_19 : decode cX0_homeOf 19 = .ok (.iload 4, 2) := dk_21_ (show cX0_homeOf.data.toList[19]? = some 0x15 from (LBX0_homeOfr_1 3).trans (by decide +kernel)) (show cX0_homeOf.data.toList[20]? = some 0x04 from (LBX0_homeOfr_1 4).trans (by decide +kernel)) (by decide)
theorem dX0_homeOf_21 : decode cX0_homeOf 21 = .ok (.invokevirtual 69, 3) := dk_182_ (show cX0_homeOf.data.toList[21]? = some 0xb6 from (LBX0_homeOfr_1 5).trans (by decide +kernel)) (show cX0_homeOf.data.toList[22]? = some 0x00 from (LBX0_homeOfr_1 6).trans (by decide +kernel)) (show cX0_homeOf.data.toList[23]? = some 0x45 from (LBX0_homeOfr_1 7).trans (by decide +kernel)) (by decide)
theorem dX0_homeOf_24 : decode cX0_homeOf 24 = .ok (.istore 5, 2) := dk_54_ (show cX0_homeOf.data.toList[24]? = some 0x36 from (LBX0_homeOfr_1 8).trans (by decide +kernel)) (show cX0_homeOf.data.toList[25]? = some 0x05 from (LBX0_homeOfr_1 9).trans (by decide +kernel)) (by decide)
theorem dX0_homeOf_26 : decode cX0_homeOf 26 = .ok (.iload 5, 2) := dk_21_ (show cX0_homeOf.data.toList[26]? = some 0x15 from (LBX0_homeOfr_1 10).trans (by decide +kernel)) (show cX0_homeOf.data.toList[27]? = some 0x05 from (LBX0_homeOfr_1 11).trans (by decide +kernel)) (by decide)
theorem dX0_homeOf_28 : decode cX0_homeOf 28 = .ok (.iload_n 3, 1) := dk_29_ (show cX0_homeOf.data.toList[28]? = some 0x1d from (LBX0_homeOfr_1 12).trans (by decide +kernel))
theorem dX0_homeOf_29 : decode cX0_homeOf 29 = .ok (.if_icmp .ge 9, 3) := dk_162_ (show cX0_homeOf.data.toList[29]? = some 0xa2 from (LBX0_homeOfr_1 13).trans (by decide +kernel)) (show cX0_homeOf.data.toList[30]? = some 0x00 from (LBX0_homeOfr_1 14).trans (by decide +kernel)) (show cX0_homeOf.data.toList[31]? = some 0x09 from (LBX0_homeOfr_1 15).trans (by decide +kernel)) (by decide)
theorem dX0_homeOf_32 : decode cX0_homeOf 32 = .ok (.iload 4, 2) := dk_21_ (show cX0_homeOf.data.toList[32]? = some 0x15 from (LBX0_homeOfr_2 0).trans (by decide +kernel)) (show cX0_homeOf.data.toList[33]? = some 0x04 from (LBX0_homeOfr_2 1).trans (by decide +kernel)) (by decide)
theorem dX0_homeOf_34 : decode cX0_homeOf 34 = .ok (.istore_n 2, 1) := dk_61_ (show cX0_homeOf.data.toList[34]? = some 0x3d from (LBX0_homeOfr_2 2).trans (by decide +kernel))
theorem dX0_homeOf_35 : decode cX0_homeOf 35 = .ok (.iload 5, 2) := dk_21_ (show cX0_homeOf.data.toList[35]? = some 0x15 from (LBX0_homeOfr_2 3).trans (by decide +kernel)) (show cX0_homeOf.data.toList[36]? = some 0x05 from (LBX0_homeOfr_2 4).trans (by decide +kernel)) (by decide)
theorem dX0_homeOf_37 : decode cX0_homeOf 37 = .ok (.istore_n 3, 1) := dk_62_ (show cX0_homeOf.data.toList[37]? = some 0x3e from (LBX0_homeOfr_2 5).trans (by decide +kernel))
theorem dX0_homeOf_38 : decode cX0_homeOf 38 = .ok (.iinc 4 1, 3) := dk_132_ (show cX0_homeOf.data.toList[38]? = some 0x84 from (LBX0_homeOfr_2 6).trans (by decide +kernel)) (show cX0_homeOf.data.toList[39]? = some 0x04 from (LBX0_homeOfr_2 7).trans (by decide +kernel)) (show cX0_homeOf.data.toList[40]? = some 0x01 from (LBX0_homeOfr_2 8).trans (by decide +kernel)) (by decide) (by decide)
theorem dX0_homeOf_41 : decode cX0_homeOf 41 = .ok (.goto (-33), 3) := dk_167_ (show cX0_homeOf.data.toList[41]? = some 0xa7 from (LBX0_homeOfr_2 9).trans (by decide +kernel)) (show cX0_homeOf.data.toList[42]? = some 0xff from (LBX0_homeOfr_2 10).trans (by decide +kernel)) (show cX0_homeOf.data.toList[43]? = some 0xdf from (LBX0_homeOfr_2 11).trans (by decide +kernel)) (by decide)
theorem dX0_homeOf_44 : decode cX0_homeOf 44 = .ok (.iload_n 2, 1) := dk_28_ (show cX0_homeOf.data.toList[44]? = some 0x1c from (LBX0_homeOfr_2 12).trans (by decide +kernel))
theorem dX0_homeOf_45 : decode cX0_homeOf 45 = .ok (.ireturn, 1) := dk_172_ (show cX0_homeOf.data.toList[45]? = some 0xac from (LBX0_homeOfr_2 13).trans (by decide +kernel))
def LRX0_leastTrip_2 : List UInt8 := []
def LBX0_leastTrip_1 : List UInt8 := [0x2b, 0x1c, 0xb6, 0x00, 0x45, 0xac]
def LRX0_leastTrip_1 : List UInt8 := LBX0_leastTrip_1 ++ LRX0_leastTrip_2
def LBX0_leastTrip_0 : List UInt8 := [0x2a, 0x2b, 0xb6, 0x00, 0x49, 0x3d, 0x1c, 0x9c, 0x00, 0x08, 0x12, 0x26, 0xa7, 0x00, 0x09, 0x2a]
def LRX0_leastTrip_0 : List UInt8 := LBX0_leastTrip_0 ++ LRX0_leastTrip_1
set_option maxRecDepth 100000 in
theorem LBX0_leastTrip_eq : cX0_leastTrip.data.toList = LRX0_leastTrip_0 := by decide +kernel
theorem LBX0_leastTripr_0 (k : Nat) : cX0_leastTrip.data.toList[0 + k]? = LRX0_leastTrip_0[k]? := by rw [LBX0_leastTrip_eq, Nat.zero_add]
theorem LBX0_leastTripr_1 (k : Nat) : cX0_leastTrip.data.toList[16 + k]? = LRX0_leastTrip_1[k]? := by
  have h := LBX0_leastTripr_0 (16 + k)
  rw [show 0 + (16 + k) = 16 + k by omega] at h
  rw [h]
  exact (List.getElem?_append_right (l₁ := LBX0_leastTrip_0) (l₂ := LRX0_leastTrip_1) (show 16 ≤ 16 + k by omega)).trans (congrArg (fun i => LRX0_leastTrip_1[i]?) (show 16 + k - 16 = k by omega))
theorem dX0_leastTrip_0 : decode cX0_leastTrip 0 = .ok (.aload_n 0, 1) := dk_42_ (show cX0_leastTrip.data.toList[0]? = some 0x2a from (LBX0_leastTripr_0 0).trans (by decide +kernel))
theorem dX0_leastTrip_1 : decode cX0_leastTrip 1 = .ok (.aload_n 1, 1) := dk_43_ (show cX0_leastTrip.data.toList[1]? = some 0x2b from (LBX0_leastTripr_0 1).trans (by decide +kernel))
theorem dX0_leastTrip_2 : decode cX0_leastTrip 2 = .ok (.invokevirtual 73, 3) := dk_182_ (show cX0_leastTrip.data.toList[2]? = some 0xb6 from (LBX0_leastTripr_0 2).trans (by decide +kernel)) (show cX0_leastTrip.data.toList[3]? = some 0x00 from (LBX0_leastTripr_0 3).trans (by decide +kernel)) (show cX0_leastTrip.data.toList[4]? = some 0x49 from (LBX0_leastTripr_0 4).trans (by decide +kernel)) (by decide)
theorem dX0_leastTrip_5 : decode cX0_leastTrip 5 = .ok (.istore_n 2, 1) := dk_61_ (show cX0_leastTrip.data.toList[5]? = some 0x3d from (LBX0_leastTripr_0 5).trans (by decide +kernel))
theorem dX0_leastTrip_6 : decode cX0_leastTrip 6 = .ok (.iload_n 2, 1) := dk_28_ (show cX0_leastTrip.data.toList[6]? = some 0x1c from (LBX0_leastTripr_0 6).trans (by decide +kernel))
theorem dX0_leastTrip_7 : decode cX0_leastTrip 7 = .ok (.ifCond .ge 8, 3) := dk_156_ (show cX0_leastTrip.data.toList[7]? = some 0x9c from (LBX0_leastTripr_0 7).trans (by decide +kernel)) (show cX0_leastTrip.data.toList[8]? = some 0x00 from (LBX0_leastTripr_0 8).trans (by decide +kernel)) (show cX0_leastTrip.data.toList[9]? = some 0x08 from (LBX0_leastTripr_0 9).trans (by decide +kernel)) (by decide)
theorem dX0_leastTrip_10 : decode cX0_leastTrip 10 = .ok (.ldc 38, 2) := dk_18_ (show cX0_leastTrip.data.toList[10]? = some 0x12 from (LBX0_leastTripr_0 10).trans (by decide +kernel)) (show cX0_leastTrip.data.toList[11]? = some 0x26 from (LBX0_leastTripr_0 11).trans (by decide +kernel)) (by decide)
theorem dX0_leastTrip_12 : decode cX0_leastTrip 12 = .ok (.goto 9, 3) := dk_167_ (show cX0_leastTrip.data.toList[12]? = some 0xa7 from (LBX0_leastTripr_0 12).trans (by decide +kernel)) (show cX0_leastTrip.data.toList[13]? = some 0x00 from (LBX0_leastTripr_0 13).trans (by decide +kernel)) (show cX0_leastTrip.data.toList[14]? = some 0x09 from (LBX0_leastTripr_0 14).trans (by decide +kernel)) (by decide)
theorem dX0_leastTrip_15 : decode cX0_leastTrip 15 = .ok (.aload_n 0, 1) := dk_42_ (show cX0_leastTrip.data.toList[15]? = some 0x2a from (LBX0_leastTripr_0 15).trans (by decide +kernel))
theorem dX0_leastTrip_16 : decode cX0_leastTrip 16 = .ok (.aload_n 1, 1) := dk_43_ (show cX0_leastTrip.data.toList[16]? = some 0x2b from (LBX0_leastTripr_1 0).trans (by decide +kernel))
theorem dX0_leastTrip_17 : decode cX0_leastTrip 17 = .ok (.iload_n 2, 1) := dk_28_ (show cX0_leastTrip.data.toList[17]? = some 0x1c from (LBX0_leastTripr_1 1).trans (by decide +kernel))
theorem dX0_leastTrip_18 : decode cX0_leastTrip 18 = .ok (.invokevirtual 69, 3) := dk_182_ (show cX0_leastTrip.data.toList[18]? = some 0xb6 from (LBX0_leastTripr_1 2).trans (by decide +kernel)) (show cX0_leastTrip.data.toList[19]? = some 0x00 from (LBX0_leastTripr_1 3).trans (by decide +kernel)) (show cX0_leastTrip.data.toList[20]? = some 0x45 from (LBX0_leastTripr_1 4).trans (by decide +kernel)) (by decide)
theorem dX0_leastTrip_21 : decode cX0_leastTrip 21 = .ok (.ireturn, 1) := dk_172_ (show cX0_leastTrip.data.toList[21]? = some 0xac from (LBX0_leastTripr_1 5).trans (by decide +kernel))
def LRX0_priceOf_5 : List UInt8 := []
def LBX0_priceOf_4 : List UInt8 := [0x00, 0x2a, 0xb8, 0x00, 0x2a, 0xac]
def LRX0_priceOf_4 : List UInt8 := LBX0_priceOf_4 ++ LRX0_priceOf_5
def LBX0_priceOf_3 : List UInt8 := [0x17, 0x15, 0x07, 0x2a, 0x1d, 0x1b, 0xb6, 0x00, 0x42, 0x2a, 0x1d, 0x1c, 0xb6, 0x00, 0x42, 0xb8]
def LRX0_priceOf_3 : List UInt8 := LBX0_priceOf_3 ++ LRX0_priceOf_4
def LBX0_priceOf_2 : List UInt8 := [0x15, 0x06, 0xb8, 0x00, 0x2a, 0x36, 0x07, 0x15, 0x04, 0x9a, 0x00, 0x08, 0x15, 0x07, 0xa7, 0x00]
def LRX0_priceOf_2 : List UInt8 := LBX0_priceOf_2 ++ LRX0_priceOf_3
def LBX0_priceOf_1 : List UInt8 := [0x15, 0x04, 0x04, 0xa0, 0x00, 0x0b, 0x15, 0x05, 0x15, 0x06, 0xb8, 0x00, 0x2e, 0xac, 0x15, 0x05]
def LRX0_priceOf_1 : List UInt8 := LBX0_priceOf_1 ++ LRX0_priceOf_2
def LBX0_priceOf_0 : List UInt8 := [0x2a, 0x1b, 0x1d, 0xb6, 0x00, 0x42, 0x36, 0x05, 0x2a, 0x1c, 0x1d, 0xb6, 0x00, 0x42, 0x36, 0x06]
def LRX0_priceOf_0 : List UInt8 := LBX0_priceOf_0 ++ LRX0_priceOf_1
set_option maxRecDepth 100000 in
theorem LBX0_priceOf_eq : cX0_priceOf.data.toList = LRX0_priceOf_0 := by decide +kernel
theorem LBX0_priceOfr_0 (k : Nat) : cX0_priceOf.data.toList[0 + k]? = LRX0_priceOf_0[k]? := by rw [LBX0_priceOf_eq, Nat.zero_add]
theorem LBX0_priceOfr_1 (k : Nat) : cX0_priceOf.data.toList[16 + k]? = LRX0_priceOf_1[k]? := by
  have h := LBX0_priceOfr_0 (16 + k)
  rw [show 0 + (16 + k) = 16 + k by omega] at h
  rw [h]
  exact (List.getElem?_append_right (l₁ := LBX0_priceOf_0) (l₂ := LRX0_priceOf_1) (show 16 ≤ 16 + k by omega)).trans (congrArg (fun i => LRX0_priceOf_1[i]?) (show 16 + k - 16 = k by omega))
theorem LBX0_priceOfr_2 (k : Nat) : cX0_priceOf.data.toList[32 + k]? = LRX0_priceOf_2[k]? := by
  have h := LBX0_priceOfr_1 (16 + k)
  rw [show 16 + (16 + k) = 32 + k by omega] at h
  rw [h]
  exact (List.getElem?_append_right (l₁ := LBX0_priceOf_1) (l₂ := LRX0_priceOf_2) (show 16 ≤ 16 + k by omega)).trans (congrArg (fun i => LRX0_priceOf_2[i]?) (show 16 + k - 16 = k by omega))
theorem LBX0_priceOfr_3 (k : Nat) : cX0_priceOf.data.toList[48 + k]? = LRX0_priceOf_3[k]? := by
  have h := LBX0_priceOfr_2 (16 + k)
  rw [show 32 + (16 + k) = 48 + k by omega] at h
  rw [h]
  exact (List.getElem?_append_right (l₁ := LBX0_priceOf_2) (l₂ := LRX0_priceOf_3) (show 16 ≤ 16 + k by omega)).trans (congrArg (fun i => LRX0_priceOf_3[i]?) (show 16 + k - 16 = k by omega))
theorem LBX0_priceOfr_4 (k : Nat) : cX0_priceOf.data.toList[64 + k]? = LRX0_priceOf_4[k]? := by
  have h := LBX0_priceOfr_3 (16 + k)
  rw [show 48 + (16 + k) = 64 + k by omega] at h
  rw [h]
  exact (List.getElem?_append_right (l₁ := LBX0_priceOf_3) (l₂ := LRX0_priceOf_4) (show 16 ≤ 16 + k by omega)).trans (congrArg (fun i => LRX0_priceOf_4[i]?) (show 16 + k - 16 = k by omega))
theorem dX0_priceOf_0 : decode cX0_priceOf 0 = .ok (.aload_n 0, 1) := dk_42_ (show cX0_priceOf.data.toList[0]? = some 0x2a from (LBX0_priceOfr_0 0).trans (by decide +kernel))
theorem dX0_priceOf_1 : decode cX0_priceOf 1 = .ok (.iload_n 1, 1) := dk_27_ (show cX0_priceOf.data.toList[1]? = some 0x1b from (LBX0_priceOfr_0 1).trans (by decide +kernel))
theorem dX0_priceOf_2 : decode cX0_priceOf 2 = .ok (.iload_n 3, 1) := dk_29_ (show cX0_priceOf.data.toList[2]? = some 0x1d from (LBX0_priceOfr_0 2).trans (by decide +kernel))
theorem dX0_priceOf_3 : decode cX0_priceOf 3 = .ok (.invokevirtual 66, 3) := dk_182_ (show cX0_priceOf.data.toList[3]? = some 0xb6 from (LBX0_priceOfr_0 3).trans (by decide +kernel)) (show cX0_priceOf.data.toList[4]? = some 0x00 from (LBX0_priceOfr_0 4).trans (by decide +kernel)) (show cX0_priceOf.data.toList[5]? = some 0x42 from (LBX0_priceOfr_0 5).trans (by decide +kernel)) (by decide)
theorem dX0_priceOf_6 : decode cX0_priceOf 6 = .ok (.istore 5, 2) := dk_54_ (show cX0_priceOf.data.toList[6]? = some 0x36 from (LBX0_priceOfr_0 6).trans (by decide +kernel)) (show cX0_priceOf.data.toList[7]? = some 0x05 from (LBX0_priceOfr_0 7).trans (by decide +kernel)) (by decide)
theorem dX0_priceOf_8 : decode cX0_priceOf 8 = .ok (.aload_n 0, 1) := dk_42_ (show cX0_priceOf.data.toList[8]? = some 0x2a from (LBX0_priceOfr_0 8).trans (by decide +kernel))
theorem dX0_priceOf_9 : decode cX0_priceOf 9 = .ok (.iload_n 2, 1) := dk_28_ (show cX0_priceOf.data.toList[9]? = some 0x1c from (LBX0_priceOfr_0 9).trans (by decide +kernel))
theorem dX0_priceOf_10 : decode cX0_priceOf 10 = .ok (.iload_n 3, 1) := dk_29_ (show cX0_priceOf.data.toList[10]? = some 0x1d from (LBX0_priceOfr_0 10).trans (by decide +kernel))
theorem dX0_priceOf_11 : decode cX0_priceOf 11 = .ok (.invokevirtual 66, 3) := dk_182_ (show cX0_priceOf.data.toList[11]? = some 0xb6 from (LBX0_priceOfr_0 11).trans (by decide +kernel)) (show cX0_priceOf.data.toList[12]? = some 0x00 from (LBX0_priceOfr_0 12).trans (by decide +kernel)) (show cX0_priceOf.data.toList[13]? = some 0x42 from (LBX0_priceOfr_0 13).trans (by decide +kernel)) (by decide)
theorem dX0_priceOf_14 : decode cX0_priceOf 14 = .ok (.istore 6, 2) := dk_54_ (show cX0_priceOf.data.toList[14]? = some 0x36 from (LBX0_priceOfr_0 14).trans (by decide +kernel)) (show cX0_priceOf.data.toList[15]? = some 0x06 from (LBX0_priceOfr_0 15).trans (by decide +kernel)) (by decide)
theorem dX0_priceOf_16 : decode cX0_priceOf 16 = .ok (.iload 4, 2) := dk_21_ (show cX0_priceOf.data.toList[16]? = some 0x15 from (LBX0_priceOfr_1 0).trans (by decide +kernel)) (show cX0_priceOf.data.toList[17]? = some 0x04 from (LBX0_priceOfr_1 1).trans (by decide +kernel)) (by decide)
theorem dX0_priceOf_18 : decode cX0_priceOf 18 = .ok (.iconst 1, 1) := dk_4_ (show cX0_priceOf.data.toList[18]? = some 0x04 from (LBX0_priceOfr_1 2).trans (by decide +kernel))
theorem dX0_priceOf_19 : decode cX0_priceOf 19 = .ok (.if_icmp .ne 11, 3) := dk_160_ (show cX0_priceOf.data.toList[19]? = some 0xa0 from (LBX0_priceOfr_1 3).trans (by decide +kernel)) (show cX0_priceOf.data.toList[20]? = some 0x00 from (LBX0_priceOfr_1 4).trans (by decide +kernel)) (show cX0_priceOf.data.toList[21]? = some 0x0b from (LBX0_priceOfr_1 5).trans (by decide +kernel)) (by decide)
theorem dX0_priceOf_22 : decode cX0_priceOf 22 = .ok (.iload 5, 2) := dk_21_ (show cX0_priceOf.data.toList[22]? = some 0x15 from (LBX0_priceOfr_1 6).trans (by decide +kernel)) (show cX0_priceOf.data.toList[23]? = some 0x05 from (LBX0_priceOfr_1 7).trans (by decide +kernel)) (by decide)
theorem dX0_priceOf_24 : decode cX0_priceOf 24 = .ok (.iload 6, 2) := dk_21_ (show cX0_priceOf.data.toList[24]? = some 0x15 from (LBX0_priceOfr_1 8).trans (by decide +kernel)) (show cX0_priceOf.data.toList[25]? = some 0x06 from (LBX0_priceOfr_1 9).trans (by decide +kernel)) (by decide)
theorem dX0_priceOf_26 : decode cX0_priceOf 26 = .ok (.invokestatic 46, 3) := dk_184_ (show cX0_priceOf.data.toList[26]? = some 0xb8 from (LBX0_priceOfr_1 10).trans (by decide +kernel)) (show cX0_priceOf.data.toList[27]? = some 0x00 from (LBX0_priceOfr_1 11).trans (by decide +kernel)) (show cX0_priceOf.data.toList[28]? = some 0x2e from (LBX0_priceOfr_1 12).trans (by decide +kernel)) (by decide)
theorem dX0_priceOf_29 : decode cX0_priceOf 29 = .ok (.ireturn, 1) := dk_172_ (show cX0_priceOf.data.toList[29]? = some 0xac from (LBX0_priceOfr_1 13).trans (by decide +kernel))
theorem dX0_priceOf_30 : decode cX0_priceOf 30 = .ok (.iload 5, 2) := dk_21_ (show cX0_priceOf.data.toList[30]? = some 0x15 from (LBX0_priceOfr_1 14).trans (by decide +kernel)) (show cX0_priceOf.data.toList[31]? = some 0x05 from (LBX0_priceOfr_1 15).trans (by decide +kernel)) (by decide)
theorem dX0_priceOf_32 : decode cX0_priceOf 32 = .ok (.iload 6, 2) := dk_21_ (show cX0_priceOf.data.toList[32]? = some 0x15 from (LBX0_priceOfr_2 0).trans (by decide +kernel)) (show cX0_priceOf.data.toList[33]? = some 0x06 from (LBX0_priceOfr_2 1).trans (by decide +kernel)) (by decide)
theorem dX0_priceOf_34 : decode cX0_priceOf 34 = .ok (.invokestatic 42, 3) := dk_184_ (show cX0_priceOf.data.toList[34]? = some 0xb8 from (LBX0_priceOfr_2 2).trans (by decide +kernel)) (show cX0_priceOf.data.toList[35]? = some 0x00 from (LBX0_priceOfr_2 3).trans (by decide +kernel)) (show cX0_priceOf.data.toList[36]? = some 0x2a from (LBX0_priceOfr_2 4).trans (by decide +kernel)) (by decide)
theorem dX0_priceOf_37 : decode cX0_priceOf 37 = .ok (.istore 7, 2) := dk_54_ (show cX0_priceOf.data.toList[37]? = some 0x36 from (LBX0_priceOfr_2 5).trans (by decide +kernel)) (show cX0_priceOf.data.toList[38]? = some 0x07 from (LBX0_priceOfr_2 6).trans (by decide +kernel)) (by decide)
theorem dX0_priceOf_39 : decode cX0_priceOf 39 = .ok (.iload 4, 2) := dk_21_ (show cX0_priceOf.data.toList[39]? = some 0x15 from (LBX0_priceOfr_2 7).trans (by decide +kernel)) (show cX0_priceOf.data.toList[40]? = some 0x04 from (LBX0_priceOfr_2 8).trans (by decide +kernel)) (by decide)
theorem dX0_priceOf_41 : decode cX0_priceOf 41 = .ok (.ifCond .ne 8, 3) := dk_154_ (show cX0_priceOf.data.toList[41]? = some 0x9a from (LBX0_priceOfr_2 9).trans (by decide +kernel)) (show cX0_priceOf.data.toList[42]? = some 0x00 from (LBX0_priceOfr_2 10).trans (by decide +kernel)) (show cX0_priceOf.data.toList[43]? = some 0x08 from (LBX0_priceOfr_2 11).trans (by decide +kernel)) (by decide)
theorem dX0_priceOf_44 : decode cX0_priceOf 44 = .ok (.iload 7, 2) := dk_21_ (show cX0_priceOf.data.toList[44]? = some 0x15 from (LBX0_priceOfr_2 12).trans (by decide +kernel)) (show cX0_priceOf.data.toList[45]? = some 0x07 from (LBX0_priceOfr_2 13).trans (by decide +kernel)) (by decide)
theorem dX0_priceOf_46 : decode cX0_priceOf 46 = .ok (.goto 23, 3) := dk_167_ (show cX0_priceOf.data.toList[46]? = some 0xa7 from (LBX0_priceOfr_2 14).trans (by decide +kernel)) (show cX0_priceOf.data.toList[47]? = some 0x00 from (LBX0_priceOfr_2 15).trans (by decide +kernel)) (show cX0_priceOf.data.toList[48]? = some 0x17 from (LBX0_priceOfr_3 0).trans (by decide +kernel)) (by decide)
theorem dX0_priceOf_49 : decode cX0_priceOf 49 = .ok (.iload 7, 2) := dk_21_ (show cX0_priceOf.data.toList[49]? = some 0x15 from (LBX0_priceOfr_3 1).trans (by decide +kernel)) (show cX0_priceOf.data.toList[50]? = some 0x07 from (LBX0_priceOfr_3 2).trans (by decide +kernel)) (by decide)
theorem dX0_priceOf_51 : decode cX0_priceOf 51 = .ok (.aload_n 0, 1) := dk_42_ (show cX0_priceOf.data.toList[51]? = some 0x2a from (LBX0_priceOfr_3 3).trans (by decide +kernel))
theorem dX0_priceOf_52 : decode cX0_priceOf 52 = .ok (.iload_n 3, 1) := dk_29_ (show cX0_priceOf.data.toList[52]? = some 0x1d from (LBX0_priceOfr_3 4).trans (by decide +kernel))
theorem dX0_priceOf_53 : decode cX0_priceOf 53 = .ok (.iload_n 1, 1) := dk_27_ (show cX0_priceOf.data.toList[53]? = some 0x1b from (LBX0_priceOfr_3 5).trans (by decide +kernel))
theorem dX0_priceOf_54 : decode cX0_priceOf 54 = .ok (.invokevirtual 66, 3) := dk_182_ (show cX0_priceOf.data.toList[54]? = some 0xb6 from (LBX0_priceOfr_3 6).trans (by decide +kernel)) (show cX0_priceOf.data.toList[55]? = some 0x00 from (LBX0_priceOfr_3 7).trans (by decide +kernel)) (show cX0_priceOf.data.toList[56]? = some 0x42 from (LBX0_priceOfr_3 8).trans (by decide +kernel)) (by decide)
theorem dX0_priceOf_57 : decode cX0_priceOf 57 = .ok (.aload_n 0, 1) := dk_42_ (show cX0_priceOf.data.toList[57]? = some 0x2a from (LBX0_priceOfr_3 9).trans (by decide +kernel))
theorem dX0_priceOf_58 : decode cX0_priceOf 58 = .ok (.iload_n 3, 1) := dk_29_ (show cX0_priceOf.data.toList[58]? = some 0x1d from (LBX0_priceOfr_3 10).trans (by decide +kernel))
theorem dX0_priceOf_59 : decode cX0_priceOf 59 = .ok (.iload_n 2, 1) := dk_28_ (show cX0_priceOf.data.toList[59]? = some 0x1c from (LBX0_priceOfr_3 11).trans (by decide +kernel))
theorem dX0_priceOf_60 : decode cX0_priceOf 60 = .ok (.invokevirtual 66, 3) := dk_182_ (show cX0_priceOf.data.toList[60]? = some 0xb6 from (LBX0_priceOfr_3 12).trans (by decide +kernel)) (show cX0_priceOf.data.toList[61]? = some 0x00 from (LBX0_priceOfr_3 13).trans (by decide +kernel)) (show cX0_priceOf.data.toList[62]? = some 0x42 from (LBX0_priceOfr_3 14).trans (by decide +kernel)) (by decide)
theorem dX0_priceOf_63 : decode cX0_priceOf 63 = .ok (.invokestatic 42, 3) := dk_184_ (show cX0_priceOf.data.toList[63]? = some 0xb8 from (LBX0_priceOfr_3 15).trans (by decide +kernel)) (show cX0_priceOf.data.toList[64]? = some 0x00 from (LBX0_priceOfr_4 0).trans (by decide +kernel)) (show cX0_priceOf.data.toList[65]? = some 0x2a from (LBX0_priceOfr_4 1).trans (by decide +kernel)) (by decide)
theorem dX0_priceOf_66 : decode cX0_priceOf 66 = .ok (.invokestatic 42, 3) := dk_184_ (show cX0_priceOf.data.toList[66]? = some 0xb8 from (LBX0_priceOfr_4 2).trans (by decide +kernel)) (show cX0_priceOf.data.toList[67]? = some 0x00 from (LBX0_priceOfr_4 3).trans (by decide +kernel)) (show cX0_priceOf.data.toList[68]? = some 0x2a from (LBX0_priceOfr_4 4).trans (by decide +kernel)) (by decide)
theorem dX0_priceOf_69 : decode cX0_priceOf 69 = .ok (.ireturn, 1) := dk_172_ (show cX0_priceOf.data.toList[69]? = some 0xac from (LBX0_priceOfr_4 5).trans (by decide +kernel))
def LRX0_meetingOf_4 : List UInt8 := []
def LBX0_meetingOf_3 : List UInt8 := [0xa7, 0xff, 0xda, 0x15, 0x04, 0xac]
def LRX0_meetingOf_3 : List UInt8 := LBX0_meetingOf_3 ++ LRX0_meetingOf_4
def LBX0_meetingOf_2 : List UInt8 := [0x15, 0x05, 0xa2, 0x00, 0x0b, 0x15, 0x06, 0x36, 0x04, 0x15, 0x07, 0x36, 0x05, 0x84, 0x06, 0x01]
def LRX0_meetingOf_2 : List UInt8 := LBX0_meetingOf_2 ++ LRX0_meetingOf_3
def LBX0_meetingOf_1 : List UInt8 := [0xa2, 0x00, 0x23, 0x2a, 0x1b, 0x1c, 0x15, 0x06, 0x1d, 0xb6, 0x00, 0x4d, 0x36, 0x07, 0x15, 0x07]
def LRX0_meetingOf_1 : List UInt8 := LBX0_meetingOf_1 ++ LRX0_meetingOf_2
def LBX0_meetingOf_0 : List UInt8 := [0x02, 0x36, 0x04, 0x12, 0x26, 0x36, 0x05, 0x03, 0x36, 0x06, 0x15, 0x06, 0x2a, 0xb4, 0x00, 0x09]
def LRX0_meetingOf_0 : List UInt8 := LBX0_meetingOf_0 ++ LRX0_meetingOf_1
set_option maxRecDepth 100000 in
theorem LBX0_meetingOf_eq : cX0_meetingOf.data.toList = LRX0_meetingOf_0 := by decide +kernel
theorem LBX0_meetingOfr_0 (k : Nat) : cX0_meetingOf.data.toList[0 + k]? = LRX0_meetingOf_0[k]? := by rw [LBX0_meetingOf_eq, Nat.zero_add]
theorem LBX0_meetingOfr_1 (k : Nat) : cX0_meetingOf.data.toList[16 + k]? = LRX0_meetingOf_1[k]? := by
  have h := LBX0_meetingOfr_0 (16 + k)
  rw [show 0 + (16 + k) = 16 + k by omega] at h
  rw [h]
  exact (List.getElem?_append_right (l₁ := LBX0_meetingOf_0) (l₂ := LRX0_meetingOf_1) (show 16 ≤ 16 + k by omega)).trans (congrArg (fun i => LRX0_meetingOf_1[i]?) (show 16 + k - 16 = k by omega))
theorem LBX0_meetingOfr_2 (k : Nat) : cX0_meetingOf.data.toList[32 + k]? = LRX0_meetingOf_2[k]? := by
  have h := LBX0_meetingOfr_1 (16 + k)
  rw [show 16 + (16 + k) = 32 + k by omega] at h
  rw [h]
  exact (List.getElem?_append_right (l₁ := LBX0_meetingOf_1) (l₂ := LRX0_meetingOf_2) (show 16 ≤ 16 + k by omega)).trans (congrArg (fun i => LRX0_meetingOf_2[i]?) (show 16 + k - 16 = k by omega))
theorem LBX0_meetingOfr_3 (k : Nat) : cX0_meetingOf.data.toList[48 + k]? = LRX0_meetingOf_3[k]? := by
  have h := LBX0_meetingOfr_2 (16 + k)
  rw [show 32 + (16 + k) = 48 + k by omega] at h
  rw [h]
  exact (List.getElem?_append_right (l₁ := LBX0_meetingOf_2) (l₂ := LRX0_meetingOf_3) (show 16 ≤ 16 + k by omega)).trans (congrArg (fun i => LRX0_meetingOf_3[i]?) (show 16 + k - 16 = k by omega))
theorem dX0_meetingOf_0 : decode cX0_meetingOf 0 = .ok (.iconst (-1), 1) := dk_2_ (show cX0_meetingOf.data.toList[0]? = some 0x02 from (LBX0_meetingOfr_0 0).trans (by decide +kernel))
theorem dX0_meetingOf_1 : decode cX0_meetingOf 1 = .ok (.istore 4, 2) := dk_54_ (show cX0_meetingOf.data.toList[1]? = some 0x36 from (LBX0_meetingOfr_0 1).trans (by decide +kernel)) (show cX0_meetingOf.data.toList[2]? = some 0x04 from (LBX0_meetingOfr_0 2).trans (by decide +kernel)) (by decide)
theorem dX0_meetingOf_3 : decode cX0_meetingOf 3 = .ok (.ldc 38, 2) := dk_18_ (show cX0_meetingOf.data.toList[3]? = some 0x12 from (LBX0_meetingOfr_0 3).trans (by decide +kernel)) (show cX0_meetingOf.data.toList[4]? = some 0x26 from (LBX0_meetingOfr_0 4).trans (by decide +kernel)) (by decide)
theorem dX0_meetingOf_5 : decode cX0_meetingOf 5 = .ok (.istore 5, 2) := dk_54_ (show cX0_meetingOf.data.toList[5]? = some 0x36 from (LBX0_meetingOfr_0 5).trans (by decide +kernel)) (show cX0_meetingOf.data.toList[6]? = some 0x05 from (LBX0_meetingOfr_0 6).trans (by decide +kernel)) (by decide)
theorem dX0_meetingOf_7 : decode cX0_meetingOf 7 = .ok (.iconst 0, 1) := dk_3_ (show cX0_meetingOf.data.toList[7]? = some 0x03 from (LBX0_meetingOfr_0 7).trans (by decide +kernel))
theorem dX0_meetingOf_8 : decode cX0_meetingOf 8 = .ok (.istore 6, 2) := dk_54_ (show cX0_meetingOf.data.toList[8]? = some 0x36 from (LBX0_meetingOfr_0 8).trans (by decide +kernel)) (show cX0_meetingOf.data.toList[9]? = some 0x06 from (LBX0_meetingOfr_0 9).trans (by decide +kernel)) (by decide)
theorem dX0_meetingOf_10 : decode cX0_meetingOf 10 = .ok (.iload 6, 2) := dk_21_ (show cX0_meetingOf.data.toList[10]? = some 0x15 from (LBX0_meetingOfr_0 10).trans (by decide +kernel)) (show cX0_meetingOf.data.toList[11]? = some 0x06 from (LBX0_meetingOfr_0 11).trans (by decide +kernel)) (by decide)
theorem dX0_meetingOf_12 : decode cX0_meetingOf 12 = .ok (.aload_n 0, 1) := dk_42_ (show cX0_meetingOf.data.toList[12]? = some 0x2a from (LBX0_meetingOfr_0 12).trans (by decide +kernel))
theorem dX0_meetingOf_13 : decode cX0_meetingOf 13 = .ok (.getfield 9, 3) := dk_180_ (show cX0_meetingOf.data.toList[13]? = some 0xb4 from (LBX0_meetingOfr_0 13).trans (by decide +kernel)) (show cX0_meetingOf.data.toList[14]? = some 0x00 from (LBX0_meetingOfr_0 14).trans (by decide +kernel)) (show cX0_meetingOf.data.toList[15]? = some 0x09 from (LBX0_meetingOfr_0 15).trans (by decide +kernel)) (by decide)
theorem dX0_meetingOf_16 : decode cX0_meetingOf 16 = .ok (.if_icmp .ge 35, 3) := dk_162_ (show cX0_meetingOf.data.toList[16]? = some 0xa2 from (LBX0_meetingOfr_1 0).trans (by decide +kernel)) (show cX0_meetingOf.data.toList[17]? = some 0x00 from (LBX0_meetingOfr_1 1).trans (by decide +kernel)) (show cX0_meetingOf.data.toList[18]? = some 0x23 from (LBX0_meetingOfr_1 2).trans (by decide +kernel)) (by decide)
theorem dX0_meetingOf_19 : decode cX0_meetingOf 19 = .ok (.aload_n 0, 1) := dk_42_ (show cX0_meetingOf.data.toList[19]? = some 0x2a from (LBX0_meetingOfr_1 3).trans (by decide +kernel))
theorem dX0_meetingOf_20 : decode cX0_meetingOf 20 = .ok (.iload_n 1, 1) := dk_27_ (show cX0_meetingOf.data.toList[20]? = some 0x1b from (LBX0_meetingOfr_1 4).trans (by decide +kernel))
theorem dX0_meetingOf_21 : decode cX0_meetingOf 21 = .ok (.iload_n 2, 1) := dk_28_ (show cX0_meetingOf.data.toList[21]? = some 0x1c from (LBX0_meetingOfr_1 5).trans (by decide +kernel))
theorem dX0_meetingOf_22 : decode cX0_meetingOf 22 = .ok (.iload 6, 2) := dk_21_ (show cX0_meetingOf.data.toList[22]? = some 0x15 from (LBX0_meetingOfr_1 6).trans (by decide +kernel)) (show cX0_meetingOf.data.toList[23]? = some 0x06 from (LBX0_meetingOfr_1 7).trans (by decide +kernel)) (by decide)
theorem dX0_meetingOf_24 : decode cX0_meetingOf 24 = .ok (.iload_n 3, 1) := dk_29_ (show cX0_meetingOf.data.toList[24]? = some 0x1d from (LBX0_meetingOfr_1 8).trans (by decide +kernel))
theorem dX0_meetingOf_25 : decode cX0_meetingOf 25 = .ok (.invokevirtual 77, 3) := dk_182_ (show cX0_meetingOf.data.toList[25]? = some 0xb6 from (LBX0_meetingOfr_1 9).trans (by decide +kernel)) (show cX0_meetingOf.data.toList[26]? = some 0x00 from (LBX0_meetingOfr_1 10).trans (by decide +kernel)) (show cX0_meetingOf.data.toList[27]? = some 0x4d from (LBX0_meetingOfr_1 11).trans (by decide +kernel)) (by decide)
theorem dX0_meetingOf_28 : decode cX0_meetingOf 28 = .ok (.istore 7, 2) := dk_54_ (show cX0_meetingOf.data.toList[28]? = some 0x36 from (LBX0_meetingOfr_1 12).trans (by decide +kernel)) (show cX0_meetingOf.data.toList[29]? = some 0x07 from (LBX0_meetingOfr_1 13).trans (by decide +kernel)) (by decide)
theorem dX0_meetingOf_30 : decode cX0_meetingOf 30 = .ok (.iload 7, 2) := dk_21_ (show cX0_meetingOf.data.toList[30]? = some 0x15 from (LBX0_meetingOfr_1 14).trans (by decide +kernel)) (show cX0_meetingOf.data.toList[31]? = some 0x07 from (LBX0_meetingOfr_1 15).trans (by decide +kernel)) (by decide)
theorem dX0_meetingOf_32 : decode cX0_meetingOf 32 = .ok (.iload 5, 2) := dk_21_ (show cX0_meetingOf.data.toList[32]? = some 0x15 from (LBX0_meetingOfr_2 0).trans (by decide +kernel)) (show cX0_meetingOf.data.toList[33]? = some 0x05 from (LBX0_meetingOfr_2 1).trans (by decide +kernel)) (by decide)
theorem dX0_meetingOf_34 : decode cX0_meetingOf 34 = .ok (.if_icmp .ge 11, 3) := dk_162_ (show cX0_meetingOf.data.toList[34]? = some 0xa2 from (LBX0_meetingOfr_2 2).trans (by decide +kernel)) (show cX0_meetingOf.data.toList[35]? = some 0x00 from (LBX0_meetingOfr_2 3).trans (by decide +kernel)) (show cX0_meetingOf.data.toList[36]? = some 0x0b from (LBX0_meetingOfr_2 4).trans (by decide +kernel)) (by decide)
theorem dX0_meetingOf_37 : decode cX0_meetingOf 37 = .ok (.iload 6, 2) := dk_21_ (show cX0_meetingOf.data.toList[37]? = some 0x15 from (LBX0_meetingOfr_2 5).trans (by decide +kernel)) (show cX0_meetingOf.data.toList[38]? = some 0x06 from (LBX0_meetingOfr_2 6).trans (by decide +kernel)) (by decide)
theorem dX0_meetingOf_39 : decode cX0_meetingOf 39 = .ok (.istore 4, 2) := dk_54_ (show cX0_meetingOf.data.toList[39]? = some 0x36 from (LBX0_meetingOfr_2 7).trans (by decide +kernel)) (show cX0_meetingOf.data.toList[40]? = some 0x04 from (LBX0_meetingOfr_2 8).trans (by decide +kernel)) (by decide)
theorem dX0_meetingOf_41 : decode cX0_meetingOf 41 = .ok (.iload 7, 2) := dk_21_ (show cX0_meetingOf.data.toList[41]? = some 0x15 from (LBX0_meetingOfr_2 9).trans (by decide +kernel)) (show cX0_meetingOf.data.toList[42]? = some 0x07 from (LBX0_meetingOfr_2 10).trans (by decide +kernel)) (by decide)
theorem dX0_meetingOf_43 : decode cX0_meetingOf 43 = .ok (.istore 5, 2) := dk_54_ (show cX0_meetingOf.data.toList[43]? = some 0x36 from (LBX0_meetingOfr_2 11).trans (by decide +kernel)) (show cX0_meetingOf.data.toList[44]? = some 0x05 from (LBX0_meetingOfr_2 12).trans (by decide +kernel)) (by decide)
theorem dX0_meetingOf_45 : decode cX0_meetingOf 45 = .ok (.iinc 6 1, 3) := dk_132_ (show cX0_meetingOf.data.toList[45]? = some 0x84 from (LBX0_meetingOfr_2 13).trans (by decide +kernel)) (show cX0_meetingOf.data.toList[46]? = some 0x06 from (LBX0_meetingOfr_2 14).trans (by decide +kernel)) (show cX0_meetingOf.data.toList[47]? = some 0x01 from (LBX0_meetingOfr_2 15).trans (by decide +kernel)) (by decide) (by decide)
theorem dX0_meetingOf_48 : decode cX0_meetingOf 48 = .ok (.goto (-38), 3) := dk_167_ (show cX0_meetingOf.data.toList[48]? = some 0xa7 from (LBX0_meetingOfr_3 0).trans (by decide +kernel)) (show cX0_meetingOf.data.toList[49]? = some 0xff from (LBX0_meetingOfr_3 1).trans (by decide +kernel)) (show cX0_meetingOf.data.toList[50]? = some 0xda from (LBX0_meetingOfr_3 2).trans (by decide +kernel)) (by decide)
theorem dX0_meetingOf_51 : decode cX0_meetingOf 51 = .ok (.iload 4, 2) := dk_21_ (show cX0_meetingOf.data.toList[51]? = some 0x15 from (LBX0_meetingOfr_3 3).trans (by decide +kernel)) (show cX0_meetingOf.data.toList[52]? = some 0x04 from (LBX0_meetingOfr_3 4).trans (by decide +kernel)) (by decide)
theorem dX0_meetingOf_53 : decode cX0_meetingOf 53 = .ok (.ireturn, 1) := dk_172_ (show cX0_meetingOf.data.toList[53]? = some 0xac from (LBX0_meetingOfr_3 5).trans (by decide +kernel))
def LRX0_mendFrom_12 : List UInt8 := []
def LBX0_mendFrom_11 : List UInt8 := [0xff, 0xaa, 0x04, 0xac]
def LRX0_mendFrom_11 : List UInt8 := LBX0_mendFrom_11 ++ LRX0_mendFrom_12
def LBX0_mendFrom_10 : List UInt8 := [0x00, 0x27, 0xb8, 0x00, 0x51, 0x4f, 0x84, 0x0b, 0x01, 0xa7, 0xff, 0xcb, 0x84, 0x09, 0x01, 0xa7]
def LRX0_mendFrom_10 : List UInt8 := LBX0_mendFrom_10 ++ LRX0_mendFrom_11
def LBX0_mendFrom_9 : List UInt8 := [0x10, 0x0a, 0x15, 0x09, 0x68, 0x15, 0x0b, 0x60, 0x15, 0x0c, 0x2b, 0x15, 0x09, 0x15, 0x0b, 0xb6]
def LRX0_mendFrom_9 : List UInt8 := LBX0_mendFrom_9 ++ LRX0_mendFrom_10
def LBX0_mendFrom_8 : List UInt8 := [0x15, 0x07, 0x15, 0x0b, 0xb6, 0x00, 0x27, 0xb8, 0x00, 0x2a, 0x36, 0x0c, 0x2a, 0xb4, 0x00, 0x0f]
def LRX0_mendFrom_8 : List UInt8 := LBX0_mendFrom_8 ++ LRX0_mendFrom_9
def LBX0_mendFrom_7 : List UInt8 := [0x0a, 0x03, 0x36, 0x0b, 0x15, 0x0b, 0x2a, 0xb4, 0x00, 0x09, 0xa2, 0x00, 0x32, 0x15, 0x0a, 0x2b]
def LRX0_mendFrom_7 : List UInt8 := LBX0_mendFrom_7 ++ LRX0_mendFrom_8
def LBX0_mendFrom_6 : List UInt8 := [0x00, 0x53, 0x2b, 0x15, 0x09, 0x15, 0x06, 0xb6, 0x00, 0x27, 0x15, 0x08, 0xb8, 0x00, 0x2a, 0x36]
def LRX0_mendFrom_6 : List UInt8 := LBX0_mendFrom_6 ++ LRX0_mendFrom_7
def LBX0_mendFrom_5 : List UInt8 := [0xb4, 0x00, 0x09, 0xb5, 0x00, 0x09, 0x03, 0x36, 0x09, 0x15, 0x09, 0x2a, 0xb4, 0x00, 0x09, 0xa2]
def LRX0_mendFrom_5 : List UInt8 := LBX0_mendFrom_5 ++ LRX0_mendFrom_6
def LBX0_mendFrom_4 : List UInt8 := [0x07, 0x15, 0x06, 0xb6, 0x00, 0x27, 0xb8, 0x00, 0x2a, 0x9c, 0x00, 0x05, 0x03, 0xac, 0x2a, 0x2b]
def LRX0_mendFrom_4 : List UInt8 := LBX0_mendFrom_4 ++ LRX0_mendFrom_5
def LBX0_mendFrom_3 : List UInt8 := [0x36, 0x07, 0x2c, 0x15, 0x07, 0x15, 0x06, 0xb8, 0x00, 0x16, 0x36, 0x08, 0x15, 0x08, 0x2b, 0x15]
def LRX0_mendFrom_3 : List UInt8 := LBX0_mendFrom_3 ++ LRX0_mendFrom_4
def LBX0_mendFrom_2 : List UInt8 := [0x00, 0x04, 0x1d, 0x36, 0x06, 0x15, 0x05, 0x99, 0x00, 0x07, 0x1d, 0xa7, 0x00, 0x05, 0x15, 0x04]
def LRX0_mendFrom_2 : List UInt8 := LBX0_mendFrom_2 ++ LRX0_mendFrom_3
def LBX0_mendFrom_1 : List UInt8 := [0x07, 0x04, 0xa7, 0x00, 0x04, 0x03, 0x36, 0x05, 0x15, 0x05, 0x99, 0x00, 0x08, 0x15, 0x04, 0xa7]
def LRX0_mendFrom_1 : List UInt8 := LBX0_mendFrom_1 ++ LRX0_mendFrom_2
def LBX0_mendFrom_0 : List UInt8 := [0x2c, 0x1d, 0x15, 0x04, 0xb6, 0x00, 0x22, 0x2c, 0x15, 0x04, 0x1d, 0xb6, 0x00, 0x22, 0xa3, 0x00]
def LRX0_mendFrom_0 : List UInt8 := LBX0_mendFrom_0 ++ LRX0_mendFrom_1
set_option maxRecDepth 100000 in
theorem LBX0_mendFrom_eq : cX0_mendFrom.data.toList = LRX0_mendFrom_0 := by decide +kernel
theorem LBX0_mendFromr_0 (k : Nat) : cX0_mendFrom.data.toList[0 + k]? = LRX0_mendFrom_0[k]? := by rw [LBX0_mendFrom_eq, Nat.zero_add]
theorem LBX0_mendFromr_1 (k : Nat) : cX0_mendFrom.data.toList[16 + k]? = LRX0_mendFrom_1[k]? := by
  have h := LBX0_mendFromr_0 (16 + k)
  rw [show 0 + (16 + k) = 16 + k by omega] at h
  rw [h]
  exact (List.getElem?_append_right (l₁ := LBX0_mendFrom_0) (l₂ := LRX0_mendFrom_1) (show 16 ≤ 16 + k by omega)).trans (congrArg (fun i => LRX0_mendFrom_1[i]?) (show 16 + k - 16 = k by omega))
theorem LBX0_mendFromr_2 (k : Nat) : cX0_mendFrom.data.toList[32 + k]? = LRX0_mendFrom_2[k]? := by
  have h := LBX0_mendFromr_1 (16 + k)
  rw [show 16 + (16 + k) = 32 + k by omega] at h
  rw [h]
  exact (List.getElem?_append_right (l₁ := LBX0_mendFrom_1) (l₂ := LRX0_mendFrom_2) (show 16 ≤ 16 + k by omega)).trans (congrArg (fun i => LRX0_mendFrom_2[i]?) (show 16 + k - 16 = k by omega))
theorem LBX0_mendFromr_3 (k : Nat) : cX0_mendFrom.data.toList[48 + k]? = LRX0_mendFrom_3[k]? := by
  have h := LBX0_mendFromr_2 (16 + k)
  rw [show 32 + (16 + k) = 48 + k by omega] at h
  rw [h]
  exact (List.getElem?_append_right (l₁ := LBX0_mendFrom_2) (l₂ := LRX0_mendFrom_3) (show 16 ≤ 16 + k by omega)).trans (congrArg (fun i => LRX0_mendFrom_3[i]?) (show 16 + k - 16 = k by omega))
theorem LBX0_mendFromr_4 (k : Nat) : cX0_mendFrom.data.toList[64 + k]? = LRX0_mendFrom_4[k]? := by
  have h := LBX0_mendFromr_3 (16 + k)
  rw [show 48 + (16 + k) = 64 + k by omega] at h
  rw [h]
  exact (List.getElem?_append_right (l₁ := LBX0_mendFrom_3) (l₂ := LRX0_mendFrom_4) (show 16 ≤ 16 + k by omega)).trans (congrArg (fun i => LRX0_mendFrom_4[i]?) (show 16 + k - 16 = k by omega))
theorem LBX0_mendFromr_5 (k : Nat) : cX0_mendFrom.data.toList[80 + k]? = LRX0_mendFrom_5[k]? := by
  have h := LBX0_mendFromr_4 (16 + k)
  rw [show 64 + (16 + k) = 80 + k by omega] at h
  rw [h]
  exact (List.getElem?_append_right (l₁ := LBX0_mendFrom_4) (l₂ := LRX0_mendFrom_5) (show 16 ≤ 16 + k by omega)).trans (congrArg (fun i => LRX0_mendFrom_5[i]?) (show 16 + k - 16 = k by omega))
theorem LBX0_mendFromr_6 (k : Nat) : cX0_mendFrom.data.toList[96 + k]? = LRX0_mendFrom_6[k]? := by
  have h := LBX0_mendFromr_5 (16 + k)
  rw [show 80 + (16 + k) = 96 + k by omega] at h
  rw [h]
  exact (List.getElem?_append_right (l₁ := LBX0_mendFrom_5) (l₂ := LRX0_mendFrom_6) (show 16 ≤ 16 + k by omega)).trans (congrArg (fun i => LRX0_mendFrom_6[i]?) (show 16 + k - 16 = k by omega))
theorem LBX0_mendFromr_7 (k : Nat) : cX0_mendFrom.data.toList[112 + k]? = LRX0_mendFrom_7[k]? := by
  have h := LBX0_mendFromr_6 (16 + k)
  rw [show 96 + (16 + k) = 112 + k by omega] at h
  rw [h]
  exact (List.getElem?_append_right (l₁ := LBX0_mendFrom_6) (l₂ := LRX0_mendFrom_7) (show 16 ≤ 16 + k by omega)).trans (congrArg (fun i => LRX0_mendFrom_7[i]?) (show 16 + k - 16 = k by omega))
theorem LBX0_mendFromr_8 (k : Nat) : cX0_mendFrom.data.toList[128 + k]? = LRX0_mendFrom_8[k]? := by
  have h := LBX0_mendFromr_7 (16 + k)
  rw [show 112 + (16 + k) = 128 + k by omega] at h
  rw [h]
  exact (List.getElem?_append_right (l₁ := LBX0_mendFrom_7) (l₂ := LRX0_mendFrom_8) (show 16 ≤ 16 + k by omega)).trans (congrArg (fun i => LRX0_mendFrom_8[i]?) (show 16 + k - 16 = k by omega))
theorem LBX0_mendFromr_9 (k : Nat) : cX0_mendFrom.data.toList[144 + k]? = LRX0_mendFrom_9[k]? := by
  have h := LBX0_mendFromr_8 (16 + k)
  rw [show 128 + (16 + k) = 144 + k by omega] at h
  rw [h]
  exact (List.getElem?_append_right (l₁ := LBX0_mendFrom_8) (l₂ := LRX0_mendFrom_9) (show 16 ≤ 16 + k by omega)).trans (congrArg (fun i => LRX0_mendFrom_9[i]?) (show 16 + k - 16 = k by omega))
theorem LBX0_mendFromr_10 (k : Nat) : cX0_mendFrom.data.toList[160 + k]? = LRX0_mendFrom_10[k]? := by
  have h := LBX0_mendFromr_9 (16 + k)
  rw [show 144 + (16 + k) = 160 + k by omega] at h
  rw [h]
  exact (List.getElem?_append_right (l₁ := LBX0_mendFrom_9) (l₂ := LRX0_mendFrom_10) (show 16 ≤ 16 + k by omega)).trans (congrArg (fun i => LRX0_mendFrom_10[i]?) (show 16 + k - 16 = k by omega))
theorem LBX0_mendFromr_11 (k : Nat) : cX0_mendFrom.data.toList[176 + k]? = LRX0_mendFrom_11[k]? := by
  have h := LBX0_mendFromr_10 (16 + k)
  rw [show 160 + (16 + k) = 176 + k by omega] at h
  rw [h]
  exact (List.getElem?_append_right (l₁ := LBX0_mendFrom_10) (l₂ := LRX0_mendFrom_11) (show 16 ≤ 16 + k by omega)).trans (congrArg (fun i => LRX0_mendFrom_11[i]?) (show 16 + k - 16 = k by omega))
theorem dX0_mendFrom_0 : decode cX0_mendFrom 0 = .ok (.aload_n 2, 1) := dk_44_ (show cX0_mendFrom.data.toList[0]? = some 0x2c from (LBX0_mendFromr_0 0).trans (by decide +kernel))
theorem dX0_mendFrom_1 : decode cX0_mendFrom 1 = .ok (.iload_n 3, 1) := dk_29_ (show cX0_mendFrom.data.toList[1]? = some 0x1d from (LBX0_mendFromr_0 1).trans (by decide +kernel))
theorem dX0_mendFrom_2 : decode cX0_mendFrom 2 = .ok (.iload 4, 2) := dk_21_ (show cX0_mendFrom.data.toList[2]? = some 0x15 from (LBX0_mendFromr_0 2).trans (by decide +kernel)) (show cX0_mendFrom.data.toList[3]? = some 0x04 from (LBX0_mendFromr_0 3).trans (by decide +kernel)) (by decide)
theorem dX0_mendFrom_4 : decode cX0_mendFrom 4 = .ok (.invokevirtual 34, 3) := dk_182_ (show cX0_mendFrom.data.toList[4]? = some 0xb6 from (LBX0_mendFromr_0 4).trans (by decide +kernel)) (show cX0_mendFrom.data.toList[5]? = some 0x00 from (LBX0_mendFromr_0 5).trans (by decide +kernel)) (show cX0_mendFrom.data.toList[6]? = some 0x22 from (LBX0_mendFromr_0 6).trans (by decide +kernel)) (by decide)
theorem dX0_mendFrom_7 : decode cX0_mendFrom 7 = .ok (.aload_n 2, 1) := dk_44_ (show cX0_mendFrom.data.toList[7]? = some 0x2c from (LBX0_mendFromr_0 7).trans (by decide +kernel))
theorem dX0_mendFrom_8 : decode cX0_mendFrom 8 = .ok (.iload 4, 2) := dk_21_ (show cX0_mendFrom.data.toList[8]? = some 0x15 from (LBX0_mendFromr_0 8).trans (by decide +kernel)) (show cX0_mendFrom.data.toList[9]? = some 0x04 from (LBX0_mendFromr_0 9).trans (by decide +kernel)) (by decide)
theorem dX0_mendFrom_10 : decode cX0_mendFrom 10 = .ok (.iload_n 3, 1) := dk_29_ (show cX0_mendFrom.data.toList[10]? = some 0x1d from (LBX0_mendFromr_0 10).trans (by decide +kernel))
theorem dX0_mendFrom_11 : decode cX0_mendFrom 11 = .ok (.invokevirtual 34, 3) := dk_182_ (show cX0_mendFrom.data.toList[11]? = some 0xb6 from (LBX0_mendFromr_0 11).trans (by decide +kernel)) (show cX0_mendFrom.data.toList[12]? = some 0x00 from (LBX0_mendFromr_0 12).trans (by decide +kernel)) (show cX0_mendFrom.data.toList[13]? = some 0x22 from (LBX0_mendFromr_0 13).trans (by decide +kernel)) (by decide)
theorem dX0_mendFrom_14 : decode cX0_mendFrom 14 = .ok (.if_icmp .gt 7, 3) := dk_163_ (show cX0_mendFrom.data.toList[14]? = some 0xa3 from (LBX0_mendFromr_0 14).trans (by decide +kernel)) (show cX0_mendFrom.data.toList[15]? = some 0x00 from (LBX0_mendFromr_0 15).trans (by decide +kernel)) (show cX0_mendFrom.data.toList[16]? = some 0x07 from (LBX0_mendFromr_1 0).trans (by decide +kernel)) (by decide)
theorem dX0_mendFrom_17 : decode cX0_mendFrom 17 = .ok (.iconst 1, 1) := dk_4_ (show cX0_mendFrom.data.toList[17]? = some 0x04 from (LBX0_mendFromr_1 1).trans (by decide +kernel))
theorem dX0_mendFrom_18 : decode cX0_mendFrom 18 = .ok (.goto 4, 3) := dk_167_ (show cX0_mendFrom.data.toList[18]? = some 0xa7 from (LBX0_mendFromr_1 2).trans (by decide +kernel)) (show cX0_mendFrom.data.toList[19]? = some 0x00 from (LBX0_mendFromr_1 3).trans (by decide +kernel)) (show cX0_mendFrom.data.toList[20]? = some 0x04 from (LBX0_mendFromr_1 4).trans (by decide +kernel)) (by decide)
theorem dX0_mendFrom_21 : decode cX0_mendFrom 21 = .ok (.iconst 0, 1) := dk_3_ (show cX0_mendFrom.data.toList[21]? = some 0x03 from (LBX0_mendFromr_1 5).trans (by decide +kernel))
theorem dX0_mendFrom_22 : decode cX0_mendFrom 22 = .ok (.istore 5, 2) := dk_54_ (show cX0_mendFrom.data.toList[22]? = some 0x36 from (LBX0_mendFromr_1 6).trans (by decide +kernel)) (show cX0_mendFrom.data.toList[23]? = some 0x05 from (LBX0_mendFromr_1 7).trans (by decide +kernel)) (by decide)
theorem dX0_mendFrom_24 : decode cX0_mendFrom 24 = .ok (.iload 5, 2) := dk_21_ (show cX0_mendFrom.data.toList[24]? = some 0x15 from (LBX0_mendFromr_1 8).trans (by decide +kernel)) (show cX0_mendFrom.data.toList[25]? = some 0x05 from (LBX0_mendFromr_1 9).trans (by decide +kernel)) (by decide)
theorem dX0_mendFrom_26 : decode cX0_mendFrom 26 = .ok (.ifCond .eq 8, 3) := dk_153_ (show cX0_mendFrom.data.toList[26]? = some 0x99 from (LBX0_mendFromr_1 10).trans (by decide +kernel)) (show cX0_mendFrom.data.toList[27]? = some 0x00 from (LBX0_mendFromr_1 11).trans (by decide +kernel)) (show cX0_mendFrom.data.toList[28]? = some 0x08 from (LBX0_mendFromr_1 12).trans (by decide +kernel)) (by decide)
theorem dX0_mendFrom_29 : decode cX0_mendFrom 29 = .ok (.iload 4, 2) := dk_21_ (show cX0_mendFrom.data.toList[29]? = some 0x15 from (LBX0_mendFromr_1 13).trans (by decide +kernel)) (show cX0_mendFrom.data.toList[30]? = some 0x04 from (LBX0_mendFromr_1 14).trans (by decide +kernel)) (by decide)
theorem dX0_mendFrom_31 : decode cX0_mendFrom 31 = .ok (.goto 4, 3) := dk_167_ (show cX0_mendFrom.data.toList[31]? = some 0xa7 from (LBX0_mendFromr_1 15).trans (by decide +kernel)) (show cX0_mendFrom.data.toList[32]? = some 0x00 from (LBX0_mendFromr_2 0).trans (by decide +kernel)) (show cX0_mendFrom.data.toList[33]? = some 0x04 from (LBX0_mendFromr_2 1).trans (by decide +kernel)) (by decide)
theorem dX0_mendFrom_34 : decode cX0_mendFrom 34 = .ok (.iload_n 3, 1) := dk_29_ (show cX0_mendFrom.data.toList[34]? = some 0x1d from (LBX0_mendFromr_2 2).trans (by decide +kernel))
theorem dX0_mendFrom_35 : decode cX0_mendFrom 35 = .ok (.istore 6, 2) := dk_54_ (show cX0_mendFrom.data.toList[35]? = some 0x36 from (LBX0_mendFromr_2 3).trans (by decide +kernel)) (show cX0_mendFrom.data.toList[36]? = some 0x06 from (LBX0_mendFromr_2 4).trans (by decide +kernel)) (by decide)
theorem dX0_mendFrom_37 : decode cX0_mendFrom 37 = .ok (.iload 5, 2) := dk_21_ (show cX0_mendFrom.data.toList[37]? = some 0x15 from (LBX0_mendFromr_2 5).trans (by decide +kernel)) (show cX0_mendFrom.data.toList[38]? = some 0x05 from (LBX0_mendFromr_2 6).trans (by decide +kernel)) (by decide)
theorem dX0_mendFrom_39 : decode cX0_mendFrom 39 = .ok (.ifCond .eq 7, 3) := dk_153_ (show cX0_mendFrom.data.toList[39]? = some 0x99 from (LBX0_mendFromr_2 7).trans (by decide +kernel)) (show cX0_mendFrom.data.toList[40]? = some 0x00 from (LBX0_mendFromr_2 8).trans (by decide +kernel)) (show cX0_mendFrom.data.toList[41]? = some 0x07 from (LBX0_mendFromr_2 9).trans (by decide +kernel)) (by decide)
theorem dX0_mendFrom_42 : decode cX0_mendFrom 42 = .ok (.iload_n 3, 1) := dk_29_ (show cX0_mendFrom.data.toList[42]? = some 0x1d from (LBX0_mendFromr_2 10).trans (by decide +kernel))
theorem dX0_mendFrom_43 : decode cX0_mendFrom 43 = .ok (.goto 5, 3) := dk_167_ (show cX0_mendFrom.data.toList[43]? = some 0xa7 from (LBX0_mendFromr_2 11).trans (by decide +kernel)) (show cX0_mendFrom.data.toList[44]? = some 0x00 from (LBX0_mendFromr_2 12).trans (by decide +kernel)) (show cX0_mendFrom.data.toList[45]? = some 0x05 from (LBX0_mendFromr_2 13).trans (by decide +kernel)) (by decide)
theorem dX0_mendFrom_46 : decode cX0_mendFrom 46 = .ok (.iload 4, 2) := dk_21_ (show cX0_mendFrom.data.toList[46]? = some 0x15 from (LBX0_mendFromr_2 14).trans (by decide +kernel)) (show cX0_mendFrom.data.toList[47]? = some 0x04 from (LBX0_mendFromr_2 15).trans (by decide +kernel)) (by decide)
theorem dX0_mendFrom_48 : decode cX0_mendFrom 48 = .ok (.istore 7, 2) := dk_54_ (show cX0_mendFrom.data.toList[48]? = some 0x36 from (LBX0_mendFromr_3 0).trans (by decide +kernel)) (show cX0_mendFrom.data.toList[49]? = some 0x07 from (LBX0_mendFromr_3 1).trans (by decide +kernel)) (by decide)
theorem dX0_mendFrom_50 : decode cX0_mendFrom 50 = .ok (.aload_n 2, 1) := dk_44_ (show cX0_mendFrom.data.toList[50]? = some 0x2c from (LBX0_mendFromr_3 2).trans (by decide +kernel))
theorem dX0_mendFrom_51 : decode cX0_mendFrom 51 = .ok (.iload 7, 2) := dk_21_ (show cX0_mendFrom.data.toList[51]? = some 0x15 from (LBX0_mendFromr_3 3).trans (by decide +kernel)) (show cX0_mendFrom.data.toList[52]? = some 0x07 from (LBX0_mendFromr_3 4).trans (by decide +kernel)) (by decide)
theorem dX0_mendFrom_53 : decode cX0_mendFrom 53 = .ok (.iload 6, 2) := dk_21_ (show cX0_mendFrom.data.toList[53]? = some 0x15 from (LBX0_mendFromr_3 5).trans (by decide +kernel)) (show cX0_mendFrom.data.toList[54]? = some 0x06 from (LBX0_mendFromr_3 6).trans (by decide +kernel)) (by decide)
theorem dX0_mendFrom_55 : decode cX0_mendFrom 55 = .ok (.invokestatic 22, 3) := dk_184_ (show cX0_mendFrom.data.toList[55]? = some 0xb8 from (LBX0_mendFromr_3 7).trans (by decide +kernel)) (show cX0_mendFrom.data.toList[56]? = some 0x00 from (LBX0_mendFromr_3 8).trans (by decide +kernel)) (show cX0_mendFrom.data.toList[57]? = some 0x16 from (LBX0_mendFromr_3 9).trans (by decide +kernel)) (by decide)
theorem dX0_mendFrom_58 : decode cX0_mendFrom 58 = .ok (.istore 8, 2) := dk_54_ (show cX0_mendFrom.data.toList[58]? = some 0x36 from (LBX0_mendFromr_3 10).trans (by decide +kernel)) (show cX0_mendFrom.data.toList[59]? = some 0x08 from (LBX0_mendFromr_3 11).trans (by decide +kernel)) (by decide)
theorem dX0_mendFrom_60 : decode cX0_mendFrom 60 = .ok (.iload 8, 2) := dk_21_ (show cX0_mendFrom.data.toList[60]? = some 0x15 from (LBX0_mendFromr_3 12).trans (by decide +kernel)) (show cX0_mendFrom.data.toList[61]? = some 0x08 from (LBX0_mendFromr_3 13).trans (by decide +kernel)) (by decide)
theorem dX0_mendFrom_62 : decode cX0_mendFrom 62 = .ok (.aload_n 1, 1) := dk_43_ (show cX0_mendFrom.data.toList[62]? = some 0x2b from (LBX0_mendFromr_3 14).trans (by decide +kernel))
theorem dX0_mendFrom_63 : decode cX0_mendFrom 63 = .ok (.iload 7, 2) := dk_21_ (show cX0_mendFrom.data.toList[63]? = some 0x15 from (LBX0_mendFromr_3 15).trans (by decide +kernel)) (show cX0_mendFrom.data.toList[64]? = some 0x07 from (LBX0_mendFromr_4 0).trans (by decide +kernel)) (by decide)
theorem dX0_mendFrom_65 : decode cX0_mendFrom 65 = .ok (.iload 6, 2) := dk_21_ (show cX0_mendFrom.data.toList[65]? = some 0x15 from (LBX0_mendFromr_4 1).trans (by decide +kernel)) (show cX0_mendFrom.data.toList[66]? = some 0x06 from (LBX0_mendFromr_4 2).trans (by decide +kernel)) (by decide)
theorem dX0_mendFrom_67 : decode cX0_mendFrom 67 = .ok (.invokevirtual 39, 3) := dk_182_ (show cX0_mendFrom.data.toList[67]? = some 0xb6 from (LBX0_mendFromr_4 3).trans (by decide +kernel)) (show cX0_mendFrom.data.toList[68]? = some 0x00 from (LBX0_mendFromr_4 4).trans (by decide +kernel)) (show cX0_mendFrom.data.toList[69]? = some 0x27 from (LBX0_mendFromr_4 5).trans (by decide +kernel)) (by decide)
theorem dX0_mendFrom_70 : decode cX0_mendFrom 70 = .ok (.invokestatic 42, 3) := dk_184_ (show cX0_mendFrom.data.toList[70]? = some 0xb8 from (LBX0_mendFromr_4 6).trans (by decide +kernel)) (show cX0_mendFrom.data.toList[71]? = some 0x00 from (LBX0_mendFromr_4 7).trans (by decide +kernel)) (show cX0_mendFrom.data.toList[72]? = some 0x2a from (LBX0_mendFromr_4 8).trans (by decide +kernel)) (by decide)
theorem dX0_mendFrom_73 : decode cX0_mendFrom 73 = .ok (.ifCond .ge 5, 3) := dk_156_ (show cX0_mendFrom.data.toList[73]? = some 0x9c from (LBX0_mendFromr_4 9).trans (by decide +kernel)) (show cX0_mendFrom.data.toList[74]? = some 0x00 from (LBX0_mendFromr_4 10).trans (by decide +kernel)) (show cX0_mendFrom.data.toList[75]? = some 0x05 from (LBX0_mendFromr_4 11).trans (by decide +kernel)) (by decide)
theorem dX0_mendFrom_76 : decode cX0_mendFrom 76 = .ok (.iconst 0, 1) := dk_3_ (show cX0_mendFrom.data.toList[76]? = some 0x03 from (LBX0_mendFromr_4 12).trans (by decide +kernel))
theorem dX0_mendFrom_77 : decode cX0_mendFrom 77 = .ok (.ireturn, 1) := dk_172_ (show cX0_mendFrom.data.toList[77]? = some 0xac from (LBX0_mendFromr_4 13).trans (by decide +kernel))
theorem dX0_mendFrom_78 : decode cX0_mendFrom 78 = .ok (.aload_n 0, 1) := dk_42_ (show cX0_mendFrom.data.toList[78]? = some 0x2a from (LBX0_mendFromr_4 14).trans (by decide +kernel))
theorem dX0_mendFrom_79 : decode cX0_mendFrom 79 = .ok (.aload_n 1, 1) := dk_43_ (show cX0_mendFrom.data.toList[79]? = some 0x2b from (LBX0_mendFromr_4 15).trans (by decide +kernel))
theorem dX0_mendFrom_80 : decode cX0_mendFrom 80 = .ok (.getfield 9, 3) := dk_180_ (show cX0_mendFrom.data.toList[80]? = some 0xb4 from (LBX0_mendFromr_5 0).trans (by decide +kernel)) (show cX0_mendFrom.data.toList[81]? = some 0x00 from (LBX0_mendFromr_5 1).trans (by decide +kernel)) (show cX0_mendFrom.data.toList[82]? = some 0x09 from (LBX0_mendFromr_5 2).trans (by decide +kernel)) (by decide)
theorem dX0_mendFrom_83 : decode cX0_mendFrom 83 = .ok (.putfield 9, 3) := dk_181_ (show cX0_mendFrom.data.toList[83]? = some 0xb5 from (LBX0_mendFromr_5 3).trans (by decide +kernel)) (show cX0_mendFrom.data.toList[84]? = some 0x00 from (LBX0_mendFromr_5 4).trans (by decide +kernel)) (show cX0_mendFrom.data.toList[85]? = some 0x09 from (LBX0_mendFromr_5 5).trans (by decide +kernel)) (by decide)
theorem dX0_mendFrom_86 : decode cX0_mendFrom 86 = .ok (.iconst 0, 1) := dk_3_ (show cX0_mendFrom.data.toList[86]? = some 0x03 from (LBX0_mendFromr_5 6).trans (by decide +kernel))
theorem dX0_mendFrom_87 : decode cX0_mendFrom 87 = .ok (.istore 9, 2) := dk_54_ (show cX0_mendFrom.data.toList[87]? = some 0x36 from (LBX0_mendFromr_5 7).trans (by decide +kernel)) (show cX0_mendFrom.data.toList[88]? = some 0x09 from (LBX0_mendFromr_5 8).trans (by decide +kernel)) (by decide)
theorem dX0_mendFrom_89 : decode cX0_mendFrom 89 = .ok (.iload 9, 2) := dk_21_ (show cX0_mendFrom.data.toList[89]? = some 0x15 from (LBX0_mendFromr_5 9).trans (by decide +kernel)) (show cX0_mendFrom.data.toList[90]? = some 0x09 from (LBX0_mendFromr_5 10).trans (by decide +kernel)) (by decide)
theorem dX0_mendFrom_91 : decode cX0_mendFrom 91 = .ok (.aload_n 0, 1) := dk_42_ (show cX0_mendFrom.data.toList[91]? = some 0x2a from (LBX0_mendFromr_5 11).trans (by decide +kernel))
theorem dX0_mendFrom_92 : decode cX0_mendFrom 92 = .ok (.getfield 9, 3) := dk_180_ (show cX0_mendFrom.data.toList[92]? = some 0xb4 from (LBX0_mendFromr_5 12).trans (by decide +kernel)) (show cX0_mendFrom.data.toList[93]? = some 0x00 from (LBX0_mendFromr_5 13).trans (by decide +kernel)) (show cX0_mendFrom.data.toList[94]? = some 0x09 from (LBX0_mendFromr_5 14).trans (by decide +kernel)) (by decide)
theorem dX0_mendFrom_95 : decode cX0_mendFrom 95 = .ok (.if_icmp .ge 83, 3) := dk_162_ (show cX0_mendFrom.data.toList[95]? = some 0xa2 from (LBX0_mendFromr_5 15).trans (by decide +kernel)) (show cX0_mendFrom.data.toList[96]? = some 0x00 from (LBX0_mendFromr_6 0).trans (by decide +kernel)) (show cX0_mendFrom.data.toList[97]? = some 0x53 from (LBX0_mendFromr_6 1).trans (by decide +kernel)) (by decide)
theorem dX0_mendFrom_98 : decode cX0_mendFrom 98 = .ok (.aload_n 1, 1) := dk_43_ (show cX0_mendFrom.data.toList[98]? = some 0x2b from (LBX0_mendFromr_6 2).trans (by decide +kernel))
theorem dX0_mendFrom_99 : decode cX0_mendFrom 99 = .ok (.iload 9, 2) := dk_21_ (show cX0_mendFrom.data.toList[99]? = some 0x15 from (LBX0_mendFromr_6 3).trans (by decide +kernel)) (show cX0_mendFrom.data.toList[100]? = some 0x09 from (LBX0_mendFromr_6 4).trans (by decide +kernel)) (by decide)
theorem dX0_mendFrom_101 : decode cX0_mendFrom 101 = .ok (.iload 6, 2) := dk_21_ (show cX0_mendFrom.data.toList[101]? = some 0x15 from (LBX0_mendFromr_6 5).trans (by decide +kernel)) (show cX0_mendFrom.data.toList[102]? = some 0x06 from (LBX0_mendFromr_6 6).trans (by decide +kernel)) (by decide)
theorem dX0_mendFrom_103 : decode cX0_mendFrom 103 = .ok (.invokevirtual 39, 3) := dk_182_ (show cX0_mendFrom.data.toList[103]? = some 0xb6 from (LBX0_mendFromr_6 7).trans (by decide +kernel)) (show cX0_mendFrom.data.toList[104]? = some 0x00 from (LBX0_mendFromr_6 8).trans (by decide +kernel)) (show cX0_mendFrom.data.toList[105]? = some 0x27 from (LBX0_mendFromr_6 9).trans (by decide +kernel)) (by decide)
theorem dX0_mendFrom_106 : decode cX0_mendFrom 106 = .ok (.iload 8, 2) := dk_21_ (show cX0_mendFrom.data.toList[106]? = some 0x15 from (LBX0_mendFromr_6 10).trans (by decide +kernel)) (show cX0_mendFrom.data.toList[107]? = some 0x08 from (LBX0_mendFromr_6 11).trans (by decide +kernel)) (by decide)
theorem dX0_mendFrom_108 : decode cX0_mendFrom 108 = .ok (.invokestatic 42, 3) := dk_184_ (show cX0_mendFrom.data.toList[108]? = some 0xb8 from (LBX0_mendFromr_6 12).trans (by decide +kernel)) (show cX0_mendFrom.data.toList[109]? = some 0x00 from (LBX0_mendFromr_6 13).trans (by decide +kernel)) (show cX0_mendFrom.data.toList[110]? = some 0x2a from (LBX0_mendFromr_6 14).trans (by decide +kernel)) (by decide)
theorem dX0_mendFrom_111 : decode cX0_mendFrom 111 = .ok (.istore 10, 2) := dk_54_ (show cX0_mendFrom.data.toList[111]? = some 0x36 from (LBX0_mendFromr_6 15).trans (by decide +kernel)) (show cX0_mendFrom.data.toList[112]? = some 0x0a from (LBX0_mendFromr_7 0).trans (by decide +kernel)) (by decide)
theorem dX0_mendFrom_113 : decode cX0_mendFrom 113 = .ok (.iconst 0, 1) := dk_3_ (show cX0_mendFrom.data.toList[113]? = some 0x03 from (LBX0_mendFromr_7 1).trans (by decide +kernel))
theorem dX0_mendFrom_114 : decode cX0_mendFrom 114 = .ok (.istore 11, 2) := dk_54_ (show cX0_mendFrom.data.toList[114]? = some 0x36 from (LBX0_mendFromr_7 2).trans (by decide +kernel)) (show cX0_mendFrom.data.toList[115]? = some 0x0b from (LBX0_mendFromr_7 3).trans (by decide +kernel)) (by decide)
theorem dX0_mendFrom_116 : decode cX0_mendFrom 116 = .ok (.iload 11, 2) := dk_21_ (show cX0_mendFrom.data.toList[116]? = some 0x15 from (LBX0_mendFromr_7 4).trans (by decide +kernel)) (show cX0_mendFrom.data.toList[117]? = some 0x0b from (LBX0_mendFromr_7 5).trans (by decide +kernel)) (by decide)
theorem dX0_mendFrom_118 : decode cX0_mendFrom 118 = .ok (.aload_n 0, 1) := dk_42_ (show cX0_mendFrom.data.toList[118]? = some 0x2a from (LBX0_mendFromr_7 6).trans (by decide +kernel))
theorem dX0_mendFrom_119 : decode cX0_mendFrom 119 = .ok (.getfield 9, 3) := dk_180_ (show cX0_mendFrom.data.toList[119]? = some 0xb4 from (LBX0_mendFromr_7 7).trans (by decide +kernel)) (show cX0_mendFrom.data.toList[120]? = some 0x00 from (LBX0_mendFromr_7 8).trans (by decide +kernel)) (show cX0_mendFrom.data.toList[121]? = some 0x09 from (LBX0_mendFromr_7 9).trans (by decide +kernel)) (by decide)
theorem dX0_mendFrom_122 : decode cX0_mendFrom 122 = .ok (.if_icmp .ge 50, 3) := dk_162_ (show cX0_mendFrom.data.toList[122]? = some 0xa2 from (LBX0_mendFromr_7 10).trans (by decide +kernel)) (show cX0_mendFrom.data.toList[123]? = some 0x00 from (LBX0_mendFromr_7 11).trans (by decide +kernel)) (show cX0_mendFrom.data.toList[124]? = some 0x32 from (LBX0_mendFromr_7 12).trans (by decide +kernel)) (by decide)
theorem dX0_mendFrom_125 : decode cX0_mendFrom 125 = .ok (.iload 10, 2) := dk_21_ (show cX0_mendFrom.data.toList[125]? = some 0x15 from (LBX0_mendFromr_7 13).trans (by decide +kernel)) (show cX0_mendFrom.data.toList[126]? = some 0x0a from (LBX0_mendFromr_7 14).trans (by decide +kernel)) (by decide)
theorem dX0_mendFrom_127 : decode cX0_mendFrom 127 = .ok (.aload_n 1, 1) := dk_43_ (show cX0_mendFrom.data.toList[127]? = some 0x2b from (LBX0_mendFromr_7 15).trans (by decide +kernel))
theorem dX0_mendFrom_128 : decode cX0_mendFrom 128 = .ok (.iload 7, 2) := dk_21_ (show cX0_mendFrom.data.toList[128]? = some 0x15 from (LBX0_mendFromr_8 0).trans (by decide +kernel)) (show cX0_mendFrom.data.toList[129]? = some 0x07 from (LBX0_mendFromr_8 1).trans (by decide +kernel)) (by decide)
theorem dX0_mendFrom_130 : decode cX0_mendFrom 130 = .ok (.iload 11, 2) := dk_21_ (show cX0_mendFrom.data.toList[130]? = some 0x15 from (LBX0_mendFromr_8 2).trans (by decide +kernel)) (show cX0_mendFrom.data.toList[131]? = some 0x0b from (LBX0_mendFromr_8 3).trans (by decide +kernel)) (by decide)
theorem dX0_mendFrom_132 : decode cX0_mendFrom 132 = .ok (.invokevirtual 39, 3) := dk_182_ (show cX0_mendFrom.data.toList[132]? = some 0xb6 from (LBX0_mendFromr_8 4).trans (by decide +kernel)) (show cX0_mendFrom.data.toList[133]? = some 0x00 from (LBX0_mendFromr_8 5).trans (by decide +kernel)) (show cX0_mendFrom.data.toList[134]? = some 0x27 from (LBX0_mendFromr_8 6).trans (by decide +kernel)) (by decide)
theorem dX0_mendFrom_135 : decode cX0_mendFrom 135 = .ok (.invokestatic 42, 3) := dk_184_ (show cX0_mendFrom.data.toList[135]? = some 0xb8 from (LBX0_mendFromr_8 7).trans (by decide +kernel)) (show cX0_mendFrom.data.toList[136]? = some 0x00 from (LBX0_mendFromr_8 8).trans (by decide +kernel)) (show cX0_mendFrom.data.toList[137]? = some 0x2a from (LBX0_mendFromr_8 9).trans (by decide +kernel)) (by decide)
theorem dX0_mendFrom_138 : decode cX0_mendFrom 138 = .ok (.istore 12, 2) := dk_54_ (show cX0_mendFrom.data.toList[138]? = some 0x36 from (LBX0_mendFromr_8 10).trans (by decide +kernel)) (show cX0_mendFrom.data.toList[139]? = some 0x0c from (LBX0_mendFromr_8 11).trans (by decide +kernel)) (by decide)
theorem dX0_mendFrom_140 : decode cX0_mendFrom 140 = .ok (.aload_n 0, 1) := dk_42_ (show cX0_mendFrom.data.toList[140]? = some 0x2a from (LBX0_mendFromr_8 12).trans (by decide +kernel))
theorem dX0_mendFrom_141 : decode cX0_mendFrom 141 = .ok (.getfield 15, 3) := dk_180_ (show cX0_mendFrom.data.toList[141]? = some 0xb4 from (LBX0_mendFromr_8 13).trans (by decide +kernel)) (show cX0_mendFrom.data.toList[142]? = some 0x00 from (LBX0_mendFromr_8 14).trans (by decide +kernel)) (show cX0_mendFrom.data.toList[143]? = some 0x0f from (LBX0_mendFromr_8 15).trans (by decide +kernel)) (by decide)
theorem dX0_mendFrom_144 : decode cX0_mendFrom 144 = .ok (.bipush 10, 2) := dk_16_ (show cX0_mendFrom.data.toList[144]? = some 0x10 from (LBX0_mendFromr_9 0).trans (by decide +kernel)) (show cX0_mendFrom.data.toList[145]? = some 0x0a from (LBX0_mendFromr_9 1).trans (by decide +kernel)) (by decide)
theorem dX0_mendFrom_146 : decode cX0_mendFrom 146 = .ok (.iload 9, 2) := dk_21_ (show cX0_mendFrom.data.toList[146]? = some 0x15 from (LBX0_mendFromr_9 2).trans (by decide +kernel)) (show cX0_mendFrom.data.toList[147]? = some 0x09 from (LBX0_mendFromr_9 3).trans (by decide +kernel)) (by decide)
theorem dX0_mendFrom_148 : decode cX0_mendFrom 148 = .ok (.imul, 1) := dk_104_ (show cX0_mendFrom.data.toList[148]? = some 0x68 from (LBX0_mendFromr_9 4).trans (by decide +kernel))
theorem dX0_mendFrom_149 : decode cX0_mendFrom 149 = .ok (.iload 11, 2) := dk_21_ (show cX0_mendFrom.data.toList[149]? = some 0x15 from (LBX0_mendFromr_9 5).trans (by decide +kernel)) (show cX0_mendFrom.data.toList[150]? = some 0x0b from (LBX0_mendFromr_9 6).trans (by decide +kernel)) (by decide)
theorem dX0_mendFrom_151 : decode cX0_mendFrom 151 = .ok (.iadd, 1) := dk_96_ (show cX0_mendFrom.data.toList[151]? = some 0x60 from (LBX0_mendFromr_9 7).trans (by decide +kernel))
theorem dX0_mendFrom_152 : decode cX0_mendFrom 152 = .ok (.iload 12, 2) := dk_21_ (show cX0_mendFrom.data.toList[152]? = some 0x15 from (LBX0_mendFromr_9 8).trans (by decide +kernel)) (show cX0_mendFrom.data.toList[153]? = some 0x0c from (LBX0_mendFromr_9 9).trans (by decide +kernel)) (by decide)
theorem dX0_mendFrom_154 : decode cX0_mendFrom 154 = .ok (.aload_n 1, 1) := dk_43_ (show cX0_mendFrom.data.toList[154]? = some 0x2b from (LBX0_mendFromr_9 10).trans (by decide +kernel))
theorem dX0_mendFrom_155 : decode cX0_mendFrom 155 = .ok (.iload 9, 2) := dk_21_ (show cX0_mendFrom.data.toList[155]? = some 0x15 from (LBX0_mendFromr_9 11).trans (by decide +kernel)) (show cX0_mendFrom.data.toList[156]? = some 0x09 from (LBX0_mendFromr_9 12).trans (by decide +kernel)) (by decide)
theorem dX0_mendFrom_157 : decode cX0_mendFrom 157 = .ok (.iload 11, 2) := dk_21_ (show cX0_mendFrom.data.toList[157]? = some 0x15 from (LBX0_mendFromr_9 13).trans (by decide +kernel)) (show cX0_mendFrom.data.toList[158]? = some 0x0b from (LBX0_mendFromr_9 14).trans (by decide +kernel)) (by decide)
theorem dX0_mendFrom_159 : decode cX0_mendFrom 159 = .ok (.invokevirtual 39, 3) := dk_182_ (show cX0_mendFrom.data.toList[159]? = some 0xb6 from (LBX0_mendFromr_9 15).trans (by decide +kernel)) (show cX0_mendFrom.data.toList[160]? = some 0x00 from (LBX0_mendFromr_10 0).trans (by decide +kernel)) (show cX0_mendFrom.data.toList[161]? = some 0x27 from (LBX0_mendFromr_10 1).trans (by decide +kernel)) (by decide)
theorem dX0_mendFrom_162 : decode cX0_mendFrom 162 = .ok (.invokestatic 81, 3) := dk_184_ (show cX0_mendFrom.data.toList[162]? = some 0xb8 from (LBX0_mendFromr_10 2).trans (by decide +kernel)) (show cX0_mendFrom.data.toList[163]? = some 0x00 from (LBX0_mendFromr_10 3).trans (by decide +kernel)) (show cX0_mendFrom.data.toList[164]? = some 0x51 from (LBX0_mendFromr_10 4).trans (by decide +kernel)) (by decide)
theorem dX0_mendFrom_165 : decode cX0_mendFrom 165 = .ok (.iastore, 1) := dk_79_ (show cX0_mendFrom.data.toList[165]? = some 0x4f from (LBX0_mendFromr_10 5).trans (by decide +kernel))
theorem dX0_mendFrom_166 : decode cX0_mendFrom 166 = .ok (.iinc 11 1, 3) := dk_132_ (show cX0_mendFrom.data.toList[166]? = some 0x84 from (LBX0_mendFromr_10 6).trans (by decide +kernel)) (show cX0_mendFrom.data.toList[167]? = some 0x0b from (LBX0_mendFromr_10 7).trans (by decide +kernel)) (show cX0_mendFrom.data.toList[168]? = some 0x01 from (LBX0_mendFromr_10 8).trans (by decide +kernel)) (by decide) (by decide)
theorem dX0_mendFrom_169 : decode cX0_mendFrom 169 = .ok (.goto (-53), 3) := dk_167_ (show cX0_mendFrom.data.toList[169]? = some 0xa7 from (LBX0_mendFromr_10 9).trans (by decide +kernel)) (show cX0_mendFrom.data.toList[170]? = some 0xff from (LBX0_mendFromr_10 10).trans (by decide +kernel)) (show cX0_mendFrom.data.toList[171]? = some 0xcb from (LBX0_mendFromr_10 11).trans (by decide +kernel)) (by decide)
theorem dX0_mendFrom_172 : decode cX0_mendFrom 172 = .ok (.iinc 9 1, 3) := dk_132_ (show cX0_mendFrom.data.toList[172]? = some 0x84 from (LBX0_mendFromr_10 12).trans (by decide +kernel)) (show cX0_mendFrom.data.toList[173]? = some 0x09 from (LBX0_mendFromr_10 13).trans (by decide +kernel)) (show cX0_mendFrom.data.toList[174]? = some 0x01 from (LBX0_mendFromr_10 14).trans (by decide +kernel)) (by decide) (by decide)
theorem dX0_mendFrom_175 : decode cX0_mendFrom 175 = .ok (.goto (-86), 3) := dk_167_ (show cX0_mendFrom.data.toList[175]? = some 0xa7 from (LBX0_mendFromr_10 15).trans (by decide +kernel)) (show cX0_mendFrom.data.toList[176]? = some 0xff from (LBX0_mendFromr_11 0).trans (by decide +kernel)) (show cX0_mendFrom.data.toList[177]? = some 0xaa from (LBX0_mendFromr_11 1).trans (by decide +kernel)) (by decide)
theorem dX0_mendFrom_178 : decode cX0_mendFrom 178 = .ok (.iconst 1, 1) := dk_4_ (show cX0_mendFrom.data.toList[178]? = some 0x04 from (LBX0_mendFromr_11 2).trans (by decide +kernel))
theorem dX0_mendFrom_179 : decode cX0_mendFrom 179 = .ok (.ireturn, 1) := dk_172_ (show cX0_mendFrom.data.toList[179]? = some 0xac from (LBX0_mendFromr_11 3).trans (by decide +kernel))
theorem uw74 : Cond.fieldLink RX0 15 "LongerBack$Atlas" "lengths" "[I" ∈ wsU := ut1 (List.mem_of_getElem? (i := 111) rfl) rfl
theorem uw75 : Cond.lays RX0 "LongerBack$Atlas" "places" "I" ∈ wsU := ut1 (List.mem_of_getElem? (i := 112) rfl) rfl
theorem uw76 : Cond.laysFinal RX0 "LongerBack$Atlas" "lengths" "[I" ∈ wsU := ut1 (List.mem_of_getElem? (i := 114) rfl) rfl
theorem uw77 : Cond.methodLink RX0 30 yX1_isOpen ∈ wsU := ut2 (List.mem_of_getElem? (i := 94) rfl) rfl
theorem uw78 : Cond.methodLink RX0 34 yX1_lowOf ∈ wsU := ut2 (List.mem_of_getElem? (i := 95) rfl) rfl
theorem uw79 : Cond.constant RX0 38 1000000000 ∈ wsU := ut2 (List.mem_of_getElem? (i := 96) rfl) rfl
theorem uw80 : Cond.fieldLink RX0 9 "LongerBack$Atlas" "places" "I" ∈ wsU := ut1 (List.mem_of_getElem? (i := 110) rfl) rfl
theorem uw81 : Cond.methodLink RX0 39 yX0_lengthOf ∈ wsU := ut2 (List.mem_of_getElem? (i := 101) rfl) rfl
theorem uw82 : Cond.instanceMethod yX0_lengthOf ∈ wsU := ut2 (List.mem_of_getElem? (i := 103) rfl) rfl
theorem uw83 : Cond.selects RX0 yX0_lengthOf yX0_lengthOf ∈ wsU := us_sel (q := (yX0_lengthOf, 2)) (List.mem_of_getElem? (i := 3) (by decide +kernel)) rfl
theorem uw84 : Cond.initialized RX0 ∈ wsU := ut1 (List.mem_of_getElem? (i := 4) rfl) rfl
theorem uw85 : Cond.code yX0_lengthOf cX0_lengthOf 3 (some .int) ∈ wsU := ut2 (List.mem_of_getElem? (i := 104) rfl) rfl
theorem uw86 : Cond.static yX8_together ∈ wsU := ut2 (List.mem_of_getElem? (i := 106) rfl) rfl
theorem uw87 : Cond.initialized yX8_together.cls ∈ wsU := ut1 (List.mem_of_getElem? (i := 1) rfl) rfl
theorem uw88 : Cond.code yX8_together cX8_together 2 (some .int) ∈ wsU := ut2 (List.mem_of_getElem? (i := 107) rfl) rfl
theorem uw89 : Cond.constant RX0 45 (-100000000) ∈ wsU := ut2 (List.mem_of_getElem? (i := 109) rfl) rfl
theorem uw90 : Cond.methodLink RX0 46 Lib.Math.max.name ∈ wsU := ut2 (List.mem_of_getElem? (i := 110) rfl) rfl
theorem uw91 : Cond.static Lib.Math.max.name ∈ wsU := ut2 (List.mem_of_getElem? (i := 111) rfl) rfl
theorem uw92 : Cond.initialized "java/lang/Math" ∈ wsU := ut1 (List.mem_of_getElem? (i := 11) rfl) rfl
theorem uw93 : Cond.code Lib.Math.max.name Lib.Math.max.code 2 (some .int) ∈ wsU := ut2 (List.mem_of_getElem? (i := 112) rfl) rfl
theorem uw94 : Cond.fieldLink RX0 19 "LongerBack$Land" "places" "I" ∈ wsU := ut1 (List.mem_of_getElem? (i := 55) rfl) rfl
theorem uw95 : Cond.methodLink RX0 26 yX0_shortenOver ∈ wsU := ut2 (List.mem_of_getElem? (i := 97) rfl) rfl
theorem uw96 : Cond.instanceMethod yX0_shortenOver ∈ wsU := ut2 (List.mem_of_getElem? (i := 99) rfl) rfl
theorem uw97 : Cond.selects RX0 yX0_shortenOver yX0_shortenOver ∈ wsU := us_sel (q := (yX0_shortenOver, 2)) (List.mem_of_getElem? (i := 2) (by decide +kernel)) rfl
theorem uw98 : Cond.code yX0_shortenOver cX0_shortenOver 6 none ∈ wsU := ut2 (List.mem_of_getElem? (i := 100) rfl) rfl
theorem uw99 : Cond.methodLink RX0 22 yX0_oneWay ∈ wsU := ut2 (List.mem_of_getElem? (i := 91) rfl) rfl
theorem uw100 : Cond.static yX0_oneWay ∈ wsU := ut2 (List.mem_of_getElem? (i := 92) rfl) rfl
theorem uw101 : Cond.initialized yX0_oneWay.cls ∈ wsU := ut1 (List.mem_of_getElem? (i := 4) rfl) rfl
theorem uw102 : Cond.code yX0_oneWay cX0_oneWay 3 (some .int) ∈ wsU := ut2 (List.mem_of_getElem? (i := 93) rfl) rfl
theorem uw103 : Cond.methodLink RX0 51 yX0_isBackAndForth ∈ wsU := ut2 (List.mem_of_getElem? (i := 156) rfl) rfl
theorem uw104 : Cond.instanceMethod yX0_isBackAndForth ∈ wsU := ut2 (List.mem_of_getElem? (i := 158) rfl) rfl
theorem uw105 : Cond.selects RX0 yX0_isBackAndForth yX0_isBackAndForth ∈ wsU := us_sel (q := (yX0_isBackAndForth, 2)) (List.mem_of_getElem? (i := 6) (by decide +kernel)) rfl
theorem uw106 : Cond.code yX0_isBackAndForth cX0_isBackAndForth 3 (some .boolean) ∈ wsU := ut2 (List.mem_of_getElem? (i := 159) rfl) rfl
theorem uw107 : Cond.methodLink RX0 54 yJ9_floorDiv_7cf53 ∈ wsU := ut2 (List.mem_of_getElem? (i := 122) rfl) rfl
theorem uw108 : Cond.static yJ9_floorDiv_7cf53 ∈ wsU := ut2 (List.mem_of_getElem? (i := 123) rfl) rfl
theorem uw109 : Cond.initialized yJ9_floorDiv_7cf53.cls ∈ wsU := ut1 (List.mem_of_getElem? (i := 11) rfl) rfl
theorem uw110 : Cond.code yJ9_floorDiv_7cf53 cJ9_floorDiv_7cf53 3 (some .int) ∈ wsU := ut2 (List.mem_of_getElem? (i := 124) rfl) rfl
theorem uw111 : Cond.methodLink RX0 57 yJ9_floorMod_7cf53 ∈ wsU := ut2 (List.mem_of_getElem? (i := 137) rfl) rfl
theorem uw112 : Cond.static yJ9_floorMod_7cf53 ∈ wsU := ut2 (List.mem_of_getElem? (i := 138) rfl) rfl
theorem uw113 : Cond.initialized yJ9_floorMod_7cf53.cls ∈ wsU := ut1 (List.mem_of_getElem? (i := 11) rfl) rfl
theorem uw114 : Cond.code yJ9_floorMod_7cf53 cJ9_floorMod_7cf53 3 (some .int) ∈ wsU := ut2 (List.mem_of_getElem? (i := 139) rfl) rfl
theorem uw115 : Cond.methodLink RX0 60 yX0_nextStop ∈ wsU := ut2 (List.mem_of_getElem? (i := 144) rfl) rfl
theorem uw116 : Cond.instanceMethod yX0_nextStop ∈ wsU := ut2 (List.mem_of_getElem? (i := 146) rfl) rfl
theorem uw117 : Cond.selects RX0 yX0_nextStop yX0_nextStop ∈ wsU := us_sel (q := (yX0_nextStop, 2)) (List.mem_of_getElem? (i := 5) (by decide +kernel)) rfl
theorem uw118 : Cond.code yX0_nextStop cX0_nextStop 5 (some .int) ∈ wsU := ut2 (List.mem_of_getElem? (i := 147) rfl) rfl
theorem uw119 : Cond.fieldLink RX0 63 "LongerBack$Land" "errands" "[I" ∈ wsU := ut1 (List.mem_of_getElem? (i := 61) rfl) rfl
theorem uw120 : Cond.methodLink RX0 66 yX0_farOf ∈ wsU := ut3 (List.mem_of_getElem? (i := 20) rfl) rfl
theorem uw121 : Cond.instanceMethod yX0_farOf ∈ wsU := ut2 (List.mem_of_getElem? (i := 119) rfl) rfl
theorem uw122 : Cond.selects RX0 yX0_farOf yX0_farOf ∈ wsU := ut2 (List.mem_of_getElem? (i := 120) rfl) rfl
theorem uw123 : Cond.code yX0_farOf cX0_farOf 4 (some .int) ∈ wsU := ut2 (List.mem_of_getElem? (i := 121) rfl) rfl
theorem uw124 : Cond.methodLink RX0 69 yX0_tripOf ∈ wsU := ut3 (List.mem_of_getElem? (i := 48) rfl) rfl
theorem uw125 : Cond.instanceMethod yX0_tripOf ∈ wsU := ut3 (List.mem_of_getElem? (i := 49) rfl) rfl
theorem uw126 : Cond.selects RX0 yX0_tripOf yX0_tripOf ∈ wsU := ut3 (List.mem_of_getElem? (i := 50) rfl) rfl
theorem uw127 : Cond.code yX0_tripOf cX0_tripOf 6 (some .int) ∈ wsU := ut3 (List.mem_of_getElem? (i := 51) rfl) rfl
theorem uw128 : Cond.methodLink RX0 73 yX0_homeOf ∈ wsU := ut3 (List.mem_of_getElem? (i := 202) rfl) rfl
theorem uw129 : Cond.instanceMethod yX0_homeOf ∈ wsU := ut3 (List.mem_of_getElem? (i := 45) rfl) rfl
theorem uw130 : Cond.selects RX0 yX0_homeOf yX0_homeOf ∈ wsU := ut3 (List.mem_of_getElem? (i := 46) rfl) rfl
theorem uw131 : Cond.code yX0_homeOf cX0_homeOf 6 (some .int) ∈ wsU := ut3 (List.mem_of_getElem? (i := 47) rfl) rfl
theorem uw132 : Cond.methodLink RX0 77 yX0_priceOf ∈ wsU := ut3 (List.mem_of_getElem? (i := 16) rfl) rfl
theorem uw133 : Cond.instanceMethod yX0_priceOf ∈ wsU := ut3 (List.mem_of_getElem? (i := 17) rfl) rfl
theorem uw134 : Cond.selects RX0 yX0_priceOf yX0_priceOf ∈ wsU := ut3 (List.mem_of_getElem? (i := 18) rfl) rfl
theorem uw135 : Cond.code yX0_priceOf cX0_priceOf 8 (some .int) ∈ wsU := ut3 (List.mem_of_getElem? (i := 19) rfl) rfl
theorem uw136 : Cond.methodLink RX0 81 Lib.Math.min.name ∈ wsU := ut3 (List.mem_of_getElem? (i := 197) rfl) rfl
theorem uw137 : Cond.static Lib.Math.min.name ∈ wsU := ut3 (List.mem_of_getElem? (i := 2) rfl) rfl
theorem uw138 : Cond.code Lib.Math.min.name Lib.Math.min.code 2 (some .int) ∈ wsU := ut3 (List.mem_of_getElem? (i := 3) rfl) rfl
theorem inUX0 : ∀ w ∈ u_ws RX0 TX0 2, w ∈ wsU := List.forall_mem_cons.mpr ⟨uw75, List.forall_mem_cons.mpr ⟨uw76, fun _ h => absurd h List.not_mem_nil⟩⟩
theorem kf_X0_15 : xWF RX0 15 0 1 RX0 TX0 2 := ⟨inUX0, rfl, by decide, uw74⟩
theorem kv_X0_30 : xWV RX0 30 RX1 yX1_isOpen cX1_isOpen 3 (some .boolean) 2 := ⟨⟨uw77, uw29, uw30, uw19, uw31⟩, by decide +kernel⟩
theorem kv_X0_34 : xWV RX0 34 RX1 yX1_lowOf cX1_lowOf 3 (some .int) 2 := ⟨⟨uw78, uw54, uw55, uw19, uw56⟩, by decide +kernel⟩
theorem kf_X0_9 : xWF RX0 9 0 0 RX0 TX0 2 := ⟨inUX0, rfl, by decide, uw80⟩
theorem kv_X0_39 : xWV RX0 39 RX0 yX0_lengthOf cX0_lengthOf 3 (some .int) 2 := ⟨⟨uw81, uw82, uw83, uw84, uw85⟩, by decide +kernel⟩
theorem kn_X0_42 : (Cond.code yX8_together cX8_together 2 (some .int) ∈ wsU ∧ Cond.static yX8_together ∈ wsU ∧ Cond.initialized yX8_together.cls ∈ wsU) ∧ (yX8_together.cls ≠ "java/lang/invoke/MethodHandle" ∧ yX8_together.cls ≠ "java/lang/invoke/VarHandle" ∧ (parseMethodDescriptor yX8_together.desc).map (fun d => d.parameters.length) = some 2) ∧ Cond.methodLinkNest RX0 42 yX8_together RX8 ∈ xNest := ⟨⟨uw88, uw86, uw87⟩, by decide +kernel, by decide +kernel⟩
theorem kf_X0_19 : xWF RX0 19 1 0 RX1 TX1 10 := ⟨inUX1, rfl, by decide, uw94⟩
theorem kv_X0_26 : xWV RX0 26 RX0 yX0_shortenOver cX0_shortenOver 6 none 1 := ⟨⟨uw95, uw96, uw97, uw84, uw98⟩, by decide +kernel⟩
theorem ks_X0_22 : xWS RX0 22 yX0_oneWay cX0_oneWay 3 (some .int) 3 := ⟨⟨uw99, uw100, uw101, uw102⟩, by decide +kernel⟩
theorem kv_X0_51 : xWV RX0 51 RX0 yX0_isBackAndForth cX0_isBackAndForth 3 (some .boolean) 2 := ⟨⟨uw103, uw104, uw105, uw84, uw106⟩, by decide +kernel⟩
theorem ks_X0_54 : xWS RX0 54 yJ9_floorDiv_7cf53 cJ9_floorDiv_7cf53 3 (some .int) 2 := ⟨⟨uw107, uw108, uw109, uw110⟩, by decide +kernel⟩
theorem ks_X0_57 : xWS RX0 57 yJ9_floorMod_7cf53 cJ9_floorMod_7cf53 3 (some .int) 2 := ⟨⟨uw111, uw112, uw113, uw114⟩, by decide +kernel⟩
theorem kv_X0_60 : xWV RX0 60 RX0 yX0_nextStop cX0_nextStop 5 (some .int) 3 := ⟨⟨uw115, uw116, uw117, uw84, uw118⟩, by decide +kernel⟩
theorem kf_X0_63 : xWF RX0 63 1 1 RX1 TX1 10 := ⟨inUX1, rfl, by decide, uw119⟩
theorem kv_X0_66 : xWV RX0 66 RX0 yX0_farOf cX0_farOf 4 (some .int) 2 := ⟨⟨uw120, uw121, uw122, uw84, uw123⟩, by decide +kernel⟩
theorem kv_X0_69 : xWV RX0 69 RX0 yX0_tripOf cX0_tripOf 6 (some .int) 2 := ⟨⟨uw124, uw125, uw126, uw84, uw127⟩, by decide +kernel⟩
theorem kv_X0_73 : xWV RX0 73 RX0 yX0_homeOf cX0_homeOf 6 (some .int) 1 := ⟨⟨uw128, uw129, uw130, uw84, uw131⟩, by decide +kernel⟩
theorem kv_X0_77 : xWV RX0 77 RX0 yX0_priceOf cX0_priceOf 8 (some .int) 4 := ⟨⟨uw132, uw133, uw134, uw84, uw135⟩, by decide +kernel⟩
set_option maxHeartbeats 4000000 in
set_option maxRecDepth 100000 in
theorem c_X0_lengthOf (l : Launch) (D : va_G) (cI cJ cZ cS : ClassId) (ta : Nat) (sa sv : Nat → Nat) (sz : Nat) (h0 : Nat) (an : Nat) (Q : Nat) (j : Nat) (k : Nat) (La : Nat → Int32) (hj : j < 10) (hk : k < 10) : Met l yX0_lengthOf (Cond.code yX0_lengthOf cX0_lengthOf 3 (some .int) :: wsU) ({ frames := 0, cells := 0, slots := 0, locals := 0 }) (va_Pc [.ref h0, .int (nI (j)), .int (nI (k))] (XW D (xT cI cJ cZ cS) ta sa sv [(h0, .inr (0, [.int (nI (Q)), .ref an])), (an, .inl (cI, 100, .inl La))] sz)) (vp_Si (fun r : Int32 => (r = La (10 * j + k)))) 0 0 (fun _ => False) := by
  refine xh (QA := fun _ => vp_Si (fun r : Int32 => (r = La (10 * j + k)))) (fr := fun _ _ => False) (by decide) (Nat.le_of_ble_eq_true rfl) ?_
  intro p e s m below meth c ls A hF hr hlk hin hsz hP hK hD hN hZ hA hS hl
  have hF : CallFix p m c cX0_lengthOf 3 s _ _ RX0 := hF
  have hx := hF.1
  have hb := hF.2.1
  have hml := hF.2.2.1
  have hown := hF.2.2.2.1
  have hu : ∀ w ∈ wsU, w.before _ s = true := fun w h => hF.2.2.2.2 w (List.mem_cons_of_mem _ h)
  have hl : lv_has ls 3 [(0, .ref h0), (1, .int (nI (j))), (2, .int (nI (k)))] := hl
  refine lv_aload_n hx hb dX0_lengthOf_0 rfl (lv_at hl 0 rfl) ?_
  refine xg hF kf_X0_15 hK hP 0 rfl rfl dX0_lengthOf_1 ?_
  refine lv_bipush (v := 10) hx hb dX0_lengthOf_4 (by decide) ?_
  refine lv_iload_n hx hb dX0_lengthOf_6 rfl (lv_at hl 1 rfl) ?_
  refine lv_imul hx hb dX0_lengthOf_7 ?_
  refine xl_i (y := nI (10 * j)) (pk_mul 10 j) ?_
  refine lv_iload_n hx hb dX0_lengthOf_8 rfl (lv_at hl 2 rfl) ?_
  refine lv_iadd hx hb dX0_lengthOf_9 ?_
  refine xl_i (y := nI (10 * j + k)) (nI_add (10 * j) k) ?_
  refine va_iald hx hb hK hP 1 0 rfl rfl (vp_in_nI (show 10 * j + k < 100 by omega) (by decide)) dX0_lengthOf_10 ?_
  refine xl_i (y := La (10 * j + k)) (congrArg La (nI_clamp (show 10 * j + k < 2 ^ 31 by omega))) ?_
  exact W.iret (v := La (10 * j + k)) hx hb hr (fun t ht hW => ⟨La (10 * j + k), rfl, (by first | exact rfl), ht⟩) (fun q h => by cases h) dX0_lengthOf_11 hlk
set_option maxHeartbeats 4000000 in
set_option maxRecDepth 100000 in
theorem c_X0_oneWay (l : Launch) (D : va_G) (cI cJ cZ cS : ClassId) (ta : Nat) (sa sv : Nat → Nat) (sz : Nat) (q1 : Nat) (be : Nat) (bl : Nat) (bu : Nat) (bo : Nat) (br : Nat) (bk : Nat) (bw : Nat) (btt : Nat) (bss : Nat) (P : Nat) (lo : Nat → Int32) (d : Nat → Int32) (j : Nat) (k : Nat) (hj : j < 10) (hk : k < 10) : Met l yX0_oneWay (Cond.code yX0_oneWay cX0_oneWay 3 (some .int) :: wsU) ({ frames := 2, cells := 0, slots := 0, locals := 43 }) (va_Pc [.ref q1, .int (nI (j)), .int (nI (k))] (XW D (xT cI cJ cZ cS) ta sa sv [(q1, .inr (1, [.int (nI (P)), .ref be, .ref bl, .ref bu, .ref bo, .ref br, .ref bk, .ref bw, .ref btt, .ref bss])), (bl, .inl (cI, 100, .inl lo)), (bo, .inl (cI, 100, .inl d))] sz)) (vp_Si (fun r : Int32 => True)) 0 0 (fun _ => False) := by
  refine xh (QA := fun _ => vp_Si (fun r : Int32 => True)) (fr := fun _ _ => False) (by decide) (Nat.le_of_ble_eq_true rfl) ?_
  intro p e s m below meth c ls A hF hr hlk hin hsz hP hK hD hN hZ hA hS hl
  have hF : CallFix p m c cX0_oneWay 3 s _ _ RX0 := hF
  have hx := hF.1
  have hb := hF.2.1
  have hml := hF.2.2.1
  have hown := hF.2.2.2.1
  have hu : ∀ w ∈ wsU, w.before _ s = true := fun w h => hF.2.2.2.2 w (List.mem_cons_of_mem _ h)
  have hl : lv_has ls 3 [(0, .ref q1), (1, .int (nI (j))), (2, .int (nI (k)))] := hl
  refine lv_aload_n hx hb dX0_oneWay_0 rfl (lv_at hl 0 rfl) ?_
  refine lv_iload_n hx hb dX0_oneWay_1 rfl (lv_at hl 1 rfl) ?_
  refine lv_iload_n hx hb dX0_oneWay_2 rfl (lv_at hl 2 rfl) ?_
  refine xc_Vr hF (c_X1_isOpen l D cI cJ cZ cS ta sa sv s.heap.size q1 be bl bu bo br bk bw btt bss P j k d (by omega) (by omega)) kv_X0_30 ⟨rfl, rfl, Nat.le_of_ble_eq_true rfl, Nat.le_of_ble_eq_true rfl⟩ ⟨Nat.le_of_ble_eq_true rfl, Nat.le_of_ble_eq_true rfl⟩ hK hN hZ hP hD hS hA [0, 2] rfl rfl 0 rfl rfl rfl rfl hl.1 rfl (Nat.le_of_ble_eq_true rfl) dX0_oneWay_3 (fun r_1 hw_r_1 => ?_)
  rcases hw_r_1 with ⟨rfl, h_2⟩ | ⟨rfl, h_3⟩
  · skip
    refine lv_if_eq (tgt := 23) hx hb dX0_oneWay_6 (by decide) (fun c_4 => absurd c_4 (by decide)) (fun c_4 => ?_)
    refine lv_bipush (v := 100) hx hb dX0_oneWay_9 (by decide) ?_
    refine lv_aload_n hx hb dX0_oneWay_11 rfl (lv_at hl 0 rfl) ?_
    refine lv_iload_n hx hb dX0_oneWay_12 rfl (lv_at hl 1 rfl) ?_
    refine lv_iload_n hx hb dX0_oneWay_13 rfl (lv_at hl 2 rfl) ?_
    refine xc_Vr hF (c_X1_lowOf l D cI cJ cZ cS ta sa sv s.heap.size q1 be bl bu bo br bk bw btt bss P j k lo (by omega) (by omega)) kv_X0_34 ⟨rfl, rfl, Nat.le_of_ble_eq_true rfl, Nat.le_of_ble_eq_true rfl⟩ ⟨Nat.le_of_ble_eq_true rfl, Nat.le_of_ble_eq_true rfl⟩ hK hN hZ hP hD hS hA [0, 1] rfl rfl 0 rfl rfl rfl rfl hl.1 rfl (Nat.le_of_ble_eq_true rfl) dX0_oneWay_14 (fun r_5 hw_r_5 => ?_)
    subst hw_r_5
    refine lv_imul hx hb dX0_oneWay_17 ?_
    refine lv_topi (fun x_6 ex_6 => ?_)
    refine lv_iconst (v := 1) hx hb dX0_oneWay_18 (by decide) ?_
    refine lv_iadd hx hb dX0_oneWay_19 ?_
    refine lv_topi (fun x_7 ex_7 => ?_)
    refine lv_goto (tgt := 25) hx hb dX0_oneWay_20 (by decide) ?_
    exact W.iret (v := x_7) hx hb hr (fun t ht hW => ⟨x_7, rfl, trivial, ht⟩) (fun q h => by cases h) dX0_oneWay_25 hlk
  · skip
    refine lv_if_eq (tgt := 23) hx hb dX0_oneWay_6 (by decide) (fun c_8 => ?_) (fun c_8 => absurd (by decide) c_8)
    refine lv_ldc (v := 1000000000) hx hb hown (hu _ uw79) dX0_oneWay_23 ?_
    exact W.iret (v := 1000000000) hx hb hr (fun t ht hW => ⟨1000000000, rfl, trivial, ht⟩) (fun q h => by cases h) dX0_oneWay_25 hlk
set_option maxHeartbeats 4000000 in
set_option maxRecDepth 100000 in
theorem c_X0_shortenOver (l : Launch) (D : va_G) (cI cJ cZ cS : ClassId) (ta : Nat) (sa sv : Nat → Nat) (sz : Nat) (h0 : Nat) (an : Nat) (Q : Nat) (j : Nat) (La : Nat → Int32) (hQ : Q ≤ 10) (hj : j < 10) : Met l yX0_shortenOver (Cond.code yX0_shortenOver cX0_shortenOver 6 none :: wsU) ({ frames := 1, cells := 0, slots := 0, locals := 40 }) (va_Pc [.ref h0, .int (nI (j))] (XW D (xT cI cJ cZ cS) ta sa sv [(h0, .inr (0, [.int (nI (Q)), .ref an])), (an, .inl (cI, 100, .inl La))] sz)) (XQv (fun (L2 : (Nat → Int32)) => True) D (fun (L2 : Nat → Int32) => [(h0, .inr (0, [.int (nI (Q)), .ref an])), (an, .inl (cI, 100, .inl L2))]) (va_A [(h0, .inr (0, [.int (nI (Q)), .ref an])), (an, .inl (cI, 100, .inl La))] sz)) 0 0 (va_A [(h0, .inr (0, [.int (nI (Q)), .ref an])), (an, .inl (cI, 100, .inl La))] sz) := by
  refine xh (QA := fun A => XQv (fun (L2 : (Nat → Int32)) => True) D (fun (L2 : Nat → Int32) => [(h0, .inr (0, [.int (nI (Q)), .ref an])), (an, .inl (cI, 100, .inl L2))]) A) (fr := fun A => A) (by decide) (Nat.le_of_ble_eq_true rfl) ?_
  intro p e s m below meth c ls A hF hr hlk hin hsz hP hK hD hN hZ hA hS hl
  have hF : CallFix p m c cX0_shortenOver 6 s _ _ RX0 := hF
  have hx := hF.1
  have hb := hF.2.1
  have hml := hF.2.2.1
  have hown := hF.2.2.2.1
  have hu : ∀ w ∈ wsU, w.before _ s = true := fun w h => hF.2.2.2.2 w (List.mem_cons_of_mem _ h)
  have hl : lv_has ls 6 [(0, .ref h0), (1, .int (nI (j)))] := hl
  refine lv_iconst (v := 0) hx hb dX0_shortenOver_0 (by decide) ?_
  refine lv_istore_n (lv' := [(2, .int 0), (0, .ref h0), (1, .int (nI (j)))]) hx hb dX0_shortenOver_1 rfl hl (by decide) rfl (fun ls hl => ?_)
  suffices loop_2 : ∀ (n_2 : Nat) (i : Nat) (L9 : Nat → Int32) (H : Heap) (locs : List Loc) (ls : Array Slot), Q - i < n_2 → (i ≤ Q) → va_P D vwCl [(h0, .inr (0, [.int (nI (Q)), .ref an])), (an, .inl (cI, 100, .inl L9))] H → va_D A [(h0, .inr (0, [.int (nI (Q)), .ref an])), (an, .inl (cI, 100, .inl L9))] → va_S A s.heap H locs → lv_has ls 6 [(2, .int (nI (i))), (0, .ref h0), (1, .int (nI (j)))] → W p l e ({ frames := 1, cells := 0, slots := 0, locals := 40 }) s m ([.ref h0, .int (nI (j))] : List Value).toArray below meth c H locs 0 0 (MQ below (XQv (fun (L2 : (Nat → Int32)) => True) D (fun (L2 : Nat → Int32) => [(h0, .inr (0, [.int (nI (Q)), .ref an])), (an, .inl (cI, 100, .inl L2))]) A) ([.ref h0, .int (nI (j))] : List Value).toArray s 0 0 A) (F0 m 2 ls []) by
    exact loop_2 _ 0 La _ _ _ (Nat.lt_succ_self _) (by omega) hP hD hS (lv_sub hl [0, 1, 2] rfl)
  intro n_2
  induction n_2 with
  | zero =>
    intro i L9 H locs ls hm_2
    exact absurd hm_2 (Nat.not_lt_zero _)
  | succ n_2 ih_2 =>
    intro i L9 H locs ls hm_2 hi hP hD hS hl
    refine lv_iload_n hx hb dX0_shortenOver_2 rfl (lv_at hl 0 rfl) ?_
    refine lv_aload_n hx hb dX0_shortenOver_3 rfl (lv_at hl 1 rfl) ?_
    refine xg hF kf_X0_9 hK hP 0 rfl rfl dX0_shortenOver_4 ?_
    refine lv_icmp_ge (tgt := 91) hx hb dX0_shortenOver_7 (by decide) (fun c_1 => ?_) (fun c_1 => ?_)
    · skip
      have nc_1 : Q ≤ i := xn_le (a := Q) (b := i) (by omega) (by omega) c_1
      exact W.vret hx hb hr (fun t ht hW => ⟨⟨L9, rfl, trivial, by rw [ht]; exact hP.sub [0, 1] rfl, hD.sub [0, 1] (by decide) rfl⟩, hS.F ht⟩) hS.2.2 dX0_shortenOver_91 hlk
    · skip
      have nc_1 : i < Q := xn_nle (a := Q) (b := i) (by omega) (by omega) c_1
      refine lv_aload_n hx hb dX0_shortenOver_10 rfl (lv_at hl 1 rfl) ?_
      refine lv_iload_n hx hb dX0_shortenOver_11 rfl (lv_at hl 0 rfl) ?_
      refine lv_iload_n hx hb dX0_shortenOver_12 rfl (lv_at hl 2 rfl) ?_
      refine xc_Vr hF (c_X0_lengthOf l D cI cJ cZ cS ta sa sv H.size h0 an Q i j L9 (by omega) (by omega)) kv_X0_39 ⟨rfl, rfl, Nat.le_of_ble_eq_true rfl, Nat.le_of_ble_eq_true rfl⟩ ⟨Nat.le_of_ble_eq_true rfl, Nat.le_of_ble_eq_true rfl⟩ hK hN hZ hP hD hS hA [0, 1] rfl rfl 0 rfl rfl rfl rfl hl.1 rfl (Nat.le_of_ble_eq_true rfl) dX0_shortenOver_13 (fun r_2 hw_r_2 => ?_)
      subst hw_r_2
      refine lv_istore_n (lv' := [(3, .int (L9 (10 * i + j))), (2, .int (nI (i))), (0, .ref h0), (1, .int (nI (j)))]) hx hb dX0_shortenOver_16 rfl hl (by decide) rfl (fun ls hl => ?_)
      refine lv_iconst (v := 0) hx hb dX0_shortenOver_17 (by decide) ?_
      refine lv_istore (lv' := [(4, .int 0), (3, .int (L9 (10 * i + j))), (2, .int (nI (i))), (0, .ref h0), (1, .int (nI (j)))]) hx hb dX0_shortenOver_18 hl (by decide) rfl (fun ls hl => ?_)
      suffices loop_20 : ∀ (n_20 : Nat) (k : Nat) (L8 : Nat → Int32) (H : Heap) (locs : List Loc) (ls : Array Slot), Q - k < n_20 → (k ≤ Q) → va_P D vwCl [(h0, .inr (0, [.int (nI (Q)), .ref an])), (an, .inl (cI, 100, .inl L8))] H → va_D A [(h0, .inr (0, [.int (nI (Q)), .ref an])), (an, .inl (cI, 100, .inl L8))] → va_S A s.heap H locs → lv_has ls 6 [(4, .int (nI (k))), (3, .int (L9 (10 * i + j))), (2, .int (nI (i))), (0, .ref h0), (1, .int (nI (j)))] → W p l e ({ frames := 1, cells := 0, slots := 0, locals := 40 }) s m ([.ref h0, .int (nI (j))] : List Value).toArray below meth c H locs 0 0 (MQ below (XQv (fun (L2 : (Nat → Int32)) => True) D (fun (L2 : Nat → Int32) => [(h0, .inr (0, [.int (nI (Q)), .ref an])), (an, .inl (cI, 100, .inl L2))]) A) ([.ref h0, .int (nI (j))] : List Value).toArray s 0 0 A) (F0 m 20 ls []) by
        exact loop_20 _ 0 L9 _ _ _ (Nat.lt_succ_self _) (by omega) hP hD hS (lv_sub hl [0, 1, 2, 3, 4] rfl)
      intro n_20
      induction n_20 with
      | zero =>
        intro k L8 H locs ls hm_20
        exact absurd hm_20 (Nat.not_lt_zero _)
      | succ n_20 ih_20 =>
        intro k L8 H locs ls hm_20 hk hP hD hS hl
        refine lv_iload hx hb dX0_shortenOver_20 (lv_at hl 0 rfl) ?_
        refine lv_aload_n hx hb dX0_shortenOver_22 rfl (lv_at hl 3 rfl) ?_
        refine xg hF kf_X0_9 hK hP 0 rfl rfl dX0_shortenOver_23 ?_
        refine lv_icmp_ge (tgt := 85) hx hb dX0_shortenOver_26 (by decide) (fun c_3 => ?_) (fun c_3 => ?_)
        · skip
          have nc_3 : Q ≤ k := xn_le (a := Q) (b := k) (by omega) (by omega) c_3
          refine lv_iinc (v := nI (i + 1)) (lv' := [(2, .int (nI (i + 1))), (4, .int (nI (k))), (3, .int (L9 (10 * i + j))), (0, .ref h0), (1, .int (nI (j)))]) hx hb dX0_shortenOver_85 hl (k := 2) rfl (nI_1 (i)) (by decide) rfl (fun ls hl => ?_)
          refine lv_goto (tgt := 2) hx hb dX0_shortenOver_88 (by decide) ?_
          exact ih_2 (i + 1) L8 _ _ _ (by omega) (by omega) (hP.sub [0, 1] rfl) (hD.sub [0, 1] (by decide) rfl) hS (lv_sub hl [0, 3, 4] rfl)
        · skip
          have nc_3 : k < Q := xn_nle (a := Q) (b := k) (by omega) (by omega) c_3
          refine lv_iload_n hx hb dX0_shortenOver_29 rfl (lv_at hl 1 rfl) ?_
          refine lv_ldc (v := 1000000000) hx hb hown (hu _ uw79) dX0_shortenOver_30 ?_
          refine lv_icmp_eq (tgt := 85) hx hb dX0_shortenOver_32 (by decide) (fun c_4 => ?_) (fun c_4 => ?_)
          · skip
            refine lv_iinc (v := nI (i + 1)) (lv' := [(2, .int (nI (i + 1))), (4, .int (nI (k))), (3, .int (L9 (10 * i + j))), (0, .ref h0), (1, .int (nI (j)))]) hx hb dX0_shortenOver_85 hl (k := 2) rfl (nI_1 (i)) (by decide) rfl (fun ls hl => ?_)
            refine lv_goto (tgt := 2) hx hb dX0_shortenOver_88 (by decide) ?_
            exact ih_2 (i + 1) L8 _ _ _ (by omega) (by omega) (hP.sub [0, 1] rfl) (hD.sub [0, 1] (by decide) rfl) hS (lv_sub hl [0, 3, 4] rfl)
          · skip
            refine lv_iload_n hx hb dX0_shortenOver_35 rfl (lv_at hl 1 rfl) ?_
            refine lv_aload_n hx hb dX0_shortenOver_36 rfl (lv_at hl 3 rfl) ?_
            refine lv_iload_n hx hb dX0_shortenOver_37 rfl (lv_at hl 4 rfl) ?_
            refine lv_iload hx hb dX0_shortenOver_38 (lv_at hl 0 rfl) ?_
            refine xc_Vr hF (c_X0_lengthOf l D cI cJ cZ cS ta sa sv H.size h0 an Q j k L8 (by omega) (by omega)) kv_X0_39 ⟨rfl, rfl, Nat.le_of_ble_eq_true rfl, Nat.le_of_ble_eq_true rfl⟩ ⟨Nat.le_of_ble_eq_true rfl, Nat.le_of_ble_eq_true rfl⟩ hK hN hZ hP hD hS hA [0, 1] rfl rfl 0 rfl rfl rfl rfl hl.1 rfl (Nat.le_of_ble_eq_true rfl) dX0_shortenOver_40 (fun r_5 hw_r_5 => ?_)
            subst hw_r_5
            refine xc_SNr hF (c_X8_together l D cI cJ cZ cS ta sa sv H.size (L9 (10 * i + j)) (L8 (10 * j + k)) ) kn_X0_42.1 kn_X0_42.2.1 kn_X0_42.2.2 ⟨rfl, rfl, Nat.le_of_ble_eq_true rfl, Nat.le_of_ble_eq_true rfl⟩ ⟨Nat.le_of_ble_eq_true rfl, Nat.le_of_ble_eq_true rfl⟩ hK hN hZ hP hD hS hA [] rfl rfl rfl hl.1 rfl (Nat.le_of_ble_eq_true rfl) dX0_shortenOver_43 (fun r_6 hw_r_6 => ?_)
            refine lv_istore (lv' := [(5, .int r_6), (4, .int (nI (k))), (3, .int (L9 (10 * i + j))), (2, .int (nI (i))), (0, .ref h0), (1, .int (nI (j)))]) hx hb dX0_shortenOver_46 hl (by decide) rfl (fun ls hl => ?_)
            refine lv_iload hx hb dX0_shortenOver_48 (lv_at hl 0 rfl) ?_
            refine lv_aload_n hx hb dX0_shortenOver_50 rfl (lv_at hl 4 rfl) ?_
            refine lv_iload_n hx hb dX0_shortenOver_51 rfl (lv_at hl 3 rfl) ?_
            refine lv_iload hx hb dX0_shortenOver_52 (lv_at hl 1 rfl) ?_
            refine xc_Vr hF (c_X0_lengthOf l D cI cJ cZ cS ta sa sv H.size h0 an Q i k L8 (by omega) (by omega)) kv_X0_39 ⟨rfl, rfl, Nat.le_of_ble_eq_true rfl, Nat.le_of_ble_eq_true rfl⟩ ⟨Nat.le_of_ble_eq_true rfl, Nat.le_of_ble_eq_true rfl⟩ hK hN hZ hP hD hS hA [0, 1] rfl rfl 0 rfl rfl rfl rfl hl.1 rfl (Nat.le_of_ble_eq_true rfl) dX0_shortenOver_54 (fun r_7 hw_r_7 => ?_)
            subst hw_r_7
            refine lv_icmp_ge (tgt := 79) hx hb dX0_shortenOver_57 (by decide) (fun c_8 => ?_) (fun c_8 => ?_)
            · skip
              refine lv_iinc (v := nI (k + 1)) (lv' := [(4, .int (nI (k + 1))), (5, .int r_6), (3, .int (L9 (10 * i + j))), (2, .int (nI (i))), (0, .ref h0), (1, .int (nI (j)))]) hx hb dX0_shortenOver_79 hl (k := 1) rfl (nI_1 (k)) (by decide) rfl (fun ls hl => ?_)
              refine lv_goto (tgt := 20) hx hb dX0_shortenOver_82 (by decide) ?_
              exact ih_20 (k + 1) L8 _ _ _ (by omega) (by omega) (hP.sub [0, 1] rfl) (hD.sub [0, 1] (by decide) rfl) hS (lv_sub hl [0, 2, 3, 4, 5] rfl)
            · skip
              refine lv_aload_n hx hb dX0_shortenOver_60 rfl (lv_at hl 4 rfl) ?_
              refine xg hF kf_X0_15 hK hP 0 rfl rfl dX0_shortenOver_61 ?_
              refine lv_bipush (v := 10) hx hb dX0_shortenOver_64 (by decide) ?_
              refine lv_iload_n hx hb dX0_shortenOver_66 rfl (lv_at hl 3 rfl) ?_
              refine lv_imul hx hb dX0_shortenOver_67 ?_
              refine xl_i (y := nI (10 * i)) (pk_mul 10 i) ?_
              refine lv_iload hx hb dX0_shortenOver_68 (lv_at hl 1 rfl) ?_
              refine lv_iadd hx hb dX0_shortenOver_70 ?_
              refine xl_i (y := nI (10 * i + k)) (nI_add (10 * i) k) ?_
              refine lv_iload hx hb dX0_shortenOver_71 (lv_at hl 0 rfl) ?_
              refine lv_ldc (v := (-100000000)) hx hb hown (hu _ uw89) dX0_shortenOver_73 ?_
              refine va_mmax hx hb (hml.trans hl.1.symm) hown (hu _ uw90) (hu _ uw91) (hu _ uw92) (hu _ uw93) (Nat.le_of_ble_eq_true rfl) (Nat.le_of_ble_eq_true rfl) (Nat.le_of_ble_eq_true rfl) (Nat.le_of_ble_eq_true rfl) dX0_shortenOver_75 ?_
              refine lv_topi (fun x_9 ex_9 => ?_)
              refine va_iast hx hb hK hP hD hS 1 0 rfl rfl (vp_in_nI (show 10 * i + k < 100 by omega) (by decide)) dX0_shortenOver_78 (fun H locs hP hD hS => ?_)
              rw [nI_clamp (show 10 * i + k < 2 ^ 31 by omega)] at hP hD
              obtain ⟨f_10, ef_10⟩ : ∃ g, g = upd L8 (10 * i + k) x_9 := ⟨_, rfl⟩
              rw [← ef_10] at hP hD
              have hP : va_P D vwCl [(h0, .inr (0, [.int (nI (Q)), .ref an])), (an, .inl (cI, 100, .inl f_10))] H := hP
              have hD : va_D A [(h0, .inr (0, [.int (nI (Q)), .ref an])), (an, .inl (cI, 100, .inl f_10))] := hD
              refine lv_iinc (v := nI (k + 1)) (lv' := [(4, .int (nI (k + 1))), (5, .int r_6), (3, .int (L9 (10 * i + j))), (2, .int (nI (i))), (0, .ref h0), (1, .int (nI (j)))]) hx hb dX0_shortenOver_79 hl (k := 1) rfl (nI_1 (k)) (by decide) rfl (fun ls hl => ?_)
              refine lv_goto (tgt := 20) hx hb dX0_shortenOver_82 (by decide) ?_
              exact ih_20 (k + 1) f_10 _ _ _ (by omega) (by omega) (hP.sub [0, 1] rfl) (hD.sub [0, 1] (by decide) rfl) hS (lv_sub hl [0, 2, 3, 4, 5] rfl)
set_option maxHeartbeats 4000000 in
set_option maxRecDepth 100000 in
theorem c_X0_measure (l : Launch) (D : va_G) (cI cJ cZ cS : ClassId) (ta : Nat) (sa sv : Nat → Nat) (sz : Nat) (h0 : Nat) (an : Nat) (Q : Nat) (La : Nat → Int32) (q1 : Nat) (be : Nat) (bl : Nat) (bu : Nat) (bo : Nat) (br : Nat) (bk : Nat) (bw : Nat) (btt : Nat) (bss : Nat) (P : Nat) (lo : Nat → Int32) (d : Nat → Int32) (hP0 : P ≤ 10) : Met l yX0_measure (Cond.code yX0_measure cX0_measure 4 none :: wsU) ({ frames := 3, cells := 0, slots := 0, locals := 65 }) (va_Pc [.ref h0, .ref q1] (XW D (xT cI cJ cZ cS) ta sa sv [(h0, .inr (0, [.int (nI (Q)), .ref an])), (an, .inl (cI, 100, .inl La)), (q1, .inr (1, [.int (nI (P)), .ref be, .ref bl, .ref bu, .ref bo, .ref br, .ref bk, .ref bw, .ref btt, .ref bss])), (bl, .inl (cI, 100, .inl lo)), (bo, .inl (cI, 100, .inl d))] sz)) (XQv (fun (L2 : (Nat → Int32)) => True) D (fun (L2 : Nat → Int32) => [(h0, .inr (0, [.int (nI (P)), .ref an])), (an, .inl (cI, 100, .inl L2)), (q1, .inr (1, [.int (nI (P)), .ref be, .ref bl, .ref bu, .ref bo, .ref br, .ref bk, .ref bw, .ref btt, .ref bss])), (bl, .inl (cI, 100, .inl lo)), (bo, .inl (cI, 100, .inl d))]) (va_A [(h0, .inr (0, [.int (nI (Q)), .ref an])), (an, .inl (cI, 100, .inl La)), (q1, .inr (1, [.int (nI (P)), .ref be, .ref bl, .ref bu, .ref bo, .ref br, .ref bk, .ref bw, .ref btt, .ref bss])), (bl, .inl (cI, 100, .inl lo)), (bo, .inl (cI, 100, .inl d))] sz)) 0 0 (va_A [(h0, .inr (0, [.int (nI (Q)), .ref an])), (an, .inl (cI, 100, .inl La)), (q1, .inr (1, [.int (nI (P)), .ref be, .ref bl, .ref bu, .ref bo, .ref br, .ref bk, .ref bw, .ref btt, .ref bss])), (bl, .inl (cI, 100, .inl lo)), (bo, .inl (cI, 100, .inl d))] sz) := by
  refine xh (QA := fun A => XQv (fun (L2 : (Nat → Int32)) => True) D (fun (L2 : Nat → Int32) => [(h0, .inr (0, [.int (nI (P)), .ref an])), (an, .inl (cI, 100, .inl L2)), (q1, .inr (1, [.int (nI (P)), .ref be, .ref bl, .ref bu, .ref bo, .ref br, .ref bk, .ref bw, .ref btt, .ref bss])), (bl, .inl (cI, 100, .inl lo)), (bo, .inl (cI, 100, .inl d))]) A) (fr := fun A => A) (by decide) (Nat.le_of_ble_eq_true rfl) ?_
  intro p e s m below meth c ls A hF hr hlk hin hsz hP hK hD hN hZ hA hS hl
  have hF : CallFix p m c cX0_measure 4 s _ _ RX0 := hF
  have hx := hF.1
  have hb := hF.2.1
  have hml := hF.2.2.1
  have hown := hF.2.2.2.1
  have hu : ∀ w ∈ wsU, w.before _ s = true := fun w h => hF.2.2.2.2 w (List.mem_cons_of_mem _ h)
  have hl : lv_has ls 4 [(0, .ref h0), (1, .ref q1)] := hl
  refine lv_aload_n hx hb dX0_measure_0 rfl (lv_at hl 0 rfl) ?_
  refine lv_aload_n hx hb dX0_measure_1 rfl (lv_at hl 1 rfl) ?_
  refine xg hF kf_X0_19 hK hP 2 rfl rfl dX0_measure_2 ?_
  refine xp hF kf_X0_9 tyX0_ok nmX0 hK hP hD hS 0 rfl rfl rfl rfl (Nat.le_of_ble_eq_true rfl) dX0_measure_5 (fun H locs hP hD hS => ?_)
  have hP : va_P D vwCl [(h0, .inr (0, [.int (nI (P)), .ref an])), (an, .inl (cI, 100, .inl La)), (q1, .inr (1, [.int (nI (P)), .ref be, .ref bl, .ref bu, .ref bo, .ref br, .ref bk, .ref bw, .ref btt, .ref bss])), (bl, .inl (cI, 100, .inl lo)), (bo, .inl (cI, 100, .inl d))] H := hP
  have hD : va_D A [(h0, .inr (0, [.int (nI (P)), .ref an])), (an, .inl (cI, 100, .inl La)), (q1, .inr (1, [.int (nI (P)), .ref be, .ref bl, .ref bu, .ref bo, .ref br, .ref bk, .ref bw, .ref btt, .ref bss])), (bl, .inl (cI, 100, .inl lo)), (bo, .inl (cI, 100, .inl d))] := hD
  refine lv_iconst (v := 0) hx hb dX0_measure_8 (by decide) ?_
  refine lv_istore_n (lv' := [(2, .int 0), (0, .ref h0), (1, .ref q1)]) hx hb dX0_measure_9 rfl hl (by decide) rfl (fun ls hl => ?_)
  suffices loop_10 : ∀ (n_10 : Nat) (i : Nat) (L9 : Nat → Int32) (H : Heap) (locs : List Loc) (ls : Array Slot), P - i < n_10 → (i ≤ P) → va_P D vwCl [(h0, .inr (0, [.int (nI (P)), .ref an])), (an, .inl (cI, 100, .inl L9)), (q1, .inr (1, [.int (nI (P)), .ref be, .ref bl, .ref bu, .ref bo, .ref br, .ref bk, .ref bw, .ref btt, .ref bss])), (bl, .inl (cI, 100, .inl lo)), (bo, .inl (cI, 100, .inl d))] H → va_D A [(h0, .inr (0, [.int (nI (P)), .ref an])), (an, .inl (cI, 100, .inl L9)), (q1, .inr (1, [.int (nI (P)), .ref be, .ref bl, .ref bu, .ref bo, .ref br, .ref bk, .ref bw, .ref btt, .ref bss])), (bl, .inl (cI, 100, .inl lo)), (bo, .inl (cI, 100, .inl d))] → va_S A s.heap H locs → lv_has ls 4 [(2, .int (nI (i))), (0, .ref h0), (1, .ref q1)] → W p l e ({ frames := 3, cells := 0, slots := 0, locals := 65 }) s m ([.ref h0, .ref q1] : List Value).toArray below meth c H locs 0 0 (MQ below (XQv (fun (L2 : (Nat → Int32)) => True) D (fun (L2 : Nat → Int32) => [(h0, .inr (0, [.int (nI (P)), .ref an])), (an, .inl (cI, 100, .inl L2)), (q1, .inr (1, [.int (nI (P)), .ref be, .ref bl, .ref bu, .ref bo, .ref br, .ref bk, .ref bw, .ref btt, .ref bss])), (bl, .inl (cI, 100, .inl lo)), (bo, .inl (cI, 100, .inl d))]) A) ([.ref h0, .ref q1] : List Value).toArray s 0 0 A) (F0 m 10 ls []) by
    exact loop_10 _ 0 La _ _ _ (Nat.lt_succ_self _) (by omega) hP hD hS (lv_sub hl [0, 1, 2] rfl)
  intro n_10
  induction n_10 with
  | zero =>
    intro i L9 H locs ls hm_10
    exact absurd hm_10 (Nat.not_lt_zero _)
  | succ n_10 ih_10 =>
    intro i L9 H locs ls hm_10 hi hP hD hS hl
    refine lv_iload_n hx hb dX0_measure_10 rfl (lv_at hl 0 rfl) ?_
    refine lv_aload_n hx hb dX0_measure_11 rfl (lv_at hl 1 rfl) ?_
    refine xg hF kf_X0_9 hK hP 0 rfl rfl dX0_measure_12 ?_
    refine lv_icmp_ge (tgt := 66) hx hb dX0_measure_15 (by decide) (fun c_1 => ?_) (fun c_1 => ?_)
    · skip
      have nc_1 : P ≤ i := xn_le (a := P) (b := i) (by omega) (by omega) c_1
      refine lv_iconst (v := 0) hx hb dX0_measure_66 (by decide) ?_
      refine lv_istore_n (lv' := [(2, .int 0), (0, .ref h0), (1, .ref q1)]) hx hb dX0_measure_67 rfl hl (by decide) rfl (fun ls hl => ?_)
      suffices loop_68 : ∀ (n_68 : Nat) (i2 : Nat) (L7 : Nat → Int32) (H : Heap) (locs : List Loc) (ls : Array Slot), P - i2 < n_68 → (i2 ≤ P) → va_P D vwCl [(h0, .inr (0, [.int (nI (P)), .ref an])), (an, .inl (cI, 100, .inl L7)), (q1, .inr (1, [.int (nI (P)), .ref be, .ref bl, .ref bu, .ref bo, .ref br, .ref bk, .ref bw, .ref btt, .ref bss])), (bl, .inl (cI, 100, .inl lo)), (bo, .inl (cI, 100, .inl d))] H → va_D A [(h0, .inr (0, [.int (nI (P)), .ref an])), (an, .inl (cI, 100, .inl L7)), (q1, .inr (1, [.int (nI (P)), .ref be, .ref bl, .ref bu, .ref bo, .ref br, .ref bk, .ref bw, .ref btt, .ref bss])), (bl, .inl (cI, 100, .inl lo)), (bo, .inl (cI, 100, .inl d))] → va_S A s.heap H locs → lv_has ls 4 [(2, .int (nI (i2))), (0, .ref h0), (1, .ref q1)] → W p l e ({ frames := 3, cells := 0, slots := 0, locals := 65 }) s m ([.ref h0, .ref q1] : List Value).toArray below meth c H locs 0 0 (MQ below (XQv (fun (L2 : (Nat → Int32)) => True) D (fun (L2 : Nat → Int32) => [(h0, .inr (0, [.int (nI (P)), .ref an])), (an, .inl (cI, 100, .inl L2)), (q1, .inr (1, [.int (nI (P)), .ref be, .ref bl, .ref bu, .ref bo, .ref br, .ref bk, .ref bw, .ref btt, .ref bss])), (bl, .inl (cI, 100, .inl lo)), (bo, .inl (cI, 100, .inl d))]) A) ([.ref h0, .ref q1] : List Value).toArray s 0 0 A) (F0 m 68 ls []) by
        exact loop_68 _ 0 L9 _ _ _ (Nat.lt_succ_self _) (by omega) hP hD hS (lv_sub hl [0, 1, 2] rfl)
      intro n_68
      induction n_68 with
      | zero =>
        intro i2 L7 H locs ls hm_68
        exact absurd hm_68 (Nat.not_lt_zero _)
      | succ n_68 ih_68 =>
        intro i2 L7 H locs ls hm_68 hi2 hP hD hS hl
        refine lv_iload_n hx hb dX0_measure_68 rfl (lv_at hl 0 rfl) ?_
        refine lv_aload_n hx hb dX0_measure_69 rfl (lv_at hl 1 rfl) ?_
        refine xg hF kf_X0_9 hK hP 0 rfl rfl dX0_measure_70 ?_
        refine lv_icmp_ge (tgt := 87) hx hb dX0_measure_73 (by decide) (fun c_2 => ?_) (fun c_2 => ?_)
        · skip
          have nc_2 : P ≤ i2 := xn_le (a := P) (b := i2) (by omega) (by omega) c_2
          exact W.vret hx hb hr (fun t ht hW => ⟨⟨L7, rfl, trivial, by rw [ht]; exact hP.sub [0, 1, 2, 3, 4] rfl, hD.sub [0, 1, 2, 3, 4] (by decide +kernel) rfl⟩, hS.F ht⟩) hS.2.2 dX0_measure_87 hlk
        · skip
          have nc_2 : i2 < P := xn_nle (a := P) (b := i2) (by omega) (by omega) c_2
          refine lv_aload_n hx hb dX0_measure_76 rfl (lv_at hl 1 rfl) ?_
          refine lv_iload_n hx hb dX0_measure_77 rfl (lv_at hl 0 rfl) ?_
          refine xc_Vv (wr := [(q1, .inr (1, [.int (nI (P)), .ref be, .ref bl, .ref bu, .ref bo, .ref br, .ref bk, .ref bw, .ref btt, .ref bss])), (bl, .inl (cI, 100, .inl lo)), (bo, .inl (cI, 100, .inl d))]) hF (c_X0_shortenOver l D cI cJ cZ cS ta sa sv H.size h0 an P i2 L7 (by omega) (by omega)) kv_X0_26 ⟨rfl, rfl, Nat.le_of_ble_eq_true rfl, Nat.le_of_ble_eq_true rfl⟩ ⟨Nat.le_of_ble_eq_true rfl, Nat.le_of_ble_eq_true rfl⟩ hK hN hZ hP hD hS hA [0, 1] [2, 3, 4] rfl rfl rfl rfl (by decide) 0 rfl rfl rfl rfl hl.1 rfl (Nat.le_of_ble_eq_true rfl) dX0_measure_78 (fun u_r_3 H locs hw_r_3 hP hD hS => ?_)
          obtain ⟨L2_4, rfl⟩ : ∃ z, z = u_r_3 := ⟨_, rfl⟩
          try dsimp only at hw_r_3
          have hP : va_P D vwCl [(q1, .inr (1, [.int (nI (P)), .ref be, .ref bl, .ref bu, .ref bo, .ref br, .ref bk, .ref bw, .ref btt, .ref bss])), (bl, .inl (cI, 100, .inl lo)), (bo, .inl (cI, 100, .inl d)), (h0, .inr (0, [.int (nI (P)), .ref an])), (an, .inl (cI, 100, .inl L2_4))] H := hP
          have hD : va_D A [(q1, .inr (1, [.int (nI (P)), .ref be, .ref bl, .ref bu, .ref bo, .ref br, .ref bk, .ref bw, .ref btt, .ref bss])), (bl, .inl (cI, 100, .inl lo)), (bo, .inl (cI, 100, .inl d)), (h0, .inr (0, [.int (nI (P)), .ref an])), (an, .inl (cI, 100, .inl L2_4))] := hD
          refine lv_iinc (v := nI (i2 + 1)) (lv' := [(2, .int (nI (i2 + 1))), (0, .ref h0), (1, .ref q1)]) hx hb dX0_measure_81 hl (k := 0) rfl (nI_1 (i2)) (by decide) rfl (fun ls hl => ?_)
          refine lv_goto (tgt := 68) hx hb dX0_measure_84 (by decide) ?_
          exact ih_68 (i2 + 1) L2_4 _ _ _ (by omega) (by omega) (hP.sub [3, 4, 0, 1, 2] rfl) (hD.sub [3, 4, 0, 1, 2] (by decide +kernel) rfl) hS (lv_sub hl [0, 1, 2] rfl)
    · skip
      have nc_1 : i < P := xn_nle (a := P) (b := i) (by omega) (by omega) c_1
      refine lv_iconst (v := 0) hx hb dX0_measure_18 (by decide) ?_
      refine lv_istore_n (lv' := [(3, .int 0), (2, .int (nI (i))), (0, .ref h0), (1, .ref q1)]) hx hb dX0_measure_19 rfl hl (by decide) rfl (fun ls hl => ?_)
      suffices loop_20 : ∀ (n_20 : Nat) (k : Nat) (L8 : Nat → Int32) (H : Heap) (locs : List Loc) (ls : Array Slot), P - k < n_20 → (k ≤ P) → va_P D vwCl [(h0, .inr (0, [.int (nI (P)), .ref an])), (an, .inl (cI, 100, .inl L8)), (q1, .inr (1, [.int (nI (P)), .ref be, .ref bl, .ref bu, .ref bo, .ref br, .ref bk, .ref bw, .ref btt, .ref bss])), (bl, .inl (cI, 100, .inl lo)), (bo, .inl (cI, 100, .inl d))] H → va_D A [(h0, .inr (0, [.int (nI (P)), .ref an])), (an, .inl (cI, 100, .inl L8)), (q1, .inr (1, [.int (nI (P)), .ref be, .ref bl, .ref bu, .ref bo, .ref br, .ref bk, .ref bw, .ref btt, .ref bss])), (bl, .inl (cI, 100, .inl lo)), (bo, .inl (cI, 100, .inl d))] → va_S A s.heap H locs → lv_has ls 4 [(3, .int (nI (k))), (2, .int (nI (i))), (0, .ref h0), (1, .ref q1)] → W p l e ({ frames := 3, cells := 0, slots := 0, locals := 65 }) s m ([.ref h0, .ref q1] : List Value).toArray below meth c H locs 0 0 (MQ below (XQv (fun (L2 : (Nat → Int32)) => True) D (fun (L2 : Nat → Int32) => [(h0, .inr (0, [.int (nI (P)), .ref an])), (an, .inl (cI, 100, .inl L2)), (q1, .inr (1, [.int (nI (P)), .ref be, .ref bl, .ref bu, .ref bo, .ref br, .ref bk, .ref bw, .ref btt, .ref bss])), (bl, .inl (cI, 100, .inl lo)), (bo, .inl (cI, 100, .inl d))]) A) ([.ref h0, .ref q1] : List Value).toArray s 0 0 A) (F0 m 20 ls []) by
        exact loop_20 _ 0 L9 _ _ _ (Nat.lt_succ_self _) (by omega) hP hD hS (lv_sub hl [0, 1, 2, 3] rfl)
      intro n_20
      induction n_20 with
      | zero =>
        intro k L8 H locs ls hm_20
        exact absurd hm_20 (Nat.not_lt_zero _)
      | succ n_20 ih_20 =>
        intro k L8 H locs ls hm_20 hk hP hD hS hl
        refine lv_iload_n hx hb dX0_measure_20 rfl (lv_at hl 0 rfl) ?_
        refine lv_aload_n hx hb dX0_measure_21 rfl (lv_at hl 2 rfl) ?_
        refine xg hF kf_X0_9 hK hP 0 rfl rfl dX0_measure_22 ?_
        refine lv_icmp_ge (tgt := 60) hx hb dX0_measure_25 (by decide) (fun c_5 => ?_) (fun c_5 => ?_)
        · skip
          have nc_5 : P ≤ k := xn_le (a := P) (b := k) (by omega) (by omega) c_5
          refine lv_iinc (v := nI (i + 1)) (lv' := [(2, .int (nI (i + 1))), (3, .int (nI (k))), (0, .ref h0), (1, .ref q1)]) hx hb dX0_measure_60 hl (k := 1) rfl (nI_1 (i)) (by decide) rfl (fun ls hl => ?_)
          refine lv_goto (tgt := 10) hx hb dX0_measure_63 (by decide) ?_
          exact ih_10 (i + 1) L8 _ _ _ (by omega) (by omega) (hP.sub [0, 1, 2, 3, 4] rfl) (hD.sub [0, 1, 2, 3, 4] (by decide +kernel) rfl) hS (lv_sub hl [0, 2, 3] rfl)
        · skip
          have nc_5 : k < P := xn_nle (a := P) (b := k) (by omega) (by omega) c_5
          refine lv_aload_n hx hb dX0_measure_28 rfl (lv_at hl 2 rfl) ?_
          refine xg hF kf_X0_15 hK hP 0 rfl rfl dX0_measure_29 ?_
          refine lv_bipush (v := 10) hx hb dX0_measure_32 (by decide) ?_
          refine lv_iload_n hx hb dX0_measure_34 rfl (lv_at hl 1 rfl) ?_
          refine lv_imul hx hb dX0_measure_35 ?_
          refine xl_i (y := nI (10 * i)) (pk_mul 10 i) ?_
          refine lv_iload_n hx hb dX0_measure_36 rfl (lv_at hl 0 rfl) ?_
          refine lv_iadd hx hb dX0_measure_37 ?_
          refine xl_i (y := nI (10 * i + k)) (nI_add (10 * i) k) ?_
          refine lv_iload_n hx hb dX0_measure_38 rfl (lv_at hl 1 rfl) ?_
          refine lv_iload_n hx hb dX0_measure_39 rfl (lv_at hl 0 rfl) ?_
          refine lv_icmp_ne (tgt := 47) hx hb dX0_measure_40 (by decide) (fun c_6 => ?_) (fun c_6 => ?_)
          · skip
            have nc_6 : i ≠ k := xn_ne (a := i) (b := k) (by omega) (by omega) c_6
            refine lv_aload_n hx hb dX0_measure_47 rfl (lv_at hl 3 rfl) ?_
            refine lv_iload_n hx hb dX0_measure_48 rfl (lv_at hl 1 rfl) ?_
            refine lv_iload_n hx hb dX0_measure_49 rfl (lv_at hl 0 rfl) ?_
            refine xc_Sr hF (c_X0_oneWay l D cI cJ cZ cS ta sa sv H.size q1 be bl bu bo br bk bw btt bss P lo d i k (by omega) (by omega)) ks_X0_22 ⟨rfl, rfl, Nat.le_of_ble_eq_true rfl, Nat.le_of_ble_eq_true rfl⟩ ⟨Nat.le_of_ble_eq_true rfl, Nat.le_of_ble_eq_true rfl⟩ hK hN hZ hP hD hS hA [2, 3, 4] rfl rfl rfl hl.1 rfl (Nat.le_of_ble_eq_true rfl) dX0_measure_50 (fun r_7 hw_r_7 => ?_)
            refine va_iast hx hb hK hP hD hS 1 0 rfl rfl (vp_in_nI (show 10 * i + k < 100 by omega) (by decide)) dX0_measure_53 (fun H locs hP hD hS => ?_)
            rw [nI_clamp (show 10 * i + k < 2 ^ 31 by omega)] at hP hD
            obtain ⟨f_8, ef_8⟩ : ∃ g, g = upd L8 (10 * i + k) r_7 := ⟨_, rfl⟩
            rw [← ef_8] at hP hD
            have hP : va_P D vwCl [(h0, .inr (0, [.int (nI (P)), .ref an])), (an, .inl (cI, 100, .inl f_8)), (q1, .inr (1, [.int (nI (P)), .ref be, .ref bl, .ref bu, .ref bo, .ref br, .ref bk, .ref bw, .ref btt, .ref bss])), (bl, .inl (cI, 100, .inl lo)), (bo, .inl (cI, 100, .inl d))] H := hP
            have hD : va_D A [(h0, .inr (0, [.int (nI (P)), .ref an])), (an, .inl (cI, 100, .inl f_8)), (q1, .inr (1, [.int (nI (P)), .ref be, .ref bl, .ref bu, .ref bo, .ref br, .ref bk, .ref bw, .ref btt, .ref bss])), (bl, .inl (cI, 100, .inl lo)), (bo, .inl (cI, 100, .inl d))] := hD
            refine lv_iinc (v := nI (k + 1)) (lv' := [(3, .int (nI (k + 1))), (2, .int (nI (i))), (0, .ref h0), (1, .ref q1)]) hx hb dX0_measure_54 hl (k := 0) rfl (nI_1 (k)) (by decide) rfl (fun ls hl => ?_)
            refine lv_goto (tgt := 20) hx hb dX0_measure_57 (by decide) ?_
            exact ih_20 (k + 1) f_8 _ _ _ (by omega) (by omega) (hP.sub [0, 1, 2, 3, 4] rfl) (hD.sub [0, 1, 2, 3, 4] (by decide +kernel) rfl) hS (lv_sub hl [0, 1, 2, 3] rfl)
          · skip
            have nc_6 : i = k := xn_eq (a := i) (b := k) (by omega) (by omega) c_6
            refine lv_iconst (v := 0) hx hb dX0_measure_43 (by decide) ?_
            refine lv_goto (tgt := 53) hx hb dX0_measure_44 (by decide) ?_
            refine va_iast hx hb hK hP hD hS 1 0 rfl rfl (vp_in_nI (show 10 * i + k < 100 by omega) (by decide)) dX0_measure_53 (fun H locs hP hD hS => ?_)
            rw [nI_clamp (show 10 * i + k < 2 ^ 31 by omega)] at hP hD
            obtain ⟨f_9, ef_9⟩ : ∃ g, g = upd L8 (10 * i + k) 0 := ⟨_, rfl⟩
            rw [← ef_9] at hP hD
            have hP : va_P D vwCl [(h0, .inr (0, [.int (nI (P)), .ref an])), (an, .inl (cI, 100, .inl f_9)), (q1, .inr (1, [.int (nI (P)), .ref be, .ref bl, .ref bu, .ref bo, .ref br, .ref bk, .ref bw, .ref btt, .ref bss])), (bl, .inl (cI, 100, .inl lo)), (bo, .inl (cI, 100, .inl d))] H := hP
            have hD : va_D A [(h0, .inr (0, [.int (nI (P)), .ref an])), (an, .inl (cI, 100, .inl f_9)), (q1, .inr (1, [.int (nI (P)), .ref be, .ref bl, .ref bu, .ref bo, .ref br, .ref bk, .ref bw, .ref btt, .ref bss])), (bl, .inl (cI, 100, .inl lo)), (bo, .inl (cI, 100, .inl d))] := hD
            refine lv_iinc (v := nI (k + 1)) (lv' := [(3, .int (nI (k + 1))), (2, .int (nI (i))), (0, .ref h0), (1, .ref q1)]) hx hb dX0_measure_54 hl (k := 0) rfl (nI_1 (k)) (by decide) rfl (fun ls hl => ?_)
            refine lv_goto (tgt := 20) hx hb dX0_measure_57 (by decide) ?_
            exact ih_20 (k + 1) f_9 _ _ _ (by omega) (by omega) (hP.sub [0, 1, 2, 3, 4] rfl) (hD.sub [0, 1, 2, 3, 4] (by decide +kernel) rfl) hS (lv_sub hl [0, 1, 2, 3] rfl)
set_option maxHeartbeats 4000000 in
set_option maxRecDepth 100000 in
theorem c_X0_hasLoop (l : Launch) (D : va_G) (cI cJ cZ cS : ClassId) (ta : Nat) (sa sv : Nat → Nat) (sz : Nat) (h0 : Nat) (an : Nat) (Q : Nat) (La : Nat → Int32) (hQ : Q ≤ 10) : Met l yX0_hasLoop (Cond.code yX0_hasLoop cX0_hasLoop 2 (some .boolean) :: wsU) ({ frames := 1, cells := 0, slots := 0, locals := 22 }) (va_Pc [.ref h0] (XW D (xT cI cJ cZ cS) ta sa sv [(h0, .inr (0, [.int (nI (Q)), .ref an])), (an, .inl (cI, 100, .inl La))] sz)) (vp_Si (fun r : Int32 => (r = 1) ∨ (r = 0))) 0 0 (fun _ => False) := by
  refine xh (QA := fun _ => vp_Si (fun r : Int32 => (r = 1) ∨ (r = 0))) (fr := fun _ _ => False) (by decide) (Nat.le_of_ble_eq_true rfl) ?_
  intro p e s m below meth c ls A hF hr hlk hin hsz hP hK hD hN hZ hA hS hl
  have hF : CallFix p m c cX0_hasLoop 2 s _ _ RX0 := hF
  have hx := hF.1
  have hb := hF.2.1
  have hml := hF.2.2.1
  have hown := hF.2.2.2.1
  have hu : ∀ w ∈ wsU, w.before _ s = true := fun w h => hF.2.2.2.2 w (List.mem_cons_of_mem _ h)
  have hl : lv_has ls 2 [(0, .ref h0)] := hl
  refine lv_iconst (v := 0) hx hb dX0_hasLoop_0 (by decide) ?_
  refine lv_istore_n (lv' := [(1, .int 0), (0, .ref h0)]) hx hb dX0_hasLoop_1 rfl hl (by decide) rfl (fun ls hl => ?_)
  suffices loop_2 : ∀ (n_2 : Nat) (i : Nat) (ls : Array Slot), Q - i < n_2 → (i ≤ Q) → lv_has ls 2 [(1, .int (nI (i))), (0, .ref h0)] → W p l e ({ frames := 1, cells := 0, slots := 0, locals := 22 }) s m ([.ref h0] : List Value).toArray below meth c s.heap [] 0 0 (MQ below (vp_Si (fun r : Int32 => (r = 1) ∨ (r = 0))) ([.ref h0] : List Value).toArray s 0 0 (fun _ => False)) (F0 m 2 ls []) by
    exact loop_2 _ 0 _ (Nat.lt_succ_self _) (by omega) (lv_sub hl [0, 1] rfl)
  intro n_2
  induction n_2 with
  | zero =>
    intro i ls hm_2
    exact absurd hm_2 (Nat.not_lt_zero _)
  | succ n_2 ih_2 =>
    intro i ls hm_2 hi hl
    refine lv_iload_n hx hb dX0_hasLoop_2 rfl (lv_at hl 0 rfl) ?_
    refine lv_aload_n hx hb dX0_hasLoop_3 rfl (lv_at hl 1 rfl) ?_
    refine xg hF kf_X0_9 hK hP 0 rfl rfl dX0_hasLoop_4 ?_
    refine lv_icmp_ge (tgt := 27) hx hb dX0_hasLoop_7 (by decide) (fun c_1 => ?_) (fun c_1 => ?_)
    · skip
      have nc_1 : Q ≤ i := xn_le (a := Q) (b := i) (by omega) (by omega) c_1
      refine lv_iconst (v := 0) hx hb dX0_hasLoop_27 (by decide) ?_
      exact W.zret (v := 0) hx hb hr rfl (fun t ht hW => ⟨0, rfl, (by first | exact Or.inr (rfl)), ht⟩) (fun q h => by cases h) dX0_hasLoop_28 hlk
    · skip
      have nc_1 : i < Q := xn_nle (a := Q) (b := i) (by omega) (by omega) c_1
      refine lv_aload_n hx hb dX0_hasLoop_10 rfl (lv_at hl 1 rfl) ?_
      refine lv_iload_n hx hb dX0_hasLoop_11 rfl (lv_at hl 0 rfl) ?_
      refine lv_iload_n hx hb dX0_hasLoop_12 rfl (lv_at hl 0 rfl) ?_
      refine xc_Vr hF (c_X0_lengthOf l D cI cJ cZ cS ta sa sv s.heap.size h0 an Q i i La (by omega) (by omega)) kv_X0_39 ⟨rfl, rfl, Nat.le_of_ble_eq_true rfl, Nat.le_of_ble_eq_true rfl⟩ ⟨Nat.le_of_ble_eq_true rfl, Nat.le_of_ble_eq_true rfl⟩ hK hN hZ hP hD hS hA [0, 1] rfl rfl 0 rfl rfl rfl rfl hl.1 rfl (Nat.le_of_ble_eq_true rfl) dX0_hasLoop_13 (fun r_2 hw_r_2 => ?_)
      subst hw_r_2
      refine lv_if_ge (tgt := 21) hx hb dX0_hasLoop_16 (by decide) (fun c_3 => ?_) (fun c_3 => ?_)
      · skip
        refine lv_iinc (v := nI (i + 1)) (lv' := [(1, .int (nI (i + 1))), (0, .ref h0)]) hx hb dX0_hasLoop_21 hl (k := 0) rfl (nI_1 (i)) (by decide) rfl (fun ls hl => ?_)
        refine lv_goto (tgt := 2) hx hb dX0_hasLoop_24 (by decide) ?_
        exact ih_2 (i + 1) _ (by omega) (by omega) (lv_sub hl [0, 1] rfl)
      · skip
        refine lv_iconst (v := 1) hx hb dX0_hasLoop_19 (by decide) ?_
        exact W.zret (v := 1) hx hb hr rfl (fun t ht hW => ⟨1, rfl, (by first | exact Or.inl rfl), ht⟩) (fun q h => by cases h) dX0_hasLoop_20 hlk
set_option maxHeartbeats 4000000 in
set_option maxRecDepth 100000 in
theorem c_X0_isBackAndForth (l : Launch) (D : va_G) (cI cJ cZ cS : ClassId) (ta : Nat) (sa sv : Nat → Nat) (sz : Nat) (h0 : Nat) (an : Nat) (Q : Nat) (La : Nat → Int32) (j : Nat) (k : Nat) (hj : j < 10) (hk : k < 10) : Met l yX0_isBackAndForth (Cond.code yX0_isBackAndForth cX0_isBackAndForth 3 (some .boolean) :: wsU) ({ frames := 1, cells := 0, slots := 0, locals := 22 }) (va_Pc [.ref h0, .int (nI (j)), .int (nI (k))] (XW D (xT cI cJ cZ cS) ta sa sv [(h0, .inr (0, [.int (nI (Q)), .ref an])), (an, .inl (cI, 100, .inl La))] sz)) (vp_Si (fun r : Int32 => (r = 1) ∨ (r = 0))) 0 0 (fun _ => False) := by
  refine xh (QA := fun _ => vp_Si (fun r : Int32 => (r = 1) ∨ (r = 0))) (fr := fun _ _ => False) (by decide) (Nat.le_of_ble_eq_true rfl) ?_
  intro p e s m below meth c ls A hF hr hlk hin hsz hP hK hD hN hZ hA hS hl
  have hF : CallFix p m c cX0_isBackAndForth 3 s _ _ RX0 := hF
  have hx := hF.1
  have hb := hF.2.1
  have hml := hF.2.2.1
  have hown := hF.2.2.2.1
  have hu : ∀ w ∈ wsU, w.before _ s = true := fun w h => hF.2.2.2.2 w (List.mem_cons_of_mem _ h)
  have hl : lv_has ls 3 [(0, .ref h0), (1, .int (nI (j))), (2, .int (nI (k)))] := hl
  refine lv_aload_n hx hb dX0_isBackAndForth_0 rfl (lv_at hl 0 rfl) ?_
  refine lv_iload_n hx hb dX0_isBackAndForth_1 rfl (lv_at hl 1 rfl) ?_
  refine lv_iload_n hx hb dX0_isBackAndForth_2 rfl (lv_at hl 2 rfl) ?_
  refine xc_Vr hF (c_X0_lengthOf l D cI cJ cZ cS ta sa sv s.heap.size h0 an Q j k La (by omega) (by omega)) kv_X0_39 ⟨rfl, rfl, Nat.le_of_ble_eq_true rfl, Nat.le_of_ble_eq_true rfl⟩ ⟨Nat.le_of_ble_eq_true rfl, Nat.le_of_ble_eq_true rfl⟩ hK hN hZ hP hD hS hA [0, 1] rfl rfl 0 rfl rfl rfl rfl hl.1 rfl (Nat.le_of_ble_eq_true rfl) dX0_isBackAndForth_3 (fun r_1 hw_r_1 => ?_)
  subst hw_r_1
  refine lv_ldc (v := 1000000000) hx hb hown (hu _ uw79) dX0_isBackAndForth_6 ?_
  refine lv_icmp_eq (tgt := 26) hx hb dX0_isBackAndForth_8 (by decide) (fun c_2 => ?_) (fun c_2 => ?_)
  · skip
    refine lv_iconst (v := 0) hx hb dX0_isBackAndForth_26 (by decide) ?_
    exact W.zret (v := 0) hx hb hr rfl (fun t ht hW => ⟨0, rfl, (by first | exact Or.inr (rfl)), ht⟩) (fun q h => by cases h) dX0_isBackAndForth_27 hlk
  · skip
    refine lv_aload_n hx hb dX0_isBackAndForth_11 rfl (lv_at hl 0 rfl) ?_
    refine lv_iload_n hx hb dX0_isBackAndForth_12 rfl (lv_at hl 2 rfl) ?_
    refine lv_iload_n hx hb dX0_isBackAndForth_13 rfl (lv_at hl 1 rfl) ?_
    refine xc_Vr hF (c_X0_lengthOf l D cI cJ cZ cS ta sa sv s.heap.size h0 an Q k j La (by omega) (by omega)) kv_X0_39 ⟨rfl, rfl, Nat.le_of_ble_eq_true rfl, Nat.le_of_ble_eq_true rfl⟩ ⟨Nat.le_of_ble_eq_true rfl, Nat.le_of_ble_eq_true rfl⟩ hK hN hZ hP hD hS hA [0, 1] rfl rfl 0 rfl rfl rfl rfl hl.1 rfl (Nat.le_of_ble_eq_true rfl) dX0_isBackAndForth_14 (fun r_3 hw_r_3 => ?_)
    subst hw_r_3
    refine lv_ldc (v := 1000000000) hx hb hown (hu _ uw79) dX0_isBackAndForth_17 ?_
    refine lv_icmp_eq (tgt := 26) hx hb dX0_isBackAndForth_19 (by decide) (fun c_4 => ?_) (fun c_4 => ?_)
    · skip
      refine lv_iconst (v := 0) hx hb dX0_isBackAndForth_26 (by decide) ?_
      exact W.zret (v := 0) hx hb hr rfl (fun t ht hW => ⟨0, rfl, (by first | exact Or.inr (rfl)), ht⟩) (fun q h => by cases h) dX0_isBackAndForth_27 hlk
    · skip
      refine lv_iconst (v := 1) hx hb dX0_isBackAndForth_22 (by decide) ?_
      refine lv_goto (tgt := 27) hx hb dX0_isBackAndForth_23 (by decide) ?_
      exact W.zret (v := 1) hx hb hr rfl (fun t ht hW => ⟨1, rfl, (by first | exact Or.inl rfl), ht⟩) (fun q h => by cases h) dX0_isBackAndForth_27 hlk
set_option maxHeartbeats 4000000 in
set_option maxRecDepth 100000 in
theorem c_X0_loopSet (l : Launch) (D : va_G) (cI cJ cZ cS : ClassId) (ta : Nat) (sa sv : Nat → Nat) (sz : Nat) (h0 : Nat) (an : Nat) (Q : Nat) (La : Nat → Int32) (hQ : Q ≤ 10) : Met l yX0_loopSet (Cond.code yX0_loopSet cX0_loopSet 4 (some .int) :: wsU) ({ frames := 2, cells := 0, slots := 0, locals := 44 }) (va_Pc [.ref h0] (XW D (xT cI cJ cZ cS) ta sa sv [(h0, .inr (0, [.int (nI (Q)), .ref an])), (an, .inl (cI, 100, .inl La))] sz)) (vp_Si (fun r : Int32 => True)) 0 0 (fun _ => False) := by
  refine xh (QA := fun _ => vp_Si (fun r : Int32 => True)) (fr := fun _ _ => False) (by decide) (Nat.le_of_ble_eq_true rfl) ?_
  intro p e s m below meth c ls A hF hr hlk hin hsz hP hK hD hN hZ hA hS hl
  have hF : CallFix p m c cX0_loopSet 4 s _ _ RX0 := hF
  have hx := hF.1
  have hb := hF.2.1
  have hml := hF.2.2.1
  have hown := hF.2.2.2.1
  have hu : ∀ w ∈ wsU, w.before _ s = true := fun w h => hF.2.2.2.2 w (List.mem_cons_of_mem _ h)
  have hl : lv_has ls 4 [(0, .ref h0)] := hl
  refine lv_iconst (v := 0) hx hb dX0_loopSet_0 (by decide) ?_
  refine lv_istore_n (lv' := [(1, .int 0), (0, .ref h0)]) hx hb dX0_loopSet_1 rfl hl (by decide) rfl (fun ls hl => ?_)
  refine lv_iconst (v := 0) hx hb dX0_loopSet_2 (by decide) ?_
  refine lv_istore_n (lv' := [(2, .int 0), (1, .int 0), (0, .ref h0)]) hx hb dX0_loopSet_3 rfl hl (by decide) rfl (fun ls hl => ?_)
  suffices loop_4 : ∀ (n_4 : Nat) (i : Nat) (u : Int32) (ls : Array Slot), Q - i < n_4 → (i ≤ Q) → lv_has ls 4 [(2, .int (nI (i))), (1, .int u), (0, .ref h0)] → W p l e ({ frames := 2, cells := 0, slots := 0, locals := 44 }) s m ([.ref h0] : List Value).toArray below meth c s.heap [] 0 0 (MQ below (vp_Si (fun r : Int32 => True)) ([.ref h0] : List Value).toArray s 0 0 (fun _ => False)) (F0 m 4 ls []) by
    exact loop_4 _ 0 0 _ (Nat.lt_succ_self _) (by omega) (lv_sub hl [0, 1, 2] rfl)
  intro n_4
  induction n_4 with
  | zero =>
    intro i u ls hm_4
    exact absurd hm_4 (Nat.not_lt_zero _)
  | succ n_4 ih_4 =>
    intro i u ls hm_4 hi hl
    refine lv_iload_n hx hb dX0_loopSet_4 rfl (lv_at hl 0 rfl) ?_
    refine lv_aload_n hx hb dX0_loopSet_5 rfl (lv_at hl 2 rfl) ?_
    refine xg hF kf_X0_9 hK hP 0 rfl rfl dX0_loopSet_6 ?_
    refine lv_icmp_ge (tgt := 58) hx hb dX0_loopSet_9 (by decide) (fun c_1 => ?_) (fun c_1 => ?_)
    · skip
      have nc_1 : Q ≤ i := xn_le (a := Q) (b := i) (by omega) (by omega) c_1
      refine lv_iload_n hx hb dX0_loopSet_58 rfl (lv_at hl 1 rfl) ?_
      exact W.iret (v := u) hx hb hr (fun t ht hW => ⟨u, rfl, trivial, ht⟩) (fun q h => by cases h) dX0_loopSet_59 hlk
    · skip
      have nc_1 : i < Q := xn_nle (a := Q) (b := i) (by omega) (by omega) c_1
      refine lv_iconst (v := 0) hx hb dX0_loopSet_12 (by decide) ?_
      refine lv_istore_n (lv' := [(3, .int 0), (2, .int (nI (i))), (1, .int u), (0, .ref h0)]) hx hb dX0_loopSet_13 rfl hl (by decide) rfl (fun ls hl => ?_)
      suffices loop_14 : ∀ (n_14 : Nat) (k : Nat) (v : Int32) (ls : Array Slot), Q - k < n_14 → (k ≤ Q) → lv_has ls 4 [(3, .int (nI (k))), (2, .int (nI (i))), (1, .int v), (0, .ref h0)] → W p l e ({ frames := 2, cells := 0, slots := 0, locals := 44 }) s m ([.ref h0] : List Value).toArray below meth c s.heap [] 0 0 (MQ below (vp_Si (fun r : Int32 => True)) ([.ref h0] : List Value).toArray s 0 0 (fun _ => False)) (F0 m 14 ls []) by
        exact loop_14 _ 0 u _ (Nat.lt_succ_self _) (by omega) (lv_sub hl [0, 1, 2, 3] rfl)
      intro n_14
      induction n_14 with
      | zero =>
        intro k v ls hm_14
        exact absurd hm_14 (Nat.not_lt_zero _)
      | succ n_14 ih_14 =>
        intro k v ls hm_14 hk hl
        refine lv_iload_n hx hb dX0_loopSet_14 rfl (lv_at hl 0 rfl) ?_
        refine lv_aload_n hx hb dX0_loopSet_15 rfl (lv_at hl 3 rfl) ?_
        refine xg hF kf_X0_9 hK hP 0 rfl rfl dX0_loopSet_16 ?_
        refine lv_icmp_ge (tgt := 52) hx hb dX0_loopSet_19 (by decide) (fun c_2 => ?_) (fun c_2 => ?_)
        · skip
          have nc_2 : Q ≤ k := xn_le (a := Q) (b := k) (by omega) (by omega) c_2
          refine lv_iinc (v := nI (i + 1)) (lv' := [(2, .int (nI (i + 1))), (3, .int (nI (k))), (1, .int v), (0, .ref h0)]) hx hb dX0_loopSet_52 hl (k := 1) rfl (nI_1 (i)) (by decide) rfl (fun ls hl => ?_)
          refine lv_goto (tgt := 4) hx hb dX0_loopSet_55 (by decide) ?_
          exact ih_4 (i + 1) v _ (by omega) (by omega) (lv_sub hl [0, 2, 3] rfl)
        · skip
          have nc_2 : k < Q := xn_nle (a := Q) (b := k) (by omega) (by omega) c_2
          refine lv_aload_n hx hb dX0_loopSet_22 rfl (lv_at hl 3 rfl) ?_
          refine lv_iload_n hx hb dX0_loopSet_23 rfl (lv_at hl 0 rfl) ?_
          refine lv_iload_n hx hb dX0_loopSet_24 rfl (lv_at hl 0 rfl) ?_
          refine xc_Vr hF (c_X0_lengthOf l D cI cJ cZ cS ta sa sv s.heap.size h0 an Q k k La (by omega) (by omega)) kv_X0_39 ⟨rfl, rfl, Nat.le_of_ble_eq_true rfl, Nat.le_of_ble_eq_true rfl⟩ ⟨Nat.le_of_ble_eq_true rfl, Nat.le_of_ble_eq_true rfl⟩ hK hN hZ hP hD hS hA [0, 1] rfl rfl 0 rfl rfl rfl rfl hl.1 rfl (Nat.le_of_ble_eq_true rfl) dX0_loopSet_25 (fun r_3 hw_r_3 => ?_)
          subst hw_r_3
          refine lv_if_ge (tgt := 46) hx hb dX0_loopSet_28 (by decide) (fun c_4 => ?_) (fun c_4 => ?_)
          · skip
            refine lv_iinc (v := nI (k + 1)) (lv' := [(3, .int (nI (k + 1))), (2, .int (nI (i))), (1, .int v), (0, .ref h0)]) hx hb dX0_loopSet_46 hl (k := 0) rfl (nI_1 (k)) (by decide) rfl (fun ls hl => ?_)
            refine lv_goto (tgt := 14) hx hb dX0_loopSet_49 (by decide) ?_
            exact ih_14 (k + 1) v _ (by omega) (by omega) (lv_sub hl [0, 1, 2, 3] rfl)
          · skip
            refine lv_aload_n hx hb dX0_loopSet_31 rfl (lv_at hl 3 rfl) ?_
            refine lv_iload_n hx hb dX0_loopSet_32 rfl (lv_at hl 1 rfl) ?_
            refine lv_iload_n hx hb dX0_loopSet_33 rfl (lv_at hl 0 rfl) ?_
            refine xc_Vr hF (c_X0_isBackAndForth l D cI cJ cZ cS ta sa sv s.heap.size h0 an Q La i k (by omega) (by omega)) kv_X0_51 ⟨rfl, rfl, Nat.le_of_ble_eq_true rfl, Nat.le_of_ble_eq_true rfl⟩ ⟨Nat.le_of_ble_eq_true rfl, Nat.le_of_ble_eq_true rfl⟩ hK hN hZ hP hD hS hA [0, 1] rfl rfl 0 rfl rfl rfl rfl hl.1 rfl (Nat.le_of_ble_eq_true rfl) dX0_loopSet_34 (fun r_5 hw_r_5 => ?_)
            rcases hw_r_5 with rfl | rfl
            · skip
              refine lv_if_eq (tgt := 46) hx hb dX0_loopSet_37 (by decide) (fun c_6 => absurd c_6 (by decide)) (fun c_6 => ?_)
              refine lv_iload_n hx hb dX0_loopSet_40 rfl (lv_at hl 2 rfl) ?_
              refine lv_iconst (v := 1) hx hb dX0_loopSet_41 (by decide) ?_
              refine lv_iload_n hx hb dX0_loopSet_42 rfl (lv_at hl 1 rfl) ?_
              refine lv_ishl hx hb dX0_loopSet_43 ?_
              refine lv_topi (fun x_7 ex_7 => ?_)
              refine lv_ior hx hb dX0_loopSet_44 ?_
              refine lv_topi (fun x_8 ex_8 => ?_)
              refine lv_istore_n (lv' := [(1, .int x_8), (3, .int (nI (k))), (2, .int (nI (i))), (0, .ref h0)]) hx hb dX0_loopSet_45 rfl hl (by decide) rfl (fun ls hl => ?_)
              refine lv_iinc (v := nI (k + 1)) (lv' := [(3, .int (nI (k + 1))), (1, .int x_8), (2, .int (nI (i))), (0, .ref h0)]) hx hb dX0_loopSet_46 hl (k := 1) rfl (nI_1 (k)) (by decide) rfl (fun ls hl => ?_)
              refine lv_goto (tgt := 14) hx hb dX0_loopSet_49 (by decide) ?_
              exact ih_14 (k + 1) x_8 _ (by omega) (by omega) (lv_sub hl [0, 2, 1, 3] rfl)
            · skip
              refine lv_if_eq (tgt := 46) hx hb dX0_loopSet_37 (by decide) (fun c_9 => ?_) (fun c_9 => absurd (by decide) c_9)
              refine lv_iinc (v := nI (k + 1)) (lv' := [(3, .int (nI (k + 1))), (2, .int (nI (i))), (1, .int v), (0, .ref h0)]) hx hb dX0_loopSet_46 hl (k := 0) rfl (nI_1 (k)) (by decide) rfl (fun ls hl => ?_)
              refine lv_goto (tgt := 14) hx hb dX0_loopSet_49 (by decide) ?_
              exact ih_14 (k + 1) v _ (by omega) (by omega) (lv_sub hl [0, 1, 2, 3] rfl)
set_option maxHeartbeats 4000000 in
set_option maxRecDepth 100000 in
theorem c_X0_farOf (l : Launch) (D : va_G) (cI cJ cZ cS : ClassId) (ta : Nat) (sa sv : Nat → Nat) (sz : Nat) (h0 : Nat) (an : Nat) (Q : Nat) (La : Nat → Int32) (j : Nat) (k : Nat) (hj : j < 10) (hk : k < 10) : Met l yX0_farOf (Cond.code yX0_farOf cX0_farOf 4 (some .int) :: wsU) ({ frames := 1, cells := 0, slots := 0, locals := 22 }) (va_Pc [.ref h0, .int (nI (j)), .int (nI (k))] (XW D (xT cI cJ cZ cS) ta sa sv [(h0, .inr (0, [.int (nI (Q)), .ref an])), (an, .inl (cI, 100, .inl La))] sz)) (vp_Si (fun r : Int32 => True)) 0 0 (fun _ => False) := by
  refine xh (QA := fun _ => vp_Si (fun r : Int32 => True)) (fr := fun _ _ => False) (by decide) (Nat.le_of_ble_eq_true rfl) ?_
  intro p e s m below meth c ls A hF hr hlk hin hsz hP hK hD hN hZ hA hS hl
  have hF : CallFix p m c cX0_farOf 4 s _ _ RX0 := hF
  have hx := hF.1
  have hb := hF.2.1
  have hml := hF.2.2.1
  have hown := hF.2.2.2.1
  have hu : ∀ w ∈ wsU, w.before _ s = true := fun w h => hF.2.2.2.2 w (List.mem_cons_of_mem _ h)
  have hl : lv_has ls 4 [(0, .ref h0), (1, .int (nI (j))), (2, .int (nI (k)))] := hl
  refine lv_aload_n hx hb dX0_farOf_0 rfl (lv_at hl 0 rfl) ?_
  refine lv_iload_n hx hb dX0_farOf_1 rfl (lv_at hl 1 rfl) ?_
  refine lv_iload_n hx hb dX0_farOf_2 rfl (lv_at hl 2 rfl) ?_
  refine xc_Vr hF (c_X0_lengthOf l D cI cJ cZ cS ta sa sv s.heap.size h0 an Q j k La (by omega) (by omega)) kv_X0_39 ⟨rfl, rfl, Nat.le_of_ble_eq_true rfl, Nat.le_of_ble_eq_true rfl⟩ ⟨Nat.le_of_ble_eq_true rfl, Nat.le_of_ble_eq_true rfl⟩ hK hN hZ hP hD hS hA [0, 1] rfl rfl 0 rfl rfl rfl rfl hl.1 rfl (Nat.le_of_ble_eq_true rfl) dX0_farOf_3 (fun r_1 hw_r_1 => ?_)
  subst hw_r_1
  refine lv_istore_n (lv' := [(3, .int (La (10 * j + k))), (0, .ref h0), (1, .int (nI (j))), (2, .int (nI (k)))]) hx hb dX0_farOf_6 rfl hl (by decide) rfl (fun ls hl => ?_)
  refine lv_iload_n hx hb dX0_farOf_7 rfl (lv_at hl 0 rfl) ?_
  refine lv_ldc (v := 1000000000) hx hb hown (hu _ uw79) dX0_farOf_8 ?_
  refine lv_icmp_ne (tgt := 18) hx hb dX0_farOf_10 (by decide) (fun c_2 => ?_) (fun c_2 => ?_)
  · skip
    refine lv_iload_n hx hb dX0_farOf_18 rfl (lv_at hl 0 rfl) ?_
    refine lv_bipush (v := 100) hx hb dX0_farOf_19 (by decide) ?_
    refine xc_Sr hF (c_J9_floorDiv_7cf53 l D cI cJ cZ cS ta sa sv s.heap.size (La (10 * j + k)) ) ks_X0_54 ⟨rfl, rfl, Nat.le_of_ble_eq_true rfl, Nat.le_of_ble_eq_true rfl⟩ ⟨Nat.le_of_ble_eq_true rfl, Nat.le_of_ble_eq_true rfl⟩ hK hN hZ hP hD hS hA [] rfl rfl rfl hl.1 rfl (Nat.le_of_ble_eq_true rfl) dX0_farOf_21 (fun r_3 hw_r_3 => ?_)
    exact W.iret (v := r_3) hx hb hr (fun t ht hW => ⟨r_3, rfl, trivial, ht⟩) (fun q h => by cases h) dX0_farOf_24 hlk
  · skip
    refine lv_ldc (v := 1000000000) hx hb hown (hu _ uw79) dX0_farOf_13 ?_
    refine lv_goto (tgt := 24) hx hb dX0_farOf_15 (by decide) ?_
    exact W.iret (v := 1000000000) hx hb hr (fun t ht hW => ⟨1000000000, rfl, trivial, ht⟩) (fun q h => by cases h) dX0_farOf_24 hlk
set_option maxHeartbeats 4000000 in
set_option maxRecDepth 100000 in
theorem c_X0_waysOf (l : Launch) (D : va_G) (cI cJ cZ cS : ClassId) (ta : Nat) (sa sv : Nat → Nat) (sz : Nat) (h0 : Nat) (an : Nat) (Q : Nat) (La : Nat → Int32) (j : Nat) (k : Nat) (hj : j < 10) (hk : k < 10) : Met l yX0_waysOf (Cond.code yX0_waysOf cX0_waysOf 4 (some .int) :: wsU) ({ frames := 1, cells := 0, slots := 0, locals := 22 }) (va_Pc [.ref h0, .int (nI (j)), .int (nI (k))] (XW D (xT cI cJ cZ cS) ta sa sv [(h0, .inr (0, [.int (nI (Q)), .ref an])), (an, .inl (cI, 100, .inl La))] sz)) (vp_Si (fun r : Int32 => True)) 0 0 (fun _ => False) := by
  refine xh (QA := fun _ => vp_Si (fun r : Int32 => True)) (fr := fun _ _ => False) (by decide) (Nat.le_of_ble_eq_true rfl) ?_
  intro p e s m below meth c ls A hF hr hlk hin hsz hP hK hD hN hZ hA hS hl
  have hF : CallFix p m c cX0_waysOf 4 s _ _ RX0 := hF
  have hx := hF.1
  have hb := hF.2.1
  have hml := hF.2.2.1
  have hown := hF.2.2.2.1
  have hu : ∀ w ∈ wsU, w.before _ s = true := fun w h => hF.2.2.2.2 w (List.mem_cons_of_mem _ h)
  have hl : lv_has ls 4 [(0, .ref h0), (1, .int (nI (j))), (2, .int (nI (k)))] := hl
  refine lv_aload_n hx hb dX0_waysOf_0 rfl (lv_at hl 0 rfl) ?_
  refine lv_iload_n hx hb dX0_waysOf_1 rfl (lv_at hl 1 rfl) ?_
  refine lv_iload_n hx hb dX0_waysOf_2 rfl (lv_at hl 2 rfl) ?_
  refine xc_Vr hF (c_X0_lengthOf l D cI cJ cZ cS ta sa sv s.heap.size h0 an Q j k La (by omega) (by omega)) kv_X0_39 ⟨rfl, rfl, Nat.le_of_ble_eq_true rfl, Nat.le_of_ble_eq_true rfl⟩ ⟨Nat.le_of_ble_eq_true rfl, Nat.le_of_ble_eq_true rfl⟩ hK hN hZ hP hD hS hA [0, 1] rfl rfl 0 rfl rfl rfl rfl hl.1 rfl (Nat.le_of_ble_eq_true rfl) dX0_waysOf_3 (fun r_1 hw_r_1 => ?_)
  subst hw_r_1
  refine lv_istore_n (lv' := [(3, .int (La (10 * j + k))), (0, .ref h0), (1, .int (nI (j))), (2, .int (nI (k)))]) hx hb dX0_waysOf_6 rfl hl (by decide) rfl (fun ls hl => ?_)
  refine lv_iload_n hx hb dX0_waysOf_7 rfl (lv_at hl 0 rfl) ?_
  refine lv_ldc (v := 1000000000) hx hb hown (hu _ uw79) dX0_waysOf_8 ?_
  refine lv_icmp_ne (tgt := 17) hx hb dX0_waysOf_10 (by decide) (fun c_2 => ?_) (fun c_2 => ?_)
  · skip
    refine lv_iload_n hx hb dX0_waysOf_17 rfl (lv_at hl 0 rfl) ?_
    refine lv_bipush (v := 100) hx hb dX0_waysOf_18 (by decide) ?_
    refine xc_Sr hF (c_J9_floorMod_7cf53 l D cI cJ cZ cS ta sa sv s.heap.size (La (10 * j + k)) ) ks_X0_57 ⟨rfl, rfl, Nat.le_of_ble_eq_true rfl, Nat.le_of_ble_eq_true rfl⟩ ⟨Nat.le_of_ble_eq_true rfl, Nat.le_of_ble_eq_true rfl⟩ hK hN hZ hP hD hS hA [] rfl rfl rfl hl.1 rfl (Nat.le_of_ble_eq_true rfl) dX0_waysOf_20 (fun r_3 hw_r_3 => ?_)
    exact W.iret (v := r_3) hx hb hr (fun t ht hW => ⟨r_3, rfl, trivial, ht⟩) (fun q h => by cases h) dX0_waysOf_23 hlk
  · skip
    refine lv_iconst (v := (-1)) hx hb dX0_waysOf_13 (by decide) ?_
    refine lv_goto (tgt := 23) hx hb dX0_waysOf_14 (by decide) ?_
    exact W.iret (v := (-1)) hx hb hr (fun t ht hW => ⟨(-1), rfl, trivial, ht⟩) (fun q h => by cases h) dX0_waysOf_23 hlk
set_option maxHeartbeats 4000000 in
set_option maxRecDepth 100000 in
theorem c_X0_nextStop (l : Launch) (D : va_G) (cI cJ cZ cS : ClassId) (ta : Nat) (sa sv : Nat → Nat) (sz : Nat) (h0 : Nat) (an : Nat) (Q : Nat) (La : Nat → Int32) (q1 : Nat) (be : Nat) (bl : Nat) (bu : Nat) (bo : Nat) (br : Nat) (bk : Nat) (bw : Nat) (btt : Nat) (bss : Nat) (P : Nat) (lo : Nat → Int32) (d : Nat → Int32) (j : Nat) (w : Nat) (hQ : Q ≤ 10) (hj : j < 10) (hw9 : w < 10) : Met l yX0_nextStop (Cond.code yX0_nextStop cX0_nextStop 5 (some .int) :: wsU) ({ frames := 3, cells := 0, slots := 0, locals := 65 }) (va_Pc [.ref h0, .ref q1, .int (nI (j)), .int (nI (w))] (XW D (xT cI cJ cZ cS) ta sa sv [(h0, .inr (0, [.int (nI (Q)), .ref an])), (an, .inl (cI, 100, .inl La)), (q1, .inr (1, [.int (nI (P)), .ref be, .ref bl, .ref bu, .ref bo, .ref br, .ref bk, .ref bw, .ref btt, .ref bss])), (bl, .inl (cI, 100, .inl lo)), (bo, .inl (cI, 100, .inl d))] sz)) (vp_Si (fun r : Int32 => (∃ (y : Nat), r = nI (y) ∧ (y < 10)))) 0 0 (fun _ => False) := by
  refine xh (QA := fun _ => vp_Si (fun r : Int32 => (∃ (y : Nat), r = nI (y) ∧ (y < 10)))) (fr := fun _ _ => False) (by decide) (Nat.le_of_ble_eq_true rfl) ?_
  intro p e s m below meth c ls A hF hr hlk hin hsz hP hK hD hN hZ hA hS hl
  have hF : CallFix p m c cX0_nextStop 5 s _ _ RX0 := hF
  have hx := hF.1
  have hb := hF.2.1
  have hml := hF.2.2.1
  have hown := hF.2.2.2.1
  have hu : ∀ w ∈ wsU, w.before _ s = true := fun w h => hF.2.2.2.2 w (List.mem_cons_of_mem _ h)
  have hl : lv_has ls 5 [(0, .ref h0), (1, .ref q1), (2, .int (nI (j))), (3, .int (nI (w)))] := hl
  refine lv_iconst (v := 0) hx hb dX0_nextStop_0 (by decide) ?_
  refine lv_istore (lv' := [(4, .int 0), (0, .ref h0), (1, .ref q1), (2, .int (nI (j))), (3, .int (nI (w)))]) hx hb dX0_nextStop_1 hl (by decide) rfl (fun ls hl => ?_)
  suffices loop_3 : ∀ (n_3 : Nat) (i : Nat) (ls : Array Slot), Q - i < n_3 → (i ≤ Q) → lv_has ls 5 [(4, .int (nI (i))), (0, .ref h0), (1, .ref q1), (2, .int (nI (j))), (3, .int (nI (w)))] → W p l e ({ frames := 3, cells := 0, slots := 0, locals := 65 }) s m ([.ref h0, .ref q1, .int (nI (j)), .int (nI (w))] : List Value).toArray below meth c s.heap [] 0 0 (MQ below (vp_Si (fun r : Int32 => (∃ (y : Nat), r = nI (y) ∧ (y < 10)))) ([.ref h0, .ref q1, .int (nI (j)), .int (nI (w))] : List Value).toArray s 0 0 (fun _ => False)) (F0 m 3 ls []) by
    exact loop_3 _ 0 _ (Nat.lt_succ_self _) (by omega) (lv_sub hl [0, 1, 2, 3, 4] rfl)
  intro n_3
  induction n_3 with
  | zero =>
    intro i ls hm_3
    exact absurd hm_3 (Nat.not_lt_zero _)
  | succ n_3 ih_3 =>
    intro i ls hm_3 hi hl
    refine lv_iload hx hb dX0_nextStop_3 (lv_at hl 0 rfl) ?_
    refine lv_aload_n hx hb dX0_nextStop_5 rfl (lv_at hl 1 rfl) ?_
    refine xg hF kf_X0_9 hK hP 0 rfl rfl dX0_nextStop_6 ?_
    refine lv_icmp_ge (tgt := 53) hx hb dX0_nextStop_9 (by decide) (fun c_1 => ?_) (fun c_1 => ?_)
    · skip
      have nc_1 : Q ≤ i := xn_le (a := Q) (b := i) (by omega) (by omega) c_1
      refine lv_iload_n hx hb dX0_nextStop_53 rfl (lv_at hl 4 rfl) ?_
      exact W.iret (v := nI (w)) hx hb hr (fun t ht hW => ⟨nI (w), rfl, (by first | exact ⟨w, rfl, (by first | assumption | omega | exact Or.inl (by first | assumption | omega) | exact Or.inr (by first | assumption | omega))⟩), ht⟩) (fun q h => by cases h) dX0_nextStop_54 hlk
    · skip
      have nc_1 : i < Q := xn_nle (a := Q) (b := i) (by omega) (by omega) c_1
      refine lv_iload hx hb dX0_nextStop_12 (lv_at hl 0 rfl) ?_
      refine lv_iload_n hx hb dX0_nextStop_14 rfl (lv_at hl 3 rfl) ?_
      refine lv_icmp_eq (tgt := 47) hx hb dX0_nextStop_15 (by decide) (fun c_2 => ?_) (fun c_2 => ?_)
      · skip
        have nc_2 : i = j := xn_eq (a := i) (b := j) (by omega) (by omega) c_2
        refine lv_iinc (v := nI (i + 1)) (lv' := [(4, .int (nI (i + 1))), (0, .ref h0), (1, .ref q1), (2, .int (nI (j))), (3, .int (nI (w)))]) hx hb dX0_nextStop_47 hl (k := 0) rfl (nI_1 (i)) (by decide) rfl (fun ls hl => ?_)
        refine lv_goto (tgt := 3) hx hb dX0_nextStop_50 (by decide) ?_
        exact ih_3 (i + 1) _ (by omega) (by omega) (lv_sub hl [0, 1, 2, 3, 4] rfl)
      · skip
        have nc_2 : i ≠ j := xn_ne (a := i) (b := j) (by omega) (by omega) c_2
        refine lv_aload_n hx hb dX0_nextStop_18 rfl (lv_at hl 2 rfl) ?_
        refine lv_iload_n hx hb dX0_nextStop_19 rfl (lv_at hl 3 rfl) ?_
        refine lv_iload hx hb dX0_nextStop_20 (lv_at hl 0 rfl) ?_
        refine xc_Sr hF (c_X0_oneWay l D cI cJ cZ cS ta sa sv s.heap.size q1 be bl bu bo br bk bw btt bss P lo d j i (by omega) (by omega)) ks_X0_22 ⟨rfl, rfl, Nat.le_of_ble_eq_true rfl, Nat.le_of_ble_eq_true rfl⟩ ⟨Nat.le_of_ble_eq_true rfl, Nat.le_of_ble_eq_true rfl⟩ hK hN hZ hP hD hS hA [2, 3, 4] rfl rfl rfl hl.1 rfl (Nat.le_of_ble_eq_true rfl) dX0_nextStop_22 (fun r_3 hw_r_3 => ?_)
        refine lv_aload_n hx hb dX0_nextStop_25 rfl (lv_at hl 1 rfl) ?_
        refine lv_iload hx hb dX0_nextStop_26 (lv_at hl 0 rfl) ?_
        refine lv_iload_n hx hb dX0_nextStop_28 rfl (lv_at hl 4 rfl) ?_
        refine xc_Vr hF (c_X0_lengthOf l D cI cJ cZ cS ta sa sv s.heap.size h0 an Q i w La (by omega) (by omega)) kv_X0_39 ⟨rfl, rfl, Nat.le_of_ble_eq_true rfl, Nat.le_of_ble_eq_true rfl⟩ ⟨Nat.le_of_ble_eq_true rfl, Nat.le_of_ble_eq_true rfl⟩ hK hN hZ hP hD hS hA [0, 1] rfl rfl 0 rfl rfl rfl rfl hl.1 rfl (Nat.le_of_ble_eq_true rfl) dX0_nextStop_29 (fun r_4 hw_r_4 => ?_)
        subst hw_r_4
        refine xc_SNr hF (c_X8_together l D cI cJ cZ cS ta sa sv s.heap.size r_3 (La (10 * i + w)) ) kn_X0_42.1 kn_X0_42.2.1 kn_X0_42.2.2 ⟨rfl, rfl, Nat.le_of_ble_eq_true rfl, Nat.le_of_ble_eq_true rfl⟩ ⟨Nat.le_of_ble_eq_true rfl, Nat.le_of_ble_eq_true rfl⟩ hK hN hZ hP hD hS hA [] rfl rfl rfl hl.1 rfl (Nat.le_of_ble_eq_true rfl) dX0_nextStop_32 (fun r_5 hw_r_5 => ?_)
        refine lv_aload_n hx hb dX0_nextStop_35 rfl (lv_at hl 1 rfl) ?_
        refine lv_iload_n hx hb dX0_nextStop_36 rfl (lv_at hl 3 rfl) ?_
        refine lv_iload_n hx hb dX0_nextStop_37 rfl (lv_at hl 4 rfl) ?_
        refine xc_Vr hF (c_X0_lengthOf l D cI cJ cZ cS ta sa sv s.heap.size h0 an Q j w La (by omega) (by omega)) kv_X0_39 ⟨rfl, rfl, Nat.le_of_ble_eq_true rfl, Nat.le_of_ble_eq_true rfl⟩ ⟨Nat.le_of_ble_eq_true rfl, Nat.le_of_ble_eq_true rfl⟩ hK hN hZ hP hD hS hA [0, 1] rfl rfl 0 rfl rfl rfl rfl hl.1 rfl (Nat.le_of_ble_eq_true rfl) dX0_nextStop_38 (fun r_6 hw_r_6 => ?_)
        subst hw_r_6
        refine lv_icmp_ne (tgt := 47) hx hb dX0_nextStop_41 (by decide) (fun c_7 => ?_) (fun c_7 => ?_)
        · skip
          refine lv_iinc (v := nI (i + 1)) (lv' := [(4, .int (nI (i + 1))), (0, .ref h0), (1, .ref q1), (2, .int (nI (j))), (3, .int (nI (w)))]) hx hb dX0_nextStop_47 hl (k := 0) rfl (nI_1 (i)) (by decide) rfl (fun ls hl => ?_)
          refine lv_goto (tgt := 3) hx hb dX0_nextStop_50 (by decide) ?_
          exact ih_3 (i + 1) _ (by omega) (by omega) (lv_sub hl [0, 1, 2, 3, 4] rfl)
        · skip
          refine lv_iload hx hb dX0_nextStop_44 (lv_at hl 0 rfl) ?_
          exact W.iret (v := nI (i)) hx hb hr (fun t ht hW => ⟨nI (i), rfl, (by first | exact ⟨i, rfl, (by first | assumption | omega | exact Or.inl (by first | assumption | omega) | exact Or.inr (by first | assumption | omega))⟩), ht⟩) (fun q h => by cases h) dX0_nextStop_46 hlk
set_option maxHeartbeats 4000000 in
set_option maxRecDepth 100000 in
theorem c_X0_stopOf (l : Launch) (D : va_G) (cI cJ cZ cS : ClassId) (ta : Nat) (sa sv : Nat → Nat) (sz : Nat) (h0 : Nat) (an : Nat) (Q : Nat) (La : Nat → Int32) (q1 : Nat) (be : Nat) (bl : Nat) (bu : Nat) (bo : Nat) (br : Nat) (bk : Nat) (bw : Nat) (btt : Nat) (bss : Nat) (P : Nat) (lo : Nat → Int32) (d : Nat → Int32) (j : Nat) (w : Nat) (z : Nat) (hQ : Q ≤ 10) (hj : j < 10) (hw9 : w < 10) (hz : z ≤ 10) : Met l yX0_stopOf (Cond.code yX0_stopOf cX0_stopOf 7 (some .int) :: wsU) ({ frames := 4, cells := 0, slots := 0, locals := 89 }) (va_Pc [.ref h0, .ref q1, .int (nI (j)), .int (nI (w)), .int (nI (z))] (XW D (xT cI cJ cZ cS) ta sa sv [(h0, .inr (0, [.int (nI (Q)), .ref an])), (an, .inl (cI, 100, .inl La)), (q1, .inr (1, [.int (nI (P)), .ref be, .ref bl, .ref bu, .ref bo, .ref br, .ref bk, .ref bw, .ref btt, .ref bss])), (bl, .inl (cI, 100, .inl lo)), (bo, .inl (cI, 100, .inl d))] sz)) (vp_Si (fun r : Int32 => (∃ (y : Nat), r = nI (y) ∧ (y < 10)))) 0 0 (fun _ => False) := by
  refine xh (QA := fun _ => vp_Si (fun r : Int32 => (∃ (y : Nat), r = nI (y) ∧ (y < 10)))) (fr := fun _ _ => False) (by decide) (Nat.le_of_ble_eq_true rfl) ?_
  intro p e s m below meth c ls A hF hr hlk hin hsz hP hK hD hN hZ hA hS hl
  have hF : CallFix p m c cX0_stopOf 7 s _ _ RX0 := hF
  have hx := hF.1
  have hb := hF.2.1
  have hml := hF.2.2.1
  have hown := hF.2.2.2.1
  have hu : ∀ w ∈ wsU, w.before _ s = true := fun w h => hF.2.2.2.2 w (List.mem_cons_of_mem _ h)
  have hl : lv_has ls 7 [(0, .ref h0), (1, .ref q1), (2, .int (nI (j))), (3, .int (nI (w))), (4, .int (nI (z)))] := hl
  refine lv_iload_n hx hb dX0_stopOf_0 rfl (lv_at hl 2 rfl) ?_
  refine lv_istore (lv' := [(5, .int (nI (j))), (0, .ref h0), (1, .ref q1), (2, .int (nI (j))), (3, .int (nI (w))), (4, .int (nI (z)))]) hx hb dX0_stopOf_1 hl (by decide) rfl (fun ls hl => ?_)
  refine lv_iconst (v := 0) hx hb dX0_stopOf_3 (by decide) ?_
  refine lv_istore (lv' := [(6, .int 0), (5, .int (nI (j))), (0, .ref h0), (1, .ref q1), (2, .int (nI (j))), (3, .int (nI (w))), (4, .int (nI (z)))]) hx hb dX0_stopOf_4 hl (by decide) rfl (fun ls hl => ?_)
  suffices loop_6 : ∀ (n_6 : Nat) (i : Nat) (y9 : Nat) (ls : Array Slot), z - i < n_6 → (i ≤ z) → (y9 < 10) → lv_has ls 7 [(6, .int (nI (i))), (5, .int (nI (y9))), (0, .ref h0), (1, .ref q1), (2, .int (nI (j))), (3, .int (nI (w))), (4, .int (nI (z)))] → W p l e ({ frames := 4, cells := 0, slots := 0, locals := 89 }) s m ([.ref h0, .ref q1, .int (nI (j)), .int (nI (w)), .int (nI (z))] : List Value).toArray below meth c s.heap [] 0 0 (MQ below (vp_Si (fun r : Int32 => (∃ (y : Nat), r = nI (y) ∧ (y < 10)))) ([.ref h0, .ref q1, .int (nI (j)), .int (nI (w)), .int (nI (z))] : List Value).toArray s 0 0 (fun _ => False)) (F0 m 6 ls []) by
    exact loop_6 _ 0 j _ (Nat.lt_succ_self _) (by omega) (by omega) (lv_sub hl [0, 1, 2, 3, 4, 5, 6] rfl)
  intro n_6
  induction n_6 with
  | zero =>
    intro i y9 ls hm_6
    exact absurd hm_6 (Nat.not_lt_zero _)
  | succ n_6 ih_6 =>
    intro i y9 ls hm_6 hi hy9 hl
    refine lv_iload hx hb dX0_stopOf_6 (lv_at hl 0 rfl) ?_
    refine lv_iload hx hb dX0_stopOf_8 (lv_at hl 6 rfl) ?_
    refine lv_icmp_ge (tgt := 29) hx hb dX0_stopOf_10 (by decide) (fun c_1 => ?_) (fun c_1 => ?_)
    · skip
      have nc_1 : z ≤ i := xn_le (a := z) (b := i) (by omega) (by omega) c_1
      refine lv_iload hx hb dX0_stopOf_29 (lv_at hl 1 rfl) ?_
      exact W.iret (v := nI (y9)) hx hb hr (fun t ht hW => ⟨nI (y9), rfl, (by first | exact ⟨y9, rfl, (by first | assumption | omega | exact Or.inl (by first | assumption | omega) | exact Or.inr (by first | assumption | omega))⟩), ht⟩) (fun q h => by cases h) dX0_stopOf_31 hlk
    · skip
      have nc_1 : i < z := xn_nle (a := z) (b := i) (by omega) (by omega) c_1
      refine lv_aload_n hx hb dX0_stopOf_13 rfl (lv_at hl 2 rfl) ?_
      refine lv_aload_n hx hb dX0_stopOf_14 rfl (lv_at hl 3 rfl) ?_
      refine lv_iload hx hb dX0_stopOf_15 (lv_at hl 1 rfl) ?_
      refine lv_iload_n hx hb dX0_stopOf_17 rfl (lv_at hl 5 rfl) ?_
      refine xc_Vr hF (c_X0_nextStop l D cI cJ cZ cS ta sa sv s.heap.size h0 an Q La q1 be bl bu bo br bk bw btt bss P lo d y9 w (by omega) (by omega) (by omega)) kv_X0_60 ⟨rfl, rfl, Nat.le_of_ble_eq_true rfl, Nat.le_of_ble_eq_true rfl⟩ ⟨Nat.le_of_ble_eq_true rfl, Nat.le_of_ble_eq_true rfl⟩ hK hN hZ hP hD hS hA [0, 1, 2, 3, 4] rfl rfl 0 rfl rfl rfl rfl hl.1 rfl (Nat.le_of_ble_eq_true rfl) dX0_stopOf_18 (fun r_2 hw_r_2 => ?_)
      obtain ⟨y_3, rfl, h_4⟩ := hw_r_2
      refine lv_istore (lv' := [(5, .int (nI (y_3))), (6, .int (nI (i))), (0, .ref h0), (1, .ref q1), (2, .int (nI (j))), (3, .int (nI (w))), (4, .int (nI (z)))]) hx hb dX0_stopOf_21 hl (by decide) rfl (fun ls hl => ?_)
      refine lv_iinc (v := nI (i + 1)) (lv' := [(6, .int (nI (i + 1))), (5, .int (nI (y_3))), (0, .ref h0), (1, .ref q1), (2, .int (nI (j))), (3, .int (nI (w))), (4, .int (nI (z)))]) hx hb dX0_stopOf_23 hl (k := 1) rfl (nI_1 (i)) (by decide) rfl (fun ls hl => ?_)
      refine lv_goto (tgt := 6) hx hb dX0_stopOf_26 (by decide) ?_
      exact ih_6 (i + 1) y_3 _ (by omega) (by omega) (by omega) (lv_sub hl [0, 1, 2, 3, 4, 5, 6] rfl)
set_option maxHeartbeats 4000000 in
set_option maxRecDepth 100000 in
theorem c_X0_tripOf (l : Launch) (D : va_G) (cI cJ cZ cS : ClassId) (ta : Nat) (sa sv : Nat → Nat) (sz : Nat) (h0 : Nat) (an : Nat) (Q : Nat) (La : Nat → Int32) (q1 : Nat) (be : Nat) (bl : Nat) (bu : Nat) (bo : Nat) (br : Nat) (bk : Nat) (bw : Nat) (btt : Nat) (bss : Nat) (P : Nat) (er : Nat → Int32) (j : Nat) (hQ : Q ≤ 10) (hj : j < 10) : Met l yX0_tripOf (Cond.code yX0_tripOf cX0_tripOf 6 (some .int) :: wsU) ({ frames := 2, cells := 0, slots := 0, locals := 45 }) (va_Pc [.ref h0, .ref q1, .int (nI (j))] (XW D (xT cI cJ cZ cS) ta sa sv [(h0, .inr (0, [.int (nI (Q)), .ref an])), (an, .inl (cI, 100, .inl La)), (q1, .inr (1, [.int (nI (P)), .ref be, .ref bl, .ref bu, .ref bo, .ref br, .ref bk, .ref bw, .ref btt, .ref bss])), (be, .inl (cI, 10, .inl er))] sz)) (vp_Si (fun r : Int32 => True)) 0 0 (fun _ => False) := by
  refine xh (QA := fun _ => vp_Si (fun r : Int32 => True)) (fr := fun _ _ => False) (by decide) (Nat.le_of_ble_eq_true rfl) ?_
  intro p e s m below meth c ls A hF hr hlk hin hsz hP hK hD hN hZ hA hS hl
  have hF : CallFix p m c cX0_tripOf 6 s _ _ RX0 := hF
  have hx := hF.1
  have hb := hF.2.1
  have hml := hF.2.2.1
  have hown := hF.2.2.2.1
  have hu : ∀ w ∈ wsU, w.before _ s = true := fun w h => hF.2.2.2.2 w (List.mem_cons_of_mem _ h)
  have hl : lv_has ls 6 [(0, .ref h0), (1, .ref q1), (2, .int (nI (j)))] := hl
  refine lv_iconst (v := 0) hx hb dX0_tripOf_0 (by decide) ?_
  refine lv_istore_n (lv' := [(3, .int 0), (0, .ref h0), (1, .ref q1), (2, .int (nI (j)))]) hx hb dX0_tripOf_1 rfl hl (by decide) rfl (fun ls hl => ?_)
  refine lv_iconst (v := 0) hx hb dX0_tripOf_2 (by decide) ?_
  refine lv_istore (lv' := [(4, .int 0), (3, .int 0), (0, .ref h0), (1, .ref q1), (2, .int (nI (j)))]) hx hb dX0_tripOf_3 hl (by decide) rfl (fun ls hl => ?_)
  suffices loop_5 : ∀ (n_5 : Nat) (i : Nat) (u : Int32) (ls : Array Slot), Q - i < n_5 → (i ≤ Q) → lv_has ls 6 [(4, .int (nI (i))), (3, .int u), (0, .ref h0), (1, .ref q1), (2, .int (nI (j)))] → W p l e ({ frames := 2, cells := 0, slots := 0, locals := 45 }) s m ([.ref h0, .ref q1, .int (nI (j))] : List Value).toArray below meth c s.heap [] 0 0 (MQ below (vp_Si (fun r : Int32 => True)) ([.ref h0, .ref q1, .int (nI (j))] : List Value).toArray s 0 0 (fun _ => False)) (F0 m 5 ls []) by
    exact loop_5 _ 0 0 _ (Nat.lt_succ_self _) (by omega) (lv_sub hl [0, 1, 2, 3, 4] rfl)
  intro n_5
  induction n_5 with
  | zero =>
    intro i u ls hm_5
    exact absurd hm_5 (Nat.not_lt_zero _)
  | succ n_5 ih_5 =>
    intro i u ls hm_5 hi hl
    refine lv_iload hx hb dX0_tripOf_5 (lv_at hl 0 rfl) ?_
    refine lv_aload_n hx hb dX0_tripOf_7 rfl (lv_at hl 2 rfl) ?_
    refine xg hF kf_X0_9 hK hP 0 rfl rfl dX0_tripOf_8 ?_
    refine lv_icmp_ge (tgt := 72) hx hb dX0_tripOf_11 (by decide) (fun c_1 => ?_) (fun c_1 => ?_)
    · skip
      have nc_1 : Q ≤ i := xn_le (a := Q) (b := i) (by omega) (by omega) c_1
      refine lv_iload_n hx hb dX0_tripOf_72 rfl (lv_at hl 1 rfl) ?_
      exact W.iret (v := u) hx hb hr (fun t ht hW => ⟨u, rfl, trivial, ht⟩) (fun q h => by cases h) dX0_tripOf_73 hlk
    · skip
      have nc_1 : i < Q := xn_nle (a := Q) (b := i) (by omega) (by omega) c_1
      refine lv_aload_n hx hb dX0_tripOf_14 rfl (lv_at hl 3 rfl) ?_
      refine xg hF kf_X0_63 hK hP 2 rfl rfl dX0_tripOf_15 ?_
      refine lv_iload hx hb dX0_tripOf_18 (lv_at hl 0 rfl) ?_
      refine va_iald hx hb hK hP 3 0 rfl rfl (vp_in_nI (show i < 10 by omega) (by decide)) dX0_tripOf_20 ?_
      refine xl_i (y := er i) (congrArg er (nI_clamp (show i < 2 ^ 31 by omega))) ?_
      refine lv_if_le (tgt := 66) hx hb dX0_tripOf_21 (by decide) (fun c_2 => ?_) (fun c_2 => ?_)
      · skip
        refine lv_iinc (v := nI (i + 1)) (lv' := [(4, .int (nI (i + 1))), (3, .int u), (0, .ref h0), (1, .ref q1), (2, .int (nI (j)))]) hx hb dX0_tripOf_66 hl (k := 0) rfl (nI_1 (i)) (by decide) rfl (fun ls hl => ?_)
        refine lv_goto (tgt := 5) hx hb dX0_tripOf_69 (by decide) ?_
        exact ih_5 (i + 1) u _ (by omega) (by omega) (lv_sub hl [0, 1, 2, 3, 4] rfl)
      · skip
        refine lv_aload_n hx hb dX0_tripOf_24 rfl (lv_at hl 2 rfl) ?_
        refine lv_iload_n hx hb dX0_tripOf_25 rfl (lv_at hl 4 rfl) ?_
        refine lv_iload hx hb dX0_tripOf_26 (lv_at hl 0 rfl) ?_
        refine xc_Vr hF (c_X0_farOf l D cI cJ cZ cS ta sa sv s.heap.size h0 an Q La j i (by omega) (by omega)) kv_X0_66 ⟨rfl, rfl, Nat.le_of_ble_eq_true rfl, Nat.le_of_ble_eq_true rfl⟩ ⟨Nat.le_of_ble_eq_true rfl, Nat.le_of_ble_eq_true rfl⟩ hK hN hZ hP hD hS hA [0, 1] rfl rfl 0 rfl rfl rfl rfl hl.1 rfl (Nat.le_of_ble_eq_true rfl) dX0_tripOf_28 (fun r_3 hw_r_3 => ?_)
        refine lv_aload_n hx hb dX0_tripOf_31 rfl (lv_at hl 2 rfl) ?_
        refine lv_iload hx hb dX0_tripOf_32 (lv_at hl 0 rfl) ?_
        refine lv_iload_n hx hb dX0_tripOf_34 rfl (lv_at hl 4 rfl) ?_
        refine xc_Vr hF (c_X0_farOf l D cI cJ cZ cS ta sa sv s.heap.size h0 an Q La i j (by omega) (by omega)) kv_X0_66 ⟨rfl, rfl, Nat.le_of_ble_eq_true rfl, Nat.le_of_ble_eq_true rfl⟩ ⟨Nat.le_of_ble_eq_true rfl, Nat.le_of_ble_eq_true rfl⟩ hK hN hZ hP hD hS hA [0, 1] rfl rfl 0 rfl rfl rfl rfl hl.1 rfl (Nat.le_of_ble_eq_true rfl) dX0_tripOf_35 (fun r_4 hw_r_4 => ?_)
        refine xc_SNr hF (c_X8_together l D cI cJ cZ cS ta sa sv s.heap.size r_3 r_4 ) kn_X0_42.1 kn_X0_42.2.1 kn_X0_42.2.2 ⟨rfl, rfl, Nat.le_of_ble_eq_true rfl, Nat.le_of_ble_eq_true rfl⟩ ⟨Nat.le_of_ble_eq_true rfl, Nat.le_of_ble_eq_true rfl⟩ hK hN hZ hP hD hS hA [] rfl rfl rfl hl.1 rfl (Nat.le_of_ble_eq_true rfl) dX0_tripOf_38 (fun r_5 hw_r_5 => ?_)
        refine lv_istore (lv' := [(5, .int r_5), (4, .int (nI (i))), (3, .int u), (0, .ref h0), (1, .ref q1), (2, .int (nI (j)))]) hx hb dX0_tripOf_41 hl (by decide) rfl (fun ls hl => ?_)
        refine lv_iload hx hb dX0_tripOf_43 (lv_at hl 0 rfl) ?_
        refine lv_ldc (v := 1000000000) hx hb hown (hu _ uw79) dX0_tripOf_45 ?_
        refine lv_icmp_ne (tgt := 53) hx hb dX0_tripOf_47 (by decide) (fun c_6 => ?_) (fun c_6 => ?_)
        · skip
          refine lv_iload_n hx hb dX0_tripOf_53 rfl (lv_at hl 2 rfl) ?_
          refine lv_aload_n hx hb dX0_tripOf_54 rfl (lv_at hl 4 rfl) ?_
          refine xg hF kf_X0_63 hK hP 2 rfl rfl dX0_tripOf_55 ?_
          refine lv_iload hx hb dX0_tripOf_58 (lv_at hl 1 rfl) ?_
          refine va_iald hx hb hK hP 3 0 rfl rfl (vp_in_nI (show i < 10 by omega) (by decide)) dX0_tripOf_60 ?_
          refine xl_i (y := er i) (congrArg er (nI_clamp (show i < 2 ^ 31 by omega))) ?_
          refine lv_iload hx hb dX0_tripOf_61 (lv_at hl 0 rfl) ?_
          refine lv_imul hx hb dX0_tripOf_63 ?_
          refine lv_topi (fun x_7 ex_7 => ?_)
          refine lv_iadd hx hb dX0_tripOf_64 ?_
          refine lv_topi (fun x_8 ex_8 => ?_)
          refine lv_istore_n (lv' := [(3, .int x_8), (5, .int r_5), (4, .int (nI (i))), (0, .ref h0), (1, .ref q1), (2, .int (nI (j)))]) hx hb dX0_tripOf_65 rfl hl (by decide) rfl (fun ls hl => ?_)
          refine lv_iinc (v := nI (i + 1)) (lv' := [(4, .int (nI (i + 1))), (3, .int x_8), (5, .int r_5), (0, .ref h0), (1, .ref q1), (2, .int (nI (j)))]) hx hb dX0_tripOf_66 hl (k := 2) rfl (nI_1 (i)) (by decide) rfl (fun ls hl => ?_)
          refine lv_goto (tgt := 5) hx hb dX0_tripOf_69 (by decide) ?_
          exact ih_5 (i + 1) x_8 _ (by omega) (by omega) (lv_sub hl [0, 1, 3, 4, 5] rfl)
        · skip
          refine lv_ldc (v := 1000000000) hx hb hown (hu _ uw79) dX0_tripOf_50 ?_
          exact W.iret (v := 1000000000) hx hb hr (fun t ht hW => ⟨1000000000, rfl, trivial, ht⟩) (fun q h => by cases h) dX0_tripOf_52 hlk
set_option maxHeartbeats 4000000 in
set_option maxRecDepth 100000 in
theorem c_X0_homeOf (l : Launch) (D : va_G) (cI cJ cZ cS : ClassId) (ta : Nat) (sa sv : Nat → Nat) (sz : Nat) (h0 : Nat) (an : Nat) (Q : Nat) (La : Nat → Int32) (q1 : Nat) (be : Nat) (bl : Nat) (bu : Nat) (bo : Nat) (br : Nat) (bk : Nat) (bw : Nat) (btt : Nat) (bss : Nat) (P : Nat) (er : Nat → Int32) (hQ : Q ≤ 10) : Met l yX0_homeOf (Cond.code yX0_homeOf cX0_homeOf 6 (some .int) :: wsU) ({ frames := 3, cells := 0, slots := 0, locals := 70 }) (va_Pc [.ref h0, .ref q1] (XW D (xT cI cJ cZ cS) ta sa sv [(h0, .inr (0, [.int (nI (Q)), .ref an])), (an, .inl (cI, 100, .inl La)), (q1, .inr (1, [.int (nI (P)), .ref be, .ref bl, .ref bu, .ref bo, .ref br, .ref bk, .ref bw, .ref btt, .ref bss])), (be, .inl (cI, 10, .inl er))] sz)) (vp_Si (fun r : Int32 => (r = (-1)) ∨ (∃ (y : Nat), r = nI (y) ∧ (y < Q)))) 0 0 (fun _ => False) := by
  refine xh (QA := fun _ => vp_Si (fun r : Int32 => (r = (-1)) ∨ (∃ (y : Nat), r = nI (y) ∧ (y < Q)))) (fr := fun _ _ => False) (by decide) (Nat.le_of_ble_eq_true rfl) ?_
  intro p e s m below meth c ls A hF hr hlk hin hsz hP hK hD hN hZ hA hS hl
  have hF : CallFix p m c cX0_homeOf 6 s _ _ RX0 := hF
  have hx := hF.1
  have hb := hF.2.1
  have hml := hF.2.2.1
  have hown := hF.2.2.2.1
  have hu : ∀ w ∈ wsU, w.before _ s = true := fun w h => hF.2.2.2.2 w (List.mem_cons_of_mem _ h)
  have hl : lv_has ls 6 [(0, .ref h0), (1, .ref q1)] := hl
  refine lv_iconst (v := (-1)) hx hb dX0_homeOf_0 (by decide) ?_
  refine lv_istore_n (lv' := [(2, .int (-1)), (0, .ref h0), (1, .ref q1)]) hx hb dX0_homeOf_1 rfl hl (by decide) rfl (fun ls hl => ?_)
  refine lv_ldc (v := 1000000000) hx hb hown (hu _ uw79) dX0_homeOf_2 ?_
  refine lv_istore_n (lv' := [(3, .int 1000000000), (2, .int (-1)), (0, .ref h0), (1, .ref q1)]) hx hb dX0_homeOf_4 rfl hl (by decide) rfl (fun ls hl => ?_)
  refine lv_iconst (v := 0) hx hb dX0_homeOf_5 (by decide) ?_
  refine lv_istore (lv' := [(4, .int 0), (3, .int 1000000000), (2, .int (-1)), (0, .ref h0), (1, .ref q1)]) hx hb dX0_homeOf_6 hl (by decide) rfl (fun ls hl => ?_)
  suffices loop_8 : ∀ (n_8 : Nat) (i : Nat) (x : Int32) (u : Int32) (ls : Array Slot), Q - i < n_8 → (i ≤ Q) → (x = -1 ∨ ∃ y, y < Q ∧ x = nI y) → lv_has ls 6 [(4, .int (nI (i))), (3, .int u), (2, .int x), (0, .ref h0), (1, .ref q1)] → W p l e ({ frames := 3, cells := 0, slots := 0, locals := 70 }) s m ([.ref h0, .ref q1] : List Value).toArray below meth c s.heap [] 0 0 (MQ below (vp_Si (fun r : Int32 => (r = (-1)) ∨ (∃ (y : Nat), r = nI (y) ∧ (y < Q)))) ([.ref h0, .ref q1] : List Value).toArray s 0 0 (fun _ => False)) (F0 m 8 ls []) by
    exact loop_8 _ 0 (-1) 1000000000 _ (Nat.lt_succ_self _) (by omega) (Or.inl rfl) (lv_sub hl [0, 1, 2, 3, 4] rfl)
  intro n_8
  induction n_8 with
  | zero =>
    intro i x u ls hm_8
    exact absurd hm_8 (Nat.not_lt_zero _)
  | succ n_8 ih_8 =>
    intro i x u ls hm_8 hi hx9 hl
    refine lv_iload hx hb dX0_homeOf_8 (lv_at hl 0 rfl) ?_
    refine lv_aload_n hx hb dX0_homeOf_10 rfl (lv_at hl 3 rfl) ?_
    refine xg hF kf_X0_9 hK hP 0 rfl rfl dX0_homeOf_11 ?_
    refine lv_icmp_ge (tgt := 44) hx hb dX0_homeOf_14 (by decide) (fun c_1 => ?_) (fun c_1 => ?_)
    · skip
      have nc_1 : Q ≤ i := xn_le (a := Q) (b := i) (by omega) (by omega) c_1
      refine lv_iload_n hx hb dX0_homeOf_44 rfl (lv_at hl 2 rfl) ?_
      exact W.iret (v := x) hx hb hr (fun t ht hW => ⟨x, rfl, (xoptp hx9), ht⟩) (fun q h => by cases h) dX0_homeOf_45 hlk
    · skip
      have nc_1 : i < Q := xn_nle (a := Q) (b := i) (by omega) (by omega) c_1
      refine lv_aload_n hx hb dX0_homeOf_17 rfl (lv_at hl 3 rfl) ?_
      refine lv_aload_n hx hb dX0_homeOf_18 rfl (lv_at hl 4 rfl) ?_
      refine lv_iload hx hb dX0_homeOf_19 (lv_at hl 0 rfl) ?_
      refine xc_Vr hF (c_X0_tripOf l D cI cJ cZ cS ta sa sv s.heap.size h0 an Q La q1 be bl bu bo br bk bw btt bss P er i (by omega) (by omega)) kv_X0_69 ⟨rfl, rfl, Nat.le_of_ble_eq_true rfl, Nat.le_of_ble_eq_true rfl⟩ ⟨Nat.le_of_ble_eq_true rfl, Nat.le_of_ble_eq_true rfl⟩ hK hN hZ hP hD hS hA [0, 1, 2, 3] rfl rfl 0 rfl rfl rfl rfl hl.1 rfl (Nat.le_of_ble_eq_true rfl) dX0_homeOf_21 (fun r_2 hw_r_2 => ?_)
      refine lv_istore (lv' := [(5, .int r_2), (4, .int (nI (i))), (3, .int u), (2, .int x), (0, .ref h0), (1, .ref q1)]) hx hb dX0_homeOf_24 hl (by decide) rfl (fun ls hl => ?_)
      refine lv_iload hx hb dX0_homeOf_26 (lv_at hl 0 rfl) ?_
      refine lv_iload_n hx hb dX0_homeOf_28 rfl (lv_at hl 2 rfl) ?_
      refine lv_icmp_ge (tgt := 38) hx hb dX0_homeOf_29 (by decide) (fun c_3 => ?_) (fun c_3 => ?_)
      · skip
        refine lv_iinc (v := nI (i + 1)) (lv' := [(4, .int (nI (i + 1))), (5, .int r_2), (3, .int u), (2, .int x), (0, .ref h0), (1, .ref q1)]) hx hb dX0_homeOf_38 hl (k := 1) rfl (nI_1 (i)) (by decide) rfl (fun ls hl => ?_)
        refine lv_goto (tgt := 8) hx hb dX0_homeOf_41 (by decide) ?_
        exact ih_8 (i + 1) x u _ (by omega) (by omega) hx9 (lv_sub hl [0, 2, 3, 4, 5] rfl)
      · skip
        refine lv_iload hx hb dX0_homeOf_32 (lv_at hl 1 rfl) ?_
        refine lv_istore_n (lv' := [(2, .int (nI (i))), (5, .int r_2), (4, .int (nI (i))), (3, .int u), (0, .ref h0), (1, .ref q1)]) hx hb dX0_homeOf_34 rfl hl (by decide) rfl (fun ls hl => ?_)
        refine lv_iload hx hb dX0_homeOf_35 (lv_at hl 1 rfl) ?_
        refine lv_istore_n (lv' := [(3, .int r_2), (2, .int (nI (i))), (5, .int r_2), (4, .int (nI (i))), (0, .ref h0), (1, .ref q1)]) hx hb dX0_homeOf_37 rfl hl (by decide) rfl (fun ls hl => ?_)
        refine lv_iinc (v := nI (i + 1)) (lv' := [(4, .int (nI (i + 1))), (3, .int r_2), (2, .int (nI (i))), (5, .int r_2), (0, .ref h0), (1, .ref q1)]) hx hb dX0_homeOf_38 hl (k := 3) rfl (nI_1 (i)) (by decide) rfl (fun ls hl => ?_)
        refine lv_goto (tgt := 8) hx hb dX0_homeOf_41 (by decide) ?_
        exact ih_8 (i + 1) (nI (i)) r_2 _ (by omega) (by omega) (Or.inr ⟨(i), by omega, rfl⟩) (lv_sub hl [0, 1, 2, 4, 5] rfl)
set_option maxHeartbeats 4000000 in
set_option maxRecDepth 100000 in
theorem c_X0_leastTrip (l : Launch) (D : va_G) (cI cJ cZ cS : ClassId) (ta : Nat) (sa sv : Nat → Nat) (sz : Nat) (h0 : Nat) (an : Nat) (Q : Nat) (La : Nat → Int32) (q1 : Nat) (be : Nat) (bl : Nat) (bu : Nat) (bo : Nat) (br : Nat) (bk : Nat) (bw : Nat) (btt : Nat) (bss : Nat) (P : Nat) (er : Nat → Int32) (hQ : Q ≤ 10) : Met l yX0_leastTrip (Cond.code yX0_leastTrip cX0_leastTrip 3 (some .int) :: wsU) ({ frames := 4, cells := 0, slots := 0, locals := 95 }) (va_Pc [.ref h0, .ref q1] (XW D (xT cI cJ cZ cS) ta sa sv [(h0, .inr (0, [.int (nI (Q)), .ref an])), (an, .inl (cI, 100, .inl La)), (q1, .inr (1, [.int (nI (P)), .ref be, .ref bl, .ref bu, .ref bo, .ref br, .ref bk, .ref bw, .ref btt, .ref bss])), (be, .inl (cI, 10, .inl er))] sz)) (vp_Si (fun r : Int32 => True)) 0 0 (fun _ => False) := by
  refine xh (QA := fun _ => vp_Si (fun r : Int32 => True)) (fr := fun _ _ => False) (by decide) (Nat.le_of_ble_eq_true rfl) ?_
  intro p e s m below meth c ls A hF hr hlk hin hsz hP hK hD hN hZ hA hS hl
  have hF : CallFix p m c cX0_leastTrip 3 s _ _ RX0 := hF
  have hx := hF.1
  have hb := hF.2.1
  have hml := hF.2.2.1
  have hown := hF.2.2.2.1
  have hu : ∀ w ∈ wsU, w.before _ s = true := fun w h => hF.2.2.2.2 w (List.mem_cons_of_mem _ h)
  have hl : lv_has ls 3 [(0, .ref h0), (1, .ref q1)] := hl
  refine lv_aload_n hx hb dX0_leastTrip_0 rfl (lv_at hl 0 rfl) ?_
  refine lv_aload_n hx hb dX0_leastTrip_1 rfl (lv_at hl 1 rfl) ?_
  refine xc_Vr hF (c_X0_homeOf l D cI cJ cZ cS ta sa sv s.heap.size h0 an Q La q1 be bl bu bo br bk bw btt bss P er (by omega)) kv_X0_73 ⟨rfl, rfl, Nat.le_of_ble_eq_true rfl, Nat.le_of_ble_eq_true rfl⟩ ⟨Nat.le_of_ble_eq_true rfl, Nat.le_of_ble_eq_true rfl⟩ hK hN hZ hP hD hS hA [0, 1, 2, 3] rfl rfl 0 rfl rfl rfl rfl hl.1 rfl (Nat.le_of_ble_eq_true rfl) dX0_leastTrip_2 (fun r_1 hw_r_1 => ?_)
  rcases hw_r_1 with rfl | ⟨y_2, rfl, h_3⟩
  · skip
    refine lv_istore_n (lv' := [(2, .int (-1)), (0, .ref h0), (1, .ref q1)]) hx hb dX0_leastTrip_5 rfl hl (by decide) rfl (fun ls hl => ?_)
    refine lv_iload_n hx hb dX0_leastTrip_6 rfl (lv_at hl 0 rfl) ?_
    refine lv_if_ge (tgt := 15) hx hb dX0_leastTrip_7 (by decide) (fun c_4 => absurd c_4 (by decide)) (fun c_4 => ?_)
    refine lv_ldc (v := 1000000000) hx hb hown (hu _ uw79) dX0_leastTrip_10 ?_
    refine lv_goto (tgt := 21) hx hb dX0_leastTrip_12 (by decide) ?_
    exact W.iret (v := 1000000000) hx hb hr (fun t ht hW => ⟨1000000000, rfl, trivial, ht⟩) (fun q h => by cases h) dX0_leastTrip_21 hlk
  · skip
    refine lv_istore_n (lv' := [(2, .int (nI (y_2))), (0, .ref h0), (1, .ref q1)]) hx hb dX0_leastTrip_5 rfl hl (by decide) rfl (fun ls hl => ?_)
    refine lv_iload_n hx hb dX0_leastTrip_6 rfl (lv_at hl 0 rfl) ?_
    refine lv_if_ge (tgt := 15) hx hb dX0_leastTrip_7 (by decide) (fun c_5 => ?_) (fun c_5 => by have nc_5 : y_2 < 0 := xn_nle (a := 0) (b := y_2) (by omega) (by omega) c_5; omega)
    have nc_5 : 0 ≤ y_2 := xn_le (a := 0) (b := y_2) (by omega) (by omega) c_5
    refine lv_aload_n hx hb dX0_leastTrip_15 rfl (lv_at hl 1 rfl) ?_
    refine lv_aload_n hx hb dX0_leastTrip_16 rfl (lv_at hl 2 rfl) ?_
    refine lv_iload_n hx hb dX0_leastTrip_17 rfl (lv_at hl 0 rfl) ?_
    refine xc_Vr hF (c_X0_tripOf l D cI cJ cZ cS ta sa sv s.heap.size h0 an Q La q1 be bl bu bo br bk bw btt bss P er y_2 (by omega) (by omega)) kv_X0_69 ⟨rfl, rfl, Nat.le_of_ble_eq_true rfl, Nat.le_of_ble_eq_true rfl⟩ ⟨Nat.le_of_ble_eq_true rfl, Nat.le_of_ble_eq_true rfl⟩ hK hN hZ hP hD hS hA [0, 1, 2, 3] rfl rfl 0 rfl rfl rfl rfl hl.1 rfl (Nat.le_of_ble_eq_true rfl) dX0_leastTrip_18 (fun r_6 hw_r_6 => ?_)
    exact W.iret (v := r_6) hx hb hr (fun t ht hW => ⟨r_6, rfl, trivial, ht⟩) (fun q h => by cases h) dX0_leastTrip_21 hlk
set_option maxHeartbeats 4000000 in
set_option maxRecDepth 100000 in
theorem c_X0_priceOf (l : Launch) (D : va_G) (cI cJ cZ cS : ClassId) (ta : Nat) (sa sv : Nat → Nat) (sz : Nat) (h0 : Nat) (an : Nat) (Q : Nat) (La : Nat → Int32) (j : Nat) (k : Nat) (w : Nat) (p0 : Int32) (hj : j < 10) (hk : k < 10) (hw9 : w < 10) : Met l yX0_priceOf (Cond.code yX0_priceOf cX0_priceOf 8 (some .int) :: wsU) ({ frames := 2, cells := 0, slots := 0, locals := 45 }) (va_Pc [.ref h0, .int (nI (j)), .int (nI (k)), .int (nI (w)), .int p0] (XW D (xT cI cJ cZ cS) ta sa sv [(h0, .inr (0, [.int (nI (Q)), .ref an])), (an, .inl (cI, 100, .inl La))] sz)) (vp_Si (fun r : Int32 => True)) 0 0 (fun _ => False) := by
  refine xh (QA := fun _ => vp_Si (fun r : Int32 => True)) (fr := fun _ _ => False) (by decide) (Nat.le_of_ble_eq_true rfl) ?_
  intro p e s m below meth c ls A hF hr hlk hin hsz hP hK hD hN hZ hA hS hl
  have hF : CallFix p m c cX0_priceOf 8 s _ _ RX0 := hF
  have hx := hF.1
  have hb := hF.2.1
  have hml := hF.2.2.1
  have hown := hF.2.2.2.1
  have hu : ∀ w ∈ wsU, w.before _ s = true := fun w h => hF.2.2.2.2 w (List.mem_cons_of_mem _ h)
  have hl : lv_has ls 8 [(0, .ref h0), (1, .int (nI (j))), (2, .int (nI (k))), (3, .int (nI (w))), (4, .int p0)] := hl
  refine lv_aload_n hx hb dX0_priceOf_0 rfl (lv_at hl 0 rfl) ?_
  refine lv_iload_n hx hb dX0_priceOf_1 rfl (lv_at hl 1 rfl) ?_
  refine lv_iload_n hx hb dX0_priceOf_2 rfl (lv_at hl 3 rfl) ?_
  refine xc_Vr hF (c_X0_farOf l D cI cJ cZ cS ta sa sv s.heap.size h0 an Q La j w (by omega) (by omega)) kv_X0_66 ⟨rfl, rfl, Nat.le_of_ble_eq_true rfl, Nat.le_of_ble_eq_true rfl⟩ ⟨Nat.le_of_ble_eq_true rfl, Nat.le_of_ble_eq_true rfl⟩ hK hN hZ hP hD hS hA [0, 1] rfl rfl 0 rfl rfl rfl rfl hl.1 rfl (Nat.le_of_ble_eq_true rfl) dX0_priceOf_3 (fun r_1 hw_r_1 => ?_)
  refine lv_istore (lv' := [(5, .int r_1), (0, .ref h0), (1, .int (nI (j))), (2, .int (nI (k))), (3, .int (nI (w))), (4, .int p0)]) hx hb dX0_priceOf_6 hl (by decide) rfl (fun ls hl => ?_)
  refine lv_aload_n hx hb dX0_priceOf_8 rfl (lv_at hl 1 rfl) ?_
  refine lv_iload_n hx hb dX0_priceOf_9 rfl (lv_at hl 3 rfl) ?_
  refine lv_iload_n hx hb dX0_priceOf_10 rfl (lv_at hl 4 rfl) ?_
  refine xc_Vr hF (c_X0_farOf l D cI cJ cZ cS ta sa sv s.heap.size h0 an Q La k w (by omega) (by omega)) kv_X0_66 ⟨rfl, rfl, Nat.le_of_ble_eq_true rfl, Nat.le_of_ble_eq_true rfl⟩ ⟨Nat.le_of_ble_eq_true rfl, Nat.le_of_ble_eq_true rfl⟩ hK hN hZ hP hD hS hA [0, 1] rfl rfl 0 rfl rfl rfl rfl hl.1 rfl (Nat.le_of_ble_eq_true rfl) dX0_priceOf_11 (fun r_2 hw_r_2 => ?_)
  refine lv_istore (lv' := [(6, .int r_2), (5, .int r_1), (0, .ref h0), (1, .int (nI (j))), (2, .int (nI (k))), (3, .int (nI (w))), (4, .int p0)]) hx hb dX0_priceOf_14 hl (by decide) rfl (fun ls hl => ?_)
  refine lv_iload hx hb dX0_priceOf_16 (lv_at hl 6 rfl) ?_
  refine lv_iconst (v := 1) hx hb dX0_priceOf_18 (by decide) ?_
  refine lv_icmp_ne (tgt := 30) hx hb dX0_priceOf_19 (by decide) (fun c_3 => ?_) (fun c_3 => ?_)
  · skip
    refine lv_iload hx hb dX0_priceOf_30 (lv_at hl 1 rfl) ?_
    refine lv_iload hx hb dX0_priceOf_32 (lv_at hl 0 rfl) ?_
    refine xc_SNr hF (c_X8_together l D cI cJ cZ cS ta sa sv s.heap.size r_1 r_2 ) kn_X0_42.1 kn_X0_42.2.1 kn_X0_42.2.2 ⟨rfl, rfl, Nat.le_of_ble_eq_true rfl, Nat.le_of_ble_eq_true rfl⟩ ⟨Nat.le_of_ble_eq_true rfl, Nat.le_of_ble_eq_true rfl⟩ hK hN hZ hP hD hS hA [] rfl rfl rfl hl.1 rfl (Nat.le_of_ble_eq_true rfl) dX0_priceOf_34 (fun r_4 hw_r_4 => ?_)
    refine lv_istore (lv' := [(7, .int r_4), (6, .int r_2), (5, .int r_1), (0, .ref h0), (1, .int (nI (j))), (2, .int (nI (k))), (3, .int (nI (w))), (4, .int p0)]) hx hb dX0_priceOf_37 hl (by decide) rfl (fun ls hl => ?_)
    refine lv_iload hx hb dX0_priceOf_39 (lv_at hl 7 rfl) ?_
    refine lv_if_ne (tgt := 49) hx hb dX0_priceOf_41 (by decide) (fun c_5 => ?_) (fun c_5 => ?_)
    · skip
      refine lv_iload hx hb dX0_priceOf_49 (lv_at hl 0 rfl) ?_
      refine lv_aload_n hx hb dX0_priceOf_51 rfl (lv_at hl 3 rfl) ?_
      refine lv_iload_n hx hb dX0_priceOf_52 rfl (lv_at hl 6 rfl) ?_
      refine lv_iload_n hx hb dX0_priceOf_53 rfl (lv_at hl 4 rfl) ?_
      refine xc_Vr hF (c_X0_farOf l D cI cJ cZ cS ta sa sv s.heap.size h0 an Q La w j (by omega) (by omega)) kv_X0_66 ⟨rfl, rfl, Nat.le_of_ble_eq_true rfl, Nat.le_of_ble_eq_true rfl⟩ ⟨Nat.le_of_ble_eq_true rfl, Nat.le_of_ble_eq_true rfl⟩ hK hN hZ hP hD hS hA [0, 1] rfl rfl 0 rfl rfl rfl rfl hl.1 rfl (Nat.le_of_ble_eq_true rfl) dX0_priceOf_54 (fun r_6 hw_r_6 => ?_)
      refine lv_aload_n hx hb dX0_priceOf_57 rfl (lv_at hl 3 rfl) ?_
      refine lv_iload_n hx hb dX0_priceOf_58 rfl (lv_at hl 6 rfl) ?_
      refine lv_iload_n hx hb dX0_priceOf_59 rfl (lv_at hl 5 rfl) ?_
      refine xc_Vr hF (c_X0_farOf l D cI cJ cZ cS ta sa sv s.heap.size h0 an Q La w k (by omega) (by omega)) kv_X0_66 ⟨rfl, rfl, Nat.le_of_ble_eq_true rfl, Nat.le_of_ble_eq_true rfl⟩ ⟨Nat.le_of_ble_eq_true rfl, Nat.le_of_ble_eq_true rfl⟩ hK hN hZ hP hD hS hA [0, 1] rfl rfl 0 rfl rfl rfl rfl hl.1 rfl (Nat.le_of_ble_eq_true rfl) dX0_priceOf_60 (fun r_7 hw_r_7 => ?_)
      refine xc_SNr hF (c_X8_together l D cI cJ cZ cS ta sa sv s.heap.size r_6 r_7 ) kn_X0_42.1 kn_X0_42.2.1 kn_X0_42.2.2 ⟨rfl, rfl, Nat.le_of_ble_eq_true rfl, Nat.le_of_ble_eq_true rfl⟩ ⟨Nat.le_of_ble_eq_true rfl, Nat.le_of_ble_eq_true rfl⟩ hK hN hZ hP hD hS hA [] rfl rfl rfl hl.1 rfl (Nat.le_of_ble_eq_true rfl) dX0_priceOf_63 (fun r_8 hw_r_8 => ?_)
      refine xc_SNr hF (c_X8_together l D cI cJ cZ cS ta sa sv s.heap.size r_4 r_8 ) kn_X0_42.1 kn_X0_42.2.1 kn_X0_42.2.2 ⟨rfl, rfl, Nat.le_of_ble_eq_true rfl, Nat.le_of_ble_eq_true rfl⟩ ⟨Nat.le_of_ble_eq_true rfl, Nat.le_of_ble_eq_true rfl⟩ hK hN hZ hP hD hS hA [] rfl rfl rfl hl.1 rfl (Nat.le_of_ble_eq_true rfl) dX0_priceOf_66 (fun r_9 hw_r_9 => ?_)
      exact W.iret (v := r_9) hx hb hr (fun t ht hW => ⟨r_9, rfl, trivial, ht⟩) (fun q h => by cases h) dX0_priceOf_69 hlk
    · skip
      refine lv_iload hx hb dX0_priceOf_44 (lv_at hl 0 rfl) ?_
      refine lv_goto (tgt := 69) hx hb dX0_priceOf_46 (by decide) ?_
      exact W.iret (v := r_4) hx hb hr (fun t ht hW => ⟨r_4, rfl, trivial, ht⟩) (fun q h => by cases h) dX0_priceOf_69 hlk
  · skip
    refine lv_iload hx hb dX0_priceOf_22 (lv_at hl 1 rfl) ?_
    refine lv_iload hx hb dX0_priceOf_24 (lv_at hl 0 rfl) ?_
    refine va_mmax hx hb (hml.trans hl.1.symm) hown (hu _ uw90) (hu _ uw91) (hu _ uw92) (hu _ uw93) (Nat.le_of_ble_eq_true rfl) (Nat.le_of_ble_eq_true rfl) (Nat.le_of_ble_eq_true rfl) (Nat.le_of_ble_eq_true rfl) dX0_priceOf_26 ?_
    refine lv_topi (fun x_10 ex_10 => ?_)
    exact W.iret (v := x_10) hx hb hr (fun t ht hW => ⟨x_10, rfl, trivial, ht⟩) (fun q h => by cases h) dX0_priceOf_29 hlk
set_option maxHeartbeats 4000000 in
set_option maxRecDepth 100000 in
theorem c_X0_meetingOf (l : Launch) (D : va_G) (cI cJ cZ cS : ClassId) (ta : Nat) (sa sv : Nat → Nat) (sz : Nat) (h0 : Nat) (an : Nat) (Q : Nat) (La : Nat → Int32) (j : Nat) (k : Nat) (p0 : Int32) (hQ : Q ≤ 10) (hj : j < 10) (hk : k < 10) : Met l yX0_meetingOf (Cond.code yX0_meetingOf cX0_meetingOf 8 (some .int) :: wsU) ({ frames := 3, cells := 0, slots := 0, locals := 72 }) (va_Pc [.ref h0, .int (nI (j)), .int (nI (k)), .int p0] (XW D (xT cI cJ cZ cS) ta sa sv [(h0, .inr (0, [.int (nI (Q)), .ref an])), (an, .inl (cI, 100, .inl La))] sz)) (vp_Si (fun r : Int32 => (r = (-1)) ∨ (∃ (y : Nat), r = nI (y) ∧ (y < Q)))) 0 0 (fun _ => False) := by
  refine xh (QA := fun _ => vp_Si (fun r : Int32 => (r = (-1)) ∨ (∃ (y : Nat), r = nI (y) ∧ (y < Q)))) (fr := fun _ _ => False) (by decide) (Nat.le_of_ble_eq_true rfl) ?_
  intro p e s m below meth c ls A hF hr hlk hin hsz hP hK hD hN hZ hA hS hl
  have hF : CallFix p m c cX0_meetingOf 8 s _ _ RX0 := hF
  have hx := hF.1
  have hb := hF.2.1
  have hml := hF.2.2.1
  have hown := hF.2.2.2.1
  have hu : ∀ w ∈ wsU, w.before _ s = true := fun w h => hF.2.2.2.2 w (List.mem_cons_of_mem _ h)
  have hl : lv_has ls 8 [(0, .ref h0), (1, .int (nI (j))), (2, .int (nI (k))), (3, .int p0)] := hl
  refine lv_iconst (v := (-1)) hx hb dX0_meetingOf_0 (by decide) ?_
  refine lv_istore (lv' := [(4, .int (-1)), (0, .ref h0), (1, .int (nI (j))), (2, .int (nI (k))), (3, .int p0)]) hx hb dX0_meetingOf_1 hl (by decide) rfl (fun ls hl => ?_)
  refine lv_ldc (v := 1000000000) hx hb hown (hu _ uw79) dX0_meetingOf_3 ?_
  refine lv_istore (lv' := [(5, .int 1000000000), (4, .int (-1)), (0, .ref h0), (1, .int (nI (j))), (2, .int (nI (k))), (3, .int p0)]) hx hb dX0_meetingOf_5 hl (by decide) rfl (fun ls hl => ?_)
  refine lv_iconst (v := 0) hx hb dX0_meetingOf_7 (by decide) ?_
  refine lv_istore (lv' := [(6, .int 0), (5, .int 1000000000), (4, .int (-1)), (0, .ref h0), (1, .int (nI (j))), (2, .int (nI (k))), (3, .int p0)]) hx hb dX0_meetingOf_8 hl (by decide) rfl (fun ls hl => ?_)
  suffices loop_10 : ∀ (n_10 : Nat) (i : Nat) (x : Int32) (u : Int32) (ls : Array Slot), Q - i < n_10 → (i ≤ Q) → (x = -1 ∨ ∃ y, y < Q ∧ x = nI y) → lv_has ls 8 [(6, .int (nI (i))), (5, .int u), (4, .int x), (0, .ref h0), (1, .int (nI (j))), (2, .int (nI (k))), (3, .int p0)] → W p l e ({ frames := 3, cells := 0, slots := 0, locals := 72 }) s m ([.ref h0, .int (nI (j)), .int (nI (k)), .int p0] : List Value).toArray below meth c s.heap [] 0 0 (MQ below (vp_Si (fun r : Int32 => (r = (-1)) ∨ (∃ (y : Nat), r = nI (y) ∧ (y < Q)))) ([.ref h0, .int (nI (j)), .int (nI (k)), .int p0] : List Value).toArray s 0 0 (fun _ => False)) (F0 m 10 ls []) by
    exact loop_10 _ 0 (-1) 1000000000 _ (Nat.lt_succ_self _) (by omega) (Or.inl rfl) (lv_sub hl [0, 1, 2, 3, 4, 5, 6] rfl)
  intro n_10
  induction n_10 with
  | zero =>
    intro i x u ls hm_10
    exact absurd hm_10 (Nat.not_lt_zero _)
  | succ n_10 ih_10 =>
    intro i x u ls hm_10 hi hx9 hl
    refine lv_iload hx hb dX0_meetingOf_10 (lv_at hl 0 rfl) ?_
    refine lv_aload_n hx hb dX0_meetingOf_12 rfl (lv_at hl 3 rfl) ?_
    refine xg hF kf_X0_9 hK hP 0 rfl rfl dX0_meetingOf_13 ?_
    refine lv_icmp_ge (tgt := 51) hx hb dX0_meetingOf_16 (by decide) (fun c_1 => ?_) (fun c_1 => ?_)
    · skip
      have nc_1 : Q ≤ i := xn_le (a := Q) (b := i) (by omega) (by omega) c_1
      refine lv_iload hx hb dX0_meetingOf_51 (lv_at hl 2 rfl) ?_
      exact W.iret (v := x) hx hb hr (fun t ht hW => ⟨x, rfl, (xoptp hx9), ht⟩) (fun q h => by cases h) dX0_meetingOf_53 hlk
    · skip
      have nc_1 : i < Q := xn_nle (a := Q) (b := i) (by omega) (by omega) c_1
      refine lv_aload_n hx hb dX0_meetingOf_19 rfl (lv_at hl 3 rfl) ?_
      refine lv_iload_n hx hb dX0_meetingOf_20 rfl (lv_at hl 4 rfl) ?_
      refine lv_iload_n hx hb dX0_meetingOf_21 rfl (lv_at hl 5 rfl) ?_
      refine lv_iload hx hb dX0_meetingOf_22 (lv_at hl 0 rfl) ?_
      refine lv_iload_n hx hb dX0_meetingOf_24 rfl (lv_at hl 6 rfl) ?_
      refine xc_Vr hF (c_X0_priceOf l D cI cJ cZ cS ta sa sv s.heap.size h0 an Q La j k i p0 (by omega) (by omega) (by omega)) kv_X0_77 ⟨rfl, rfl, Nat.le_of_ble_eq_true rfl, Nat.le_of_ble_eq_true rfl⟩ ⟨Nat.le_of_ble_eq_true rfl, Nat.le_of_ble_eq_true rfl⟩ hK hN hZ hP hD hS hA [0, 1] rfl rfl 0 rfl rfl rfl rfl hl.1 rfl (Nat.le_of_ble_eq_true rfl) dX0_meetingOf_25 (fun r_2 hw_r_2 => ?_)
      refine lv_istore (lv' := [(7, .int r_2), (6, .int (nI (i))), (5, .int u), (4, .int x), (0, .ref h0), (1, .int (nI (j))), (2, .int (nI (k))), (3, .int p0)]) hx hb dX0_meetingOf_28 hl (by decide) rfl (fun ls hl => ?_)
      refine lv_iload hx hb dX0_meetingOf_30 (lv_at hl 0 rfl) ?_
      refine lv_iload hx hb dX0_meetingOf_32 (lv_at hl 2 rfl) ?_
      refine lv_icmp_ge (tgt := 45) hx hb dX0_meetingOf_34 (by decide) (fun c_3 => ?_) (fun c_3 => ?_)
      · skip
        refine lv_iinc (v := nI (i + 1)) (lv' := [(6, .int (nI (i + 1))), (7, .int r_2), (5, .int u), (4, .int x), (0, .ref h0), (1, .int (nI (j))), (2, .int (nI (k))), (3, .int p0)]) hx hb dX0_meetingOf_45 hl (k := 1) rfl (nI_1 (i)) (by decide) rfl (fun ls hl => ?_)
        refine lv_goto (tgt := 10) hx hb dX0_meetingOf_48 (by decide) ?_
        exact ih_10 (i + 1) x u _ (by omega) (by omega) hx9 (lv_sub hl [0, 2, 3, 4, 5, 6, 7] rfl)
      · skip
        refine lv_iload hx hb dX0_meetingOf_37 (lv_at hl 1 rfl) ?_
        refine lv_istore (lv' := [(4, .int (nI (i))), (7, .int r_2), (6, .int (nI (i))), (5, .int u), (0, .ref h0), (1, .int (nI (j))), (2, .int (nI (k))), (3, .int p0)]) hx hb dX0_meetingOf_39 hl (by decide) rfl (fun ls hl => ?_)
        refine lv_iload hx hb dX0_meetingOf_41 (lv_at hl 1 rfl) ?_
        refine lv_istore (lv' := [(5, .int r_2), (4, .int (nI (i))), (7, .int r_2), (6, .int (nI (i))), (0, .ref h0), (1, .int (nI (j))), (2, .int (nI (k))), (3, .int p0)]) hx hb dX0_meetingOf_43 hl (by decide) rfl (fun ls hl => ?_)
        refine lv_iinc (v := nI (i + 1)) (lv' := [(6, .int (nI (i + 1))), (5, .int r_2), (4, .int (nI (i))), (7, .int r_2), (0, .ref h0), (1, .int (nI (j))), (2, .int (nI (k))), (3, .int p0)]) hx hb dX0_meetingOf_45 hl (k := 3) rfl (nI_1 (i)) (by decide) rfl (fun ls hl => ?_)
        refine lv_goto (tgt := 10) hx hb dX0_meetingOf_48 (by decide) ?_
        exact ih_10 (i + 1) (nI (i)) r_2 _ (by omega) (by omega) (Or.inr ⟨(i), by omega, rfl⟩) (lv_sub hl [0, 1, 2, 4, 5, 6, 7] rfl)
set_option maxHeartbeats 4000000 in
set_option maxRecDepth 100000 in
theorem c_X0_mendFrom (l : Launch) (D : va_G) (cI cJ cZ cS : ClassId) (ta : Nat) (sa sv : Nat → Nat) (sz : Nat) (h0 : Nat) (an : Nat) (Q : Nat) (La : Nat → Int32) (q2 : Nat) (cn : Nat) (Q2 : Nat) (Lc : Nat → Int32) (q1 : Nat) (be : Nat) (bl : Nat) (bu : Nat) (bo : Nat) (br : Nat) (bk : Nat) (bw : Nat) (btt : Nat) (bss : Nat) (P : Nat) (lo : Nat → Int32) (d : Nat → Int32) (j : Nat) (k : Nat) (hj : j < 10) (hk : k < 10) (hQ2 : Q2 ≤ 10) : Met l yX0_mendFrom (Cond.code yX0_mendFrom cX0_mendFrom 13 (some .boolean) :: wsU) ({ frames := 3, cells := 0, slots := 0, locals := 65 }) (va_Pc [.ref h0, .ref q2, .ref q1, .int (nI (j)), .int (nI (k))] (XW D (xT cI cJ cZ cS) ta sa sv [(h0, .inr (0, [.int (nI (Q)), .ref an])), (an, .inl (cI, 100, .inl La)), (q2, .inr (0, [.int (nI (Q2)), .ref cn])), (cn, .inl (cI, 100, .inl Lc)), (q1, .inr (1, [.int (nI (P)), .ref be, .ref bl, .ref bu, .ref bo, .ref br, .ref bk, .ref bw, .ref btt, .ref bss])), (bl, .inl (cI, 100, .inl lo)), (bo, .inl (cI, 100, .inl d))] sz)) (XQi (fun (r : Int32) (u : Nat × (Nat → Int32)) => match u with | (Q9, L2) => ((r = 1 ∧ (Q9 = Q2)) ∨ (r = 0 ∧ (Q9 = Q)))) D (fun (u : Nat × (Nat → Int32)) => match u with | (Q9, L2) => [(h0, .inr (0, [.int (nI (Q9)), .ref an])), (an, .inl (cI, 100, .inl L2)), (q2, .inr (0, [.int (nI (Q2)), .ref cn])), (cn, .inl (cI, 100, .inl Lc)), (q1, .inr (1, [.int (nI (P)), .ref be, .ref bl, .ref bu, .ref bo, .ref br, .ref bk, .ref bw, .ref btt, .ref bss])), (bl, .inl (cI, 100, .inl lo)), (bo, .inl (cI, 100, .inl d))]) (va_A [(h0, .inr (0, [.int (nI (Q)), .ref an])), (an, .inl (cI, 100, .inl La)), (q2, .inr (0, [.int (nI (Q2)), .ref cn])), (cn, .inl (cI, 100, .inl Lc)), (q1, .inr (1, [.int (nI (P)), .ref be, .ref bl, .ref bu, .ref bo, .ref br, .ref bk, .ref bw, .ref btt, .ref bss])), (bl, .inl (cI, 100, .inl lo)), (bo, .inl (cI, 100, .inl d))] sz)) 0 0 (va_A [(h0, .inr (0, [.int (nI (Q)), .ref an])), (an, .inl (cI, 100, .inl La)), (q2, .inr (0, [.int (nI (Q2)), .ref cn])), (cn, .inl (cI, 100, .inl Lc)), (q1, .inr (1, [.int (nI (P)), .ref be, .ref bl, .ref bu, .ref bo, .ref br, .ref bk, .ref bw, .ref btt, .ref bss])), (bl, .inl (cI, 100, .inl lo)), (bo, .inl (cI, 100, .inl d))] sz) := by
  refine xh (QA := fun A => XQi (fun (r : Int32) (u : Nat × (Nat → Int32)) => match u with | (Q9, L2) => ((r = 1 ∧ (Q9 = Q2)) ∨ (r = 0 ∧ (Q9 = Q)))) D (fun (u : Nat × (Nat → Int32)) => match u with | (Q9, L2) => [(h0, .inr (0, [.int (nI (Q9)), .ref an])), (an, .inl (cI, 100, .inl L2)), (q2, .inr (0, [.int (nI (Q2)), .ref cn])), (cn, .inl (cI, 100, .inl Lc)), (q1, .inr (1, [.int (nI (P)), .ref be, .ref bl, .ref bu, .ref bo, .ref br, .ref bk, .ref bw, .ref btt, .ref bss])), (bl, .inl (cI, 100, .inl lo)), (bo, .inl (cI, 100, .inl d))]) A) (fr := fun A => A) (by decide) (Nat.le_of_ble_eq_true rfl) ?_
  intro p e s m below meth c ls A hF hr hlk hin hsz hP hK hD hN hZ hA hS hl
  have hF : CallFix p m c cX0_mendFrom 13 s _ _ RX0 := hF
  have hx := hF.1
  have hb := hF.2.1
  have hml := hF.2.2.1
  have hown := hF.2.2.2.1
  have hu : ∀ w ∈ wsU, w.before _ s = true := fun w h => hF.2.2.2.2 w (List.mem_cons_of_mem _ h)
  have hl : lv_has ls 13 [(0, .ref h0), (1, .ref q2), (2, .ref q1), (3, .int (nI (j))), (4, .int (nI (k)))] := hl
  refine lv_aload_n hx hb dX0_mendFrom_0 rfl (lv_at hl 2 rfl) ?_
  refine lv_iload_n hx hb dX0_mendFrom_1 rfl (lv_at hl 3 rfl) ?_
  refine lv_iload hx hb dX0_mendFrom_2 (lv_at hl 4 rfl) ?_
  refine xc_Vr hF (c_X1_lowOf l D cI cJ cZ cS ta sa sv s.heap.size q1 be bl bu bo br bk bw btt bss P j k lo (by omega) (by omega)) kv_X0_34 ⟨rfl, rfl, Nat.le_of_ble_eq_true rfl, Nat.le_of_ble_eq_true rfl⟩ ⟨Nat.le_of_ble_eq_true rfl, Nat.le_of_ble_eq_true rfl⟩ hK hN hZ hP hD hS hA [4, 5] rfl rfl 0 rfl rfl rfl rfl hl.1 rfl (Nat.le_of_ble_eq_true rfl) dX0_mendFrom_4 (fun r_1 hw_r_1 => ?_)
  subst hw_r_1
  refine lv_aload_n hx hb dX0_mendFrom_7 rfl (lv_at hl 2 rfl) ?_
  refine lv_iload hx hb dX0_mendFrom_8 (lv_at hl 4 rfl) ?_
  refine lv_iload_n hx hb dX0_mendFrom_10 rfl (lv_at hl 3 rfl) ?_
  refine xc_Vr hF (c_X1_lowOf l D cI cJ cZ cS ta sa sv s.heap.size q1 be bl bu bo br bk bw btt bss P k j lo (by omega) (by omega)) kv_X0_34 ⟨rfl, rfl, Nat.le_of_ble_eq_true rfl, Nat.le_of_ble_eq_true rfl⟩ ⟨Nat.le_of_ble_eq_true rfl, Nat.le_of_ble_eq_true rfl⟩ hK hN hZ hP hD hS hA [4, 5] rfl rfl 0 rfl rfl rfl rfl hl.1 rfl (Nat.le_of_ble_eq_true rfl) dX0_mendFrom_11 (fun r_2 hw_r_2 => ?_)
  subst hw_r_2
  refine lv_icmp_gt (tgt := 21) hx hb dX0_mendFrom_14 (by decide) (fun c_3 => ?_) (fun c_3 => ?_)
  · skip
    refine lv_iconst (v := 0) hx hb dX0_mendFrom_21 (by decide) ?_
    refine lv_istore (lv' := [(5, .int 0), (0, .ref h0), (1, .ref q2), (2, .ref q1), (3, .int (nI (j))), (4, .int (nI (k)))]) hx hb dX0_mendFrom_22 hl (by decide) rfl (fun ls hl => ?_)
    refine lv_iload hx hb dX0_mendFrom_24 (lv_at hl 0 rfl) ?_
    refine lv_if_eq (tgt := 34) hx hb dX0_mendFrom_26 (by decide) (fun c_4 => ?_) (fun c_4 => absurd (by decide) c_4)
    refine lv_iload_n hx hb dX0_mendFrom_34 rfl (lv_at hl 4 rfl) ?_
    refine lv_istore (lv' := [(6, .int (nI (j))), (5, .int 0), (0, .ref h0), (1, .ref q2), (2, .ref q1), (3, .int (nI (j))), (4, .int (nI (k)))]) hx hb dX0_mendFrom_35 hl (by decide) rfl (fun ls hl => ?_)
    refine lv_iload hx hb dX0_mendFrom_37 (lv_at hl 1 rfl) ?_
    refine lv_if_eq (tgt := 46) hx hb dX0_mendFrom_39 (by decide) (fun c_5 => ?_) (fun c_5 => absurd (by decide) c_5)
    refine lv_iload hx hb dX0_mendFrom_46 (lv_at hl 6 rfl) ?_
    refine lv_istore (lv' := [(7, .int (nI (k))), (6, .int (nI (j))), (5, .int 0), (0, .ref h0), (1, .ref q2), (2, .ref q1), (3, .int (nI (j))), (4, .int (nI (k)))]) hx hb dX0_mendFrom_48 hl (by decide) rfl (fun ls hl => ?_)
    refine lv_aload_n hx hb dX0_mendFrom_50 rfl (lv_at hl 5 rfl) ?_
    refine lv_iload hx hb dX0_mendFrom_51 (lv_at hl 0 rfl) ?_
    refine lv_iload hx hb dX0_mendFrom_53 (lv_at hl 1 rfl) ?_
    refine xc_Sr hF (c_X0_oneWay l D cI cJ cZ cS ta sa sv s.heap.size q1 be bl bu bo br bk bw btt bss P lo d k j (by omega) (by omega)) ks_X0_22 ⟨rfl, rfl, Nat.le_of_ble_eq_true rfl, Nat.le_of_ble_eq_true rfl⟩ ⟨Nat.le_of_ble_eq_true rfl, Nat.le_of_ble_eq_true rfl⟩ hK hN hZ hP hD hS hA [4, 5, 6] rfl rfl rfl hl.1 rfl (Nat.le_of_ble_eq_true rfl) dX0_mendFrom_55 (fun r_6 hw_r_6 => ?_)
    refine lv_istore (lv' := [(8, .int r_6), (7, .int (nI (k))), (6, .int (nI (j))), (5, .int 0), (0, .ref h0), (1, .ref q2), (2, .ref q1), (3, .int (nI (j))), (4, .int (nI (k)))]) hx hb dX0_mendFrom_58 hl (by decide) rfl (fun ls hl => ?_)
    refine lv_iload hx hb dX0_mendFrom_60 (lv_at hl 0 rfl) ?_
    refine lv_aload_n hx hb dX0_mendFrom_62 rfl (lv_at hl 5 rfl) ?_
    refine lv_iload hx hb dX0_mendFrom_63 (lv_at hl 1 rfl) ?_
    refine lv_iload hx hb dX0_mendFrom_65 (lv_at hl 2 rfl) ?_
    refine xc_Vr hF (c_X0_lengthOf l D cI cJ cZ cS ta sa sv s.heap.size q2 cn Q2 k j Lc (by omega) (by omega)) kv_X0_39 ⟨rfl, rfl, Nat.le_of_ble_eq_true rfl, Nat.le_of_ble_eq_true rfl⟩ ⟨Nat.le_of_ble_eq_true rfl, Nat.le_of_ble_eq_true rfl⟩ hK hN hZ hP hD hS hA [2, 3] rfl rfl 0 rfl rfl rfl rfl hl.1 rfl (Nat.le_of_ble_eq_true rfl) dX0_mendFrom_67 (fun r_7 hw_r_7 => ?_)
    subst hw_r_7
    refine xc_SNr hF (c_X8_together l D cI cJ cZ cS ta sa sv s.heap.size r_6 (Lc (10 * k + j)) ) kn_X0_42.1 kn_X0_42.2.1 kn_X0_42.2.2 ⟨rfl, rfl, Nat.le_of_ble_eq_true rfl, Nat.le_of_ble_eq_true rfl⟩ ⟨Nat.le_of_ble_eq_true rfl, Nat.le_of_ble_eq_true rfl⟩ hK hN hZ hP hD hS hA [] rfl rfl rfl hl.1 rfl (Nat.le_of_ble_eq_true rfl) dX0_mendFrom_70 (fun r_8 hw_r_8 => ?_)
    refine lv_if_ge (tgt := 78) hx hb dX0_mendFrom_73 (by decide) (fun c_9 => ?_) (fun c_9 => ?_)
    · skip
      refine lv_aload_n hx hb dX0_mendFrom_78 rfl (lv_at hl 4 rfl) ?_
      refine lv_aload_n hx hb dX0_mendFrom_79 rfl (lv_at hl 5 rfl) ?_
      refine xg hF kf_X0_9 hK hP 2 rfl rfl dX0_mendFrom_80 ?_
      refine xp hF kf_X0_9 tyX0_ok nmX0 hK hP hD hS 0 rfl rfl rfl rfl (Nat.le_of_ble_eq_true rfl) dX0_mendFrom_83 (fun H locs hP hD hS => ?_)
      have hP : va_P D vwCl [(h0, .inr (0, [.int (nI (Q2)), .ref an])), (an, .inl (cI, 100, .inl La)), (q2, .inr (0, [.int (nI (Q2)), .ref cn])), (cn, .inl (cI, 100, .inl Lc)), (q1, .inr (1, [.int (nI (P)), .ref be, .ref bl, .ref bu, .ref bo, .ref br, .ref bk, .ref bw, .ref btt, .ref bss])), (bl, .inl (cI, 100, .inl lo)), (bo, .inl (cI, 100, .inl d))] H := hP
      have hD : va_D A [(h0, .inr (0, [.int (nI (Q2)), .ref an])), (an, .inl (cI, 100, .inl La)), (q2, .inr (0, [.int (nI (Q2)), .ref cn])), (cn, .inl (cI, 100, .inl Lc)), (q1, .inr (1, [.int (nI (P)), .ref be, .ref bl, .ref bu, .ref bo, .ref br, .ref bk, .ref bw, .ref btt, .ref bss])), (bl, .inl (cI, 100, .inl lo)), (bo, .inl (cI, 100, .inl d))] := hD
      refine lv_iconst (v := 0) hx hb dX0_mendFrom_86 (by decide) ?_
      refine lv_istore (lv' := [(9, .int 0), (8, .int r_6), (7, .int (nI (k))), (6, .int (nI (j))), (5, .int 0), (0, .ref h0), (1, .ref q2), (2, .ref q1), (3, .int (nI (j))), (4, .int (nI (k)))]) hx hb dX0_mendFrom_87 hl (by decide) rfl (fun ls hl => ?_)
      suffices loop_89 : ∀ (n_89 : Nat) (i : Nat) (L9 : Nat → Int32) (H : Heap) (locs : List Loc) (ls : Array Slot), Q2 - i < n_89 → (i ≤ Q2) → va_P D vwCl [(h0, .inr (0, [.int (nI (Q2)), .ref an])), (an, .inl (cI, 100, .inl L9)), (q2, .inr (0, [.int (nI (Q2)), .ref cn])), (cn, .inl (cI, 100, .inl Lc)), (q1, .inr (1, [.int (nI (P)), .ref be, .ref bl, .ref bu, .ref bo, .ref br, .ref bk, .ref bw, .ref btt, .ref bss])), (bl, .inl (cI, 100, .inl lo)), (bo, .inl (cI, 100, .inl d))] H → va_D A [(h0, .inr (0, [.int (nI (Q2)), .ref an])), (an, .inl (cI, 100, .inl L9)), (q2, .inr (0, [.int (nI (Q2)), .ref cn])), (cn, .inl (cI, 100, .inl Lc)), (q1, .inr (1, [.int (nI (P)), .ref be, .ref bl, .ref bu, .ref bo, .ref br, .ref bk, .ref bw, .ref btt, .ref bss])), (bl, .inl (cI, 100, .inl lo)), (bo, .inl (cI, 100, .inl d))] → va_S A s.heap H locs → lv_has ls 13 [(9, .int (nI (i))), (8, .int r_6), (7, .int (nI (k))), (6, .int (nI (j))), (5, .int 0), (0, .ref h0), (1, .ref q2), (2, .ref q1), (3, .int (nI (j))), (4, .int (nI (k)))] → W p l e ({ frames := 3, cells := 0, slots := 0, locals := 65 }) s m ([.ref h0, .ref q2, .ref q1, .int (nI (j)), .int (nI (k))] : List Value).toArray below meth c H locs 0 0 (MQ below (XQi (fun (r : Int32) (u : Nat × (Nat → Int32)) => match u with | (Q9, L2) => ((r = 1 ∧ (Q9 = Q2)) ∨ (r = 0 ∧ (Q9 = Q)))) D (fun (u : Nat × (Nat → Int32)) => match u with | (Q9, L2) => [(h0, .inr (0, [.int (nI (Q9)), .ref an])), (an, .inl (cI, 100, .inl L2)), (q2, .inr (0, [.int (nI (Q2)), .ref cn])), (cn, .inl (cI, 100, .inl Lc)), (q1, .inr (1, [.int (nI (P)), .ref be, .ref bl, .ref bu, .ref bo, .ref br, .ref bk, .ref bw, .ref btt, .ref bss])), (bl, .inl (cI, 100, .inl lo)), (bo, .inl (cI, 100, .inl d))]) A) ([.ref h0, .ref q2, .ref q1, .int (nI (j)), .int (nI (k))] : List Value).toArray s 0 0 A) (F0 m 89 ls []) by
        exact loop_89 _ 0 La _ _ _ (Nat.lt_succ_self _) (by omega) hP hD hS (lv_sub hl [0, 1, 2, 3, 4, 5, 6, 7, 8, 9] rfl)
      intro n_89
      induction n_89 with
      | zero =>
        intro i L9 H locs ls hm_89
        exact absurd hm_89 (Nat.not_lt_zero _)
      | succ n_89 ih_89 =>
        intro i L9 H locs ls hm_89 hi hP hD hS hl
        refine lv_iload hx hb dX0_mendFrom_89 (lv_at hl 0 rfl) ?_
        refine lv_aload_n hx hb dX0_mendFrom_91 rfl (lv_at hl 5 rfl) ?_
        refine xg hF kf_X0_9 hK hP 0 rfl rfl dX0_mendFrom_92 ?_
        refine lv_icmp_ge (tgt := 178) hx hb dX0_mendFrom_95 (by decide) (fun c_10 => ?_) (fun c_10 => ?_)
        · skip
          have nc_10 : Q2 ≤ i := xn_le (a := Q2) (b := i) (by omega) (by omega) c_10
          refine lv_iconst (v := 1) hx hb dX0_mendFrom_178 (by decide) ?_
          exact W.zret (v := 1) hx hb hr rfl (fun t ht hW => ⟨⟨1, (Q2, L9), rfl, (by first | exact Or.inl ⟨rfl, (by first | assumption | omega | exact Or.inl (by first | assumption | omega) | exact Or.inr (by first | assumption | omega))⟩), by rw [ht]; exact hP.sub [0, 1, 2, 3, 4, 5, 6] rfl, hD.sub [0, 1, 2, 3, 4, 5, 6] (by decide +kernel) rfl⟩, hS.F ht⟩) hS.2.2 dX0_mendFrom_179 hlk
        · skip
          have nc_10 : i < Q2 := xn_nle (a := Q2) (b := i) (by omega) (by omega) c_10
          refine lv_aload_n hx hb dX0_mendFrom_98 rfl (lv_at hl 6 rfl) ?_
          refine lv_iload hx hb dX0_mendFrom_99 (lv_at hl 0 rfl) ?_
          refine lv_iload hx hb dX0_mendFrom_101 (lv_at hl 3 rfl) ?_
          refine xc_Vr hF (c_X0_lengthOf l D cI cJ cZ cS ta sa sv H.size q2 cn Q2 i j Lc (by omega) (by omega)) kv_X0_39 ⟨rfl, rfl, Nat.le_of_ble_eq_true rfl, Nat.le_of_ble_eq_true rfl⟩ ⟨Nat.le_of_ble_eq_true rfl, Nat.le_of_ble_eq_true rfl⟩ hK hN hZ hP hD hS hA [2, 3] rfl rfl 0 rfl rfl rfl rfl hl.1 rfl (Nat.le_of_ble_eq_true rfl) dX0_mendFrom_103 (fun r_11 hw_r_11 => ?_)
          subst hw_r_11
          refine lv_iload hx hb dX0_mendFrom_106 (lv_at hl 1 rfl) ?_
          refine xc_SNr hF (c_X8_together l D cI cJ cZ cS ta sa sv H.size (Lc (10 * i + j)) r_6 ) kn_X0_42.1 kn_X0_42.2.1 kn_X0_42.2.2 ⟨rfl, rfl, Nat.le_of_ble_eq_true rfl, Nat.le_of_ble_eq_true rfl⟩ ⟨Nat.le_of_ble_eq_true rfl, Nat.le_of_ble_eq_true rfl⟩ hK hN hZ hP hD hS hA [] rfl rfl rfl hl.1 rfl (Nat.le_of_ble_eq_true rfl) dX0_mendFrom_108 (fun r_12 hw_r_12 => ?_)
          refine lv_istore (lv' := [(10, .int r_12), (9, .int (nI (i))), (8, .int r_6), (7, .int (nI (k))), (6, .int (nI (j))), (5, .int 0), (0, .ref h0), (1, .ref q2), (2, .ref q1), (3, .int (nI (j))), (4, .int (nI (k)))]) hx hb dX0_mendFrom_111 hl (by decide) rfl (fun ls hl => ?_)
          refine lv_iconst (v := 0) hx hb dX0_mendFrom_113 (by decide) ?_
          refine lv_istore (lv' := [(11, .int 0), (10, .int r_12), (9, .int (nI (i))), (8, .int r_6), (7, .int (nI (k))), (6, .int (nI (j))), (5, .int 0), (0, .ref h0), (1, .ref q2), (2, .ref q1), (3, .int (nI (j))), (4, .int (nI (k)))]) hx hb dX0_mendFrom_114 hl (by decide) rfl (fun ls hl => ?_)
          suffices loop_116 : ∀ (n_116 : Nat) (i2 : Nat) (L8 : Nat → Int32) (H : Heap) (locs : List Loc) (ls : Array Slot), Q2 - i2 < n_116 → (i2 ≤ Q2) → va_P D vwCl [(h0, .inr (0, [.int (nI (Q2)), .ref an])), (an, .inl (cI, 100, .inl L8)), (q2, .inr (0, [.int (nI (Q2)), .ref cn])), (cn, .inl (cI, 100, .inl Lc)), (q1, .inr (1, [.int (nI (P)), .ref be, .ref bl, .ref bu, .ref bo, .ref br, .ref bk, .ref bw, .ref btt, .ref bss])), (bl, .inl (cI, 100, .inl lo)), (bo, .inl (cI, 100, .inl d))] H → va_D A [(h0, .inr (0, [.int (nI (Q2)), .ref an])), (an, .inl (cI, 100, .inl L8)), (q2, .inr (0, [.int (nI (Q2)), .ref cn])), (cn, .inl (cI, 100, .inl Lc)), (q1, .inr (1, [.int (nI (P)), .ref be, .ref bl, .ref bu, .ref bo, .ref br, .ref bk, .ref bw, .ref btt, .ref bss])), (bl, .inl (cI, 100, .inl lo)), (bo, .inl (cI, 100, .inl d))] → va_S A s.heap H locs → lv_has ls 13 [(11, .int (nI (i2))), (10, .int r_12), (9, .int (nI (i))), (8, .int r_6), (7, .int (nI (k))), (6, .int (nI (j))), (5, .int 0), (0, .ref h0), (1, .ref q2), (2, .ref q1), (3, .int (nI (j))), (4, .int (nI (k)))] → W p l e ({ frames := 3, cells := 0, slots := 0, locals := 65 }) s m ([.ref h0, .ref q2, .ref q1, .int (nI (j)), .int (nI (k))] : List Value).toArray below meth c H locs 0 0 (MQ below (XQi (fun (r : Int32) (u : Nat × (Nat → Int32)) => match u with | (Q9, L2) => ((r = 1 ∧ (Q9 = Q2)) ∨ (r = 0 ∧ (Q9 = Q)))) D (fun (u : Nat × (Nat → Int32)) => match u with | (Q9, L2) => [(h0, .inr (0, [.int (nI (Q9)), .ref an])), (an, .inl (cI, 100, .inl L2)), (q2, .inr (0, [.int (nI (Q2)), .ref cn])), (cn, .inl (cI, 100, .inl Lc)), (q1, .inr (1, [.int (nI (P)), .ref be, .ref bl, .ref bu, .ref bo, .ref br, .ref bk, .ref bw, .ref btt, .ref bss])), (bl, .inl (cI, 100, .inl lo)), (bo, .inl (cI, 100, .inl d))]) A) ([.ref h0, .ref q2, .ref q1, .int (nI (j)), .int (nI (k))] : List Value).toArray s 0 0 A) (F0 m 116 ls []) by
            exact loop_116 _ 0 L9 _ _ _ (Nat.lt_succ_self _) (by omega) hP hD hS (lv_sub hl [0, 1, 2, 3, 4, 5, 6, 7, 8, 9, 10, 11] rfl)
          intro n_116
          induction n_116 with
          | zero =>
            intro i2 L8 H locs ls hm_116
            exact absurd hm_116 (Nat.not_lt_zero _)
          | succ n_116 ih_116 =>
            intro i2 L8 H locs ls hm_116 hi2 hP hD hS hl
            refine lv_iload hx hb dX0_mendFrom_116 (lv_at hl 0 rfl) ?_
            refine lv_aload_n hx hb dX0_mendFrom_118 rfl (lv_at hl 7 rfl) ?_
            refine xg hF kf_X0_9 hK hP 0 rfl rfl dX0_mendFrom_119 ?_
            refine lv_icmp_ge (tgt := 172) hx hb dX0_mendFrom_122 (by decide) (fun c_13 => ?_) (fun c_13 => ?_)
            · skip
              have nc_13 : Q2 ≤ i2 := xn_le (a := Q2) (b := i2) (by omega) (by omega) c_13
              refine lv_iinc (v := nI (i + 1)) (lv' := [(9, .int (nI (i + 1))), (11, .int (nI (i2))), (10, .int r_12), (8, .int r_6), (7, .int (nI (k))), (6, .int (nI (j))), (5, .int 0), (0, .ref h0), (1, .ref q2), (2, .ref q1), (3, .int (nI (j))), (4, .int (nI (k)))]) hx hb dX0_mendFrom_172 hl (k := 2) rfl (nI_1 (i)) (by decide) rfl (fun ls hl => ?_)
              refine lv_goto (tgt := 89) hx hb dX0_mendFrom_175 (by decide) ?_
              exact ih_89 (i + 1) L8 _ _ _ (by omega) (by omega) (hP.sub [0, 1, 2, 3, 4, 5, 6] rfl) (hD.sub [0, 1, 2, 3, 4, 5, 6] (by decide +kernel) rfl) hS (lv_sub hl [0, 3, 4, 5, 6, 7, 8, 9, 10, 11] rfl)
            · skip
              have nc_13 : i2 < Q2 := xn_nle (a := Q2) (b := i2) (by omega) (by omega) c_13
              refine lv_iload hx hb dX0_mendFrom_125 (lv_at hl 1 rfl) ?_
              refine lv_aload_n hx hb dX0_mendFrom_127 rfl (lv_at hl 8 rfl) ?_
              refine lv_iload hx hb dX0_mendFrom_128 (lv_at hl 4 rfl) ?_
              refine lv_iload hx hb dX0_mendFrom_130 (lv_at hl 0 rfl) ?_
              refine xc_Vr hF (c_X0_lengthOf l D cI cJ cZ cS ta sa sv H.size q2 cn Q2 k i2 Lc (by omega) (by omega)) kv_X0_39 ⟨rfl, rfl, Nat.le_of_ble_eq_true rfl, Nat.le_of_ble_eq_true rfl⟩ ⟨Nat.le_of_ble_eq_true rfl, Nat.le_of_ble_eq_true rfl⟩ hK hN hZ hP hD hS hA [2, 3] rfl rfl 0 rfl rfl rfl rfl hl.1 rfl (Nat.le_of_ble_eq_true rfl) dX0_mendFrom_132 (fun r_14 hw_r_14 => ?_)
              subst hw_r_14
              refine xc_SNr hF (c_X8_together l D cI cJ cZ cS ta sa sv H.size r_12 (Lc (10 * k + i2)) ) kn_X0_42.1 kn_X0_42.2.1 kn_X0_42.2.2 ⟨rfl, rfl, Nat.le_of_ble_eq_true rfl, Nat.le_of_ble_eq_true rfl⟩ ⟨Nat.le_of_ble_eq_true rfl, Nat.le_of_ble_eq_true rfl⟩ hK hN hZ hP hD hS hA [] rfl rfl rfl hl.1 rfl (Nat.le_of_ble_eq_true rfl) dX0_mendFrom_135 (fun r_15 hw_r_15 => ?_)
              refine lv_istore (lv' := [(12, .int r_15), (11, .int (nI (i2))), (10, .int r_12), (9, .int (nI (i))), (8, .int r_6), (7, .int (nI (k))), (6, .int (nI (j))), (5, .int 0), (0, .ref h0), (1, .ref q2), (2, .ref q1), (3, .int (nI (j))), (4, .int (nI (k)))]) hx hb dX0_mendFrom_138 hl (by decide) rfl (fun ls hl => ?_)
              refine lv_aload_n hx hb dX0_mendFrom_140 rfl (lv_at hl 8 rfl) ?_
              refine xg hF kf_X0_15 hK hP 0 rfl rfl dX0_mendFrom_141 ?_
              refine lv_bipush (v := 10) hx hb dX0_mendFrom_144 (by decide) ?_
              refine lv_iload hx hb dX0_mendFrom_146 (lv_at hl 3 rfl) ?_
              refine lv_imul hx hb dX0_mendFrom_148 ?_
              refine xl_i (y := nI (10 * i)) (pk_mul 10 i) ?_
              refine lv_iload hx hb dX0_mendFrom_149 (lv_at hl 1 rfl) ?_
              refine lv_iadd hx hb dX0_mendFrom_151 ?_
              refine xl_i (y := nI (10 * i + i2)) (nI_add (10 * i) i2) ?_
              refine lv_iload hx hb dX0_mendFrom_152 (lv_at hl 0 rfl) ?_
              refine lv_aload_n hx hb dX0_mendFrom_154 rfl (lv_at hl 9 rfl) ?_
              refine lv_iload hx hb dX0_mendFrom_155 (lv_at hl 3 rfl) ?_
              refine lv_iload hx hb dX0_mendFrom_157 (lv_at hl 1 rfl) ?_
              refine xc_Vr hF (c_X0_lengthOf l D cI cJ cZ cS ta sa sv H.size q2 cn Q2 i i2 Lc (by omega) (by omega)) kv_X0_39 ⟨rfl, rfl, Nat.le_of_ble_eq_true rfl, Nat.le_of_ble_eq_true rfl⟩ ⟨Nat.le_of_ble_eq_true rfl, Nat.le_of_ble_eq_true rfl⟩ hK hN hZ hP hD hS hA [2, 3] rfl rfl 0 rfl rfl rfl rfl hl.1 rfl (Nat.le_of_ble_eq_true rfl) dX0_mendFrom_159 (fun r_16 hw_r_16 => ?_)
              subst hw_r_16
              refine va_mmin hx hb (hml.trans hl.1.symm) hown (hu _ uw136) (hu _ uw137) (hu _ uw92) (hu _ uw138) (Nat.le_of_ble_eq_true rfl) (Nat.le_of_ble_eq_true rfl) (Nat.le_of_ble_eq_true rfl) (Nat.le_of_ble_eq_true rfl) dX0_mendFrom_162 ?_
              refine lv_topi (fun x_17 ex_17 => ?_)
              refine va_iast hx hb hK hP hD hS 1 0 rfl rfl (vp_in_nI (show 10 * i + i2 < 100 by omega) (by decide)) dX0_mendFrom_165 (fun H locs hP hD hS => ?_)
              rw [nI_clamp (show 10 * i + i2 < 2 ^ 31 by omega)] at hP hD
              obtain ⟨f_18, ef_18⟩ : ∃ g, g = upd L8 (10 * i + i2) x_17 := ⟨_, rfl⟩
              rw [← ef_18] at hP hD
              have hP : va_P D vwCl [(h0, .inr (0, [.int (nI (Q2)), .ref an])), (an, .inl (cI, 100, .inl f_18)), (q2, .inr (0, [.int (nI (Q2)), .ref cn])), (cn, .inl (cI, 100, .inl Lc)), (q1, .inr (1, [.int (nI (P)), .ref be, .ref bl, .ref bu, .ref bo, .ref br, .ref bk, .ref bw, .ref btt, .ref bss])), (bl, .inl (cI, 100, .inl lo)), (bo, .inl (cI, 100, .inl d))] H := hP
              have hD : va_D A [(h0, .inr (0, [.int (nI (Q2)), .ref an])), (an, .inl (cI, 100, .inl f_18)), (q2, .inr (0, [.int (nI (Q2)), .ref cn])), (cn, .inl (cI, 100, .inl Lc)), (q1, .inr (1, [.int (nI (P)), .ref be, .ref bl, .ref bu, .ref bo, .ref br, .ref bk, .ref bw, .ref btt, .ref bss])), (bl, .inl (cI, 100, .inl lo)), (bo, .inl (cI, 100, .inl d))] := hD
              refine lv_iinc (v := nI (i2 + 1)) (lv' := [(11, .int (nI (i2 + 1))), (12, .int r_15), (10, .int r_12), (9, .int (nI (i))), (8, .int r_6), (7, .int (nI (k))), (6, .int (nI (j))), (5, .int 0), (0, .ref h0), (1, .ref q2), (2, .ref q1), (3, .int (nI (j))), (4, .int (nI (k)))]) hx hb dX0_mendFrom_166 hl (k := 1) rfl (nI_1 (i2)) (by decide) rfl (fun ls hl => ?_)
              refine lv_goto (tgt := 116) hx hb dX0_mendFrom_169 (by decide) ?_
              exact ih_116 (i2 + 1) f_18 _ _ _ (by omega) (by omega) (hP.sub [0, 1, 2, 3, 4, 5, 6] rfl) (hD.sub [0, 1, 2, 3, 4, 5, 6] (by decide +kernel) rfl) hS (lv_sub hl [0, 2, 3, 4, 5, 6, 7, 8, 9, 10, 11, 12] rfl)
    · skip
      refine lv_iconst (v := 0) hx hb dX0_mendFrom_76 (by decide) ?_
      exact W.zret (v := 0) hx hb hr rfl (fun t ht hW => ⟨⟨0, (Q, La), rfl, (by first | exact Or.inr (⟨rfl, (by first | assumption | omega | exact Or.inl (by first | assumption | omega) | exact Or.inr (by first | assumption | omega))⟩)), by rw [ht]; exact hP.sub [0, 1, 2, 3, 4, 5, 6] rfl, hD.sub [0, 1, 2, 3, 4, 5, 6] (by decide +kernel) rfl⟩, hS.F ht⟩) hS.2.2 dX0_mendFrom_77 hlk
  · skip
    refine lv_iconst (v := 1) hx hb dX0_mendFrom_17 (by decide) ?_
    refine lv_goto (tgt := 22) hx hb dX0_mendFrom_18 (by decide) ?_
    refine lv_istore (lv' := [(5, .int 1), (0, .ref h0), (1, .ref q2), (2, .ref q1), (3, .int (nI (j))), (4, .int (nI (k)))]) hx hb dX0_mendFrom_22 hl (by decide) rfl (fun ls hl => ?_)
    refine lv_iload hx hb dX0_mendFrom_24 (lv_at hl 0 rfl) ?_
    refine lv_if_eq (tgt := 34) hx hb dX0_mendFrom_26 (by decide) (fun c_19 => absurd c_19 (by decide)) (fun c_19 => ?_)
    refine lv_iload hx hb dX0_mendFrom_29 (lv_at hl 5 rfl) ?_
    refine lv_goto (tgt := 35) hx hb dX0_mendFrom_31 (by decide) ?_
    refine lv_istore (lv' := [(6, .int (nI (k))), (5, .int 1), (0, .ref h0), (1, .ref q2), (2, .ref q1), (3, .int (nI (j))), (4, .int (nI (k)))]) hx hb dX0_mendFrom_35 hl (by decide) rfl (fun ls hl => ?_)
    refine lv_iload hx hb dX0_mendFrom_37 (lv_at hl 1 rfl) ?_
    refine lv_if_eq (tgt := 46) hx hb dX0_mendFrom_39 (by decide) (fun c_20 => absurd c_20 (by decide)) (fun c_20 => ?_)
    refine lv_iload_n hx hb dX0_mendFrom_42 rfl (lv_at hl 5 rfl) ?_
    refine lv_goto (tgt := 48) hx hb dX0_mendFrom_43 (by decide) ?_
    refine lv_istore (lv' := [(7, .int (nI (j))), (6, .int (nI (k))), (5, .int 1), (0, .ref h0), (1, .ref q2), (2, .ref q1), (3, .int (nI (j))), (4, .int (nI (k)))]) hx hb dX0_mendFrom_48 hl (by decide) rfl (fun ls hl => ?_)
    refine lv_aload_n hx hb dX0_mendFrom_50 rfl (lv_at hl 5 rfl) ?_
    refine lv_iload hx hb dX0_mendFrom_51 (lv_at hl 0 rfl) ?_
    refine lv_iload hx hb dX0_mendFrom_53 (lv_at hl 1 rfl) ?_
    refine xc_Sr hF (c_X0_oneWay l D cI cJ cZ cS ta sa sv s.heap.size q1 be bl bu bo br bk bw btt bss P lo d j k (by omega) (by omega)) ks_X0_22 ⟨rfl, rfl, Nat.le_of_ble_eq_true rfl, Nat.le_of_ble_eq_true rfl⟩ ⟨Nat.le_of_ble_eq_true rfl, Nat.le_of_ble_eq_true rfl⟩ hK hN hZ hP hD hS hA [4, 5, 6] rfl rfl rfl hl.1 rfl (Nat.le_of_ble_eq_true rfl) dX0_mendFrom_55 (fun r_21 hw_r_21 => ?_)
    refine lv_istore (lv' := [(8, .int r_21), (7, .int (nI (j))), (6, .int (nI (k))), (5, .int 1), (0, .ref h0), (1, .ref q2), (2, .ref q1), (3, .int (nI (j))), (4, .int (nI (k)))]) hx hb dX0_mendFrom_58 hl (by decide) rfl (fun ls hl => ?_)
    refine lv_iload hx hb dX0_mendFrom_60 (lv_at hl 0 rfl) ?_
    refine lv_aload_n hx hb dX0_mendFrom_62 rfl (lv_at hl 5 rfl) ?_
    refine lv_iload hx hb dX0_mendFrom_63 (lv_at hl 1 rfl) ?_
    refine lv_iload hx hb dX0_mendFrom_65 (lv_at hl 2 rfl) ?_
    refine xc_Vr hF (c_X0_lengthOf l D cI cJ cZ cS ta sa sv s.heap.size q2 cn Q2 j k Lc (by omega) (by omega)) kv_X0_39 ⟨rfl, rfl, Nat.le_of_ble_eq_true rfl, Nat.le_of_ble_eq_true rfl⟩ ⟨Nat.le_of_ble_eq_true rfl, Nat.le_of_ble_eq_true rfl⟩ hK hN hZ hP hD hS hA [2, 3] rfl rfl 0 rfl rfl rfl rfl hl.1 rfl (Nat.le_of_ble_eq_true rfl) dX0_mendFrom_67 (fun r_22 hw_r_22 => ?_)
    subst hw_r_22
    refine xc_SNr hF (c_X8_together l D cI cJ cZ cS ta sa sv s.heap.size r_21 (Lc (10 * j + k)) ) kn_X0_42.1 kn_X0_42.2.1 kn_X0_42.2.2 ⟨rfl, rfl, Nat.le_of_ble_eq_true rfl, Nat.le_of_ble_eq_true rfl⟩ ⟨Nat.le_of_ble_eq_true rfl, Nat.le_of_ble_eq_true rfl⟩ hK hN hZ hP hD hS hA [] rfl rfl rfl hl.1 rfl (Nat.le_of_ble_eq_true rfl) dX0_mendFrom_70 (fun r_23 hw_r_23 => ?_)
    refine lv_if_ge (tgt := 78) hx hb dX0_mendFrom_73 (by decide) (fun c_24 => ?_) (fun c_24 => ?_)
    · skip
      refine lv_aload_n hx hb dX0_mendFrom_78 rfl (lv_at hl 4 rfl) ?_
      refine lv_aload_n hx hb dX0_mendFrom_79 rfl (lv_at hl 5 rfl) ?_
      refine xg hF kf_X0_9 hK hP 2 rfl rfl dX0_mendFrom_80 ?_
      refine xp hF kf_X0_9 tyX0_ok nmX0 hK hP hD hS 0 rfl rfl rfl rfl (Nat.le_of_ble_eq_true rfl) dX0_mendFrom_83 (fun H locs hP hD hS => ?_)
      have hP : va_P D vwCl [(h0, .inr (0, [.int (nI (Q2)), .ref an])), (an, .inl (cI, 100, .inl La)), (q2, .inr (0, [.int (nI (Q2)), .ref cn])), (cn, .inl (cI, 100, .inl Lc)), (q1, .inr (1, [.int (nI (P)), .ref be, .ref bl, .ref bu, .ref bo, .ref br, .ref bk, .ref bw, .ref btt, .ref bss])), (bl, .inl (cI, 100, .inl lo)), (bo, .inl (cI, 100, .inl d))] H := hP
      have hD : va_D A [(h0, .inr (0, [.int (nI (Q2)), .ref an])), (an, .inl (cI, 100, .inl La)), (q2, .inr (0, [.int (nI (Q2)), .ref cn])), (cn, .inl (cI, 100, .inl Lc)), (q1, .inr (1, [.int (nI (P)), .ref be, .ref bl, .ref bu, .ref bo, .ref br, .ref bk, .ref bw, .ref btt, .ref bss])), (bl, .inl (cI, 100, .inl lo)), (bo, .inl (cI, 100, .inl d))] := hD
      refine lv_iconst (v := 0) hx hb dX0_mendFrom_86 (by decide) ?_
      refine lv_istore (lv' := [(9, .int 0), (8, .int r_21), (7, .int (nI (j))), (6, .int (nI (k))), (5, .int 1), (0, .ref h0), (1, .ref q2), (2, .ref q1), (3, .int (nI (j))), (4, .int (nI (k)))]) hx hb dX0_mendFrom_87 hl (by decide) rfl (fun ls hl => ?_)
      suffices loop_89 : ∀ (n_89 : Nat) (i : Nat) (L9 : Nat → Int32) (H : Heap) (locs : List Loc) (ls : Array Slot), Q2 - i < n_89 → (i ≤ Q2) → va_P D vwCl [(h0, .inr (0, [.int (nI (Q2)), .ref an])), (an, .inl (cI, 100, .inl L9)), (q2, .inr (0, [.int (nI (Q2)), .ref cn])), (cn, .inl (cI, 100, .inl Lc)), (q1, .inr (1, [.int (nI (P)), .ref be, .ref bl, .ref bu, .ref bo, .ref br, .ref bk, .ref bw, .ref btt, .ref bss])), (bl, .inl (cI, 100, .inl lo)), (bo, .inl (cI, 100, .inl d))] H → va_D A [(h0, .inr (0, [.int (nI (Q2)), .ref an])), (an, .inl (cI, 100, .inl L9)), (q2, .inr (0, [.int (nI (Q2)), .ref cn])), (cn, .inl (cI, 100, .inl Lc)), (q1, .inr (1, [.int (nI (P)), .ref be, .ref bl, .ref bu, .ref bo, .ref br, .ref bk, .ref bw, .ref btt, .ref bss])), (bl, .inl (cI, 100, .inl lo)), (bo, .inl (cI, 100, .inl d))] → va_S A s.heap H locs → lv_has ls 13 [(9, .int (nI (i))), (8, .int r_21), (7, .int (nI (j))), (6, .int (nI (k))), (5, .int 1), (0, .ref h0), (1, .ref q2), (2, .ref q1), (3, .int (nI (j))), (4, .int (nI (k)))] → W p l e ({ frames := 3, cells := 0, slots := 0, locals := 65 }) s m ([.ref h0, .ref q2, .ref q1, .int (nI (j)), .int (nI (k))] : List Value).toArray below meth c H locs 0 0 (MQ below (XQi (fun (r : Int32) (u : Nat × (Nat → Int32)) => match u with | (Q9, L2) => ((r = 1 ∧ (Q9 = Q2)) ∨ (r = 0 ∧ (Q9 = Q)))) D (fun (u : Nat × (Nat → Int32)) => match u with | (Q9, L2) => [(h0, .inr (0, [.int (nI (Q9)), .ref an])), (an, .inl (cI, 100, .inl L2)), (q2, .inr (0, [.int (nI (Q2)), .ref cn])), (cn, .inl (cI, 100, .inl Lc)), (q1, .inr (1, [.int (nI (P)), .ref be, .ref bl, .ref bu, .ref bo, .ref br, .ref bk, .ref bw, .ref btt, .ref bss])), (bl, .inl (cI, 100, .inl lo)), (bo, .inl (cI, 100, .inl d))]) A) ([.ref h0, .ref q2, .ref q1, .int (nI (j)), .int (nI (k))] : List Value).toArray s 0 0 A) (F0 m 89 ls []) by
        exact loop_89 _ 0 La _ _ _ (Nat.lt_succ_self _) (by omega) hP hD hS (lv_sub hl [0, 1, 2, 3, 4, 5, 6, 7, 8, 9] rfl)
      intro n_89
      induction n_89 with
      | zero =>
        intro i L9 H locs ls hm_89
        exact absurd hm_89 (Nat.not_lt_zero _)
      | succ n_89 ih_89 =>
        intro i L9 H locs ls hm_89 hi hP hD hS hl
        refine lv_iload hx hb dX0_mendFrom_89 (lv_at hl 0 rfl) ?_
        refine lv_aload_n hx hb dX0_mendFrom_91 rfl (lv_at hl 5 rfl) ?_
        refine xg hF kf_X0_9 hK hP 0 rfl rfl dX0_mendFrom_92 ?_
        refine lv_icmp_ge (tgt := 178) hx hb dX0_mendFrom_95 (by decide) (fun c_25 => ?_) (fun c_25 => ?_)
        · skip
          have nc_25 : Q2 ≤ i := xn_le (a := Q2) (b := i) (by omega) (by omega) c_25
          refine lv_iconst (v := 1) hx hb dX0_mendFrom_178 (by decide) ?_
          exact W.zret (v := 1) hx hb hr rfl (fun t ht hW => ⟨⟨1, (Q2, L9), rfl, (by first | exact Or.inl ⟨rfl, (by first | assumption | omega | exact Or.inl (by first | assumption | omega) | exact Or.inr (by first | assumption | omega))⟩), by rw [ht]; exact hP.sub [0, 1, 2, 3, 4, 5, 6] rfl, hD.sub [0, 1, 2, 3, 4, 5, 6] (by decide +kernel) rfl⟩, hS.F ht⟩) hS.2.2 dX0_mendFrom_179 hlk
        · skip
          have nc_25 : i < Q2 := xn_nle (a := Q2) (b := i) (by omega) (by omega) c_25
          refine lv_aload_n hx hb dX0_mendFrom_98 rfl (lv_at hl 6 rfl) ?_
          refine lv_iload hx hb dX0_mendFrom_99 (lv_at hl 0 rfl) ?_
          refine lv_iload hx hb dX0_mendFrom_101 (lv_at hl 3 rfl) ?_
          refine xc_Vr hF (c_X0_lengthOf l D cI cJ cZ cS ta sa sv H.size q2 cn Q2 i k Lc (by omega) (by omega)) kv_X0_39 ⟨rfl, rfl, Nat.le_of_ble_eq_true rfl, Nat.le_of_ble_eq_true rfl⟩ ⟨Nat.le_of_ble_eq_true rfl, Nat.le_of_ble_eq_true rfl⟩ hK hN hZ hP hD hS hA [2, 3] rfl rfl 0 rfl rfl rfl rfl hl.1 rfl (Nat.le_of_ble_eq_true rfl) dX0_mendFrom_103 (fun r_26 hw_r_26 => ?_)
          subst hw_r_26
          refine lv_iload hx hb dX0_mendFrom_106 (lv_at hl 1 rfl) ?_
          refine xc_SNr hF (c_X8_together l D cI cJ cZ cS ta sa sv H.size (Lc (10 * i + k)) r_21 ) kn_X0_42.1 kn_X0_42.2.1 kn_X0_42.2.2 ⟨rfl, rfl, Nat.le_of_ble_eq_true rfl, Nat.le_of_ble_eq_true rfl⟩ ⟨Nat.le_of_ble_eq_true rfl, Nat.le_of_ble_eq_true rfl⟩ hK hN hZ hP hD hS hA [] rfl rfl rfl hl.1 rfl (Nat.le_of_ble_eq_true rfl) dX0_mendFrom_108 (fun r_27 hw_r_27 => ?_)
          refine lv_istore (lv' := [(10, .int r_27), (9, .int (nI (i))), (8, .int r_21), (7, .int (nI (j))), (6, .int (nI (k))), (5, .int 1), (0, .ref h0), (1, .ref q2), (2, .ref q1), (3, .int (nI (j))), (4, .int (nI (k)))]) hx hb dX0_mendFrom_111 hl (by decide) rfl (fun ls hl => ?_)
          refine lv_iconst (v := 0) hx hb dX0_mendFrom_113 (by decide) ?_
          refine lv_istore (lv' := [(11, .int 0), (10, .int r_27), (9, .int (nI (i))), (8, .int r_21), (7, .int (nI (j))), (6, .int (nI (k))), (5, .int 1), (0, .ref h0), (1, .ref q2), (2, .ref q1), (3, .int (nI (j))), (4, .int (nI (k)))]) hx hb dX0_mendFrom_114 hl (by decide) rfl (fun ls hl => ?_)
          suffices loop_116 : ∀ (n_116 : Nat) (i2 : Nat) (L8 : Nat → Int32) (H : Heap) (locs : List Loc) (ls : Array Slot), Q2 - i2 < n_116 → (i2 ≤ Q2) → va_P D vwCl [(h0, .inr (0, [.int (nI (Q2)), .ref an])), (an, .inl (cI, 100, .inl L8)), (q2, .inr (0, [.int (nI (Q2)), .ref cn])), (cn, .inl (cI, 100, .inl Lc)), (q1, .inr (1, [.int (nI (P)), .ref be, .ref bl, .ref bu, .ref bo, .ref br, .ref bk, .ref bw, .ref btt, .ref bss])), (bl, .inl (cI, 100, .inl lo)), (bo, .inl (cI, 100, .inl d))] H → va_D A [(h0, .inr (0, [.int (nI (Q2)), .ref an])), (an, .inl (cI, 100, .inl L8)), (q2, .inr (0, [.int (nI (Q2)), .ref cn])), (cn, .inl (cI, 100, .inl Lc)), (q1, .inr (1, [.int (nI (P)), .ref be, .ref bl, .ref bu, .ref bo, .ref br, .ref bk, .ref bw, .ref btt, .ref bss])), (bl, .inl (cI, 100, .inl lo)), (bo, .inl (cI, 100, .inl d))] → va_S A s.heap H locs → lv_has ls 13 [(11, .int (nI (i2))), (10, .int r_27), (9, .int (nI (i))), (8, .int r_21), (7, .int (nI (j))), (6, .int (nI (k))), (5, .int 1), (0, .ref h0), (1, .ref q2), (2, .ref q1), (3, .int (nI (j))), (4, .int (nI (k)))] → W p l e ({ frames := 3, cells := 0, slots := 0, locals := 65 }) s m ([.ref h0, .ref q2, .ref q1, .int (nI (j)), .int (nI (k))] : List Value).toArray below meth c H locs 0 0 (MQ below (XQi (fun (r : Int32) (u : Nat × (Nat → Int32)) => match u with | (Q9, L2) => ((r = 1 ∧ (Q9 = Q2)) ∨ (r = 0 ∧ (Q9 = Q)))) D (fun (u : Nat × (Nat → Int32)) => match u with | (Q9, L2) => [(h0, .inr (0, [.int (nI (Q9)), .ref an])), (an, .inl (cI, 100, .inl L2)), (q2, .inr (0, [.int (nI (Q2)), .ref cn])), (cn, .inl (cI, 100, .inl Lc)), (q1, .inr (1, [.int (nI (P)), .ref be, .ref bl, .ref bu, .ref bo, .ref br, .ref bk, .ref bw, .ref btt, .ref bss])), (bl, .inl (cI, 100, .inl lo)), (bo, .inl (cI, 100, .inl d))]) A) ([.ref h0, .ref q2, .ref q1, .int (nI (j)), .int (nI (k))] : List Value).toArray s 0 0 A) (F0 m 116 ls []) by
            exact loop_116 _ 0 L9 _ _ _ (Nat.lt_succ_self _) (by omega) hP hD hS (lv_sub hl [0, 1, 2, 3, 4, 5, 6, 7, 8, 9, 10, 11] rfl)
          intro n_116
          induction n_116 with
          | zero =>
            intro i2 L8 H locs ls hm_116
            exact absurd hm_116 (Nat.not_lt_zero _)
          | succ n_116 ih_116 =>
            intro i2 L8 H locs ls hm_116 hi2 hP hD hS hl
            refine lv_iload hx hb dX0_mendFrom_116 (lv_at hl 0 rfl) ?_
            refine lv_aload_n hx hb dX0_mendFrom_118 rfl (lv_at hl 7 rfl) ?_
            refine xg hF kf_X0_9 hK hP 0 rfl rfl dX0_mendFrom_119 ?_
            refine lv_icmp_ge (tgt := 172) hx hb dX0_mendFrom_122 (by decide) (fun c_28 => ?_) (fun c_28 => ?_)
            · skip
              have nc_28 : Q2 ≤ i2 := xn_le (a := Q2) (b := i2) (by omega) (by omega) c_28
              refine lv_iinc (v := nI (i + 1)) (lv' := [(9, .int (nI (i + 1))), (11, .int (nI (i2))), (10, .int r_27), (8, .int r_21), (7, .int (nI (j))), (6, .int (nI (k))), (5, .int 1), (0, .ref h0), (1, .ref q2), (2, .ref q1), (3, .int (nI (j))), (4, .int (nI (k)))]) hx hb dX0_mendFrom_172 hl (k := 2) rfl (nI_1 (i)) (by decide) rfl (fun ls hl => ?_)
              refine lv_goto (tgt := 89) hx hb dX0_mendFrom_175 (by decide) ?_
              exact ih_89 (i + 1) L8 _ _ _ (by omega) (by omega) (hP.sub [0, 1, 2, 3, 4, 5, 6] rfl) (hD.sub [0, 1, 2, 3, 4, 5, 6] (by decide +kernel) rfl) hS (lv_sub hl [0, 3, 4, 5, 6, 7, 8, 9, 10, 11] rfl)
            · skip
              have nc_28 : i2 < Q2 := xn_nle (a := Q2) (b := i2) (by omega) (by omega) c_28
              refine lv_iload hx hb dX0_mendFrom_125 (lv_at hl 1 rfl) ?_
              refine lv_aload_n hx hb dX0_mendFrom_127 rfl (lv_at hl 8 rfl) ?_
              refine lv_iload hx hb dX0_mendFrom_128 (lv_at hl 4 rfl) ?_
              refine lv_iload hx hb dX0_mendFrom_130 (lv_at hl 0 rfl) ?_
              refine xc_Vr hF (c_X0_lengthOf l D cI cJ cZ cS ta sa sv H.size q2 cn Q2 j i2 Lc (by omega) (by omega)) kv_X0_39 ⟨rfl, rfl, Nat.le_of_ble_eq_true rfl, Nat.le_of_ble_eq_true rfl⟩ ⟨Nat.le_of_ble_eq_true rfl, Nat.le_of_ble_eq_true rfl⟩ hK hN hZ hP hD hS hA [2, 3] rfl rfl 0 rfl rfl rfl rfl hl.1 rfl (Nat.le_of_ble_eq_true rfl) dX0_mendFrom_132 (fun r_29 hw_r_29 => ?_)
              subst hw_r_29
              refine xc_SNr hF (c_X8_together l D cI cJ cZ cS ta sa sv H.size r_27 (Lc (10 * j + i2)) ) kn_X0_42.1 kn_X0_42.2.1 kn_X0_42.2.2 ⟨rfl, rfl, Nat.le_of_ble_eq_true rfl, Nat.le_of_ble_eq_true rfl⟩ ⟨Nat.le_of_ble_eq_true rfl, Nat.le_of_ble_eq_true rfl⟩ hK hN hZ hP hD hS hA [] rfl rfl rfl hl.1 rfl (Nat.le_of_ble_eq_true rfl) dX0_mendFrom_135 (fun r_30 hw_r_30 => ?_)
              refine lv_istore (lv' := [(12, .int r_30), (11, .int (nI (i2))), (10, .int r_27), (9, .int (nI (i))), (8, .int r_21), (7, .int (nI (j))), (6, .int (nI (k))), (5, .int 1), (0, .ref h0), (1, .ref q2), (2, .ref q1), (3, .int (nI (j))), (4, .int (nI (k)))]) hx hb dX0_mendFrom_138 hl (by decide) rfl (fun ls hl => ?_)
              refine lv_aload_n hx hb dX0_mendFrom_140 rfl (lv_at hl 8 rfl) ?_
              refine xg hF kf_X0_15 hK hP 0 rfl rfl dX0_mendFrom_141 ?_
              refine lv_bipush (v := 10) hx hb dX0_mendFrom_144 (by decide) ?_
              refine lv_iload hx hb dX0_mendFrom_146 (lv_at hl 3 rfl) ?_
              refine lv_imul hx hb dX0_mendFrom_148 ?_
              refine xl_i (y := nI (10 * i)) (pk_mul 10 i) ?_
              refine lv_iload hx hb dX0_mendFrom_149 (lv_at hl 1 rfl) ?_
              refine lv_iadd hx hb dX0_mendFrom_151 ?_
              refine xl_i (y := nI (10 * i + i2)) (nI_add (10 * i) i2) ?_
              refine lv_iload hx hb dX0_mendFrom_152 (lv_at hl 0 rfl) ?_
              refine lv_aload_n hx hb dX0_mendFrom_154 rfl (lv_at hl 9 rfl) ?_
              refine lv_iload hx hb dX0_mendFrom_155 (lv_at hl 3 rfl) ?_
              refine lv_iload hx hb dX0_mendFrom_157 (lv_at hl 1 rfl) ?_
              refine xc_Vr hF (c_X0_lengthOf l D cI cJ cZ cS ta sa sv H.size q2 cn Q2 i i2 Lc (by omega) (by omega)) kv_X0_39 ⟨rfl, rfl, Nat.le_of_ble_eq_true rfl, Nat.le_of_ble_eq_true rfl⟩ ⟨Nat.le_of_ble_eq_true rfl, Nat.le_of_ble_eq_true rfl⟩ hK hN hZ hP hD hS hA [2, 3] rfl rfl 0 rfl rfl rfl rfl hl.1 rfl (Nat.le_of_ble_eq_true rfl) dX0_mendFrom_159 (fun r_31 hw_r_31 => ?_)
              subst hw_r_31
              refine va_mmin hx hb (hml.trans hl.1.symm) hown (hu _ uw136) (hu _ uw137) (hu _ uw92) (hu _ uw138) (Nat.le_of_ble_eq_true rfl) (Nat.le_of_ble_eq_true rfl) (Nat.le_of_ble_eq_true rfl) (Nat.le_of_ble_eq_true rfl) dX0_mendFrom_162 ?_
              refine lv_topi (fun x_32 ex_32 => ?_)
              refine va_iast hx hb hK hP hD hS 1 0 rfl rfl (vp_in_nI (show 10 * i + i2 < 100 by omega) (by decide)) dX0_mendFrom_165 (fun H locs hP hD hS => ?_)
              rw [nI_clamp (show 10 * i + i2 < 2 ^ 31 by omega)] at hP hD
              obtain ⟨f_33, ef_33⟩ : ∃ g, g = upd L8 (10 * i + i2) x_32 := ⟨_, rfl⟩
              rw [← ef_33] at hP hD
              have hP : va_P D vwCl [(h0, .inr (0, [.int (nI (Q2)), .ref an])), (an, .inl (cI, 100, .inl f_33)), (q2, .inr (0, [.int (nI (Q2)), .ref cn])), (cn, .inl (cI, 100, .inl Lc)), (q1, .inr (1, [.int (nI (P)), .ref be, .ref bl, .ref bu, .ref bo, .ref br, .ref bk, .ref bw, .ref btt, .ref bss])), (bl, .inl (cI, 100, .inl lo)), (bo, .inl (cI, 100, .inl d))] H := hP
              have hD : va_D A [(h0, .inr (0, [.int (nI (Q2)), .ref an])), (an, .inl (cI, 100, .inl f_33)), (q2, .inr (0, [.int (nI (Q2)), .ref cn])), (cn, .inl (cI, 100, .inl Lc)), (q1, .inr (1, [.int (nI (P)), .ref be, .ref bl, .ref bu, .ref bo, .ref br, .ref bk, .ref bw, .ref btt, .ref bss])), (bl, .inl (cI, 100, .inl lo)), (bo, .inl (cI, 100, .inl d))] := hD
              refine lv_iinc (v := nI (i2 + 1)) (lv' := [(11, .int (nI (i2 + 1))), (12, .int r_30), (10, .int r_27), (9, .int (nI (i))), (8, .int r_21), (7, .int (nI (j))), (6, .int (nI (k))), (5, .int 1), (0, .ref h0), (1, .ref q2), (2, .ref q1), (3, .int (nI (j))), (4, .int (nI (k)))]) hx hb dX0_mendFrom_166 hl (k := 1) rfl (nI_1 (i2)) (by decide) rfl (fun ls hl => ?_)
              refine lv_goto (tgt := 116) hx hb dX0_mendFrom_169 (by decide) ?_
              exact ih_116 (i2 + 1) f_33 _ _ _ (by omega) (by omega) (hP.sub [0, 1, 2, 3, 4, 5, 6] rfl) (hD.sub [0, 1, 2, 3, 4, 5, 6] (by decide +kernel) rfl) hS (lv_sub hl [0, 2, 3, 4, 5, 6, 7, 8, 9, 10, 11, 12] rfl)
    · skip
      refine lv_iconst (v := 0) hx hb dX0_mendFrom_76 (by decide) ?_
      exact W.zret (v := 0) hx hb hr rfl (fun t ht hW => ⟨⟨0, (Q, La), rfl, (by first | exact Or.inr (⟨rfl, (by first | assumption | omega | exact Or.inl (by first | assumption | omega) | exact Or.inr (by first | assumption | omega))⟩)), by rw [ht]; exact hP.sub [0, 1, 2, 3, 4, 5, 6] rfl, hD.sub [0, 1, 2, 3, 4, 5, 6] (by decide +kernel) rfl⟩, hS.F ht⟩) hS.2.2 dX0_mendFrom_77 hlk
