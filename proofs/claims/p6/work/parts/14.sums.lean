def LRX6_stopBehind_2 : List UInt8 := []
def LBX6_stopBehind_1 : List UInt8 := [0x60, 0xa7, 0x00, 0x04, 0x03, 0xb6, 0x00, 0x31, 0xac]
def LRX6_stopBehind_1 : List UInt8 := LBX6_stopBehind_1 ++ LRX6_stopBehind_2
def LBX6_stopBehind_0 : List UInt8 := [0x2a, 0x1b, 0x1c, 0x04, 0x60, 0x2a, 0xb4, 0x00, 0x2c, 0x1b, 0x2e, 0xa2, 0x00, 0x09, 0x1c, 0x04]
def LRX6_stopBehind_0 : List UInt8 := LBX6_stopBehind_0 ++ LRX6_stopBehind_1
set_option maxRecDepth 100000 in
theorem LBX6_stopBehind_eq : cX6_stopBehind.data.toList = LRX6_stopBehind_0 := by decide +kernel
theorem LBX6_stopBehindr_0 (k : Nat) : cX6_stopBehind.data.toList[0 + k]? = LRX6_stopBehind_0[k]? := by rw [LBX6_stopBehind_eq, Nat.zero_add]
theorem LBX6_stopBehindr_1 (k : Nat) : cX6_stopBehind.data.toList[16 + k]? = LRX6_stopBehind_1[k]? := by
  have h := LBX6_stopBehindr_0 (16 + k)
  rw [show 0 + (16 + k) = 16 + k by omega] at h
  rw [h]
  exact (List.getElem?_append_right (l₁ := LBX6_stopBehind_0) (l₂ := LRX6_stopBehind_1) (show 16 ≤ 16 + k by omega)).trans (congrArg (fun i => LRX6_stopBehind_1[i]?) (show 16 + k - 16 = k by omega))
theorem dX6_stopBehind_0 : decode cX6_stopBehind 0 = .ok (.aload_n 0, 1) := dk_42_ (show cX6_stopBehind.data.toList[0]? = some 0x2a from (LBX6_stopBehindr_0 0).trans (by decide +kernel))
theorem dX6_stopBehind_1 : decode cX6_stopBehind 1 = .ok (.iload_n 1, 1) := dk_27_ (show cX6_stopBehind.data.toList[1]? = some 0x1b from (LBX6_stopBehindr_0 1).trans (by decide +kernel))
theorem dX6_stopBehind_2 : decode cX6_stopBehind 2 = .ok (.iload_n 2, 1) := dk_28_ (show cX6_stopBehind.data.toList[2]? = some 0x1c from (LBX6_stopBehindr_0 2).trans (by decide +kernel))
theorem dX6_stopBehind_3 : decode cX6_stopBehind 3 = .ok (.iconst 1, 1) := dk_4_ (show cX6_stopBehind.data.toList[3]? = some 0x04 from (LBX6_stopBehindr_0 3).trans (by decide +kernel))
theorem dX6_stopBehind_4 : decode cX6_stopBehind 4 = .ok (.iadd, 1) := dk_96_ (show cX6_stopBehind.data.toList[4]? = some 0x60 from (LBX6_stopBehindr_0 4).trans (by decide +kernel))
theorem dX6_stopBehind_5 : decode cX6_stopBehind 5 = .ok (.aload_n 0, 1) := dk_42_ (show cX6_stopBehind.data.toList[5]? = some 0x2a from (LBX6_stopBehindr_0 5).trans (by decide +kernel))
theorem dX6_stopBehind_6 : decode cX6_stopBehind 6 = .ok (.getfield 44, 3) := dk_180_ (show cX6_stopBehind.data.toList[6]? = some 0xb4 from (LBX6_stopBehindr_0 6).trans (by decide +kernel)) (show cX6_stopBehind.data.toList[7]? = some 0x00 from (LBX6_stopBehindr_0 7).trans (by decide +kernel)) (show cX6_stopBehind.data.toList[8]? = some 0x2c from (LBX6_stopBehindr_0 8).trans (by decide +kernel)) (by decide)
theorem dX6_stopBehind_9 : decode cX6_stopBehind 9 = .ok (.iload_n 1, 1) := dk_27_ (show cX6_stopBehind.data.toList[9]? = some 0x1b from (LBX6_stopBehindr_0 9).trans (by decide +kernel))
theorem dX6_stopBehind_10 : decode cX6_stopBehind 10 = .ok (.iaload, 1) := dk_46_ (show cX6_stopBehind.data.toList[10]? = some 0x2e from (LBX6_stopBehindr_0 10).trans (by decide +kernel))
theorem dX6_stopBehind_11 : decode cX6_stopBehind 11 = .ok (.if_icmp .ge 9, 3) := dk_162_ (show cX6_stopBehind.data.toList[11]? = some 0xa2 from (LBX6_stopBehindr_0 11).trans (by decide +kernel)) (show cX6_stopBehind.data.toList[12]? = some 0x00 from (LBX6_stopBehindr_0 12).trans (by decide +kernel)) (show cX6_stopBehind.data.toList[13]? = some 0x09 from (LBX6_stopBehindr_0 13).trans (by decide +kernel)) (by decide)
theorem dX6_stopBehind_14 : decode cX6_stopBehind 14 = .ok (.iload_n 2, 1) := dk_28_ (show cX6_stopBehind.data.toList[14]? = some 0x1c from (LBX6_stopBehindr_0 14).trans (by decide +kernel))
theorem dX6_stopBehind_15 : decode cX6_stopBehind 15 = .ok (.iconst 1, 1) := dk_4_ (show cX6_stopBehind.data.toList[15]? = some 0x04 from (LBX6_stopBehindr_0 15).trans (by decide +kernel))
theorem dX6_stopBehind_16 : decode cX6_stopBehind 16 = .ok (.iadd, 1) := dk_96_ (show cX6_stopBehind.data.toList[16]? = some 0x60 from (LBX6_stopBehindr_1 0).trans (by decide +kernel))
theorem dX6_stopBehind_17 : decode cX6_stopBehind 17 = .ok (.goto 4, 3) := dk_167_ (show cX6_stopBehind.data.toList[17]? = some 0xa7 from (LBX6_stopBehindr_1 1).trans (by decide +kernel)) (show cX6_stopBehind.data.toList[18]? = some 0x00 from (LBX6_stopBehindr_1 2).trans (by decide +kernel)) (show cX6_stopBehind.data.toList[19]? = some 0x04 from (LBX6_stopBehindr_1 3).trans (by decide +kernel)) (by decide)
theorem dX6_stopBehind_20 : decode cX6_stopBehind 20 = .ok (.iconst 0, 1) := dk_3_ (show cX6_stopBehind.data.toList[20]? = some 0x03 from (LBX6_stopBehindr_1 4).trans (by decide +kernel))
theorem dX6_stopBehind_21 : decode cX6_stopBehind 21 = .ok (.invokevirtual 49, 3) := dk_182_ (show cX6_stopBehind.data.toList[21]? = some 0xb6 from (LBX6_stopBehindr_1 5).trans (by decide +kernel)) (show cX6_stopBehind.data.toList[22]? = some 0x00 from (LBX6_stopBehindr_1 6).trans (by decide +kernel)) (show cX6_stopBehind.data.toList[23]? = some 0x31 from (LBX6_stopBehindr_1 7).trans (by decide +kernel)) (by decide)
theorem dX6_stopBehind_24 : decode cX6_stopBehind 24 = .ok (.ireturn, 1) := dk_172_ (show cX6_stopBehind.data.toList[24]? = some 0xac from (LBX6_stopBehindr_1 8).trans (by decide +kernel))
def LRX6_roundSum_3 : List UInt8 := []
def LBX6_roundSum_2 : List UInt8 := [0xb6, 0x00, 0x39, 0xb8, 0x00, 0x3e, 0x3e, 0x84, 0x04, 0x01, 0xa7, 0xff, 0xdb, 0x1d, 0xac]
def LRX6_roundSum_2 : List UInt8 := LBX6_roundSum_2 ++ LRX6_roundSum_3
def LBX6_roundSum_1 : List UInt8 := [0x1d, 0x2b, 0x2a, 0x1c, 0x15, 0x04, 0xb6, 0x00, 0x31, 0x2a, 0x1c, 0x15, 0x04, 0xb8, 0x00, 0x35]
def LRX6_roundSum_1 : List UInt8 := LBX6_roundSum_1 ++ LRX6_roundSum_2
def LBX6_roundSum_0 : List UInt8 := [0x03, 0x3e, 0x03, 0x36, 0x04, 0x15, 0x04, 0x2a, 0xb4, 0x00, 0x2c, 0x1c, 0x2e, 0xa2, 0x00, 0x20]
def LRX6_roundSum_0 : List UInt8 := LBX6_roundSum_0 ++ LRX6_roundSum_1
set_option maxRecDepth 100000 in
theorem LBX6_roundSum_eq : cX6_roundSum.data.toList = LRX6_roundSum_0 := by decide +kernel
theorem LBX6_roundSumr_0 (k : Nat) : cX6_roundSum.data.toList[0 + k]? = LRX6_roundSum_0[k]? := by rw [LBX6_roundSum_eq, Nat.zero_add]
theorem LBX6_roundSumr_1 (k : Nat) : cX6_roundSum.data.toList[16 + k]? = LRX6_roundSum_1[k]? := by
  have h := LBX6_roundSumr_0 (16 + k)
  rw [show 0 + (16 + k) = 16 + k by omega] at h
  rw [h]
  exact (List.getElem?_append_right (l₁ := LBX6_roundSum_0) (l₂ := LRX6_roundSum_1) (show 16 ≤ 16 + k by omega)).trans (congrArg (fun i => LRX6_roundSum_1[i]?) (show 16 + k - 16 = k by omega))
theorem LBX6_roundSumr_2 (k : Nat) : cX6_roundSum.data.toList[32 + k]? = LRX6_roundSum_2[k]? := by
  have h := LBX6_roundSumr_1 (16 + k)
  rw [show 16 + (16 + k) = 32 + k by omega] at h
  rw [h]
  exact (List.getElem?_append_right (l₁ := LBX6_roundSum_1) (l₂ := LRX6_roundSum_2) (show 16 ≤ 16 + k by omega)).trans (congrArg (fun i => LRX6_roundSum_2[i]?) (show 16 + k - 16 = k by omega))
theorem dX6_roundSum_0 : decode cX6_roundSum 0 = .ok (.iconst 0, 1) := dk_3_ (show cX6_roundSum.data.toList[0]? = some 0x03 from (LBX6_roundSumr_0 0).trans (by decide +kernel))
theorem dX6_roundSum_1 : decode cX6_roundSum 1 = .ok (.istore_n 3, 1) := dk_62_ (show cX6_roundSum.data.toList[1]? = some 0x3e from (LBX6_roundSumr_0 1).trans (by decide +kernel))
theorem dX6_roundSum_2 : decode cX6_roundSum 2 = .ok (.iconst 0, 1) := dk_3_ (show cX6_roundSum.data.toList[2]? = some 0x03 from (LBX6_roundSumr_0 2).trans (by decide +kernel))
theorem dX6_roundSum_3 : decode cX6_roundSum 3 = .ok (.istore 4, 2) := dk_54_ (show cX6_roundSum.data.toList[3]? = some 0x36 from (LBX6_roundSumr_0 3).trans (by decide +kernel)) (show cX6_roundSum.data.toList[4]? = some 0x04 from (LBX6_roundSumr_0 4).trans (by decide +kernel)) (by decide)
theorem dX6_roundSum_5 : decode cX6_roundSum 5 = .ok (.iload 4, 2) := dk_21_ (show cX6_roundSum.data.toList[5]? = some 0x15 from (LBX6_roundSumr_0 5).trans (by decide +kernel)) (show cX6_roundSum.data.toList[6]? = some 0x04 from (LBX6_roundSumr_0 6).trans (by decide +kernel)) (by decide)
theorem dX6_roundSum_7 : decode cX6_roundSum 7 = .ok (.aload_n 0, 1) := dk_42_ (show cX6_roundSum.data.toList[7]? = some 0x2a from (LBX6_roundSumr_0 7).trans (by decide +kernel))
theorem dX6_roundSum_8 : decode cX6_roundSum 8 = .ok (.getfield 44, 3) := dk_180_ (show cX6_roundSum.data.toList[8]? = some 0xb4 from (LBX6_roundSumr_0 8).trans (by decide +kernel)) (show cX6_roundSum.data.toList[9]? = some 0x00 from (LBX6_roundSumr_0 9).trans (by decide +kernel)) (show cX6_roundSum.data.toList[10]? = some 0x2c from (LBX6_roundSumr_0 10).trans (by decide +kernel)) (by decide)
theorem dX6_roundSum_11 : decode cX6_roundSum 11 = .ok (.iload_n 2, 1) := dk_28_ (show cX6_roundSum.data.toList[11]? = some 0x1c from (LBX6_roundSumr_0 11).trans (by decide +kernel))
theorem dX6_roundSum_12 : decode cX6_roundSum 12 = .ok (.iaload, 1) := dk_46_ (show cX6_roundSum.data.toList[12]? = some 0x2e from (LBX6_roundSumr_0 12).trans (by decide +kernel))
theorem dX6_roundSum_13 : decode cX6_roundSum 13 = .ok (.if_icmp .ge 32, 3) := dk_162_ (show cX6_roundSum.data.toList[13]? = some 0xa2 from (LBX6_roundSumr_0 13).trans (by decide +kernel)) (show cX6_roundSum.data.toList[14]? = some 0x00 from (LBX6_roundSumr_0 14).trans (by decide +kernel)) (show cX6_roundSum.data.toList[15]? = some 0x20 from (LBX6_roundSumr_0 15).trans (by decide +kernel)) (by decide)
theorem dX6_roundSum_16 : decode cX6_roundSum 16 = .ok (.iload_n 3, 1) := dk_29_ (show cX6_roundSum.data.toList[16]? = some 0x1d from (LBX6_roundSumr_1 0).trans (by decide +kernel))
theorem dX6_roundSum_17 : decode cX6_roundSum 17 = .ok (.aload_n 1, 1) := dk_43_ (show cX6_roundSum.data.toList[17]? = some 0x2b from (LBX6_roundSumr_1 1).trans (by decide +kernel))
theorem dX6_roundSum_18 : decode cX6_roundSum 18 = .ok (.aload_n 0, 1) := dk_42_ (show cX6_roundSum.data.toList[18]? = some 0x2a from (LBX6_roundSumr_1 2).trans (by decide +kernel))
theorem dX6_roundSum_19 : decode cX6_roundSum 19 = .ok (.iload_n 2, 1) := dk_28_ (show cX6_roundSum.data.toList[19]? = some 0x1c from (LBX6_roundSumr_1 3).trans (by decide +kernel))
theorem dX6_roundSum_20 : decode cX6_roundSum 20 = .ok (.iload 4, 2) := dk_21_ (show cX6_roundSum.data.toList[20]? = some 0x15 from (LBX6_roundSumr_1 4).trans (by decide +kernel)) (show cX6_roundSum.data.toList[21]? = some 0x04 from (LBX6_roundSumr_1 5).trans (by decide +kernel)) (by decide)
theorem dX6_roundSum_22 : decode cX6_roundSum 22 = .ok (.invokevirtual 49, 3) := dk_182_ (show cX6_roundSum.data.toList[22]? = some 0xb6 from (LBX6_roundSumr_1 6).trans (by decide +kernel)) (show cX6_roundSum.data.toList[23]? = some 0x00 from (LBX6_roundSumr_1 7).trans (by decide +kernel)) (show cX6_roundSum.data.toList[24]? = some 0x31 from (LBX6_roundSumr_1 8).trans (by decide +kernel)) (by decide)
theorem dX6_roundSum_25 : decode cX6_roundSum 25 = .ok (.aload_n 0, 1) := dk_42_ (show cX6_roundSum.data.toList[25]? = some 0x2a from (LBX6_roundSumr_1 9).trans (by decide +kernel))
theorem dX6_roundSum_26 : decode cX6_roundSum 26 = .ok (.iload_n 2, 1) := dk_28_ (show cX6_roundSum.data.toList[26]? = some 0x1c from (LBX6_roundSumr_1 10).trans (by decide +kernel))
theorem dX6_roundSum_27 : decode cX6_roundSum 27 = .ok (.iload 4, 2) := dk_21_ (show cX6_roundSum.data.toList[27]? = some 0x15 from (LBX6_roundSumr_1 11).trans (by decide +kernel)) (show cX6_roundSum.data.toList[28]? = some 0x04 from (LBX6_roundSumr_1 12).trans (by decide +kernel)) (by decide)
theorem dX6_roundSum_29 : decode cX6_roundSum 29 = .ok (.invokestatic 53, 3) := dk_184_ (show cX6_roundSum.data.toList[29]? = some 0xb8 from (LBX6_roundSumr_1 13).trans (by decide +kernel)) (show cX6_roundSum.data.toList[30]? = some 0x00 from (LBX6_roundSumr_1 14).trans (by decide +kernel)) (show cX6_roundSum.data.toList[31]? = some 0x35 from (LBX6_roundSumr_1 15).trans (by decide +kernel)) (by decide)
theorem dX6_roundSum_32 : decode cX6_roundSum 32 = .ok (.invokevirtual 57, 3) := dk_182_ (show cX6_roundSum.data.toList[32]? = some 0xb6 from (LBX6_roundSumr_2 0).trans (by decide +kernel)) (show cX6_roundSum.data.toList[33]? = some 0x00 from (LBX6_roundSumr_2 1).trans (by decide +kernel)) (show cX6_roundSum.data.toList[34]? = some 0x39 from (LBX6_roundSumr_2 2).trans (by decide +kernel)) (by decide)
theorem dX6_roundSum_35 : decode cX6_roundSum 35 = .ok (.invokestatic 62, 3) := dk_184_ (show cX6_roundSum.data.toList[35]? = some 0xb8 from (LBX6_roundSumr_2 3).trans (by decide +kernel)) (show cX6_roundSum.data.toList[36]? = some 0x00 from (LBX6_roundSumr_2 4).trans (by decide +kernel)) (show cX6_roundSum.data.toList[37]? = some 0x3e from (LBX6_roundSumr_2 5).trans (by decide +kernel)) (by decide)
theorem dX6_roundSum_38 : decode cX6_roundSum 38 = .ok (.istore_n 3, 1) := dk_62_ (show cX6_roundSum.data.toList[38]? = some 0x3e from (LBX6_roundSumr_2 6).trans (by decide +kernel))
theorem dX6_roundSum_39 : decode cX6_roundSum 39 = .ok (.iinc 4 1, 3) := dk_132_ (show cX6_roundSum.data.toList[39]? = some 0x84 from (LBX6_roundSumr_2 7).trans (by decide +kernel)) (show cX6_roundSum.data.toList[40]? = some 0x04 from (LBX6_roundSumr_2 8).trans (by decide +kernel)) (show cX6_roundSum.data.toList[41]? = some 0x01 from (LBX6_roundSumr_2 9).trans (by decide +kernel)) (by decide) (by decide)
theorem dX6_roundSum_42 : decode cX6_roundSum 42 = .ok (.goto (-37), 3) := dk_167_ (show cX6_roundSum.data.toList[42]? = some 0xa7 from (LBX6_roundSumr_2 10).trans (by decide +kernel)) (show cX6_roundSum.data.toList[43]? = some 0xff from (LBX6_roundSumr_2 11).trans (by decide +kernel)) (show cX6_roundSum.data.toList[44]? = some 0xdb from (LBX6_roundSumr_2 12).trans (by decide +kernel)) (by decide)
theorem dX6_roundSum_45 : decode cX6_roundSum 45 = .ok (.iload_n 3, 1) := dk_29_ (show cX6_roundSum.data.toList[45]? = some 0x1d from (LBX6_roundSumr_2 13).trans (by decide +kernel))
theorem dX6_roundSum_46 : decode cX6_roundSum 46 = .ok (.ireturn, 1) := dk_172_ (show cX6_roundSum.data.toList[46]? = some 0xac from (LBX6_roundSumr_2 14).trans (by decide +kernel))
def LRX6_toldWay_2 : List UInt8 := []
def LBX6_toldWay_1 : List UInt8 := [0x2a, 0x1b, 0x1c, 0xb6, 0x00, 0x49, 0xa7, 0x00, 0x05, 0x12, 0x2b, 0xac]
def LRX6_toldWay_1 : List UInt8 := LBX6_toldWay_1 ++ LRX6_toldWay_2
def LBX6_toldWay_0 : List UInt8 := [0x1b, 0x1c, 0xa0, 0x00, 0x05, 0x03, 0xac, 0x2a, 0x1b, 0x1c, 0xb6, 0x00, 0x45, 0x99, 0x00, 0x0c]
def LRX6_toldWay_0 : List UInt8 := LBX6_toldWay_0 ++ LRX6_toldWay_1
set_option maxRecDepth 100000 in
theorem LBX6_toldWay_eq : cX6_toldWay.data.toList = LRX6_toldWay_0 := by decide +kernel
theorem LBX6_toldWayr_0 (k : Nat) : cX6_toldWay.data.toList[0 + k]? = LRX6_toldWay_0[k]? := by rw [LBX6_toldWay_eq, Nat.zero_add]
theorem LBX6_toldWayr_1 (k : Nat) : cX6_toldWay.data.toList[16 + k]? = LRX6_toldWay_1[k]? := by
  have h := LBX6_toldWayr_0 (16 + k)
  rw [show 0 + (16 + k) = 16 + k by omega] at h
  rw [h]
  exact (List.getElem?_append_right (l₁ := LBX6_toldWay_0) (l₂ := LRX6_toldWay_1) (show 16 ≤ 16 + k by omega)).trans (congrArg (fun i => LRX6_toldWay_1[i]?) (show 16 + k - 16 = k by omega))
theorem dX6_toldWay_0 : decode cX6_toldWay 0 = .ok (.iload_n 1, 1) := dk_27_ (show cX6_toldWay.data.toList[0]? = some 0x1b from (LBX6_toldWayr_0 0).trans (by decide +kernel))
theorem dX6_toldWay_1 : decode cX6_toldWay 1 = .ok (.iload_n 2, 1) := dk_28_ (show cX6_toldWay.data.toList[1]? = some 0x1c from (LBX6_toldWayr_0 1).trans (by decide +kernel))
theorem dX6_toldWay_2 : decode cX6_toldWay 2 = .ok (.if_icmp .ne 5, 3) := dk_160_ (show cX6_toldWay.data.toList[2]? = some 0xa0 from (LBX6_toldWayr_0 2).trans (by decide +kernel)) (show cX6_toldWay.data.toList[3]? = some 0x00 from (LBX6_toldWayr_0 3).trans (by decide +kernel)) (show cX6_toldWay.data.toList[4]? = some 0x05 from (LBX6_toldWayr_0 4).trans (by decide +kernel)) (by decide)
theorem dX6_toldWay_5 : decode cX6_toldWay 5 = .ok (.iconst 0, 1) := dk_3_ (show cX6_toldWay.data.toList[5]? = some 0x03 from (LBX6_toldWayr_0 5).trans (by decide +kernel))
theorem dX6_toldWay_6 : decode cX6_toldWay 6 = .ok (.ireturn, 1) := dk_172_ (show cX6_toldWay.data.toList[6]? = some 0xac from (LBX6_toldWayr_0 6).trans (by decide +kernel))
theorem dX6_toldWay_7 : decode cX6_toldWay 7 = .ok (.aload_n 0, 1) := dk_42_ (show cX6_toldWay.data.toList[7]? = some 0x2a from (LBX6_toldWayr_0 7).trans (by decide +kernel))
theorem dX6_toldWay_8 : decode cX6_toldWay 8 = .ok (.iload_n 1, 1) := dk_27_ (show cX6_toldWay.data.toList[8]? = some 0x1b from (LBX6_toldWayr_0 8).trans (by decide +kernel))
theorem dX6_toldWay_9 : decode cX6_toldWay 9 = .ok (.iload_n 2, 1) := dk_28_ (show cX6_toldWay.data.toList[9]? = some 0x1c from (LBX6_toldWayr_0 9).trans (by decide +kernel))
theorem dX6_toldWay_10 : decode cX6_toldWay 10 = .ok (.invokevirtual 69, 3) := dk_182_ (show cX6_toldWay.data.toList[10]? = some 0xb6 from (LBX6_toldWayr_0 10).trans (by decide +kernel)) (show cX6_toldWay.data.toList[11]? = some 0x00 from (LBX6_toldWayr_0 11).trans (by decide +kernel)) (show cX6_toldWay.data.toList[12]? = some 0x45 from (LBX6_toldWayr_0 12).trans (by decide +kernel)) (by decide)
theorem dX6_toldWay_13 : decode cX6_toldWay 13 = .ok (.ifCond .eq 12, 3) := dk_153_ (show cX6_toldWay.data.toList[13]? = some 0x99 from (LBX6_toldWayr_0 13).trans (by decide +kernel)) (show cX6_toldWay.data.toList[14]? = some 0x00 from (LBX6_toldWayr_0 14).trans (by decide +kernel)) (show cX6_toldWay.data.toList[15]? = some 0x0c from (LBX6_toldWayr_0 15).trans (by decide +kernel)) (by decide)
theorem dX6_toldWay_16 : decode cX6_toldWay 16 = .ok (.aload_n 0, 1) := dk_42_ (show cX6_toldWay.data.toList[16]? = some 0x2a from (LBX6_toldWayr_1 0).trans (by decide +kernel))
theorem dX6_toldWay_17 : decode cX6_toldWay 17 = .ok (.iload_n 1, 1) := dk_27_ (show cX6_toldWay.data.toList[17]? = some 0x1b from (LBX6_toldWayr_1 1).trans (by decide +kernel))
theorem dX6_toldWay_18 : decode cX6_toldWay 18 = .ok (.iload_n 2, 1) := dk_28_ (show cX6_toldWay.data.toList[18]? = some 0x1c from (LBX6_toldWayr_1 2).trans (by decide +kernel))
theorem dX6_toldWay_19 : decode cX6_toldWay 19 = .ok (.invokevirtual 73, 3) := dk_182_ (show cX6_toldWay.data.toList[19]? = some 0xb6 from (LBX6_toldWayr_1 3).trans (by decide +kernel)) (show cX6_toldWay.data.toList[20]? = some 0x00 from (LBX6_toldWayr_1 4).trans (by decide +kernel)) (show cX6_toldWay.data.toList[21]? = some 0x49 from (LBX6_toldWayr_1 5).trans (by decide +kernel)) (by decide)
theorem dX6_toldWay_22 : decode cX6_toldWay 22 = .ok (.goto 5, 3) := dk_167_ (show cX6_toldWay.data.toList[22]? = some 0xa7 from (LBX6_toldWayr_1 6).trans (by decide +kernel)) (show cX6_toldWay.data.toList[23]? = some 0x00 from (LBX6_toldWayr_1 7).trans (by decide +kernel)) (show cX6_toldWay.data.toList[24]? = some 0x05 from (LBX6_toldWayr_1 8).trans (by decide +kernel)) (by decide)
theorem dX6_toldWay_25 : decode cX6_toldWay 25 = .ok (.ldc 43, 2) := dk_18_ (show cX6_toldWay.data.toList[25]? = some 0x12 from (LBX6_toldWayr_1 9).trans (by decide +kernel)) (show cX6_toldWay.data.toList[26]? = some 0x2b from (LBX6_toldWayr_1 10).trans (by decide +kernel)) (by decide)
theorem dX6_toldWay_27 : decode cX6_toldWay 27 = .ok (.ireturn, 1) := dk_172_ (show cX6_toldWay.data.toList[27]? = some 0xac from (LBX6_toldWayr_1 11).trans (by decide +kernel))
def LRX6_toldSum_5 : List UInt8 := []
def LBX6_toldSum_4 : List UInt8 := [0xb8, 0x00, 0x41, 0xb8, 0x00, 0x3e, 0x3e, 0x84, 0x04, 0x01, 0xa7, 0xff, 0xbb, 0x1d, 0xac]
def LRX6_toldSum_4 : List UInt8 := LBX6_toldSum_4 ++ LRX6_toldSum_5
def LBX6_toldSum_3 : List UInt8 := [0x2a, 0x15, 0x06, 0x15, 0x05, 0xb8, 0x00, 0x41, 0xa7, 0x00, 0x0b, 0x2a, 0x15, 0x05, 0x15, 0x06]
def LRX6_toldSum_3 : List UInt8 := LBX6_toldSum_3 ++ LRX6_toldSum_4
def LBX6_toldSum_2 : List UInt8 := [0xb4, 0x00, 0x14, 0x1b, 0x15, 0x04, 0xb8, 0x00, 0x35, 0x36, 0x06, 0x1d, 0x1c, 0x99, 0x00, 0x0e]
def LRX6_toldSum_2 : List UInt8 := LBX6_toldSum_2 ++ LRX6_toldSum_3
def LBX6_toldSum_1 : List UInt8 := [0xa2, 0x00, 0x3d, 0x2a, 0xb4, 0x00, 0x14, 0x1b, 0x15, 0x04, 0xb6, 0x00, 0x31, 0x36, 0x05, 0x2a]
def LRX6_toldSum_1 : List UInt8 := LBX6_toldSum_1 ++ LRX6_toldSum_2
def LBX6_toldSum_0 : List UInt8 := [0x03, 0x3e, 0x03, 0x36, 0x04, 0x15, 0x04, 0x2a, 0xb4, 0x00, 0x14, 0xb4, 0x00, 0x2c, 0x1b, 0x2e]
def LRX6_toldSum_0 : List UInt8 := LBX6_toldSum_0 ++ LRX6_toldSum_1
set_option maxRecDepth 100000 in
theorem LBX6_toldSum_eq : cX6_toldSum.data.toList = LRX6_toldSum_0 := by decide +kernel
theorem LBX6_toldSumr_0 (k : Nat) : cX6_toldSum.data.toList[0 + k]? = LRX6_toldSum_0[k]? := by rw [LBX6_toldSum_eq, Nat.zero_add]
theorem LBX6_toldSumr_1 (k : Nat) : cX6_toldSum.data.toList[16 + k]? = LRX6_toldSum_1[k]? := by
  have h := LBX6_toldSumr_0 (16 + k)
  rw [show 0 + (16 + k) = 16 + k by omega] at h
  rw [h]
  exact (List.getElem?_append_right (l₁ := LBX6_toldSum_0) (l₂ := LRX6_toldSum_1) (show 16 ≤ 16 + k by omega)).trans (congrArg (fun i => LRX6_toldSum_1[i]?) (show 16 + k - 16 = k by omega))
theorem LBX6_toldSumr_2 (k : Nat) : cX6_toldSum.data.toList[32 + k]? = LRX6_toldSum_2[k]? := by
  have h := LBX6_toldSumr_1 (16 + k)
  rw [show 16 + (16 + k) = 32 + k by omega] at h
  rw [h]
  exact (List.getElem?_append_right (l₁ := LBX6_toldSum_1) (l₂ := LRX6_toldSum_2) (show 16 ≤ 16 + k by omega)).trans (congrArg (fun i => LRX6_toldSum_2[i]?) (show 16 + k - 16 = k by omega))
theorem LBX6_toldSumr_3 (k : Nat) : cX6_toldSum.data.toList[48 + k]? = LRX6_toldSum_3[k]? := by
  have h := LBX6_toldSumr_2 (16 + k)
  rw [show 32 + (16 + k) = 48 + k by omega] at h
  rw [h]
  exact (List.getElem?_append_right (l₁ := LBX6_toldSum_2) (l₂ := LRX6_toldSum_3) (show 16 ≤ 16 + k by omega)).trans (congrArg (fun i => LRX6_toldSum_3[i]?) (show 16 + k - 16 = k by omega))
theorem LBX6_toldSumr_4 (k : Nat) : cX6_toldSum.data.toList[64 + k]? = LRX6_toldSum_4[k]? := by
  have h := LBX6_toldSumr_3 (16 + k)
  rw [show 48 + (16 + k) = 64 + k by omega] at h
  rw [h]
  exact (List.getElem?_append_right (l₁ := LBX6_toldSum_3) (l₂ := LRX6_toldSum_4) (show 16 ≤ 16 + k by omega)).trans (congrArg (fun i => LRX6_toldSum_4[i]?) (show 16 + k - 16 = k by omega))
theorem dX6_toldSum_0 : decode cX6_toldSum 0 = .ok (.iconst 0, 1) := dk_3_ (show cX6_toldSum.data.toList[0]? = some 0x03 from (LBX6_toldSumr_0 0).trans (by decide +kernel))
theorem dX6_toldSum_1 : decode cX6_toldSum 1 = .ok (.istore_n 3, 1) := dk_62_ (show cX6_toldSum.data.toList[1]? = some 0x3e from (LBX6_toldSumr_0 1).trans (by decide +kernel))
theorem dX6_toldSum_2 : decode cX6_toldSum 2 = .ok (.iconst 0, 1) := dk_3_ (show cX6_toldSum.data.toList[2]? = some 0x03 from (LBX6_toldSumr_0 2).trans (by decide +kernel))
theorem dX6_toldSum_3 : decode cX6_toldSum 3 = .ok (.istore 4, 2) := dk_54_ (show cX6_toldSum.data.toList[3]? = some 0x36 from (LBX6_toldSumr_0 3).trans (by decide +kernel)) (show cX6_toldSum.data.toList[4]? = some 0x04 from (LBX6_toldSumr_0 4).trans (by decide +kernel)) (by decide)
theorem dX6_toldSum_5 : decode cX6_toldSum 5 = .ok (.iload 4, 2) := dk_21_ (show cX6_toldSum.data.toList[5]? = some 0x15 from (LBX6_toldSumr_0 5).trans (by decide +kernel)) (show cX6_toldSum.data.toList[6]? = some 0x04 from (LBX6_toldSumr_0 6).trans (by decide +kernel)) (by decide)
theorem dX6_toldSum_7 : decode cX6_toldSum 7 = .ok (.aload_n 0, 1) := dk_42_ (show cX6_toldSum.data.toList[7]? = some 0x2a from (LBX6_toldSumr_0 7).trans (by decide +kernel))
theorem dX6_toldSum_8 : decode cX6_toldSum 8 = .ok (.getfield 20, 3) := dk_180_ (show cX6_toldSum.data.toList[8]? = some 0xb4 from (LBX6_toldSumr_0 8).trans (by decide +kernel)) (show cX6_toldSum.data.toList[9]? = some 0x00 from (LBX6_toldSumr_0 9).trans (by decide +kernel)) (show cX6_toldSum.data.toList[10]? = some 0x14 from (LBX6_toldSumr_0 10).trans (by decide +kernel)) (by decide)
theorem dX6_toldSum_11 : decode cX6_toldSum 11 = .ok (.getfield 44, 3) := dk_180_ (show cX6_toldSum.data.toList[11]? = some 0xb4 from (LBX6_toldSumr_0 11).trans (by decide +kernel)) (show cX6_toldSum.data.toList[12]? = some 0x00 from (LBX6_toldSumr_0 12).trans (by decide +kernel)) (show cX6_toldSum.data.toList[13]? = some 0x2c from (LBX6_toldSumr_0 13).trans (by decide +kernel)) (by decide)
theorem dX6_toldSum_14 : decode cX6_toldSum 14 = .ok (.iload_n 1, 1) := dk_27_ (show cX6_toldSum.data.toList[14]? = some 0x1b from (LBX6_toldSumr_0 14).trans (by decide +kernel))
theorem dX6_toldSum_15 : decode cX6_toldSum 15 = .ok (.iaload, 1) := dk_46_ (show cX6_toldSum.data.toList[15]? = some 0x2e from (LBX6_toldSumr_0 15).trans (by decide +kernel))
theorem dX6_toldSum_16 : decode cX6_toldSum 16 = .ok (.if_icmp .ge 61, 3) := dk_162_ (show cX6_toldSum.data.toList[16]? = some 0xa2 from (LBX6_toldSumr_1 0).trans (by decide +kernel)) (show cX6_toldSum.data.toList[17]? = some 0x00 from (LBX6_toldSumr_1 1).trans (by decide +kernel)) (show cX6_toldSum.data.toList[18]? = some 0x3d from (LBX6_toldSumr_1 2).trans (by decide +kernel)) (by decide)
theorem dX6_toldSum_19 : decode cX6_toldSum 19 = .ok (.aload_n 0, 1) := dk_42_ (show cX6_toldSum.data.toList[19]? = some 0x2a from (LBX6_toldSumr_1 3).trans (by decide +kernel))
theorem dX6_toldSum_20 : decode cX6_toldSum 20 = .ok (.getfield 20, 3) := dk_180_ (show cX6_toldSum.data.toList[20]? = some 0xb4 from (LBX6_toldSumr_1 4).trans (by decide +kernel)) (show cX6_toldSum.data.toList[21]? = some 0x00 from (LBX6_toldSumr_1 5).trans (by decide +kernel)) (show cX6_toldSum.data.toList[22]? = some 0x14 from (LBX6_toldSumr_1 6).trans (by decide +kernel)) (by decide)
theorem dX6_toldSum_23 : decode cX6_toldSum 23 = .ok (.iload_n 1, 1) := dk_27_ (show cX6_toldSum.data.toList[23]? = some 0x1b from (LBX6_toldSumr_1 7).trans (by decide +kernel))
theorem dX6_toldSum_24 : decode cX6_toldSum 24 = .ok (.iload 4, 2) := dk_21_ (show cX6_toldSum.data.toList[24]? = some 0x15 from (LBX6_toldSumr_1 8).trans (by decide +kernel)) (show cX6_toldSum.data.toList[25]? = some 0x04 from (LBX6_toldSumr_1 9).trans (by decide +kernel)) (by decide)
theorem dX6_toldSum_26 : decode cX6_toldSum 26 = .ok (.invokevirtual 49, 3) := dk_182_ (show cX6_toldSum.data.toList[26]? = some 0xb6 from (LBX6_toldSumr_1 10).trans (by decide +kernel)) (show cX6_toldSum.data.toList[27]? = some 0x00 from (LBX6_toldSumr_1 11).trans (by decide +kernel)) (show cX6_toldSum.data.toList[28]? = some 0x31 from (LBX6_toldSumr_1 12).trans (by decide +kernel)) (by decide)
theorem dX6_toldSum_29 : decode cX6_toldSum 29 = .ok (.istore 5, 2) := dk_54_ (show cX6_toldSum.data.toList[29]? = some 0x36 from (LBX6_toldSumr_1 13).trans (by decide +kernel)) (show cX6_toldSum.data.toList[30]? = some 0x05 from (LBX6_toldSumr_1 14).trans (by decide +kernel)) (by decide)
theorem dX6_toldSum_31 : decode cX6_toldSum 31 = .ok (.aload_n 0, 1) := dk_42_ (show cX6_toldSum.data.toList[31]? = some 0x2a from (LBX6_toldSumr_1 15).trans (by decide +kernel))
theorem dX6_toldSum_32 : decode cX6_toldSum 32 = .ok (.getfield 20, 3) := dk_180_ (show cX6_toldSum.data.toList[32]? = some 0xb4 from (LBX6_toldSumr_2 0).trans (by decide +kernel)) (show cX6_toldSum.data.toList[33]? = some 0x00 from (LBX6_toldSumr_2 1).trans (by decide +kernel)) (show cX6_toldSum.data.toList[34]? = some 0x14 from (LBX6_toldSumr_2 2).trans (by decide +kernel)) (by decide)
theorem dX6_toldSum_35 : decode cX6_toldSum 35 = .ok (.iload_n 1, 1) := dk_27_ (show cX6_toldSum.data.toList[35]? = some 0x1b from (LBX6_toldSumr_2 3).trans (by decide +kernel))
theorem dX6_toldSum_36 : decode cX6_toldSum 36 = .ok (.iload 4, 2) := dk_21_ (show cX6_toldSum.data.toList[36]? = some 0x15 from (LBX6_toldSumr_2 4).trans (by decide +kernel)) (show cX6_toldSum.data.toList[37]? = some 0x04 from (LBX6_toldSumr_2 5).trans (by decide +kernel)) (by decide)
theorem dX6_toldSum_38 : decode cX6_toldSum 38 = .ok (.invokestatic 53, 3) := dk_184_ (show cX6_toldSum.data.toList[38]? = some 0xb8 from (LBX6_toldSumr_2 6).trans (by decide +kernel)) (show cX6_toldSum.data.toList[39]? = some 0x00 from (LBX6_toldSumr_2 7).trans (by decide +kernel)) (show cX6_toldSum.data.toList[40]? = some 0x35 from (LBX6_toldSumr_2 8).trans (by decide +kernel)) (by decide)
theorem dX6_toldSum_41 : decode cX6_toldSum 41 = .ok (.istore 6, 2) := dk_54_ (show cX6_toldSum.data.toList[41]? = some 0x36 from (LBX6_toldSumr_2 9).trans (by decide +kernel)) (show cX6_toldSum.data.toList[42]? = some 0x06 from (LBX6_toldSumr_2 10).trans (by decide +kernel)) (by decide)
theorem dX6_toldSum_43 : decode cX6_toldSum 43 = .ok (.iload_n 3, 1) := dk_29_ (show cX6_toldSum.data.toList[43]? = some 0x1d from (LBX6_toldSumr_2 11).trans (by decide +kernel))
theorem dX6_toldSum_44 : decode cX6_toldSum 44 = .ok (.iload_n 2, 1) := dk_28_ (show cX6_toldSum.data.toList[44]? = some 0x1c from (LBX6_toldSumr_2 12).trans (by decide +kernel))
theorem dX6_toldSum_45 : decode cX6_toldSum 45 = .ok (.ifCond .eq 14, 3) := dk_153_ (show cX6_toldSum.data.toList[45]? = some 0x99 from (LBX6_toldSumr_2 13).trans (by decide +kernel)) (show cX6_toldSum.data.toList[46]? = some 0x00 from (LBX6_toldSumr_2 14).trans (by decide +kernel)) (show cX6_toldSum.data.toList[47]? = some 0x0e from (LBX6_toldSumr_2 15).trans (by decide +kernel)) (by decide)
theorem dX6_toldSum_48 : decode cX6_toldSum 48 = .ok (.aload_n 0, 1) := dk_42_ (show cX6_toldSum.data.toList[48]? = some 0x2a from (LBX6_toldSumr_3 0).trans (by decide +kernel))
theorem dX6_toldSum_49 : decode cX6_toldSum 49 = .ok (.iload 6, 2) := dk_21_ (show cX6_toldSum.data.toList[49]? = some 0x15 from (LBX6_toldSumr_3 1).trans (by decide +kernel)) (show cX6_toldSum.data.toList[50]? = some 0x06 from (LBX6_toldSumr_3 2).trans (by decide +kernel)) (by decide)
theorem dX6_toldSum_51 : decode cX6_toldSum 51 = .ok (.iload 5, 2) := dk_21_ (show cX6_toldSum.data.toList[51]? = some 0x15 from (LBX6_toldSumr_3 3).trans (by decide +kernel)) (show cX6_toldSum.data.toList[52]? = some 0x05 from (LBX6_toldSumr_3 4).trans (by decide +kernel)) (by decide)
theorem dX6_toldSum_53 : decode cX6_toldSum 53 = .ok (.invokestatic 65, 3) := dk_184_ (show cX6_toldSum.data.toList[53]? = some 0xb8 from (LBX6_toldSumr_3 5).trans (by decide +kernel)) (show cX6_toldSum.data.toList[54]? = some 0x00 from (LBX6_toldSumr_3 6).trans (by decide +kernel)) (show cX6_toldSum.data.toList[55]? = some 0x41 from (LBX6_toldSumr_3 7).trans (by decide +kernel)) (by decide)
theorem dX6_toldSum_56 : decode cX6_toldSum 56 = .ok (.goto 11, 3) := dk_167_ (show cX6_toldSum.data.toList[56]? = some 0xa7 from (LBX6_toldSumr_3 8).trans (by decide +kernel)) (show cX6_toldSum.data.toList[57]? = some 0x00 from (LBX6_toldSumr_3 9).trans (by decide +kernel)) (show cX6_toldSum.data.toList[58]? = some 0x0b from (LBX6_toldSumr_3 10).trans (by decide +kernel)) (by decide)
theorem dX6_toldSum_59 : decode cX6_toldSum 59 = .ok (.aload_n 0, 1) := dk_42_ (show cX6_toldSum.data.toList[59]? = some 0x2a from (LBX6_toldSumr_3 11).trans (by decide +kernel))
theorem dX6_toldSum_60 : decode cX6_toldSum 60 = .ok (.iload 5, 2) := dk_21_ (show cX6_toldSum.data.toList[60]? = some 0x15 from (LBX6_toldSumr_3 12).trans (by decide +kernel)) (show cX6_toldSum.data.toList[61]? = some 0x05 from (LBX6_toldSumr_3 13).trans (by decide +kernel)) (by decide)
theorem dX6_toldSum_62 : decode cX6_toldSum 62 = .ok (.iload 6, 2) := dk_21_ (show cX6_toldSum.data.toList[62]? = some 0x15 from (LBX6_toldSumr_3 14).trans (by decide +kernel)) (show cX6_toldSum.data.toList[63]? = some 0x06 from (LBX6_toldSumr_3 15).trans (by decide +kernel)) (by decide)
theorem dX6_toldSum_64 : decode cX6_toldSum 64 = .ok (.invokestatic 65, 3) := dk_184_ (show cX6_toldSum.data.toList[64]? = some 0xb8 from (LBX6_toldSumr_4 0).trans (by decide +kernel)) (show cX6_toldSum.data.toList[65]? = some 0x00 from (LBX6_toldSumr_4 1).trans (by decide +kernel)) (show cX6_toldSum.data.toList[66]? = some 0x41 from (LBX6_toldSumr_4 2).trans (by decide +kernel)) (by decide)
theorem dX6_toldSum_67 : decode cX6_toldSum 67 = .ok (.invokestatic 62, 3) := dk_184_ (show cX6_toldSum.data.toList[67]? = some 0xb8 from (LBX6_toldSumr_4 3).trans (by decide +kernel)) (show cX6_toldSum.data.toList[68]? = some 0x00 from (LBX6_toldSumr_4 4).trans (by decide +kernel)) (show cX6_toldSum.data.toList[69]? = some 0x3e from (LBX6_toldSumr_4 5).trans (by decide +kernel)) (by decide)
theorem dX6_toldSum_70 : decode cX6_toldSum 70 = .ok (.istore_n 3, 1) := dk_62_ (show cX6_toldSum.data.toList[70]? = some 0x3e from (LBX6_toldSumr_4 6).trans (by decide +kernel))
theorem dX6_toldSum_71 : decode cX6_toldSum 71 = .ok (.iinc 4 1, 3) := dk_132_ (show cX6_toldSum.data.toList[71]? = some 0x84 from (LBX6_toldSumr_4 7).trans (by decide +kernel)) (show cX6_toldSum.data.toList[72]? = some 0x04 from (LBX6_toldSumr_4 8).trans (by decide +kernel)) (show cX6_toldSum.data.toList[73]? = some 0x01 from (LBX6_toldSumr_4 9).trans (by decide +kernel)) (by decide) (by decide)
theorem dX6_toldSum_74 : decode cX6_toldSum 74 = .ok (.goto (-69), 3) := dk_167_ (show cX6_toldSum.data.toList[74]? = some 0xa7 from (LBX6_toldSumr_4 10).trans (by decide +kernel)) (show cX6_toldSum.data.toList[75]? = some 0xff from (LBX6_toldSumr_4 11).trans (by decide +kernel)) (show cX6_toldSum.data.toList[76]? = some 0xbb from (LBX6_toldSumr_4 12).trans (by decide +kernel)) (by decide)
theorem dX6_toldSum_77 : decode cX6_toldSum 77 = .ok (.iload_n 3, 1) := dk_29_ (show cX6_toldSum.data.toList[77]? = some 0x1d from (LBX6_toldSumr_4 13).trans (by decide +kernel))
theorem dX6_toldSum_78 : decode cX6_toldSum 78 = .ok (.ireturn, 1) := dk_172_ (show cX6_toldSum.data.toList[78]? = some 0xac from (LBX6_toldSumr_4 14).trans (by decide +kernel))
def LRX6_meetSum_4 : List UInt8 := []
def LBX6_meetSum_3 : List UInt8 := [0x00, 0x54, 0xac]
def LRX6_meetSum_3 : List UInt8 := LBX6_meetSum_3 ++ LRX6_meetSum_4
def LBX6_meetSum_2 : List UInt8 := [0x9c, 0x00, 0x08, 0x12, 0x2b, 0xa7, 0x00, 0x0d, 0x2b, 0x1d, 0x15, 0x04, 0x15, 0x05, 0x04, 0xb6]
def LRX6_meetSum_2 : List UInt8 := LBX6_meetSum_2 ++ LRX6_meetSum_3
def LBX6_meetSum_1 : List UInt8 := [0x00, 0x4c, 0x36, 0x04, 0x2b, 0x1d, 0x15, 0x04, 0x04, 0xb6, 0x00, 0x50, 0x36, 0x05, 0x15, 0x05]
def LRX6_meetSum_1 : List UInt8 := LBX6_meetSum_1 ++ LRX6_meetSum_2
def LBX6_meetSum_0 : List UInt8 := [0x2a, 0xb4, 0x00, 0x14, 0x1c, 0x03, 0xb6, 0x00, 0x31, 0x3e, 0x2a, 0xb4, 0x00, 0x14, 0x1c, 0xb6]
def LRX6_meetSum_0 : List UInt8 := LBX6_meetSum_0 ++ LRX6_meetSum_1
set_option maxRecDepth 100000 in
theorem LBX6_meetSum_eq : cX6_meetSum.data.toList = LRX6_meetSum_0 := by decide +kernel
theorem LBX6_meetSumr_0 (k : Nat) : cX6_meetSum.data.toList[0 + k]? = LRX6_meetSum_0[k]? := by rw [LBX6_meetSum_eq, Nat.zero_add]
theorem LBX6_meetSumr_1 (k : Nat) : cX6_meetSum.data.toList[16 + k]? = LRX6_meetSum_1[k]? := by
  have h := LBX6_meetSumr_0 (16 + k)
  rw [show 0 + (16 + k) = 16 + k by omega] at h
  rw [h]
  exact (List.getElem?_append_right (l₁ := LBX6_meetSum_0) (l₂ := LRX6_meetSum_1) (show 16 ≤ 16 + k by omega)).trans (congrArg (fun i => LRX6_meetSum_1[i]?) (show 16 + k - 16 = k by omega))
theorem LBX6_meetSumr_2 (k : Nat) : cX6_meetSum.data.toList[32 + k]? = LRX6_meetSum_2[k]? := by
  have h := LBX6_meetSumr_1 (16 + k)
  rw [show 16 + (16 + k) = 32 + k by omega] at h
  rw [h]
  exact (List.getElem?_append_right (l₁ := LBX6_meetSum_1) (l₂ := LRX6_meetSum_2) (show 16 ≤ 16 + k by omega)).trans (congrArg (fun i => LRX6_meetSum_2[i]?) (show 16 + k - 16 = k by omega))
theorem LBX6_meetSumr_3 (k : Nat) : cX6_meetSum.data.toList[48 + k]? = LRX6_meetSum_3[k]? := by
  have h := LBX6_meetSumr_2 (16 + k)
  rw [show 32 + (16 + k) = 48 + k by omega] at h
  rw [h]
  exact (List.getElem?_append_right (l₁ := LBX6_meetSum_2) (l₂ := LRX6_meetSum_3) (show 16 ≤ 16 + k by omega)).trans (congrArg (fun i => LRX6_meetSum_3[i]?) (show 16 + k - 16 = k by omega))
theorem dX6_meetSum_0 : decode cX6_meetSum 0 = .ok (.aload_n 0, 1) := dk_42_ (show cX6_meetSum.data.toList[0]? = some 0x2a from (LBX6_meetSumr_0 0).trans (by decide +kernel))
theorem dX6_meetSum_1 : decode cX6_meetSum 1 = .ok (.getfield 20, 3) := dk_180_ (show cX6_meetSum.data.toList[1]? = some 0xb4 from (LBX6_meetSumr_0 1).trans (by decide +kernel)) (show cX6_meetSum.data.toList[2]? = some 0x00 from (LBX6_meetSumr_0 2).trans (by decide +kernel)) (show cX6_meetSum.data.toList[3]? = some 0x14 from (LBX6_meetSumr_0 3).trans (by decide +kernel)) (by decide)
theorem dX6_meetSum_4 : decode cX6_meetSum 4 = .ok (.iload_n 2, 1) := dk_28_ (show cX6_meetSum.data.toList[4]? = some 0x1c from (LBX6_meetSumr_0 4).trans (by decide +kernel))
theorem dX6_meetSum_5 : decode cX6_meetSum 5 = .ok (.iconst 0, 1) := dk_3_ (show cX6_meetSum.data.toList[5]? = some 0x03 from (LBX6_meetSumr_0 5).trans (by decide +kernel))
theorem dX6_meetSum_6 : decode cX6_meetSum 6 = .ok (.invokevirtual 49, 3) := dk_182_ (show cX6_meetSum.data.toList[6]? = some 0xb6 from (LBX6_meetSumr_0 6).trans (by decide +kernel)) (show cX6_meetSum.data.toList[7]? = some 0x00 from (LBX6_meetSumr_0 7).trans (by decide +kernel)) (show cX6_meetSum.data.toList[8]? = some 0x31 from (LBX6_meetSumr_0 8).trans (by decide +kernel)) (by decide)
theorem dX6_meetSum_9 : decode cX6_meetSum 9 = .ok (.istore_n 3, 1) := dk_62_ (show cX6_meetSum.data.toList[9]? = some 0x3e from (LBX6_meetSumr_0 9).trans (by decide +kernel))
theorem dX6_meetSum_10 : decode cX6_meetSum 10 = .ok (.aload_n 0, 1) := dk_42_ (show cX6_meetSum.data.toList[10]? = some 0x2a from (LBX6_meetSumr_0 10).trans (by decide +kernel))
theorem dX6_meetSum_11 : decode cX6_meetSum 11 = .ok (.getfield 20, 3) := dk_180_ (show cX6_meetSum.data.toList[11]? = some 0xb4 from (LBX6_meetSumr_0 11).trans (by decide +kernel)) (show cX6_meetSum.data.toList[12]? = some 0x00 from (LBX6_meetSumr_0 12).trans (by decide +kernel)) (show cX6_meetSum.data.toList[13]? = some 0x14 from (LBX6_meetSumr_0 13).trans (by decide +kernel)) (by decide)
theorem dX6_meetSum_14 : decode cX6_meetSum 14 = .ok (.iload_n 2, 1) := dk_28_ (show cX6_meetSum.data.toList[14]? = some 0x1c from (LBX6_meetSumr_0 14).trans (by decide +kernel))
theorem dX6_meetSum_15 : decode cX6_meetSum 15 = .ok (.invokevirtual 76, 3) := dk_182_ (show cX6_meetSum.data.toList[15]? = some 0xb6 from (LBX6_meetSumr_0 15).trans (by decide +kernel)) (show cX6_meetSum.data.toList[16]? = some 0x00 from (LBX6_meetSumr_1 0).trans (by decide +kernel)) (show cX6_meetSum.data.toList[17]? = some 0x4c from (LBX6_meetSumr_1 1).trans (by decide +kernel)) (by decide)
theorem dX6_meetSum_18 : decode cX6_meetSum 18 = .ok (.istore 4, 2) := dk_54_ (show cX6_meetSum.data.toList[18]? = some 0x36 from (LBX6_meetSumr_1 2).trans (by decide +kernel)) (show cX6_meetSum.data.toList[19]? = some 0x04 from (LBX6_meetSumr_1 3).trans (by decide +kernel)) (by decide)
theorem dX6_meetSum_20 : decode cX6_meetSum 20 = .ok (.aload_n 1, 1) := dk_43_ (show cX6_meetSum.data.toList[20]? = some 0x2b from (LBX6_meetSumr_1 4).trans (by decide +kernel))
theorem dX6_meetSum_21 : decode cX6_meetSum 21 = .ok (.iload_n 3, 1) := dk_29_ (show cX6_meetSum.data.toList[21]? = some 0x1d from (LBX6_meetSumr_1 5).trans (by decide +kernel))
theorem dX6_meetSum_22 : decode cX6_meetSum 22 = .ok (.iload 4, 2) := dk_21_ (show cX6_meetSum.data.toList[22]? = some 0x15 from (LBX6_meetSumr_1 6).trans (by decide +kernel)) (show cX6_meetSum.data.toList[23]? = some 0x04 from (LBX6_meetSumr_1 7).trans (by decide +kernel)) (by decide)
theorem dX6_meetSum_24 : decode cX6_meetSum 24 = .ok (.iconst 1, 1) := dk_4_ (show cX6_meetSum.data.toList[24]? = some 0x04 from (LBX6_meetSumr_1 8).trans (by decide +kernel))
theorem dX6_meetSum_25 : decode cX6_meetSum 25 = .ok (.invokevirtual 80, 3) := dk_182_ (show cX6_meetSum.data.toList[25]? = some 0xb6 from (LBX6_meetSumr_1 9).trans (by decide +kernel)) (show cX6_meetSum.data.toList[26]? = some 0x00 from (LBX6_meetSumr_1 10).trans (by decide +kernel)) (show cX6_meetSum.data.toList[27]? = some 0x50 from (LBX6_meetSumr_1 11).trans (by decide +kernel)) (by decide)
theorem dX6_meetSum_28 : decode cX6_meetSum 28 = .ok (.istore 5, 2) := dk_54_ (show cX6_meetSum.data.toList[28]? = some 0x36 from (LBX6_meetSumr_1 12).trans (by decide +kernel)) (show cX6_meetSum.data.toList[29]? = some 0x05 from (LBX6_meetSumr_1 13).trans (by decide +kernel)) (by decide)
theorem dX6_meetSum_30 : decode cX6_meetSum 30 = .ok (.iload 5, 2) := dk_21_ (show cX6_meetSum.data.toList[30]? = some 0x15 from (LBX6_meetSumr_1 14).trans (by decide +kernel)) (show cX6_meetSum.data.toList[31]? = some 0x05 from (LBX6_meetSumr_1 15).trans (by decide +kernel)) (by decide)
theorem dX6_meetSum_32 : decode cX6_meetSum 32 = .ok (.ifCond .ge 8, 3) := dk_156_ (show cX6_meetSum.data.toList[32]? = some 0x9c from (LBX6_meetSumr_2 0).trans (by decide +kernel)) (show cX6_meetSum.data.toList[33]? = some 0x00 from (LBX6_meetSumr_2 1).trans (by decide +kernel)) (show cX6_meetSum.data.toList[34]? = some 0x08 from (LBX6_meetSumr_2 2).trans (by decide +kernel)) (by decide)
theorem dX6_meetSum_35 : decode cX6_meetSum 35 = .ok (.ldc 43, 2) := dk_18_ (show cX6_meetSum.data.toList[35]? = some 0x12 from (LBX6_meetSumr_2 3).trans (by decide +kernel)) (show cX6_meetSum.data.toList[36]? = some 0x2b from (LBX6_meetSumr_2 4).trans (by decide +kernel)) (by decide)
theorem dX6_meetSum_37 : decode cX6_meetSum 37 = .ok (.goto 13, 3) := dk_167_ (show cX6_meetSum.data.toList[37]? = some 0xa7 from (LBX6_meetSumr_2 5).trans (by decide +kernel)) (show cX6_meetSum.data.toList[38]? = some 0x00 from (LBX6_meetSumr_2 6).trans (by decide +kernel)) (show cX6_meetSum.data.toList[39]? = some 0x0d from (LBX6_meetSumr_2 7).trans (by decide +kernel)) (by decide)
theorem dX6_meetSum_40 : decode cX6_meetSum 40 = .ok (.aload_n 1, 1) := dk_43_ (show cX6_meetSum.data.toList[40]? = some 0x2b from (LBX6_meetSumr_2 8).trans (by decide +kernel))
theorem dX6_meetSum_41 : decode cX6_meetSum 41 = .ok (.iload_n 3, 1) := dk_29_ (show cX6_meetSum.data.toList[41]? = some 0x1d from (LBX6_meetSumr_2 9).trans (by decide +kernel))
theorem dX6_meetSum_42 : decode cX6_meetSum 42 = .ok (.iload 4, 2) := dk_21_ (show cX6_meetSum.data.toList[42]? = some 0x15 from (LBX6_meetSumr_2 10).trans (by decide +kernel)) (show cX6_meetSum.data.toList[43]? = some 0x04 from (LBX6_meetSumr_2 11).trans (by decide +kernel)) (by decide)
theorem dX6_meetSum_44 : decode cX6_meetSum 44 = .ok (.iload 5, 2) := dk_21_ (show cX6_meetSum.data.toList[44]? = some 0x15 from (LBX6_meetSumr_2 12).trans (by decide +kernel)) (show cX6_meetSum.data.toList[45]? = some 0x05 from (LBX6_meetSumr_2 13).trans (by decide +kernel)) (by decide)
theorem dX6_meetSum_46 : decode cX6_meetSum 46 = .ok (.iconst 1, 1) := dk_4_ (show cX6_meetSum.data.toList[46]? = some 0x04 from (LBX6_meetSumr_2 14).trans (by decide +kernel))
theorem dX6_meetSum_47 : decode cX6_meetSum 47 = .ok (.invokevirtual 84, 3) := dk_182_ (show cX6_meetSum.data.toList[47]? = some 0xb6 from (LBX6_meetSumr_2 15).trans (by decide +kernel)) (show cX6_meetSum.data.toList[48]? = some 0x00 from (LBX6_meetSumr_3 0).trans (by decide +kernel)) (show cX6_meetSum.data.toList[49]? = some 0x54 from (LBX6_meetSumr_3 1).trans (by decide +kernel)) (by decide)
theorem dX6_meetSum_50 : decode cX6_meetSum 50 = .ok (.ireturn, 1) := dk_172_ (show cX6_meetSum.data.toList[50]? = some 0xac from (LBX6_meetSumr_3 2).trans (by decide +kernel))
def LRX6_pairsSum_5 : List UInt8 := []
def LBX6_pairsSum_4 : List UInt8 := [0x01, 0xa7, 0xff, 0xc4, 0x1d, 0xac]
def LRX6_pairsSum_4 : List UInt8 := LBX6_pairsSum_4 ++ LRX6_pairsSum_5
def LBX6_pairsSum_3 : List UInt8 := [0x15, 0x06, 0x15, 0x05, 0xb6, 0x00, 0x39, 0xb8, 0x00, 0x3e, 0xb8, 0x00, 0x3e, 0x3e, 0x84, 0x04]
def LRX6_pairsSum_3 : List UInt8 := LBX6_pairsSum_3 ++ LRX6_pairsSum_4
def LBX6_pairsSum_2 : List UInt8 := [0x60, 0xb6, 0x00, 0x31, 0x36, 0x06, 0x1d, 0x2b, 0x15, 0x05, 0x15, 0x06, 0xb6, 0x00, 0x39, 0x2b]
def LRX6_pairsSum_2 : List UInt8 := LBX6_pairsSum_2 ++ LRX6_pairsSum_3
def LBX6_pairsSum_1 : List UInt8 := [0x00, 0x35, 0x2a, 0x1c, 0x15, 0x04, 0xb6, 0x00, 0x31, 0x36, 0x05, 0x2a, 0x1c, 0x15, 0x04, 0x04]
def LRX6_pairsSum_1 : List UInt8 := LBX6_pairsSum_1 ++ LRX6_pairsSum_2
def LBX6_pairsSum_0 : List UInt8 := [0x03, 0x3e, 0x03, 0x36, 0x04, 0x15, 0x04, 0x04, 0x60, 0x2a, 0xb4, 0x00, 0x2c, 0x1c, 0x2e, 0xa2]
def LRX6_pairsSum_0 : List UInt8 := LBX6_pairsSum_0 ++ LRX6_pairsSum_1
set_option maxRecDepth 100000 in
theorem LBX6_pairsSum_eq : cX6_pairsSum.data.toList = LRX6_pairsSum_0 := by decide +kernel
theorem LBX6_pairsSumr_0 (k : Nat) : cX6_pairsSum.data.toList[0 + k]? = LRX6_pairsSum_0[k]? := by rw [LBX6_pairsSum_eq, Nat.zero_add]
theorem LBX6_pairsSumr_1 (k : Nat) : cX6_pairsSum.data.toList[16 + k]? = LRX6_pairsSum_1[k]? := by
  have h := LBX6_pairsSumr_0 (16 + k)
  rw [show 0 + (16 + k) = 16 + k by omega] at h
  rw [h]
  exact (List.getElem?_append_right (l₁ := LBX6_pairsSum_0) (l₂ := LRX6_pairsSum_1) (show 16 ≤ 16 + k by omega)).trans (congrArg (fun i => LRX6_pairsSum_1[i]?) (show 16 + k - 16 = k by omega))
theorem LBX6_pairsSumr_2 (k : Nat) : cX6_pairsSum.data.toList[32 + k]? = LRX6_pairsSum_2[k]? := by
  have h := LBX6_pairsSumr_1 (16 + k)
  rw [show 16 + (16 + k) = 32 + k by omega] at h
  rw [h]
  exact (List.getElem?_append_right (l₁ := LBX6_pairsSum_1) (l₂ := LRX6_pairsSum_2) (show 16 ≤ 16 + k by omega)).trans (congrArg (fun i => LRX6_pairsSum_2[i]?) (show 16 + k - 16 = k by omega))
theorem LBX6_pairsSumr_3 (k : Nat) : cX6_pairsSum.data.toList[48 + k]? = LRX6_pairsSum_3[k]? := by
  have h := LBX6_pairsSumr_2 (16 + k)
  rw [show 32 + (16 + k) = 48 + k by omega] at h
  rw [h]
  exact (List.getElem?_append_right (l₁ := LBX6_pairsSum_2) (l₂ := LRX6_pairsSum_3) (show 16 ≤ 16 + k by omega)).trans (congrArg (fun i => LRX6_pairsSum_3[i]?) (show 16 + k - 16 = k by omega))
theorem LBX6_pairsSumr_4 (k : Nat) : cX6_pairsSum.data.toList[64 + k]? = LRX6_pairsSum_4[k]? := by
  have h := LBX6_pairsSumr_3 (16 + k)
  rw [show 48 + (16 + k) = 64 + k by omega] at h
  rw [h]
  exact (List.getElem?_append_right (l₁ := LBX6_pairsSum_3) (l₂ := LRX6_pairsSum_4) (show 16 ≤ 16 + k by omega)).trans (congrArg (fun i => LRX6_pairsSum_4[i]?) (show 16 + k - 16 = k by omega))
theorem dX6_pairsSum_0 : decode cX6_pairsSum 0 = .ok (.iconst 0, 1) := dk_3_ (show cX6_pairsSum.data.toList[0]? = some 0x03 from (LBX6_pairsSumr_0 0).trans (by decide +kernel))
theorem dX6_pairsSum_1 : decode cX6_pairsSum 1 = .ok (.istore_n 3, 1) := dk_62_ (show cX6_pairsSum.data.toList[1]? = some 0x3e from (LBX6_pairsSumr_0 1).trans (by decide +kernel))
theorem dX6_pairsSum_2 : decode cX6_pairsSum 2 = .ok (.iconst 0, 1) := dk_3_ (show cX6_pairsSum.data.toList[2]? = some 0x03 from (LBX6_pairsSumr_0 2).trans (by decide +kernel))
theorem dX6_pairsSum_3 : decode cX6_pairsSum 3 = .ok (.istore 4, 2) := dk_54_ (show cX6_pairsSum.data.toList[3]? = some 0x36 from (LBX6_pairsSumr_0 3).trans (by decide +kernel)) (show cX6_pairsSum.data.toList[4]? = some 0x04 from (LBX6_pairsSumr_0 4).trans (by decide +kernel)) (by decide)
theorem dX6_pairsSum_5 : decode cX6_pairsSum 5 = .ok (.iload 4, 2) := dk_21_ (show cX6_pairsSum.data.toList[5]? = some 0x15 from (LBX6_pairsSumr_0 5).trans (by decide +kernel)) (show cX6_pairsSum.data.toList[6]? = some 0x04 from (LBX6_pairsSumr_0 6).trans (by decide +kernel)) (by decide)
theorem dX6_pairsSum_7 : decode cX6_pairsSum 7 = .ok (.iconst 1, 1) := dk_4_ (show cX6_pairsSum.data.toList[7]? = some 0x04 from (LBX6_pairsSumr_0 7).trans (by decide +kernel))
theorem dX6_pairsSum_8 : decode cX6_pairsSum 8 = .ok (.iadd, 1) := dk_96_ (show cX6_pairsSum.data.toList[8]? = some 0x60 from (LBX6_pairsSumr_0 8).trans (by decide +kernel))
theorem dX6_pairsSum_9 : decode cX6_pairsSum 9 = .ok (.aload_n 0, 1) := dk_42_ (show cX6_pairsSum.data.toList[9]? = some 0x2a from (LBX6_pairsSumr_0 9).trans (by decide +kernel))
theorem dX6_pairsSum_10 : decode cX6_pairsSum 10 = .ok (.getfield 44, 3) := dk_180_ (show cX6_pairsSum.data.toList[10]? = some 0xb4 from (LBX6_pairsSumr_0 10).trans (by decide +kernel)) (show cX6_pairsSum.data.toList[11]? = some 0x00 from (LBX6_pairsSumr_0 11).trans (by decide +kernel)) (show cX6_pairsSum.data.toList[12]? = some 0x2c from (LBX6_pairsSumr_0 12).trans (by decide +kernel)) (by decide)
theorem dX6_pairsSum_13 : decode cX6_pairsSum 13 = .ok (.iload_n 2, 1) := dk_28_ (show cX6_pairsSum.data.toList[13]? = some 0x1c from (LBX6_pairsSumr_0 13).trans (by decide +kernel))
theorem dX6_pairsSum_14 : decode cX6_pairsSum 14 = .ok (.iaload, 1) := dk_46_ (show cX6_pairsSum.data.toList[14]? = some 0x2e from (LBX6_pairsSumr_0 14).trans (by decide +kernel))
theorem dX6_pairsSum_15 : decode cX6_pairsSum 15 = .ok (.if_icmp .ge 53, 3) := dk_162_ (show cX6_pairsSum.data.toList[15]? = some 0xa2 from (LBX6_pairsSumr_0 15).trans (by decide +kernel)) (show cX6_pairsSum.data.toList[16]? = some 0x00 from (LBX6_pairsSumr_1 0).trans (by decide +kernel)) (show cX6_pairsSum.data.toList[17]? = some 0x35 from (LBX6_pairsSumr_1 1).trans (by decide +kernel)) (by decide)
theorem dX6_pairsSum_18 : decode cX6_pairsSum 18 = .ok (.aload_n 0, 1) := dk_42_ (show cX6_pairsSum.data.toList[18]? = some 0x2a from (LBX6_pairsSumr_1 2).trans (by decide +kernel))
theorem dX6_pairsSum_19 : decode cX6_pairsSum 19 = .ok (.iload_n 2, 1) := dk_28_ (show cX6_pairsSum.data.toList[19]? = some 0x1c from (LBX6_pairsSumr_1 3).trans (by decide +kernel))
theorem dX6_pairsSum_20 : decode cX6_pairsSum 20 = .ok (.iload 4, 2) := dk_21_ (show cX6_pairsSum.data.toList[20]? = some 0x15 from (LBX6_pairsSumr_1 4).trans (by decide +kernel)) (show cX6_pairsSum.data.toList[21]? = some 0x04 from (LBX6_pairsSumr_1 5).trans (by decide +kernel)) (by decide)
theorem dX6_pairsSum_22 : decode cX6_pairsSum 22 = .ok (.invokevirtual 49, 3) := dk_182_ (show cX6_pairsSum.data.toList[22]? = some 0xb6 from (LBX6_pairsSumr_1 6).trans (by decide +kernel)) (show cX6_pairsSum.data.toList[23]? = some 0x00 from (LBX6_pairsSumr_1 7).trans (by decide +kernel)) (show cX6_pairsSum.data.toList[24]? = some 0x31 from (LBX6_pairsSumr_1 8).trans (by decide +kernel)) (by decide)
theorem dX6_pairsSum_25 : decode cX6_pairsSum 25 = .ok (.istore 5, 2) := dk_54_ (show cX6_pairsSum.data.toList[25]? = some 0x36 from (LBX6_pairsSumr_1 9).trans (by decide +kernel)) (show cX6_pairsSum.data.toList[26]? = some 0x05 from (LBX6_pairsSumr_1 10).trans (by decide +kernel)) (by decide)
theorem dX6_pairsSum_27 : decode cX6_pairsSum 27 = .ok (.aload_n 0, 1) := dk_42_ (show cX6_pairsSum.data.toList[27]? = some 0x2a from (LBX6_pairsSumr_1 11).trans (by decide +kernel))
theorem dX6_pairsSum_28 : decode cX6_pairsSum 28 = .ok (.iload_n 2, 1) := dk_28_ (show cX6_pairsSum.data.toList[28]? = some 0x1c from (LBX6_pairsSumr_1 12).trans (by decide +kernel))
theorem dX6_pairsSum_29 : decode cX6_pairsSum 29 = .ok (.iload 4, 2) := dk_21_ (show cX6_pairsSum.data.toList[29]? = some 0x15 from (LBX6_pairsSumr_1 13).trans (by decide +kernel)) (show cX6_pairsSum.data.toList[30]? = some 0x04 from (LBX6_pairsSumr_1 14).trans (by decide +kernel)) (by decide)
theorem dX6_pairsSum_31 : decode cX6_pairsSum 31 = .ok (.iconst 1, 1) := dk_4_ (show cX6_pairsSum.data.toList[31]? = some 0x04 from (LBX6_pairsSumr_1 15).trans (by decide +kernel))
theorem dX6_pairsSum_32 : decode cX6_pairsSum 32 = .ok (.iadd, 1) := dk_96_ (show cX6_pairsSum.data.toList[32]? = some 0x60 from (LBX6_pairsSumr_2 0).trans (by decide +kernel))
theorem dX6_pairsSum_33 : decode cX6_pairsSum 33 = .ok (.invokevirtual 49, 3) := dk_182_ (show cX6_pairsSum.data.toList[33]? = some 0xb6 from (LBX6_pairsSumr_2 1).trans (by decide +kernel)) (show cX6_pairsSum.data.toList[34]? = some 0x00 from (LBX6_pairsSumr_2 2).trans (by decide +kernel)) (show cX6_pairsSum.data.toList[35]? = some 0x31 from (LBX6_pairsSumr_2 3).trans (by decide +kernel)) (by decide)
theorem dX6_pairsSum_36 : decode cX6_pairsSum 36 = .ok (.istore 6, 2) := dk_54_ (show cX6_pairsSum.data.toList[36]? = some 0x36 from (LBX6_pairsSumr_2 4).trans (by decide +kernel)) (show cX6_pairsSum.data.toList[37]? = some 0x06 from (LBX6_pairsSumr_2 5).trans (by decide +kernel)) (by decide)
theorem dX6_pairsSum_38 : decode cX6_pairsSum 38 = .ok (.iload_n 3, 1) := dk_29_ (show cX6_pairsSum.data.toList[38]? = some 0x1d from (LBX6_pairsSumr_2 6).trans (by decide +kernel))
theorem dX6_pairsSum_39 : decode cX6_pairsSum 39 = .ok (.aload_n 1, 1) := dk_43_ (show cX6_pairsSum.data.toList[39]? = some 0x2b from (LBX6_pairsSumr_2 7).trans (by decide +kernel))
theorem dX6_pairsSum_40 : decode cX6_pairsSum 40 = .ok (.iload 5, 2) := dk_21_ (show cX6_pairsSum.data.toList[40]? = some 0x15 from (LBX6_pairsSumr_2 8).trans (by decide +kernel)) (show cX6_pairsSum.data.toList[41]? = some 0x05 from (LBX6_pairsSumr_2 9).trans (by decide +kernel)) (by decide)
theorem dX6_pairsSum_42 : decode cX6_pairsSum 42 = .ok (.iload 6, 2) := dk_21_ (show cX6_pairsSum.data.toList[42]? = some 0x15 from (LBX6_pairsSumr_2 10).trans (by decide +kernel)) (show cX6_pairsSum.data.toList[43]? = some 0x06 from (LBX6_pairsSumr_2 11).trans (by decide +kernel)) (by decide)
theorem dX6_pairsSum_44 : decode cX6_pairsSum 44 = .ok (.invokevirtual 57, 3) := dk_182_ (show cX6_pairsSum.data.toList[44]? = some 0xb6 from (LBX6_pairsSumr_2 12).trans (by decide +kernel)) (show cX6_pairsSum.data.toList[45]? = some 0x00 from (LBX6_pairsSumr_2 13).trans (by decide +kernel)) (show cX6_pairsSum.data.toList[46]? = some 0x39 from (LBX6_pairsSumr_2 14).trans (by decide +kernel)) (by decide)
theorem dX6_pairsSum_47 : decode cX6_pairsSum 47 = .ok (.aload_n 1, 1) := dk_43_ (show cX6_pairsSum.data.toList[47]? = some 0x2b from (LBX6_pairsSumr_2 15).trans (by decide +kernel))
theorem dX6_pairsSum_48 : decode cX6_pairsSum 48 = .ok (.iload 6, 2) := dk_21_ (show cX6_pairsSum.data.toList[48]? = some 0x15 from (LBX6_pairsSumr_3 0).trans (by decide +kernel)) (show cX6_pairsSum.data.toList[49]? = some 0x06 from (LBX6_pairsSumr_3 1).trans (by decide +kernel)) (by decide)
theorem dX6_pairsSum_50 : decode cX6_pairsSum 50 = .ok (.iload 5, 2) := dk_21_ (show cX6_pairsSum.data.toList[50]? = some 0x15 from (LBX6_pairsSumr_3 2).trans (by decide +kernel)) (show cX6_pairsSum.data.toList[51]? = some 0x05 from (LBX6_pairsSumr_3 3).trans (by decide +kernel)) (by decide)
theorem dX6_pairsSum_52 : decode cX6_pairsSum 52 = .ok (.invokevirtual 57, 3) := dk_182_ (show cX6_pairsSum.data.toList[52]? = some 0xb6 from (LBX6_pairsSumr_3 4).trans (by decide +kernel)) (show cX6_pairsSum.data.toList[53]? = some 0x00 from (LBX6_pairsSumr_3 5).trans (by decide +kernel)) (show cX6_pairsSum.data.toList[54]? = some 0x39 from (LBX6_pairsSumr_3 6).trans (by decide +kernel)) (by decide)
theorem dX6_pairsSum_55 : decode cX6_pairsSum 55 = .ok (.invokestatic 62, 3) := dk_184_ (show cX6_pairsSum.data.toList[55]? = some 0xb8 from (LBX6_pairsSumr_3 7).trans (by decide +kernel)) (show cX6_pairsSum.data.toList[56]? = some 0x00 from (LBX6_pairsSumr_3 8).trans (by decide +kernel)) (show cX6_pairsSum.data.toList[57]? = some 0x3e from (LBX6_pairsSumr_3 9).trans (by decide +kernel)) (by decide)
theorem dX6_pairsSum_58 : decode cX6_pairsSum 58 = .ok (.invokestatic 62, 3) := dk_184_ (show cX6_pairsSum.data.toList[58]? = some 0xb8 from (LBX6_pairsSumr_3 10).trans (by decide +kernel)) (show cX6_pairsSum.data.toList[59]? = some 0x00 from (LBX6_pairsSumr_3 11).trans (by decide +kernel)) (show cX6_pairsSum.data.toList[60]? = some 0x3e from (LBX6_pairsSumr_3 12).trans (by decide +kernel)) (by decide)
theorem dX6_pairsSum_61 : decode cX6_pairsSum 61 = .ok (.istore_n 3, 1) := dk_62_ (show cX6_pairsSum.data.toList[61]? = some 0x3e from (LBX6_pairsSumr_3 13).trans (by decide +kernel))
theorem dX6_pairsSum_62 : decode cX6_pairsSum 62 = .ok (.iinc 4 1, 3) := dk_132_ (show cX6_pairsSum.data.toList[62]? = some 0x84 from (LBX6_pairsSumr_3 14).trans (by decide +kernel)) (show cX6_pairsSum.data.toList[63]? = some 0x04 from (LBX6_pairsSumr_3 15).trans (by decide +kernel)) (show cX6_pairsSum.data.toList[64]? = some 0x01 from (LBX6_pairsSumr_4 0).trans (by decide +kernel)) (by decide) (by decide)
theorem dX6_pairsSum_65 : decode cX6_pairsSum 65 = .ok (.goto (-60), 3) := dk_167_ (show cX6_pairsSum.data.toList[65]? = some 0xa7 from (LBX6_pairsSumr_4 1).trans (by decide +kernel)) (show cX6_pairsSum.data.toList[66]? = some 0xff from (LBX6_pairsSumr_4 2).trans (by decide +kernel)) (show cX6_pairsSum.data.toList[67]? = some 0xc4 from (LBX6_pairsSumr_4 3).trans (by decide +kernel)) (by decide)
theorem dX6_pairsSum_68 : decode cX6_pairsSum 68 = .ok (.iload_n 3, 1) := dk_29_ (show cX6_pairsSum.data.toList[68]? = some 0x1d from (LBX6_pairsSumr_4 4).trans (by decide +kernel))
theorem dX6_pairsSum_69 : decode cX6_pairsSum 69 = .ok (.ireturn, 1) := dk_172_ (show cX6_pairsSum.data.toList[69]? = some 0xac from (LBX6_pairsSumr_4 5).trans (by decide +kernel))
def LRX6_goOnFrom_7 : List UInt8 := []
def LBX6_goOnFrom_6 : List UInt8 := [0x5c, 0x4f, 0x84, 0x07, 0x01, 0xa7, 0xff, 0xad, 0xb1]
def LRX6_goOnFrom_6 : List UInt8 := LBX6_goOnFrom_6 ++ LRX6_goOnFrom_7
def LBX6_goOnFrom_5 : List UInt8 := [0xb4, 0x00, 0x09, 0x15, 0x09, 0x2a, 0xb4, 0x00, 0x09, 0x15, 0x09, 0x2e, 0x15, 0x08, 0xb8, 0x00]
def LRX6_goOnFrom_5 : List UInt8 := LBX6_goOnFrom_5 ++ LRX6_goOnFrom_6
def LBX6_goOnFrom_4 : List UInt8 := [0x15, 0x04, 0x04, 0x15, 0x07, 0x78, 0x80, 0x10, 0x06, 0x68, 0x15, 0x07, 0x60, 0x36, 0x09, 0x2a]
def LRX6_goOnFrom_4 : List UInt8 := LBX6_goOnFrom_4 ++ LRX6_goOnFrom_5
def LBX6_goOnFrom_3 : List UInt8 := [0x31, 0x2b, 0x1d, 0x15, 0x07, 0xb6, 0x00, 0x31, 0xb6, 0x00, 0x39, 0xb8, 0x00, 0x3e, 0x36, 0x08]
def LRX6_goOnFrom_3 : List UInt8 := LBX6_goOnFrom_3 ++ LRX6_goOnFrom_4
def LBX6_goOnFrom_2 : List UInt8 := [0x15, 0x07, 0x78, 0x7e, 0x9a, 0x00, 0x3e, 0x15, 0x06, 0x2c, 0x2b, 0x1d, 0x15, 0x05, 0xb6, 0x00]
def LRX6_goOnFrom_2 : List UInt8 := LBX6_goOnFrom_2 ++ LRX6_goOnFrom_3
def LBX6_goOnFrom_1 : List UInt8 := [0x36, 0x07, 0x15, 0x07, 0x2b, 0xb4, 0x00, 0x2c, 0x1d, 0x2e, 0xa2, 0x00, 0x4e, 0x15, 0x04, 0x04]
def LRX6_goOnFrom_1 : List UInt8 := LBX6_goOnFrom_1 ++ LRX6_goOnFrom_2
def LBX6_goOnFrom_0 : List UInt8 := [0x2a, 0xb4, 0x00, 0x09, 0x15, 0x04, 0x10, 0x06, 0x68, 0x15, 0x05, 0x60, 0x2e, 0x36, 0x06, 0x03]
def LRX6_goOnFrom_0 : List UInt8 := LBX6_goOnFrom_0 ++ LRX6_goOnFrom_1
set_option maxRecDepth 100000 in
theorem LBX6_goOnFrom_eq : cX6_goOnFrom.data.toList = LRX6_goOnFrom_0 := by decide +kernel
theorem LBX6_goOnFromr_0 (k : Nat) : cX6_goOnFrom.data.toList[0 + k]? = LRX6_goOnFrom_0[k]? := by rw [LBX6_goOnFrom_eq, Nat.zero_add]
theorem LBX6_goOnFromr_1 (k : Nat) : cX6_goOnFrom.data.toList[16 + k]? = LRX6_goOnFrom_1[k]? := by
  have h := LBX6_goOnFromr_0 (16 + k)
  rw [show 0 + (16 + k) = 16 + k by omega] at h
  rw [h]
  exact (List.getElem?_append_right (l₁ := LBX6_goOnFrom_0) (l₂ := LRX6_goOnFrom_1) (show 16 ≤ 16 + k by omega)).trans (congrArg (fun i => LRX6_goOnFrom_1[i]?) (show 16 + k - 16 = k by omega))
theorem LBX6_goOnFromr_2 (k : Nat) : cX6_goOnFrom.data.toList[32 + k]? = LRX6_goOnFrom_2[k]? := by
  have h := LBX6_goOnFromr_1 (16 + k)
  rw [show 16 + (16 + k) = 32 + k by omega] at h
  rw [h]
  exact (List.getElem?_append_right (l₁ := LBX6_goOnFrom_1) (l₂ := LRX6_goOnFrom_2) (show 16 ≤ 16 + k by omega)).trans (congrArg (fun i => LRX6_goOnFrom_2[i]?) (show 16 + k - 16 = k by omega))
theorem LBX6_goOnFromr_3 (k : Nat) : cX6_goOnFrom.data.toList[48 + k]? = LRX6_goOnFrom_3[k]? := by
  have h := LBX6_goOnFromr_2 (16 + k)
  rw [show 32 + (16 + k) = 48 + k by omega] at h
  rw [h]
  exact (List.getElem?_append_right (l₁ := LBX6_goOnFrom_2) (l₂ := LRX6_goOnFrom_3) (show 16 ≤ 16 + k by omega)).trans (congrArg (fun i => LRX6_goOnFrom_3[i]?) (show 16 + k - 16 = k by omega))
theorem LBX6_goOnFromr_4 (k : Nat) : cX6_goOnFrom.data.toList[64 + k]? = LRX6_goOnFrom_4[k]? := by
  have h := LBX6_goOnFromr_3 (16 + k)
  rw [show 48 + (16 + k) = 64 + k by omega] at h
  rw [h]
  exact (List.getElem?_append_right (l₁ := LBX6_goOnFrom_3) (l₂ := LRX6_goOnFrom_4) (show 16 ≤ 16 + k by omega)).trans (congrArg (fun i => LRX6_goOnFrom_4[i]?) (show 16 + k - 16 = k by omega))
theorem LBX6_goOnFromr_5 (k : Nat) : cX6_goOnFrom.data.toList[80 + k]? = LRX6_goOnFrom_5[k]? := by
  have h := LBX6_goOnFromr_4 (16 + k)
  rw [show 64 + (16 + k) = 80 + k by omega] at h
  rw [h]
  exact (List.getElem?_append_right (l₁ := LBX6_goOnFrom_4) (l₂ := LRX6_goOnFrom_5) (show 16 ≤ 16 + k by omega)).trans (congrArg (fun i => LRX6_goOnFrom_5[i]?) (show 16 + k - 16 = k by omega))
theorem LBX6_goOnFromr_6 (k : Nat) : cX6_goOnFrom.data.toList[96 + k]? = LRX6_goOnFrom_6[k]? := by
  have h := LBX6_goOnFromr_5 (16 + k)
  rw [show 80 + (16 + k) = 96 + k by omega] at h
  rw [h]
  exact (List.getElem?_append_right (l₁ := LBX6_goOnFrom_5) (l₂ := LRX6_goOnFrom_6) (show 16 ≤ 16 + k by omega)).trans (congrArg (fun i => LRX6_goOnFrom_6[i]?) (show 16 + k - 16 = k by omega))
theorem dX6_goOnFrom_0 : decode cX6_goOnFrom 0 = .ok (.aload_n 0, 1) := dk_42_ (show cX6_goOnFrom.data.toList[0]? = some 0x2a from (LBX6_goOnFromr_0 0).trans (by decide +kernel))
theorem dX6_goOnFrom_1 : decode cX6_goOnFrom 1 = .ok (.getfield 9, 3) := dk_180_ (show cX6_goOnFrom.data.toList[1]? = some 0xb4 from (LBX6_goOnFromr_0 1).trans (by decide +kernel)) (show cX6_goOnFrom.data.toList[2]? = some 0x00 from (LBX6_goOnFromr_0 2).trans (by decide +kernel)) (show cX6_goOnFrom.data.toList[3]? = some 0x09 from (LBX6_goOnFromr_0 3).trans (by decide +kernel)) (by decide)
theorem dX6_goOnFrom_4 : decode cX6_goOnFrom 4 = .ok (.iload 4, 2) := dk_21_ (show cX6_goOnFrom.data.toList[4]? = some 0x15 from (LBX6_goOnFromr_0 4).trans (by decide +kernel)) (show cX6_goOnFrom.data.toList[5]? = some 0x04 from (LBX6_goOnFromr_0 5).trans (by decide +kernel)) (by decide)
theorem dX6_goOnFrom_6 : decode cX6_goOnFrom 6 = .ok (.bipush 6, 2) := dk_16_ (show cX6_goOnFrom.data.toList[6]? = some 0x10 from (LBX6_goOnFromr_0 6).trans (by decide +kernel)) (show cX6_goOnFrom.data.toList[7]? = some 0x06 from (LBX6_goOnFromr_0 7).trans (by decide +kernel)) (by decide)
theorem dX6_goOnFrom_8 : decode cX6_goOnFrom 8 = .ok (.imul, 1) := dk_104_ (show cX6_goOnFrom.data.toList[8]? = some 0x68 from (LBX6_goOnFromr_0 8).trans (by decide +kernel))
theorem dX6_goOnFrom_9 : decode cX6_goOnFrom 9 = .ok (.iload 5, 2) := dk_21_ (show cX6_goOnFrom.data.toList[9]? = some 0x15 from (LBX6_goOnFromr_0 9).trans (by decide +kernel)) (show cX6_goOnFrom.data.toList[10]? = some 0x05 from (LBX6_goOnFromr_0 10).trans (by decide +kernel)) (by decide)
theorem dX6_goOnFrom_11 : decode cX6_goOnFrom 11 = .ok (.iadd, 1) := dk_96_ (show cX6_goOnFrom.data.toList[11]? = some 0x60 from (LBX6_goOnFromr_0 11).trans (by decide +kernel))
theorem dX6_goOnFrom_12 : decode cX6_goOnFrom 12 = .ok (.iaload, 1) := dk_46_ (show cX6_goOnFrom.data.toList[12]? = some 0x2e from (LBX6_goOnFromr_0 12).trans (by decide +kernel))
theorem dX6_goOnFrom_13 : decode cX6_goOnFrom 13 = .ok (.istore 6, 2) := dk_54_ (show cX6_goOnFrom.data.toList[13]? = some 0x36 from (LBX6_goOnFromr_0 13).trans (by decide +kernel)) (show cX6_goOnFrom.data.toList[14]? = some 0x06 from (LBX6_goOnFromr_0 14).trans (by decide +kernel)) (by decide)
theorem dX6_goOnFrom_15 : decode cX6_goOnFrom 15 = .ok (.iconst 0, 1) := dk_3_ (show cX6_goOnFrom.data.toList[15]? = some 0x03 from (LBX6_goOnFromr_0 15).trans (by decide +kernel))
theorem dX6_goOnFrom_16 : decode cX6_goOnFrom 16 = .ok (.istore 7, 2) := dk_54_ (show cX6_goOnFrom.data.toList[16]? = some 0x36 from (LBX6_goOnFromr_1 0).trans (by decide +kernel)) (show cX6_goOnFrom.data.toList[17]? = some 0x07 from (LBX6_goOnFromr_1 1).trans (by decide +kernel)) (by decide)
theorem dX6_goOnFrom_18 : decode cX6_goOnFrom 18 = .ok (.iload 7, 2) := dk_21_ (show cX6_goOnFrom.data.toList[18]? = some 0x15 from (LBX6_goOnFromr_1 2).trans (by decide +kernel)) (show cX6_goOnFrom.data.toList[19]? = some 0x07 from (LBX6_goOnFromr_1 3).trans (by decide +kernel)) (by decide)
theorem dX6_goOnFrom_20 : decode cX6_goOnFrom 20 = .ok (.aload_n 1, 1) := dk_43_ (show cX6_goOnFrom.data.toList[20]? = some 0x2b from (LBX6_goOnFromr_1 4).trans (by decide +kernel))
theorem dX6_goOnFrom_21 : decode cX6_goOnFrom 21 = .ok (.getfield 44, 3) := dk_180_ (show cX6_goOnFrom.data.toList[21]? = some 0xb4 from (LBX6_goOnFromr_1 5).trans (by decide +kernel)) (show cX6_goOnFrom.data.toList[22]? = some 0x00 from (LBX6_goOnFromr_1 6).trans (by decide +kernel)) (show cX6_goOnFrom.data.toList[23]? = some 0x2c from (LBX6_goOnFromr_1 7).trans (by decide +kernel)) (by decide)
theorem dX6_goOnFrom_24 : decode cX6_goOnFrom 24 = .ok (.iload_n 3, 1) := dk_29_ (show cX6_goOnFrom.data.toList[24]? = some 0x1d from (LBX6_goOnFromr_1 8).trans (by decide +kernel))
theorem dX6_goOnFrom_25 : decode cX6_goOnFrom 25 = .ok (.iaload, 1) := dk_46_ (show cX6_goOnFrom.data.toList[25]? = some 0x2e from (LBX6_goOnFromr_1 9).trans (by decide +kernel))
theorem dX6_goOnFrom_26 : decode cX6_goOnFrom 26 = .ok (.if_icmp .ge 78, 3) := dk_162_ (show cX6_goOnFrom.data.toList[26]? = some 0xa2 from (LBX6_goOnFromr_1 10).trans (by decide +kernel)) (show cX6_goOnFrom.data.toList[27]? = some 0x00 from (LBX6_goOnFromr_1 11).trans (by decide +kernel)) (show cX6_goOnFrom.data.toList[28]? = some 0x4e from (LBX6_goOnFromr_1 12).trans (by decide +kernel)) (by decide)
theorem dX6_goOnFrom_29 : decode cX6_goOnFrom 29 = .ok (.iload 4, 2) := dk_21_ (show cX6_goOnFrom.data.toList[29]? = some 0x15 from (LBX6_goOnFromr_1 13).trans (by decide +kernel)) (show cX6_goOnFrom.data.toList[30]? = some 0x04 from (LBX6_goOnFromr_1 14).trans (by decide +kernel)) (by decide)
theorem dX6_goOnFrom_31 : decode cX6_goOnFrom 31 = .ok (.iconst 1, 1) := dk_4_ (show cX6_goOnFrom.data.toList[31]? = some 0x04 from (LBX6_goOnFromr_1 15).trans (by decide +kernel))
theorem dX6_goOnFrom_32 : decode cX6_goOnFrom 32 = .ok (.iload 7, 2) := dk_21_ (show cX6_goOnFrom.data.toList[32]? = some 0x15 from (LBX6_goOnFromr_2 0).trans (by decide +kernel)) (show cX6_goOnFrom.data.toList[33]? = some 0x07 from (LBX6_goOnFromr_2 1).trans (by decide +kernel)) (by decide)
theorem dX6_goOnFrom_34 : decode cX6_goOnFrom 34 = .ok (.ishl, 1) := dk_120_ (show cX6_goOnFrom.data.toList[34]? = some 0x78 from (LBX6_goOnFromr_2 2).trans (by decide +kernel))
theorem dX6_goOnFrom_35 : decode cX6_goOnFrom 35 = .ok (.iand, 1) := dk_126_ (show cX6_goOnFrom.data.toList[35]? = some 0x7e from (LBX6_goOnFromr_2 3).trans (by decide +kernel))
theorem dX6_goOnFrom_36 : decode cX6_goOnFrom 36 = .ok (.ifCond .ne 62, 3) := dk_154_ (show cX6_goOnFrom.data.toList[36]? = some 0x9a from (LBX6_goOnFromr_2 4).trans (by decide +kernel)) (show cX6_goOnFrom.data.toList[37]? = some 0x00 from (LBX6_goOnFromr_2 5).trans (by decide +kernel)) (show cX6_goOnFrom.data.toList[38]? = some 0x3e from (LBX6_goOnFromr_2 6).trans (by decide +kernel)) (by decide)
theorem dX6_goOnFrom_39 : decode cX6_goOnFrom 39 = .ok (.iload 6, 2) := dk_21_ (show cX6_goOnFrom.data.toList[39]? = some 0x15 from (LBX6_goOnFromr_2 7).trans (by decide +kernel)) (show cX6_goOnFrom.data.toList[40]? = some 0x06 from (LBX6_goOnFromr_2 8).trans (by decide +kernel)) (by decide)
theorem dX6_goOnFrom_41 : decode cX6_goOnFrom 41 = .ok (.aload_n 2, 1) := dk_44_ (show cX6_goOnFrom.data.toList[41]? = some 0x2c from (LBX6_goOnFromr_2 9).trans (by decide +kernel))
theorem dX6_goOnFrom_42 : decode cX6_goOnFrom 42 = .ok (.aload_n 1, 1) := dk_43_ (show cX6_goOnFrom.data.toList[42]? = some 0x2b from (LBX6_goOnFromr_2 10).trans (by decide +kernel))
theorem dX6_goOnFrom_43 : decode cX6_goOnFrom 43 = .ok (.iload_n 3, 1) := dk_29_ (show cX6_goOnFrom.data.toList[43]? = some 0x1d from (LBX6_goOnFromr_2 11).trans (by decide +kernel))
theorem dX6_goOnFrom_44 : decode cX6_goOnFrom 44 = .ok (.iload 5, 2) := dk_21_ (show cX6_goOnFrom.data.toList[44]? = some 0x15 from (LBX6_goOnFromr_2 12).trans (by decide +kernel)) (show cX6_goOnFrom.data.toList[45]? = some 0x05 from (LBX6_goOnFromr_2 13).trans (by decide +kernel)) (by decide)
theorem dX6_goOnFrom_46 : decode cX6_goOnFrom 46 = .ok (.invokevirtual 49, 3) := dk_182_ (show cX6_goOnFrom.data.toList[46]? = some 0xb6 from (LBX6_goOnFromr_2 14).trans (by decide +kernel)) (show cX6_goOnFrom.data.toList[47]? = some 0x00 from (LBX6_goOnFromr_2 15).trans (by decide +kernel)) (show cX6_goOnFrom.data.toList[48]? = some 0x31 from (LBX6_goOnFromr_3 0).trans (by decide +kernel)) (by decide)
theorem dX6_goOnFrom_49 : decode cX6_goOnFrom 49 = .ok (.aload_n 1, 1) := dk_43_ (show cX6_goOnFrom.data.toList[49]? = some 0x2b from (LBX6_goOnFromr_3 1).trans (by decide +kernel))
theorem dX6_goOnFrom_50 : decode cX6_goOnFrom 50 = .ok (.iload_n 3, 1) := dk_29_ (show cX6_goOnFrom.data.toList[50]? = some 0x1d from (LBX6_goOnFromr_3 2).trans (by decide +kernel))
theorem dX6_goOnFrom_51 : decode cX6_goOnFrom 51 = .ok (.iload 7, 2) := dk_21_ (show cX6_goOnFrom.data.toList[51]? = some 0x15 from (LBX6_goOnFromr_3 3).trans (by decide +kernel)) (show cX6_goOnFrom.data.toList[52]? = some 0x07 from (LBX6_goOnFromr_3 4).trans (by decide +kernel)) (by decide)
theorem dX6_goOnFrom_53 : decode cX6_goOnFrom 53 = .ok (.invokevirtual 49, 3) := dk_182_ (show cX6_goOnFrom.data.toList[53]? = some 0xb6 from (LBX6_goOnFromr_3 5).trans (by decide +kernel)) (show cX6_goOnFrom.data.toList[54]? = some 0x00 from (LBX6_goOnFromr_3 6).trans (by decide +kernel)) (show cX6_goOnFrom.data.toList[55]? = some 0x31 from (LBX6_goOnFromr_3 7).trans (by decide +kernel)) (by decide)
theorem dX6_goOnFrom_56 : decode cX6_goOnFrom 56 = .ok (.invokevirtual 57, 3) := dk_182_ (show cX6_goOnFrom.data.toList[56]? = some 0xb6 from (LBX6_goOnFromr_3 8).trans (by decide +kernel)) (show cX6_goOnFrom.data.toList[57]? = some 0x00 from (LBX6_goOnFromr_3 9).trans (by decide +kernel)) (show cX6_goOnFrom.data.toList[58]? = some 0x39 from (LBX6_goOnFromr_3 10).trans (by decide +kernel)) (by decide)
theorem dX6_goOnFrom_59 : decode cX6_goOnFrom 59 = .ok (.invokestatic 62, 3) := dk_184_ (show cX6_goOnFrom.data.toList[59]? = some 0xb8 from (LBX6_goOnFromr_3 11).trans (by decide +kernel)) (show cX6_goOnFrom.data.toList[60]? = some 0x00 from (LBX6_goOnFromr_3 12).trans (by decide +kernel)) (show cX6_goOnFrom.data.toList[61]? = some 0x3e from (LBX6_goOnFromr_3 13).trans (by decide +kernel)) (by decide)
theorem dX6_goOnFrom_62 : decode cX6_goOnFrom 62 = .ok (.istore 8, 2) := dk_54_ (show cX6_goOnFrom.data.toList[62]? = some 0x36 from (LBX6_goOnFromr_3 14).trans (by decide +kernel)) (show cX6_goOnFrom.data.toList[63]? = some 0x08 from (LBX6_goOnFromr_3 15).trans (by decide +kernel)) (by decide)
theorem dX6_goOnFrom_64 : decode cX6_goOnFrom 64 = .ok (.iload 4, 2) := dk_21_ (show cX6_goOnFrom.data.toList[64]? = some 0x15 from (LBX6_goOnFromr_4 0).trans (by decide +kernel)) (show cX6_goOnFrom.data.toList[65]? = some 0x04 from (LBX6_goOnFromr_4 1).trans (by decide +kernel)) (by decide)
theorem dX6_goOnFrom_66 : decode cX6_goOnFrom 66 = .ok (.iconst 1, 1) := dk_4_ (show cX6_goOnFrom.data.toList[66]? = some 0x04 from (LBX6_goOnFromr_4 2).trans (by decide +kernel))
theorem dX6_goOnFrom_67 : decode cX6_goOnFrom 67 = .ok (.iload 7, 2) := dk_21_ (show cX6_goOnFrom.data.toList[67]? = some 0x15 from (LBX6_goOnFromr_4 3).trans (by decide +kernel)) (show cX6_goOnFrom.data.toList[68]? = some 0x07 from (LBX6_goOnFromr_4 4).trans (by decide +kernel)) (by decide)
theorem dX6_goOnFrom_69 : decode cX6_goOnFrom 69 = .ok (.ishl, 1) := dk_120_ (show cX6_goOnFrom.data.toList[69]? = some 0x78 from (LBX6_goOnFromr_4 5).trans (by decide +kernel))
theorem dX6_goOnFrom_70 : decode cX6_goOnFrom 70 = .ok (.ior, 1) := dk_128_ (show cX6_goOnFrom.data.toList[70]? = some 0x80 from (LBX6_goOnFromr_4 6).trans (by decide +kernel))
theorem dX6_goOnFrom_71 : decode cX6_goOnFrom 71 = .ok (.bipush 6, 2) := dk_16_ (show cX6_goOnFrom.data.toList[71]? = some 0x10 from (LBX6_goOnFromr_4 7).trans (by decide +kernel)) (show cX6_goOnFrom.data.toList[72]? = some 0x06 from (LBX6_goOnFromr_4 8).trans (by decide +kernel)) (by decide)
theorem dX6_goOnFrom_73 : decode cX6_goOnFrom 73 = .ok (.imul, 1) := dk_104_ (show cX6_goOnFrom.data.toList[73]? = some 0x68 from (LBX6_goOnFromr_4 9).trans (by decide +kernel))
theorem dX6_goOnFrom_74 : decode cX6_goOnFrom 74 = .ok (.iload 7, 2) := dk_21_ (show cX6_goOnFrom.data.toList[74]? = some 0x15 from (LBX6_goOnFromr_4 10).trans (by decide +kernel)) (show cX6_goOnFrom.data.toList[75]? = some 0x07 from (LBX6_goOnFromr_4 11).trans (by decide +kernel)) (by decide)
theorem dX6_goOnFrom_76 : decode cX6_goOnFrom 76 = .ok (.iadd, 1) := dk_96_ (show cX6_goOnFrom.data.toList[76]? = some 0x60 from (LBX6_goOnFromr_4 12).trans (by decide +kernel))
theorem dX6_goOnFrom_77 : decode cX6_goOnFrom 77 = .ok (.istore 9, 2) := dk_54_ (show cX6_goOnFrom.data.toList[77]? = some 0x36 from (LBX6_goOnFromr_4 13).trans (by decide +kernel)) (show cX6_goOnFrom.data.toList[78]? = some 0x09 from (LBX6_goOnFromr_4 14).trans (by decide +kernel)) (by decide)
theorem dX6_goOnFrom_79 : decode cX6_goOnFrom 79 = .ok (.aload_n 0, 1) := dk_42_ (show cX6_goOnFrom.data.toList[79]? = some 0x2a from (LBX6_goOnFromr_4 15).trans (by decide +kernel))
theorem dX6_goOnFrom_80 : decode cX6_goOnFrom 80 = .ok (.getfield 9, 3) := dk_180_ (show cX6_goOnFrom.data.toList[80]? = some 0xb4 from (LBX6_goOnFromr_5 0).trans (by decide +kernel)) (show cX6_goOnFrom.data.toList[81]? = some 0x00 from (LBX6_goOnFromr_5 1).trans (by decide +kernel)) (show cX6_goOnFrom.data.toList[82]? = some 0x09 from (LBX6_goOnFromr_5 2).trans (by decide +kernel)) (by decide)
theorem dX6_goOnFrom_83 : decode cX6_goOnFrom 83 = .ok (.iload 9, 2) := dk_21_ (show cX6_goOnFrom.data.toList[83]? = some 0x15 from (LBX6_goOnFromr_5 3).trans (by decide +kernel)) (show cX6_goOnFrom.data.toList[84]? = some 0x09 from (LBX6_goOnFromr_5 4).trans (by decide +kernel)) (by decide)
theorem dX6_goOnFrom_85 : decode cX6_goOnFrom 85 = .ok (.aload_n 0, 1) := dk_42_ (show cX6_goOnFrom.data.toList[85]? = some 0x2a from (LBX6_goOnFromr_5 5).trans (by decide +kernel))
theorem dX6_goOnFrom_86 : decode cX6_goOnFrom 86 = .ok (.getfield 9, 3) := dk_180_ (show cX6_goOnFrom.data.toList[86]? = some 0xb4 from (LBX6_goOnFromr_5 6).trans (by decide +kernel)) (show cX6_goOnFrom.data.toList[87]? = some 0x00 from (LBX6_goOnFromr_5 7).trans (by decide +kernel)) (show cX6_goOnFrom.data.toList[88]? = some 0x09 from (LBX6_goOnFromr_5 8).trans (by decide +kernel)) (by decide)
theorem dX6_goOnFrom_89 : decode cX6_goOnFrom 89 = .ok (.iload 9, 2) := dk_21_ (show cX6_goOnFrom.data.toList[89]? = some 0x15 from (LBX6_goOnFromr_5 9).trans (by decide +kernel)) (show cX6_goOnFrom.data.toList[90]? = some 0x09 from (LBX6_goOnFromr_5 10).trans (by decide +kernel)) (by decide)
theorem dX6_goOnFrom_91 : decode cX6_goOnFrom 91 = .ok (.iaload, 1) := dk_46_ (show cX6_goOnFrom.data.toList[91]? = some 0x2e from (LBX6_goOnFromr_5 11).trans (by decide +kernel))
theorem dX6_goOnFrom_92 : decode cX6_goOnFrom 92 = .ok (.iload 8, 2) := dk_21_ (show cX6_goOnFrom.data.toList[92]? = some 0x15 from (LBX6_goOnFromr_5 12).trans (by decide +kernel)) (show cX6_goOnFrom.data.toList[93]? = some 0x08 from (LBX6_goOnFromr_5 13).trans (by decide +kernel)) (by decide)
theorem dX6_goOnFrom_94 : decode cX6_goOnFrom 94 = .ok (.invokestatic 92, 3) := dk_184_ (show cX6_goOnFrom.data.toList[94]? = some 0xb8 from (LBX6_goOnFromr_5 14).trans (by decide +kernel)) (show cX6_goOnFrom.data.toList[95]? = some 0x00 from (LBX6_goOnFromr_5 15).trans (by decide +kernel)) (show cX6_goOnFrom.data.toList[96]? = some 0x5c from (LBX6_goOnFromr_6 0).trans (by decide +kernel)) (by decide)
theorem dX6_goOnFrom_97 : decode cX6_goOnFrom 97 = .ok (.iastore, 1) := dk_79_ (show cX6_goOnFrom.data.toList[97]? = some 0x4f from (LBX6_goOnFromr_6 1).trans (by decide +kernel))
theorem dX6_goOnFrom_98 : decode cX6_goOnFrom 98 = .ok (.iinc 7 1, 3) := dk_132_ (show cX6_goOnFrom.data.toList[98]? = some 0x84 from (LBX6_goOnFromr_6 2).trans (by decide +kernel)) (show cX6_goOnFrom.data.toList[99]? = some 0x07 from (LBX6_goOnFromr_6 3).trans (by decide +kernel)) (show cX6_goOnFrom.data.toList[100]? = some 0x01 from (LBX6_goOnFromr_6 4).trans (by decide +kernel)) (by decide) (by decide)
theorem dX6_goOnFrom_101 : decode cX6_goOnFrom 101 = .ok (.goto (-83), 3) := dk_167_ (show cX6_goOnFrom.data.toList[101]? = some 0xa7 from (LBX6_goOnFromr_6 5).trans (by decide +kernel)) (show cX6_goOnFrom.data.toList[102]? = some 0xff from (LBX6_goOnFromr_6 6).trans (by decide +kernel)) (show cX6_goOnFrom.data.toList[103]? = some 0xad from (LBX6_goOnFromr_6 7).trans (by decide +kernel)) (by decide)
theorem dX6_goOnFrom_104 : decode cX6_goOnFrom 104 = .ok (.return_, 1) := dk_177_ (show cX6_goOnFrom.data.toList[104]? = some 0xb1 from (LBX6_goOnFromr_6 8).trans (by decide +kernel))
def LRX6_orderStops_7 : List UInt8 := []
def LBX6_orderStops_6 : List UInt8 := [0xb6, 0x00, 0x61, 0x84, 0x06, 0x01, 0xa7, 0xff, 0xd5, 0x84, 0x05, 0x01, 0xa7, 0xff, 0xc5, 0xb1]
def LRX6_orderStops_6 : List UInt8 := LBX6_orderStops_6 ++ LRX6_orderStops_7
def LBX6_orderStops_5 : List UInt8 := [0x06, 0x60, 0x2e, 0x12, 0x2b, 0x9f, 0x00, 0x0e, 0x2a, 0x2b, 0x2c, 0x1d, 0x15, 0x05, 0x15, 0x06]
def LRX6_orderStops_5 : List UInt8 := LBX6_orderStops_5 ++ LRX6_orderStops_6
def LBX6_orderStops_4 : List UInt8 := [0x2c, 0x1d, 0x2e, 0xa2, 0x00, 0x26, 0x2a, 0xb4, 0x00, 0x09, 0x15, 0x05, 0x10, 0x06, 0x68, 0x15]
def LRX6_orderStops_4 : List UInt8 := LBX6_orderStops_4 ++ LRX6_orderStops_5
def LBX6_orderStops_3 : List UInt8 := [0x05, 0x15, 0x05, 0x15, 0x04, 0xa2, 0x00, 0x3a, 0x03, 0x36, 0x06, 0x15, 0x06, 0x2b, 0xb4, 0x00]
def LRX6_orderStops_3 : List UInt8 := LBX6_orderStops_3 ++ LRX6_orderStops_4
def LBX6_orderStops_2 : List UInt8 := [0x84, 0x05, 0x01, 0xa7, 0xff, 0xea, 0x2a, 0xb4, 0x00, 0x09, 0x10, 0x06, 0x03, 0x4f, 0x04, 0x36]
def LRX6_orderStops_2 : List UInt8 := LBX6_orderStops_2 ++ LRX6_orderStops_3
def LBX6_orderStops_1 : List UInt8 := [0x04, 0x10, 0x06, 0x68, 0xa2, 0x00, 0x12, 0x2a, 0xb4, 0x00, 0x09, 0x15, 0x05, 0x12, 0x2b, 0x4f]
def LRX6_orderStops_1 : List UInt8 := LBX6_orderStops_1 ++ LRX6_orderStops_2
def LBX6_orderStops_0 : List UInt8 := [0x04, 0x2b, 0xb4, 0x00, 0x2c, 0x1d, 0x2e, 0x78, 0x36, 0x04, 0x03, 0x36, 0x05, 0x15, 0x05, 0x15]
def LRX6_orderStops_0 : List UInt8 := LBX6_orderStops_0 ++ LRX6_orderStops_1
set_option maxRecDepth 100000 in
theorem LBX6_orderStops_eq : cX6_orderStops.data.toList = LRX6_orderStops_0 := by decide +kernel
theorem LBX6_orderStopsr_0 (k : Nat) : cX6_orderStops.data.toList[0 + k]? = LRX6_orderStops_0[k]? := by rw [LBX6_orderStops_eq, Nat.zero_add]
theorem LBX6_orderStopsr_1 (k : Nat) : cX6_orderStops.data.toList[16 + k]? = LRX6_orderStops_1[k]? := by
  have h := LBX6_orderStopsr_0 (16 + k)
  rw [show 0 + (16 + k) = 16 + k by omega] at h
  rw [h]
  exact (List.getElem?_append_right (l₁ := LBX6_orderStops_0) (l₂ := LRX6_orderStops_1) (show 16 ≤ 16 + k by omega)).trans (congrArg (fun i => LRX6_orderStops_1[i]?) (show 16 + k - 16 = k by omega))
theorem LBX6_orderStopsr_2 (k : Nat) : cX6_orderStops.data.toList[32 + k]? = LRX6_orderStops_2[k]? := by
  have h := LBX6_orderStopsr_1 (16 + k)
  rw [show 16 + (16 + k) = 32 + k by omega] at h
  rw [h]
  exact (List.getElem?_append_right (l₁ := LBX6_orderStops_1) (l₂ := LRX6_orderStops_2) (show 16 ≤ 16 + k by omega)).trans (congrArg (fun i => LRX6_orderStops_2[i]?) (show 16 + k - 16 = k by omega))
theorem LBX6_orderStopsr_3 (k : Nat) : cX6_orderStops.data.toList[48 + k]? = LRX6_orderStops_3[k]? := by
  have h := LBX6_orderStopsr_2 (16 + k)
  rw [show 32 + (16 + k) = 48 + k by omega] at h
  rw [h]
  exact (List.getElem?_append_right (l₁ := LBX6_orderStops_2) (l₂ := LRX6_orderStops_3) (show 16 ≤ 16 + k by omega)).trans (congrArg (fun i => LRX6_orderStops_3[i]?) (show 16 + k - 16 = k by omega))
theorem LBX6_orderStopsr_4 (k : Nat) : cX6_orderStops.data.toList[64 + k]? = LRX6_orderStops_4[k]? := by
  have h := LBX6_orderStopsr_3 (16 + k)
  rw [show 48 + (16 + k) = 64 + k by omega] at h
  rw [h]
  exact (List.getElem?_append_right (l₁ := LBX6_orderStops_3) (l₂ := LRX6_orderStops_4) (show 16 ≤ 16 + k by omega)).trans (congrArg (fun i => LRX6_orderStops_4[i]?) (show 16 + k - 16 = k by omega))
theorem LBX6_orderStopsr_5 (k : Nat) : cX6_orderStops.data.toList[80 + k]? = LRX6_orderStops_5[k]? := by
  have h := LBX6_orderStopsr_4 (16 + k)
  rw [show 64 + (16 + k) = 80 + k by omega] at h
  rw [h]
  exact (List.getElem?_append_right (l₁ := LBX6_orderStops_4) (l₂ := LRX6_orderStops_5) (show 16 ≤ 16 + k by omega)).trans (congrArg (fun i => LRX6_orderStops_5[i]?) (show 16 + k - 16 = k by omega))
theorem LBX6_orderStopsr_6 (k : Nat) : cX6_orderStops.data.toList[96 + k]? = LRX6_orderStops_6[k]? := by
  have h := LBX6_orderStopsr_5 (16 + k)
  rw [show 80 + (16 + k) = 96 + k by omega] at h
  rw [h]
  exact (List.getElem?_append_right (l₁ := LBX6_orderStops_5) (l₂ := LRX6_orderStops_6) (show 16 ≤ 16 + k by omega)).trans (congrArg (fun i => LRX6_orderStops_6[i]?) (show 16 + k - 16 = k by omega))
theorem dX6_orderStops_0 : decode cX6_orderStops 0 = .ok (.iconst 1, 1) := dk_4_ (show cX6_orderStops.data.toList[0]? = some 0x04 from (LBX6_orderStopsr_0 0).trans (by decide +kernel))
theorem dX6_orderStops_1 : decode cX6_orderStops 1 = .ok (.aload_n 1, 1) := dk_43_ (show cX6_orderStops.data.toList[1]? = some 0x2b from (LBX6_orderStopsr_0 1).trans (by decide +kernel))
theorem dX6_orderStops_2 : decode cX6_orderStops 2 = .ok (.getfield 44, 3) := dk_180_ (show cX6_orderStops.data.toList[2]? = some 0xb4 from (LBX6_orderStopsr_0 2).trans (by decide +kernel)) (show cX6_orderStops.data.toList[3]? = some 0x00 from (LBX6_orderStopsr_0 3).trans (by decide +kernel)) (show cX6_orderStops.data.toList[4]? = some 0x2c from (LBX6_orderStopsr_0 4).trans (by decide +kernel)) (by decide)
theorem dX6_orderStops_5 : decode cX6_orderStops 5 = .ok (.iload_n 3, 1) := dk_29_ (show cX6_orderStops.data.toList[5]? = some 0x1d from (LBX6_orderStopsr_0 5).trans (by decide +kernel))
theorem dX6_orderStops_6 : decode cX6_orderStops 6 = .ok (.iaload, 1) := dk_46_ (show cX6_orderStops.data.toList[6]? = some 0x2e from (LBX6_orderStopsr_0 6).trans (by decide +kernel))
theorem dX6_orderStops_7 : decode cX6_orderStops 7 = .ok (.ishl, 1) := dk_120_ (show cX6_orderStops.data.toList[7]? = some 0x78 from (LBX6_orderStopsr_0 7).trans (by decide +kernel))
theorem dX6_orderStops_8 : decode cX6_orderStops 8 = .ok (.istore 4, 2) := dk_54_ (show cX6_orderStops.data.toList[8]? = some 0x36 from (LBX6_orderStopsr_0 8).trans (by decide +kernel)) (show cX6_orderStops.data.toList[9]? = some 0x04 from (LBX6_orderStopsr_0 9).trans (by decide +kernel)) (by decide)
theorem dX6_orderStops_10 : decode cX6_orderStops 10 = .ok (.iconst 0, 1) := dk_3_ (show cX6_orderStops.data.toList[10]? = some 0x03 from (LBX6_orderStopsr_0 10).trans (by decide +kernel))
theorem dX6_orderStops_11 : decode cX6_orderStops 11 = .ok (.istore 5, 2) := dk_54_ (show cX6_orderStops.data.toList[11]? = some 0x36 from (LBX6_orderStopsr_0 11).trans (by decide +kernel)) (show cX6_orderStops.data.toList[12]? = some 0x05 from (LBX6_orderStopsr_0 12).trans (by decide +kernel)) (by decide)
theorem dX6_orderStops_13 : decode cX6_orderStops 13 = .ok (.iload 5, 2) := dk_21_ (show cX6_orderStops.data.toList[13]? = some 0x15 from (LBX6_orderStopsr_0 13).trans (by decide +kernel)) (show cX6_orderStops.data.toList[14]? = some 0x05 from (LBX6_orderStopsr_0 14).trans (by decide +kernel)) (by decide)
theorem dX6_orderStops_15 : decode cX6_orderStops 15 = .ok (.iload 4, 2) := dk_21_ (show cX6_orderStops.data.toList[15]? = some 0x15 from (LBX6_orderStopsr_0 15).trans (by decide +kernel)) (show cX6_orderStops.data.toList[16]? = some 0x04 from (LBX6_orderStopsr_1 0).trans (by decide +kernel)) (by decide)
theorem dX6_orderStops_17 : decode cX6_orderStops 17 = .ok (.bipush 6, 2) := dk_16_ (show cX6_orderStops.data.toList[17]? = some 0x10 from (LBX6_orderStopsr_1 1).trans (by decide +kernel)) (show cX6_orderStops.data.toList[18]? = some 0x06 from (LBX6_orderStopsr_1 2).trans (by decide +kernel)) (by decide)
theorem dX6_orderStops_19 : decode cX6_orderStops 19 = .ok (.imul, 1) := dk_104_ (show cX6_orderStops.data.toList[19]? = some 0x68 from (LBX6_orderStopsr_1 3).trans (by decide +kernel))
theorem dX6_orderStops_20 : decode cX6_orderStops 20 = .ok (.if_icmp .ge 18, 3) := dk_162_ (show cX6_orderStops.data.toList[20]? = some 0xa2 from (LBX6_orderStopsr_1 4).trans (by decide +kernel)) (show cX6_orderStops.data.toList[21]? = some 0x00 from (LBX6_orderStopsr_1 5).trans (by decide +kernel)) (show cX6_orderStops.data.toList[22]? = some 0x12 from (LBX6_orderStopsr_1 6).trans (by decide +kernel)) (by decide)
theorem dX6_orderStops_23 : decode cX6_orderStops 23 = .ok (.aload_n 0, 1) := dk_42_ (show cX6_orderStops.data.toList[23]? = some 0x2a from (LBX6_orderStopsr_1 7).trans (by decide +kernel))
theorem dX6_orderStops_24 : decode cX6_orderStops 24 = .ok (.getfield 9, 3) := dk_180_ (show cX6_orderStops.data.toList[24]? = some 0xb4 from (LBX6_orderStopsr_1 8).trans (by decide +kernel)) (show cX6_orderStops.data.toList[25]? = some 0x00 from (LBX6_orderStopsr_1 9).trans (by decide +kernel)) (show cX6_orderStops.data.toList[26]? = some 0x09 from (LBX6_orderStopsr_1 10).trans (by decide +kernel)) (by decide)
theorem dX6_orderStops_27 : decode cX6_orderStops 27 = .ok (.iload 5, 2) := dk_21_ (show cX6_orderStops.data.toList[27]? = some 0x15 from (LBX6_orderStopsr_1 11).trans (by decide +kernel)) (show cX6_orderStops.data.toList[28]? = some 0x05 from (LBX6_orderStopsr_1 12).trans (by decide +kernel)) (by decide)
theorem dX6_orderStops_29 : decode cX6_orderStops 29 = .ok (.ldc 43, 2) := dk_18_ (show cX6_orderStops.data.toList[29]? = some 0x12 from (LBX6_orderStopsr_1 13).trans (by decide +kernel)) (show cX6_orderStops.data.toList[30]? = some 0x2b from (LBX6_orderStopsr_1 14).trans (by decide +kernel)) (by decide)
theorem dX6_orderStops_31 : decode cX6_orderStops 31 = .ok (.iastore, 1) := dk_79_ (show cX6_orderStops.data.toList[31]? = some 0x4f from (LBX6_orderStopsr_1 15).trans (by decide +kernel))
theorem dX6_orderStops_32 : decode cX6_orderStops 32 = .ok (.iinc 5 1, 3) := dk_132_ (show cX6_orderStops.data.toList[32]? = some 0x84 from (LBX6_orderStopsr_2 0).trans (by decide +kernel)) (show cX6_orderStops.data.toList[33]? = some 0x05 from (LBX6_orderStopsr_2 1).trans (by decide +kernel)) (show cX6_orderStops.data.toList[34]? = some 0x01 from (LBX6_orderStopsr_2 2).trans (by decide +kernel)) (by decide) (by decide)
theorem dX6_orderStops_35 : decode cX6_orderStops 35 = .ok (.goto (-22), 3) := dk_167_ (show cX6_orderStops.data.toList[35]? = some 0xa7 from (LBX6_orderStopsr_2 3).trans (by decide +kernel)) (show cX6_orderStops.data.toList[36]? = some 0xff from (LBX6_orderStopsr_2 4).trans (by decide +kernel)) (show cX6_orderStops.data.toList[37]? = some 0xea from (LBX6_orderStopsr_2 5).trans (by decide +kernel)) (by decide)
theorem dX6_orderStops_38 : decode cX6_orderStops 38 = .ok (.aload_n 0, 1) := dk_42_ (show cX6_orderStops.data.toList[38]? = some 0x2a from (LBX6_orderStopsr_2 6).trans (by decide +kernel))
theorem dX6_orderStops_39 : decode cX6_orderStops 39 = .ok (.getfield 9, 3) := dk_180_ (show cX6_orderStops.data.toList[39]? = some 0xb4 from (LBX6_orderStopsr_2 7).trans (by decide +kernel)) (show cX6_orderStops.data.toList[40]? = some 0x00 from (LBX6_orderStopsr_2 8).trans (by decide +kernel)) (show cX6_orderStops.data.toList[41]? = some 0x09 from (LBX6_orderStopsr_2 9).trans (by decide +kernel)) (by decide)
theorem dX6_orderStops_42 : decode cX6_orderStops 42 = .ok (.bipush 6, 2) := dk_16_ (show cX6_orderStops.data.toList[42]? = some 0x10 from (LBX6_orderStopsr_2 10).trans (by decide +kernel)) (show cX6_orderStops.data.toList[43]? = some 0x06 from (LBX6_orderStopsr_2 11).trans (by decide +kernel)) (by decide)
theorem dX6_orderStops_44 : decode cX6_orderStops 44 = .ok (.iconst 0, 1) := dk_3_ (show cX6_orderStops.data.toList[44]? = some 0x03 from (LBX6_orderStopsr_2 12).trans (by decide +kernel))
theorem dX6_orderStops_45 : decode cX6_orderStops 45 = .ok (.iastore, 1) := dk_79_ (show cX6_orderStops.data.toList[45]? = some 0x4f from (LBX6_orderStopsr_2 13).trans (by decide +kernel))
theorem dX6_orderStops_46 : decode cX6_orderStops 46 = .ok (.iconst 1, 1) := dk_4_ (show cX6_orderStops.data.toList[46]? = some 0x04 from (LBX6_orderStopsr_2 14).trans (by decide +kernel))
theorem dX6_orderStops_47 : decode cX6_orderStops 47 = .ok (.istore 5, 2) := dk_54_ (show cX6_orderStops.data.toList[47]? = some 0x36 from (LBX6_orderStopsr_2 15).trans (by decide +kernel)) (show cX6_orderStops.data.toList[48]? = some 0x05 from (LBX6_orderStopsr_3 0).trans (by decide +kernel)) (by decide)
theorem dX6_orderStops_49 : decode cX6_orderStops 49 = .ok (.iload 5, 2) := dk_21_ (show cX6_orderStops.data.toList[49]? = some 0x15 from (LBX6_orderStopsr_3 1).trans (by decide +kernel)) (show cX6_orderStops.data.toList[50]? = some 0x05 from (LBX6_orderStopsr_3 2).trans (by decide +kernel)) (by decide)
theorem dX6_orderStops_51 : decode cX6_orderStops 51 = .ok (.iload 4, 2) := dk_21_ (show cX6_orderStops.data.toList[51]? = some 0x15 from (LBX6_orderStopsr_3 3).trans (by decide +kernel)) (show cX6_orderStops.data.toList[52]? = some 0x04 from (LBX6_orderStopsr_3 4).trans (by decide +kernel)) (by decide)
theorem dX6_orderStops_53 : decode cX6_orderStops 53 = .ok (.if_icmp .ge 58, 3) := dk_162_ (show cX6_orderStops.data.toList[53]? = some 0xa2 from (LBX6_orderStopsr_3 5).trans (by decide +kernel)) (show cX6_orderStops.data.toList[54]? = some 0x00 from (LBX6_orderStopsr_3 6).trans (by decide +kernel)) (show cX6_orderStops.data.toList[55]? = some 0x3a from (LBX6_orderStopsr_3 7).trans (by decide +kernel)) (by decide)
theorem dX6_orderStops_56 : decode cX6_orderStops 56 = .ok (.iconst 0, 1) := dk_3_ (show cX6_orderStops.data.toList[56]? = some 0x03 from (LBX6_orderStopsr_3 8).trans (by decide +kernel))
theorem dX6_orderStops_57 : decode cX6_orderStops 57 = .ok (.istore 6, 2) := dk_54_ (show cX6_orderStops.data.toList[57]? = some 0x36 from (LBX6_orderStopsr_3 9).trans (by decide +kernel)) (show cX6_orderStops.data.toList[58]? = some 0x06 from (LBX6_orderStopsr_3 10).trans (by decide +kernel)) (by decide)
theorem dX6_orderStops_59 : decode cX6_orderStops 59 = .ok (.iload 6, 2) := dk_21_ (show cX6_orderStops.data.toList[59]? = some 0x15 from (LBX6_orderStopsr_3 11).trans (by decide +kernel)) (show cX6_orderStops.data.toList[60]? = some 0x06 from (LBX6_orderStopsr_3 12).trans (by decide +kernel)) (by decide)
theorem dX6_orderStops_61 : decode cX6_orderStops 61 = .ok (.aload_n 1, 1) := dk_43_ (show cX6_orderStops.data.toList[61]? = some 0x2b from (LBX6_orderStopsr_3 13).trans (by decide +kernel))
theorem dX6_orderStops_62 : decode cX6_orderStops 62 = .ok (.getfield 44, 3) := dk_180_ (show cX6_orderStops.data.toList[62]? = some 0xb4 from (LBX6_orderStopsr_3 14).trans (by decide +kernel)) (show cX6_orderStops.data.toList[63]? = some 0x00 from (LBX6_orderStopsr_3 15).trans (by decide +kernel)) (show cX6_orderStops.data.toList[64]? = some 0x2c from (LBX6_orderStopsr_4 0).trans (by decide +kernel)) (by decide)
theorem dX6_orderStops_65 : decode cX6_orderStops 65 = .ok (.iload_n 3, 1) := dk_29_ (show cX6_orderStops.data.toList[65]? = some 0x1d from (LBX6_orderStopsr_4 1).trans (by decide +kernel))
theorem dX6_orderStops_66 : decode cX6_orderStops 66 = .ok (.iaload, 1) := dk_46_ (show cX6_orderStops.data.toList[66]? = some 0x2e from (LBX6_orderStopsr_4 2).trans (by decide +kernel))
theorem dX6_orderStops_67 : decode cX6_orderStops 67 = .ok (.if_icmp .ge 38, 3) := dk_162_ (show cX6_orderStops.data.toList[67]? = some 0xa2 from (LBX6_orderStopsr_4 3).trans (by decide +kernel)) (show cX6_orderStops.data.toList[68]? = some 0x00 from (LBX6_orderStopsr_4 4).trans (by decide +kernel)) (show cX6_orderStops.data.toList[69]? = some 0x26 from (LBX6_orderStopsr_4 5).trans (by decide +kernel)) (by decide)
theorem dX6_orderStops_70 : decode cX6_orderStops 70 = .ok (.aload_n 0, 1) := dk_42_ (show cX6_orderStops.data.toList[70]? = some 0x2a from (LBX6_orderStopsr_4 6).trans (by decide +kernel))
theorem dX6_orderStops_71 : decode cX6_orderStops 71 = .ok (.getfield 9, 3) := dk_180_ (show cX6_orderStops.data.toList[71]? = some 0xb4 from (LBX6_orderStopsr_4 7).trans (by decide +kernel)) (show cX6_orderStops.data.toList[72]? = some 0x00 from (LBX6_orderStopsr_4 8).trans (by decide +kernel)) (show cX6_orderStops.data.toList[73]? = some 0x09 from (LBX6_orderStopsr_4 9).trans (by decide +kernel)) (by decide)
theorem dX6_orderStops_74 : decode cX6_orderStops 74 = .ok (.iload 5, 2) := dk_21_ (show cX6_orderStops.data.toList[74]? = some 0x15 from (LBX6_orderStopsr_4 10).trans (by decide +kernel)) (show cX6_orderStops.data.toList[75]? = some 0x05 from (LBX6_orderStopsr_4 11).trans (by decide +kernel)) (by decide)
theorem dX6_orderStops_76 : decode cX6_orderStops 76 = .ok (.bipush 6, 2) := dk_16_ (show cX6_orderStops.data.toList[76]? = some 0x10 from (LBX6_orderStopsr_4 12).trans (by decide +kernel)) (show cX6_orderStops.data.toList[77]? = some 0x06 from (LBX6_orderStopsr_4 13).trans (by decide +kernel)) (by decide)
theorem dX6_orderStops_78 : decode cX6_orderStops 78 = .ok (.imul, 1) := dk_104_ (show cX6_orderStops.data.toList[78]? = some 0x68 from (LBX6_orderStopsr_4 14).trans (by decide +kernel))
theorem dX6_orderStops_79 : decode cX6_orderStops 79 = .ok (.iload 6, 2) := dk_21_ (show cX6_orderStops.data.toList[79]? = some 0x15 from (LBX6_orderStopsr_4 15).trans (by decide +kernel)) (show cX6_orderStops.data.toList[80]? = some 0x06 from (LBX6_orderStopsr_5 0).trans (by decide +kernel)) (by decide)
theorem dX6_orderStops_81 : decode cX6_orderStops 81 = .ok (.iadd, 1) := dk_96_ (show cX6_orderStops.data.toList[81]? = some 0x60 from (LBX6_orderStopsr_5 1).trans (by decide +kernel))
theorem dX6_orderStops_82 : decode cX6_orderStops 82 = .ok (.iaload, 1) := dk_46_ (show cX6_orderStops.data.toList[82]? = some 0x2e from (LBX6_orderStopsr_5 2).trans (by decide +kernel))
theorem dX6_orderStops_83 : decode cX6_orderStops 83 = .ok (.ldc 43, 2) := dk_18_ (show cX6_orderStops.data.toList[83]? = some 0x12 from (LBX6_orderStopsr_5 3).trans (by decide +kernel)) (show cX6_orderStops.data.toList[84]? = some 0x2b from (LBX6_orderStopsr_5 4).trans (by decide +kernel)) (by decide)
theorem dX6_orderStops_85 : decode cX6_orderStops 85 = .ok (.if_icmp .eq 14, 3) := dk_159_ (show cX6_orderStops.data.toList[85]? = some 0x9f from (LBX6_orderStopsr_5 5).trans (by decide +kernel)) (show cX6_orderStops.data.toList[86]? = some 0x00 from (LBX6_orderStopsr_5 6).trans (by decide +kernel)) (show cX6_orderStops.data.toList[87]? = some 0x0e from (LBX6_orderStopsr_5 7).trans (by decide +kernel)) (by decide)
theorem dX6_orderStops_88 : decode cX6_orderStops 88 = .ok (.aload_n 0, 1) := dk_42_ (show cX6_orderStops.data.toList[88]? = some 0x2a from (LBX6_orderStopsr_5 8).trans (by decide +kernel))
theorem dX6_orderStops_89 : decode cX6_orderStops 89 = .ok (.aload_n 1, 1) := dk_43_ (show cX6_orderStops.data.toList[89]? = some 0x2b from (LBX6_orderStopsr_5 9).trans (by decide +kernel))
theorem dX6_orderStops_90 : decode cX6_orderStops 90 = .ok (.aload_n 2, 1) := dk_44_ (show cX6_orderStops.data.toList[90]? = some 0x2c from (LBX6_orderStopsr_5 10).trans (by decide +kernel))
theorem dX6_orderStops_91 : decode cX6_orderStops 91 = .ok (.iload_n 3, 1) := dk_29_ (show cX6_orderStops.data.toList[91]? = some 0x1d from (LBX6_orderStopsr_5 11).trans (by decide +kernel))
theorem dX6_orderStops_92 : decode cX6_orderStops 92 = .ok (.iload 5, 2) := dk_21_ (show cX6_orderStops.data.toList[92]? = some 0x15 from (LBX6_orderStopsr_5 12).trans (by decide +kernel)) (show cX6_orderStops.data.toList[93]? = some 0x05 from (LBX6_orderStopsr_5 13).trans (by decide +kernel)) (by decide)
theorem dX6_orderStops_94 : decode cX6_orderStops 94 = .ok (.iload 6, 2) := dk_21_ (show cX6_orderStops.data.toList[94]? = some 0x15 from (LBX6_orderStopsr_5 14).trans (by decide +kernel)) (show cX6_orderStops.data.toList[95]? = some 0x06 from (LBX6_orderStopsr_5 15).trans (by decide +kernel)) (by decide)
theorem dX6_orderStops_96 : decode cX6_orderStops 96 = .ok (.invokevirtual 97, 3) := dk_182_ (show cX6_orderStops.data.toList[96]? = some 0xb6 from (LBX6_orderStopsr_6 0).trans (by decide +kernel)) (show cX6_orderStops.data.toList[97]? = some 0x00 from (LBX6_orderStopsr_6 1).trans (by decide +kernel)) (show cX6_orderStops.data.toList[98]? = some 0x61 from (LBX6_orderStopsr_6 2).trans (by decide +kernel)) (by decide)
theorem dX6_orderStops_99 : decode cX6_orderStops 99 = .ok (.iinc 6 1, 3) := dk_132_ (show cX6_orderStops.data.toList[99]? = some 0x84 from (LBX6_orderStopsr_6 3).trans (by decide +kernel)) (show cX6_orderStops.data.toList[100]? = some 0x06 from (LBX6_orderStopsr_6 4).trans (by decide +kernel)) (show cX6_orderStops.data.toList[101]? = some 0x01 from (LBX6_orderStopsr_6 5).trans (by decide +kernel)) (by decide) (by decide)
theorem dX6_orderStops_102 : decode cX6_orderStops 102 = .ok (.goto (-43), 3) := dk_167_ (show cX6_orderStops.data.toList[102]? = some 0xa7 from (LBX6_orderStopsr_6 6).trans (by decide +kernel)) (show cX6_orderStops.data.toList[103]? = some 0xff from (LBX6_orderStopsr_6 7).trans (by decide +kernel)) (show cX6_orderStops.data.toList[104]? = some 0xd5 from (LBX6_orderStopsr_6 8).trans (by decide +kernel)) (by decide)
theorem dX6_orderStops_105 : decode cX6_orderStops 105 = .ok (.iinc 5 1, 3) := dk_132_ (show cX6_orderStops.data.toList[105]? = some 0x84 from (LBX6_orderStopsr_6 9).trans (by decide +kernel)) (show cX6_orderStops.data.toList[106]? = some 0x05 from (LBX6_orderStopsr_6 10).trans (by decide +kernel)) (show cX6_orderStops.data.toList[107]? = some 0x01 from (LBX6_orderStopsr_6 11).trans (by decide +kernel)) (by decide) (by decide)
theorem dX6_orderStops_108 : decode cX6_orderStops 108 = .ok (.goto (-59), 3) := dk_167_ (show cX6_orderStops.data.toList[108]? = some 0xa7 from (LBX6_orderStopsr_6 12).trans (by decide +kernel)) (show cX6_orderStops.data.toList[109]? = some 0xff from (LBX6_orderStopsr_6 13).trans (by decide +kernel)) (show cX6_orderStops.data.toList[110]? = some 0xc5 from (LBX6_orderStopsr_6 14).trans (by decide +kernel)) (by decide)
theorem dX6_orderStops_111 : decode cX6_orderStops 111 = .ok (.return_, 1) := dk_177_ (show cX6_orderStops.data.toList[111]? = some 0xb1 from (LBX6_orderStopsr_6 15).trans (by decide +kernel))
def LRX6_bestSum_6 : List UInt8 := []
def LBX6_bestSum_5 : List UInt8 := [0x08, 0xb8, 0x00, 0x5c, 0x36, 0x06, 0x84, 0x07, 0x01, 0xa7, 0xff, 0xbd, 0x15, 0x06, 0xac]
def LRX6_bestSum_5 : List UInt8 := LBX6_bestSum_5 ++ LRX6_bestSum_6
def LBX6_bestSum_4 : List UInt8 := [0x1d, 0x03, 0xb6, 0x00, 0x31, 0xb6, 0x00, 0x39, 0xb8, 0x00, 0x3e, 0x36, 0x08, 0x15, 0x06, 0x15]
def LRX6_bestSum_4 : List UInt8 := LBX6_bestSum_4 ++ LRX6_bestSum_5
def LBX6_bestSum_3 : List UInt8 := [0x15, 0x04, 0x99, 0x00, 0x1b, 0x15, 0x08, 0x2c, 0x2b, 0x1d, 0x15, 0x07, 0xb6, 0x00, 0x31, 0x2b]
def LRX6_bestSum_3 : List UInt8 := LBX6_bestSum_3 ++ LRX6_bestSum_4
def LBX6_bestSum_2 : List UInt8 := [0x09, 0x04, 0x15, 0x05, 0x78, 0x04, 0x64, 0x10, 0x06, 0x68, 0x15, 0x07, 0x60, 0x2e, 0x36, 0x08]
def LRX6_bestSum_2 : List UInt8 := LBX6_bestSum_2 ++ LRX6_bestSum_3
def LBX6_bestSum_1 : List UInt8 := [0x2b, 0x36, 0x06, 0x03, 0x36, 0x07, 0x15, 0x07, 0x15, 0x05, 0xa2, 0x00, 0x42, 0x2a, 0xb4, 0x00]
def LRX6_bestSum_1 : List UInt8 := LBX6_bestSum_1 ++ LRX6_bestSum_2
def LBX6_bestSum_0 : List UInt8 := [0x2b, 0xb4, 0x00, 0x2c, 0x1d, 0x2e, 0x36, 0x05, 0x2a, 0x2b, 0x2c, 0x1d, 0xb6, 0x00, 0x58, 0x12]
def LRX6_bestSum_0 : List UInt8 := LBX6_bestSum_0 ++ LRX6_bestSum_1
set_option maxRecDepth 100000 in
theorem LBX6_bestSum_eq : cX6_bestSum.data.toList = LRX6_bestSum_0 := by decide +kernel
theorem LBX6_bestSumr_0 (k : Nat) : cX6_bestSum.data.toList[0 + k]? = LRX6_bestSum_0[k]? := by rw [LBX6_bestSum_eq, Nat.zero_add]
theorem LBX6_bestSumr_1 (k : Nat) : cX6_bestSum.data.toList[16 + k]? = LRX6_bestSum_1[k]? := by
  have h := LBX6_bestSumr_0 (16 + k)
  rw [show 0 + (16 + k) = 16 + k by omega] at h
  rw [h]
  exact (List.getElem?_append_right (l₁ := LBX6_bestSum_0) (l₂ := LRX6_bestSum_1) (show 16 ≤ 16 + k by omega)).trans (congrArg (fun i => LRX6_bestSum_1[i]?) (show 16 + k - 16 = k by omega))
theorem LBX6_bestSumr_2 (k : Nat) : cX6_bestSum.data.toList[32 + k]? = LRX6_bestSum_2[k]? := by
  have h := LBX6_bestSumr_1 (16 + k)
  rw [show 16 + (16 + k) = 32 + k by omega] at h
  rw [h]
  exact (List.getElem?_append_right (l₁ := LBX6_bestSum_1) (l₂ := LRX6_bestSum_2) (show 16 ≤ 16 + k by omega)).trans (congrArg (fun i => LRX6_bestSum_2[i]?) (show 16 + k - 16 = k by omega))
theorem LBX6_bestSumr_3 (k : Nat) : cX6_bestSum.data.toList[48 + k]? = LRX6_bestSum_3[k]? := by
  have h := LBX6_bestSumr_2 (16 + k)
  rw [show 32 + (16 + k) = 48 + k by omega] at h
  rw [h]
  exact (List.getElem?_append_right (l₁ := LBX6_bestSum_2) (l₂ := LRX6_bestSum_3) (show 16 ≤ 16 + k by omega)).trans (congrArg (fun i => LRX6_bestSum_3[i]?) (show 16 + k - 16 = k by omega))
theorem LBX6_bestSumr_4 (k : Nat) : cX6_bestSum.data.toList[64 + k]? = LRX6_bestSum_4[k]? := by
  have h := LBX6_bestSumr_3 (16 + k)
  rw [show 48 + (16 + k) = 64 + k by omega] at h
  rw [h]
  exact (List.getElem?_append_right (l₁ := LBX6_bestSum_3) (l₂ := LRX6_bestSum_4) (show 16 ≤ 16 + k by omega)).trans (congrArg (fun i => LRX6_bestSum_4[i]?) (show 16 + k - 16 = k by omega))
theorem LBX6_bestSumr_5 (k : Nat) : cX6_bestSum.data.toList[80 + k]? = LRX6_bestSum_5[k]? := by
  have h := LBX6_bestSumr_4 (16 + k)
  rw [show 64 + (16 + k) = 80 + k by omega] at h
  rw [h]
  exact (List.getElem?_append_right (l₁ := LBX6_bestSum_4) (l₂ := LRX6_bestSum_5) (show 16 ≤ 16 + k by omega)).trans (congrArg (fun i => LRX6_bestSum_5[i]?) (show 16 + k - 16 = k by omega))
theorem dX6_bestSum_0 : decode cX6_bestSum 0 = .ok (.aload_n 1, 1) := dk_43_ (show cX6_bestSum.data.toList[0]? = some 0x2b from (LBX6_bestSumr_0 0).trans (by decide +kernel))
theorem dX6_bestSum_1 : decode cX6_bestSum 1 = .ok (.getfield 44, 3) := dk_180_ (show cX6_bestSum.data.toList[1]? = some 0xb4 from (LBX6_bestSumr_0 1).trans (by decide +kernel)) (show cX6_bestSum.data.toList[2]? = some 0x00 from (LBX6_bestSumr_0 2).trans (by decide +kernel)) (show cX6_bestSum.data.toList[3]? = some 0x2c from (LBX6_bestSumr_0 3).trans (by decide +kernel)) (by decide)
theorem dX6_bestSum_4 : decode cX6_bestSum 4 = .ok (.iload_n 3, 1) := dk_29_ (show cX6_bestSum.data.toList[4]? = some 0x1d from (LBX6_bestSumr_0 4).trans (by decide +kernel))
theorem dX6_bestSum_5 : decode cX6_bestSum 5 = .ok (.iaload, 1) := dk_46_ (show cX6_bestSum.data.toList[5]? = some 0x2e from (LBX6_bestSumr_0 5).trans (by decide +kernel))
theorem dX6_bestSum_6 : decode cX6_bestSum 6 = .ok (.istore 5, 2) := dk_54_ (show cX6_bestSum.data.toList[6]? = some 0x36 from (LBX6_bestSumr_0 6).trans (by decide +kernel)) (show cX6_bestSum.data.toList[7]? = some 0x05 from (LBX6_bestSumr_0 7).trans (by decide +kernel)) (by decide)
theorem dX6_bestSum_8 : decode cX6_bestSum 8 = .ok (.aload_n 0, 1) := dk_42_ (show cX6_bestSum.data.toList[8]? = some 0x2a from (LBX6_bestSumr_0 8).trans (by decide +kernel))
theorem dX6_bestSum_9 : decode cX6_bestSum 9 = .ok (.aload_n 1, 1) := dk_43_ (show cX6_bestSum.data.toList[9]? = some 0x2b from (LBX6_bestSumr_0 9).trans (by decide +kernel))
theorem dX6_bestSum_10 : decode cX6_bestSum 10 = .ok (.aload_n 2, 1) := dk_44_ (show cX6_bestSum.data.toList[10]? = some 0x2c from (LBX6_bestSumr_0 10).trans (by decide +kernel))
theorem dX6_bestSum_11 : decode cX6_bestSum 11 = .ok (.iload_n 3, 1) := dk_29_ (show cX6_bestSum.data.toList[11]? = some 0x1d from (LBX6_bestSumr_0 11).trans (by decide +kernel))
theorem dX6_bestSum_12 : decode cX6_bestSum 12 = .ok (.invokevirtual 88, 3) := dk_182_ (show cX6_bestSum.data.toList[12]? = some 0xb6 from (LBX6_bestSumr_0 12).trans (by decide +kernel)) (show cX6_bestSum.data.toList[13]? = some 0x00 from (LBX6_bestSumr_0 13).trans (by decide +kernel)) (show cX6_bestSum.data.toList[14]? = some 0x58 from (LBX6_bestSumr_0 14).trans (by decide +kernel)) (by decide)
theorem dX6_bestSum_15 : decode cX6_bestSum 15 = .ok (.ldc 43, 2) := dk_18_ (show cX6_bestSum.data.toList[15]? = some 0x12 from (LBX6_bestSumr_0 15).trans (by decide +kernel)) (show cX6_bestSum.data.toList[16]? = some 0x2b from (LBX6_bestSumr_1 0).trans (by decide +kernel)) (by decide)
theorem dX6_bestSum_17 : decode cX6_bestSum 17 = .ok (.istore 6, 2) := dk_54_ (show cX6_bestSum.data.toList[17]? = some 0x36 from (LBX6_bestSumr_1 1).trans (by decide +kernel)) (show cX6_bestSum.data.toList[18]? = some 0x06 from (LBX6_bestSumr_1 2).trans (by decide +kernel)) (by decide)
theorem dX6_bestSum_19 : decode cX6_bestSum 19 = .ok (.iconst 0, 1) := dk_3_ (show cX6_bestSum.data.toList[19]? = some 0x03 from (LBX6_bestSumr_1 3).trans (by decide +kernel))
theorem dX6_bestSum_20 : decode cX6_bestSum 20 = .ok (.istore 7, 2) := dk_54_ (show cX6_bestSum.data.toList[20]? = some 0x36 from (LBX6_bestSumr_1 4).trans (by decide +kernel)) (show cX6_bestSum.data.toList[21]? = some 0x07 from (LBX6_bestSumr_1 5).trans (by decide +kernel)) (by decide)
theorem dX6_bestSum_22 : decode cX6_bestSum 22 = .ok (.iload 7, 2) := dk_21_ (show cX6_bestSum.data.toList[22]? = some 0x15 from (LBX6_bestSumr_1 6).trans (by decide +kernel)) (show cX6_bestSum.data.toList[23]? = some 0x07 from (LBX6_bestSumr_1 7).trans (by decide +kernel)) (by decide)
theorem dX6_bestSum_24 : decode cX6_bestSum 24 = .ok (.iload 5, 2) := dk_21_ (show cX6_bestSum.data.toList[24]? = some 0x15 from (LBX6_bestSumr_1 8).trans (by decide +kernel)) (show cX6_bestSum.data.toList[25]? = some 0x05 from (LBX6_bestSumr_1 9).trans (by decide +kernel)) (by decide)
theorem dX6_bestSum_26 : decode cX6_bestSum 26 = .ok (.if_icmp .ge 66, 3) := dk_162_ (show cX6_bestSum.data.toList[26]? = some 0xa2 from (LBX6_bestSumr_1 10).trans (by decide +kernel)) (show cX6_bestSum.data.toList[27]? = some 0x00 from (LBX6_bestSumr_1 11).trans (by decide +kernel)) (show cX6_bestSum.data.toList[28]? = some 0x42 from (LBX6_bestSumr_1 12).trans (by decide +kernel)) (by decide)
theorem dX6_bestSum_29 : decode cX6_bestSum 29 = .ok (.aload_n 0, 1) := dk_42_ (show cX6_bestSum.data.toList[29]? = some 0x2a from (LBX6_bestSumr_1 13).trans (by decide +kernel))
theorem dX6_bestSum_30 : decode cX6_bestSum 30 = .ok (.getfield 9, 3) := dk_180_ (show cX6_bestSum.data.toList[30]? = some 0xb4 from (LBX6_bestSumr_1 14).trans (by decide +kernel)) (show cX6_bestSum.data.toList[31]? = some 0x00 from (LBX6_bestSumr_1 15).trans (by decide +kernel)) (show cX6_bestSum.data.toList[32]? = some 0x09 from (LBX6_bestSumr_2 0).trans (by decide +kernel)) (by decide)
theorem dX6_bestSum_33 : decode cX6_bestSum 33 = .ok (.iconst 1, 1) := dk_4_ (show cX6_bestSum.data.toList[33]? = some 0x04 from (LBX6_bestSumr_2 1).trans (by decide +kernel))
theorem dX6_bestSum_34 : decode cX6_bestSum 34 = .ok (.iload 5, 2) := dk_21_ (show cX6_bestSum.data.toList[34]? = some 0x15 from (LBX6_bestSumr_2 2).trans (by decide +kernel)) (show cX6_bestSum.data.toList[35]? = some 0x05 from (LBX6_bestSumr_2 3).trans (by decide +kernel)) (by decide)
theorem dX6_bestSum_36 : decode cX6_bestSum 36 = .ok (.ishl, 1) := dk_120_ (show cX6_bestSum.data.toList[36]? = some 0x78 from (LBX6_bestSumr_2 4).trans (by decide +kernel))
theorem dX6_bestSum_37 : decode cX6_bestSum 37 = .ok (.iconst 1, 1) := dk_4_ (show cX6_bestSum.data.toList[37]? = some 0x04 from (LBX6_bestSumr_2 5).trans (by decide +kernel))
theorem dX6_bestSum_38 : decode cX6_bestSum 38 = .ok (.isub, 1) := dk_100_ (show cX6_bestSum.data.toList[38]? = some 0x64 from (LBX6_bestSumr_2 6).trans (by decide +kernel))
theorem dX6_bestSum_39 : decode cX6_bestSum 39 = .ok (.bipush 6, 2) := dk_16_ (show cX6_bestSum.data.toList[39]? = some 0x10 from (LBX6_bestSumr_2 7).trans (by decide +kernel)) (show cX6_bestSum.data.toList[40]? = some 0x06 from (LBX6_bestSumr_2 8).trans (by decide +kernel)) (by decide)
theorem dX6_bestSum_41 : decode cX6_bestSum 41 = .ok (.imul, 1) := dk_104_ (show cX6_bestSum.data.toList[41]? = some 0x68 from (LBX6_bestSumr_2 9).trans (by decide +kernel))
theorem dX6_bestSum_42 : decode cX6_bestSum 42 = .ok (.iload 7, 2) := dk_21_ (show cX6_bestSum.data.toList[42]? = some 0x15 from (LBX6_bestSumr_2 10).trans (by decide +kernel)) (show cX6_bestSum.data.toList[43]? = some 0x07 from (LBX6_bestSumr_2 11).trans (by decide +kernel)) (by decide)
theorem dX6_bestSum_44 : decode cX6_bestSum 44 = .ok (.iadd, 1) := dk_96_ (show cX6_bestSum.data.toList[44]? = some 0x60 from (LBX6_bestSumr_2 12).trans (by decide +kernel))
theorem dX6_bestSum_45 : decode cX6_bestSum 45 = .ok (.iaload, 1) := dk_46_ (show cX6_bestSum.data.toList[45]? = some 0x2e from (LBX6_bestSumr_2 13).trans (by decide +kernel))
theorem dX6_bestSum_46 : decode cX6_bestSum 46 = .ok (.istore 8, 2) := dk_54_ (show cX6_bestSum.data.toList[46]? = some 0x36 from (LBX6_bestSumr_2 14).trans (by decide +kernel)) (show cX6_bestSum.data.toList[47]? = some 0x08 from (LBX6_bestSumr_2 15).trans (by decide +kernel)) (by decide)
theorem dX6_bestSum_48 : decode cX6_bestSum 48 = .ok (.iload 4, 2) := dk_21_ (show cX6_bestSum.data.toList[48]? = some 0x15 from (LBX6_bestSumr_3 0).trans (by decide +kernel)) (show cX6_bestSum.data.toList[49]? = some 0x04 from (LBX6_bestSumr_3 1).trans (by decide +kernel)) (by decide)
theorem dX6_bestSum_50 : decode cX6_bestSum 50 = .ok (.ifCond .eq 27, 3) := dk_153_ (show cX6_bestSum.data.toList[50]? = some 0x99 from (LBX6_bestSumr_3 2).trans (by decide +kernel)) (show cX6_bestSum.data.toList[51]? = some 0x00 from (LBX6_bestSumr_3 3).trans (by decide +kernel)) (show cX6_bestSum.data.toList[52]? = some 0x1b from (LBX6_bestSumr_3 4).trans (by decide +kernel)) (by decide)
theorem dX6_bestSum_53 : decode cX6_bestSum 53 = .ok (.iload 8, 2) := dk_21_ (show cX6_bestSum.data.toList[53]? = some 0x15 from (LBX6_bestSumr_3 5).trans (by decide +kernel)) (show cX6_bestSum.data.toList[54]? = some 0x08 from (LBX6_bestSumr_3 6).trans (by decide +kernel)) (by decide)
theorem dX6_bestSum_55 : decode cX6_bestSum 55 = .ok (.aload_n 2, 1) := dk_44_ (show cX6_bestSum.data.toList[55]? = some 0x2c from (LBX6_bestSumr_3 7).trans (by decide +kernel))
theorem dX6_bestSum_56 : decode cX6_bestSum 56 = .ok (.aload_n 1, 1) := dk_43_ (show cX6_bestSum.data.toList[56]? = some 0x2b from (LBX6_bestSumr_3 8).trans (by decide +kernel))
theorem dX6_bestSum_57 : decode cX6_bestSum 57 = .ok (.iload_n 3, 1) := dk_29_ (show cX6_bestSum.data.toList[57]? = some 0x1d from (LBX6_bestSumr_3 9).trans (by decide +kernel))
theorem dX6_bestSum_58 : decode cX6_bestSum 58 = .ok (.iload 7, 2) := dk_21_ (show cX6_bestSum.data.toList[58]? = some 0x15 from (LBX6_bestSumr_3 10).trans (by decide +kernel)) (show cX6_bestSum.data.toList[59]? = some 0x07 from (LBX6_bestSumr_3 11).trans (by decide +kernel)) (by decide)
theorem dX6_bestSum_60 : decode cX6_bestSum 60 = .ok (.invokevirtual 49, 3) := dk_182_ (show cX6_bestSum.data.toList[60]? = some 0xb6 from (LBX6_bestSumr_3 12).trans (by decide +kernel)) (show cX6_bestSum.data.toList[61]? = some 0x00 from (LBX6_bestSumr_3 13).trans (by decide +kernel)) (show cX6_bestSum.data.toList[62]? = some 0x31 from (LBX6_bestSumr_3 14).trans (by decide +kernel)) (by decide)
theorem dX6_bestSum_63 : decode cX6_bestSum 63 = .ok (.aload_n 1, 1) := dk_43_ (show cX6_bestSum.data.toList[63]? = some 0x2b from (LBX6_bestSumr_3 15).trans (by decide +kernel))
theorem dX6_bestSum_64 : decode cX6_bestSum 64 = .ok (.iload_n 3, 1) := dk_29_ (show cX6_bestSum.data.toList[64]? = some 0x1d from (LBX6_bestSumr_4 0).trans (by decide +kernel))
theorem dX6_bestSum_65 : decode cX6_bestSum 65 = .ok (.iconst 0, 1) := dk_3_ (show cX6_bestSum.data.toList[65]? = some 0x03 from (LBX6_bestSumr_4 1).trans (by decide +kernel))
theorem dX6_bestSum_66 : decode cX6_bestSum 66 = .ok (.invokevirtual 49, 3) := dk_182_ (show cX6_bestSum.data.toList[66]? = some 0xb6 from (LBX6_bestSumr_4 2).trans (by decide +kernel)) (show cX6_bestSum.data.toList[67]? = some 0x00 from (LBX6_bestSumr_4 3).trans (by decide +kernel)) (show cX6_bestSum.data.toList[68]? = some 0x31 from (LBX6_bestSumr_4 4).trans (by decide +kernel)) (by decide)
theorem dX6_bestSum_69 : decode cX6_bestSum 69 = .ok (.invokevirtual 57, 3) := dk_182_ (show cX6_bestSum.data.toList[69]? = some 0xb6 from (LBX6_bestSumr_4 5).trans (by decide +kernel)) (show cX6_bestSum.data.toList[70]? = some 0x00 from (LBX6_bestSumr_4 6).trans (by decide +kernel)) (show cX6_bestSum.data.toList[71]? = some 0x39 from (LBX6_bestSumr_4 7).trans (by decide +kernel)) (by decide)
theorem dX6_bestSum_72 : decode cX6_bestSum 72 = .ok (.invokestatic 62, 3) := dk_184_ (show cX6_bestSum.data.toList[72]? = some 0xb8 from (LBX6_bestSumr_4 8).trans (by decide +kernel)) (show cX6_bestSum.data.toList[73]? = some 0x00 from (LBX6_bestSumr_4 9).trans (by decide +kernel)) (show cX6_bestSum.data.toList[74]? = some 0x3e from (LBX6_bestSumr_4 10).trans (by decide +kernel)) (by decide)
theorem dX6_bestSum_75 : decode cX6_bestSum 75 = .ok (.istore 8, 2) := dk_54_ (show cX6_bestSum.data.toList[75]? = some 0x36 from (LBX6_bestSumr_4 11).trans (by decide +kernel)) (show cX6_bestSum.data.toList[76]? = some 0x08 from (LBX6_bestSumr_4 12).trans (by decide +kernel)) (by decide)
theorem dX6_bestSum_77 : decode cX6_bestSum 77 = .ok (.iload 6, 2) := dk_21_ (show cX6_bestSum.data.toList[77]? = some 0x15 from (LBX6_bestSumr_4 13).trans (by decide +kernel)) (show cX6_bestSum.data.toList[78]? = some 0x06 from (LBX6_bestSumr_4 14).trans (by decide +kernel)) (by decide)
theorem dX6_bestSum_79 : decode cX6_bestSum 79 = .ok (.iload 8, 2) := dk_21_ (show cX6_bestSum.data.toList[79]? = some 0x15 from (LBX6_bestSumr_4 15).trans (by decide +kernel)) (show cX6_bestSum.data.toList[80]? = some 0x08 from (LBX6_bestSumr_5 0).trans (by decide +kernel)) (by decide)
theorem dX6_bestSum_81 : decode cX6_bestSum 81 = .ok (.invokestatic 92, 3) := dk_184_ (show cX6_bestSum.data.toList[81]? = some 0xb8 from (LBX6_bestSumr_5 1).trans (by decide +kernel)) (show cX6_bestSum.data.toList[82]? = some 0x00 from (LBX6_bestSumr_5 2).trans (by decide +kernel)) (show cX6_bestSum.data.toList[83]? = some 0x5c from (LBX6_bestSumr_5 3).trans (by decide +kernel)) (by decide)
theorem dX6_bestSum_84 : decode cX6_bestSum 84 = .ok (.istore 6, 2) := dk_54_ (show cX6_bestSum.data.toList[84]? = some 0x36 from (LBX6_bestSumr_5 4).trans (by decide +kernel)) (show cX6_bestSum.data.toList[85]? = some 0x06 from (LBX6_bestSumr_5 5).trans (by decide +kernel)) (by decide)
theorem dX6_bestSum_86 : decode cX6_bestSum 86 = .ok (.iinc 7 1, 3) := dk_132_ (show cX6_bestSum.data.toList[86]? = some 0x84 from (LBX6_bestSumr_5 6).trans (by decide +kernel)) (show cX6_bestSum.data.toList[87]? = some 0x07 from (LBX6_bestSumr_5 7).trans (by decide +kernel)) (show cX6_bestSum.data.toList[88]? = some 0x01 from (LBX6_bestSumr_5 8).trans (by decide +kernel)) (by decide) (by decide)
theorem dX6_bestSum_89 : decode cX6_bestSum 89 = .ok (.goto (-67), 3) := dk_167_ (show cX6_bestSum.data.toList[89]? = some 0xa7 from (LBX6_bestSumr_5 9).trans (by decide +kernel)) (show cX6_bestSum.data.toList[90]? = some 0xff from (LBX6_bestSumr_5 10).trans (by decide +kernel)) (show cX6_bestSum.data.toList[91]? = some 0xbd from (LBX6_bestSumr_5 11).trans (by decide +kernel)) (by decide)
theorem dX6_bestSum_92 : decode cX6_bestSum 92 = .ok (.iload 6, 2) := dk_21_ (show cX6_bestSum.data.toList[92]? = some 0x15 from (LBX6_bestSumr_5 12).trans (by decide +kernel)) (show cX6_bestSum.data.toList[93]? = some 0x06 from (LBX6_bestSumr_5 13).trans (by decide +kernel)) (by decide)
theorem dX6_bestSum_94 : decode cX6_bestSum 94 = .ok (.ireturn, 1) := dk_172_ (show cX6_bestSum.data.toList[94]? = some 0xac from (LBX6_bestSumr_5 14).trans (by decide +kernel))
def LRX6_sumOf_8 : List UInt8 := []
def LBX6_sumOf_7 : List UInt8 := [0xac, 0x12, 0x2b, 0xac]
def LRX6_sumOf_7 : List UInt8 := LBX6_sumOf_7 ++ LRX6_sumOf_8
def LBX6_sumOf_6 : List UInt8 := [0x2b, 0x2c, 0x1d, 0xb8, 0x00, 0x24, 0xac, 0x2b, 0xb4, 0x00, 0x14, 0x2c, 0x1d, 0xb8, 0x00, 0x28]
def LRX6_sumOf_6 : List UInt8 := LBX6_sumOf_6 ++ LRX6_sumOf_7
def LBX6_sumOf_5 : List UInt8 := [0xb6, 0x00, 0x20, 0xac, 0x2a, 0x2b, 0xb4, 0x00, 0x14, 0x2c, 0x1d, 0x03, 0xb6, 0x00, 0x20, 0xac]
def LRX6_sumOf_5 : List UInt8 := LBX6_sumOf_5 ++ LRX6_sumOf_6
def LBX6_sumOf_4 : List UInt8 := [0xac, 0x2b, 0x1d, 0x04, 0xb8, 0x00, 0x1c, 0xac, 0x2a, 0x2b, 0xb4, 0x00, 0x14, 0x2c, 0x1d, 0x04]
def LRX6_sumOf_4 : List UInt8 := LBX6_sumOf_4 ++ LRX6_sumOf_5
def LBX6_sumOf_3 : List UInt8 := [0x2b, 0xb4, 0x00, 0x14, 0x2c, 0x1d, 0xb8, 0x00, 0x18, 0xac, 0x2b, 0x1d, 0x03, 0xb8, 0x00, 0x1c]
def LRX6_sumOf_3 : List UInt8 := LBX6_sumOf_3 ++ LRX6_sumOf_4
def LBX6_sumOf_2 : List UInt8 := [0x00, 0x00, 0x00, 0x5a, 0x00, 0x00, 0x00, 0x3b, 0x00, 0x00, 0x00, 0x61, 0x00, 0x00, 0x00, 0x4e]
def LRX6_sumOf_2 : List UInt8 := LBX6_sumOf_2 ++ LRX6_sumOf_3
def LBX6_sumOf_1 : List UInt8 := [0x00, 0x00, 0x00, 0x06, 0x00, 0x00, 0x00, 0x2a, 0x00, 0x00, 0x00, 0x34, 0x00, 0x00, 0x00, 0x42]
def LRX6_sumOf_1 : List UInt8 := LBX6_sumOf_1 ++ LRX6_sumOf_2
def LBX6_sumOf_0 : List UInt8 := [0x2b, 0xb4, 0x00, 0x0f, 0x1d, 0x2e, 0xaa, 0x00, 0x00, 0x00, 0x00, 0x6b, 0x00, 0x00, 0x00, 0x00]
def LRX6_sumOf_0 : List UInt8 := LBX6_sumOf_0 ++ LRX6_sumOf_1
set_option maxRecDepth 100000 in
theorem LBX6_sumOf_eq : cX6_sumOf.data.toList = LRX6_sumOf_0 := by decide +kernel
theorem LBX6_sumOfr_0 (k : Nat) : cX6_sumOf.data.toList[0 + k]? = LRX6_sumOf_0[k]? := by rw [LBX6_sumOf_eq, Nat.zero_add]
theorem LBX6_sumOfr_1 (k : Nat) : cX6_sumOf.data.toList[16 + k]? = LRX6_sumOf_1[k]? := by
  have h := LBX6_sumOfr_0 (16 + k)
  rw [show 0 + (16 + k) = 16 + k by omega] at h
  rw [h]
  exact (List.getElem?_append_right (l₁ := LBX6_sumOf_0) (l₂ := LRX6_sumOf_1) (show 16 ≤ 16 + k by omega)).trans (congrArg (fun i => LRX6_sumOf_1[i]?) (show 16 + k - 16 = k by omega))
theorem LBX6_sumOfr_2 (k : Nat) : cX6_sumOf.data.toList[32 + k]? = LRX6_sumOf_2[k]? := by
  have h := LBX6_sumOfr_1 (16 + k)
  rw [show 16 + (16 + k) = 32 + k by omega] at h
  rw [h]
  exact (List.getElem?_append_right (l₁ := LBX6_sumOf_1) (l₂ := LRX6_sumOf_2) (show 16 ≤ 16 + k by omega)).trans (congrArg (fun i => LRX6_sumOf_2[i]?) (show 16 + k - 16 = k by omega))
theorem LBX6_sumOfr_3 (k : Nat) : cX6_sumOf.data.toList[48 + k]? = LRX6_sumOf_3[k]? := by
  have h := LBX6_sumOfr_2 (16 + k)
  rw [show 32 + (16 + k) = 48 + k by omega] at h
  rw [h]
  exact (List.getElem?_append_right (l₁ := LBX6_sumOf_2) (l₂ := LRX6_sumOf_3) (show 16 ≤ 16 + k by omega)).trans (congrArg (fun i => LRX6_sumOf_3[i]?) (show 16 + k - 16 = k by omega))
theorem LBX6_sumOfr_4 (k : Nat) : cX6_sumOf.data.toList[64 + k]? = LRX6_sumOf_4[k]? := by
  have h := LBX6_sumOfr_3 (16 + k)
  rw [show 48 + (16 + k) = 64 + k by omega] at h
  rw [h]
  exact (List.getElem?_append_right (l₁ := LBX6_sumOf_3) (l₂ := LRX6_sumOf_4) (show 16 ≤ 16 + k by omega)).trans (congrArg (fun i => LRX6_sumOf_4[i]?) (show 16 + k - 16 = k by omega))
theorem LBX6_sumOfr_5 (k : Nat) : cX6_sumOf.data.toList[80 + k]? = LRX6_sumOf_5[k]? := by
  have h := LBX6_sumOfr_4 (16 + k)
  rw [show 64 + (16 + k) = 80 + k by omega] at h
  rw [h]
  exact (List.getElem?_append_right (l₁ := LBX6_sumOf_4) (l₂ := LRX6_sumOf_5) (show 16 ≤ 16 + k by omega)).trans (congrArg (fun i => LRX6_sumOf_5[i]?) (show 16 + k - 16 = k by omega))
theorem LBX6_sumOfr_6 (k : Nat) : cX6_sumOf.data.toList[96 + k]? = LRX6_sumOf_6[k]? := by
  have h := LBX6_sumOfr_5 (16 + k)
  rw [show 80 + (16 + k) = 96 + k by omega] at h
  rw [h]
  exact (List.getElem?_append_right (l₁ := LBX6_sumOf_5) (l₂ := LRX6_sumOf_6) (show 16 ≤ 16 + k by omega)).trans (congrArg (fun i => LRX6_sumOf_6[i]?) (show 16 + k - 16 = k by omega))
theorem LBX6_sumOfr_7 (k : Nat) : cX6_sumOf.data.toList[112 + k]? = LRX6_sumOf_7[k]? := by
  have h := LBX6_sumOfr_6 (16 + k)
  rw [show 96 + (16 + k) = 112 + k by omega] at h
  rw [h]
  exact (List.getElem?_append_right (l₁ := LBX6_sumOf_6) (l₂ := LRX6_sumOf_7) (show 16 ≤ 16 + k by omega)).trans (congrArg (fun i => LRX6_sumOf_7[i]?) (show 16 + k - 16 = k by omega))
theorem dX6_sumOf_0 : decode cX6_sumOf 0 = .ok (.aload_n 1, 1) := dk_43_ (show cX6_sumOf.data.toList[0]? = some 0x2b from (LBX6_sumOfr_0 0).trans (by decide +kernel))
theorem dX6_sumOf_1 : decode cX6_sumOf 1 = .ok (.getfield 15, 3) := dk_180_ (show cX6_sumOf.data.toList[1]? = some 0xb4 from (LBX6_sumOfr_0 1).trans (by decide +kernel)) (show cX6_sumOf.data.toList[2]? = some 0x00 from (LBX6_sumOfr_0 2).trans (by decide +kernel)) (show cX6_sumOf.data.toList[3]? = some 0x0f from (LBX6_sumOfr_0 3).trans (by decide +kernel)) (by decide)
theorem dX6_sumOf_4 : decode cX6_sumOf 4 = .ok (.iload_n 3, 1) := dk_29_ (show cX6_sumOf.data.toList[4]? = some 0x1d from (LBX6_sumOfr_0 4).trans (by decide +kernel))
theorem dX6_sumOf_5 : decode cX6_sumOf 5 = .ok (.iaload, 1) := dk_46_ (show cX6_sumOf.data.toList[5]? = some 0x2e from (LBX6_sumOfr_0 5).trans (by decide +kernel))
theorem dX6_sumOf_6 : decode cX6_sumOf 6 = .ok (.tableswitch 107 0 6 #[42, 52, 66, 90, 59, 97, 78], 42) := by decide +kernel
theorem dX6_sumOf_48 : decode cX6_sumOf 48 = .ok (.aload_n 1, 1) := dk_43_ (show cX6_sumOf.data.toList[48]? = some 0x2b from (LBX6_sumOfr_3 0).trans (by decide +kernel))
theorem dX6_sumOf_49 : decode cX6_sumOf 49 = .ok (.getfield 20, 3) := dk_180_ (show cX6_sumOf.data.toList[49]? = some 0xb4 from (LBX6_sumOfr_3 1).trans (by decide +kernel)) (show cX6_sumOf.data.toList[50]? = some 0x00 from (LBX6_sumOfr_3 2).trans (by decide +kernel)) (show cX6_sumOf.data.toList[51]? = some 0x14 from (LBX6_sumOfr_3 3).trans (by decide +kernel)) (by decide)
theorem dX6_sumOf_52 : decode cX6_sumOf 52 = .ok (.aload_n 2, 1) := dk_44_ (show cX6_sumOf.data.toList[52]? = some 0x2c from (LBX6_sumOfr_3 4).trans (by decide +kernel))
theorem dX6_sumOf_53 : decode cX6_sumOf 53 = .ok (.iload_n 3, 1) := dk_29_ (show cX6_sumOf.data.toList[53]? = some 0x1d from (LBX6_sumOfr_3 5).trans (by decide +kernel))
theorem dX6_sumOf_54 : decode cX6_sumOf 54 = .ok (.invokestatic 24, 3) := dk_184_ (show cX6_sumOf.data.toList[54]? = some 0xb8 from (LBX6_sumOfr_3 6).trans (by decide +kernel)) (show cX6_sumOf.data.toList[55]? = some 0x00 from (LBX6_sumOfr_3 7).trans (by decide +kernel)) (show cX6_sumOf.data.toList[56]? = some 0x18 from (LBX6_sumOfr_3 8).trans (by decide +kernel)) (by decide)
theorem dX6_sumOf_57 : decode cX6_sumOf 57 = .ok (.ireturn, 1) := dk_172_ (show cX6_sumOf.data.toList[57]? = some 0xac from (LBX6_sumOfr_3 9).trans (by decide +kernel))
theorem dX6_sumOf_58 : decode cX6_sumOf 58 = .ok (.aload_n 1, 1) := dk_43_ (show cX6_sumOf.data.toList[58]? = some 0x2b from (LBX6_sumOfr_3 10).trans (by decide +kernel))
theorem dX6_sumOf_59 : decode cX6_sumOf 59 = .ok (.iload_n 3, 1) := dk_29_ (show cX6_sumOf.data.toList[59]? = some 0x1d from (LBX6_sumOfr_3 11).trans (by decide +kernel))
theorem dX6_sumOf_60 : decode cX6_sumOf 60 = .ok (.iconst 0, 1) := dk_3_ (show cX6_sumOf.data.toList[60]? = some 0x03 from (LBX6_sumOfr_3 12).trans (by decide +kernel))
theorem dX6_sumOf_61 : decode cX6_sumOf 61 = .ok (.invokestatic 28, 3) := dk_184_ (show cX6_sumOf.data.toList[61]? = some 0xb8 from (LBX6_sumOfr_3 13).trans (by decide +kernel)) (show cX6_sumOf.data.toList[62]? = some 0x00 from (LBX6_sumOfr_3 14).trans (by decide +kernel)) (show cX6_sumOf.data.toList[63]? = some 0x1c from (LBX6_sumOfr_3 15).trans (by decide +kernel)) (by decide)
theorem dX6_sumOf_64 : decode cX6_sumOf 64 = .ok (.ireturn, 1) := dk_172_ (show cX6_sumOf.data.toList[64]? = some 0xac from (LBX6_sumOfr_4 0).trans (by decide +kernel))
theorem dX6_sumOf_65 : decode cX6_sumOf 65 = .ok (.aload_n 1, 1) := dk_43_ (show cX6_sumOf.data.toList[65]? = some 0x2b from (LBX6_sumOfr_4 1).trans (by decide +kernel))
theorem dX6_sumOf_66 : decode cX6_sumOf 66 = .ok (.iload_n 3, 1) := dk_29_ (show cX6_sumOf.data.toList[66]? = some 0x1d from (LBX6_sumOfr_4 2).trans (by decide +kernel))
theorem dX6_sumOf_67 : decode cX6_sumOf 67 = .ok (.iconst 1, 1) := dk_4_ (show cX6_sumOf.data.toList[67]? = some 0x04 from (LBX6_sumOfr_4 3).trans (by decide +kernel))
theorem dX6_sumOf_68 : decode cX6_sumOf 68 = .ok (.invokestatic 28, 3) := dk_184_ (show cX6_sumOf.data.toList[68]? = some 0xb8 from (LBX6_sumOfr_4 4).trans (by decide +kernel)) (show cX6_sumOf.data.toList[69]? = some 0x00 from (LBX6_sumOfr_4 5).trans (by decide +kernel)) (show cX6_sumOf.data.toList[70]? = some 0x1c from (LBX6_sumOfr_4 6).trans (by decide +kernel)) (by decide)
theorem dX6_sumOf_71 : decode cX6_sumOf 71 = .ok (.ireturn, 1) := dk_172_ (show cX6_sumOf.data.toList[71]? = some 0xac from (LBX6_sumOfr_4 7).trans (by decide +kernel))
theorem dX6_sumOf_72 : decode cX6_sumOf 72 = .ok (.aload_n 0, 1) := dk_42_ (show cX6_sumOf.data.toList[72]? = some 0x2a from (LBX6_sumOfr_4 8).trans (by decide +kernel))
theorem dX6_sumOf_73 : decode cX6_sumOf 73 = .ok (.aload_n 1, 1) := dk_43_ (show cX6_sumOf.data.toList[73]? = some 0x2b from (LBX6_sumOfr_4 9).trans (by decide +kernel))
theorem dX6_sumOf_74 : decode cX6_sumOf 74 = .ok (.getfield 20, 3) := dk_180_ (show cX6_sumOf.data.toList[74]? = some 0xb4 from (LBX6_sumOfr_4 10).trans (by decide +kernel)) (show cX6_sumOf.data.toList[75]? = some 0x00 from (LBX6_sumOfr_4 11).trans (by decide +kernel)) (show cX6_sumOf.data.toList[76]? = some 0x14 from (LBX6_sumOfr_4 12).trans (by decide +kernel)) (by decide)
theorem dX6_sumOf_77 : decode cX6_sumOf 77 = .ok (.aload_n 2, 1) := dk_44_ (show cX6_sumOf.data.toList[77]? = some 0x2c from (LBX6_sumOfr_4 13).trans (by decide +kernel))
theorem dX6_sumOf_78 : decode cX6_sumOf 78 = .ok (.iload_n 3, 1) := dk_29_ (show cX6_sumOf.data.toList[78]? = some 0x1d from (LBX6_sumOfr_4 14).trans (by decide +kernel))
theorem dX6_sumOf_79 : decode cX6_sumOf 79 = .ok (.iconst 1, 1) := dk_4_ (show cX6_sumOf.data.toList[79]? = some 0x04 from (LBX6_sumOfr_4 15).trans (by decide +kernel))
theorem dX6_sumOf_80 : decode cX6_sumOf 80 = .ok (.invokevirtual 32, 3) := dk_182_ (show cX6_sumOf.data.toList[80]? = some 0xb6 from (LBX6_sumOfr_5 0).trans (by decide +kernel)) (show cX6_sumOf.data.toList[81]? = some 0x00 from (LBX6_sumOfr_5 1).trans (by decide +kernel)) (show cX6_sumOf.data.toList[82]? = some 0x20 from (LBX6_sumOfr_5 2).trans (by decide +kernel)) (by decide)
theorem dX6_sumOf_83 : decode cX6_sumOf 83 = .ok (.ireturn, 1) := dk_172_ (show cX6_sumOf.data.toList[83]? = some 0xac from (LBX6_sumOfr_5 3).trans (by decide +kernel))
theorem dX6_sumOf_84 : decode cX6_sumOf 84 = .ok (.aload_n 0, 1) := dk_42_ (show cX6_sumOf.data.toList[84]? = some 0x2a from (LBX6_sumOfr_5 4).trans (by decide +kernel))
theorem dX6_sumOf_85 : decode cX6_sumOf 85 = .ok (.aload_n 1, 1) := dk_43_ (show cX6_sumOf.data.toList[85]? = some 0x2b from (LBX6_sumOfr_5 5).trans (by decide +kernel))
theorem dX6_sumOf_86 : decode cX6_sumOf 86 = .ok (.getfield 20, 3) := dk_180_ (show cX6_sumOf.data.toList[86]? = some 0xb4 from (LBX6_sumOfr_5 6).trans (by decide +kernel)) (show cX6_sumOf.data.toList[87]? = some 0x00 from (LBX6_sumOfr_5 7).trans (by decide +kernel)) (show cX6_sumOf.data.toList[88]? = some 0x14 from (LBX6_sumOfr_5 8).trans (by decide +kernel)) (by decide)
theorem dX6_sumOf_89 : decode cX6_sumOf 89 = .ok (.aload_n 2, 1) := dk_44_ (show cX6_sumOf.data.toList[89]? = some 0x2c from (LBX6_sumOfr_5 9).trans (by decide +kernel))
theorem dX6_sumOf_90 : decode cX6_sumOf 90 = .ok (.iload_n 3, 1) := dk_29_ (show cX6_sumOf.data.toList[90]? = some 0x1d from (LBX6_sumOfr_5 10).trans (by decide +kernel))
theorem dX6_sumOf_91 : decode cX6_sumOf 91 = .ok (.iconst 0, 1) := dk_3_ (show cX6_sumOf.data.toList[91]? = some 0x03 from (LBX6_sumOfr_5 11).trans (by decide +kernel))
theorem dX6_sumOf_92 : decode cX6_sumOf 92 = .ok (.invokevirtual 32, 3) := dk_182_ (show cX6_sumOf.data.toList[92]? = some 0xb6 from (LBX6_sumOfr_5 12).trans (by decide +kernel)) (show cX6_sumOf.data.toList[93]? = some 0x00 from (LBX6_sumOfr_5 13).trans (by decide +kernel)) (show cX6_sumOf.data.toList[94]? = some 0x20 from (LBX6_sumOfr_5 14).trans (by decide +kernel)) (by decide)
theorem dX6_sumOf_95 : decode cX6_sumOf 95 = .ok (.ireturn, 1) := dk_172_ (show cX6_sumOf.data.toList[95]? = some 0xac from (LBX6_sumOfr_5 15).trans (by decide +kernel))
theorem dX6_sumOf_96 : decode cX6_sumOf 96 = .ok (.aload_n 1, 1) := dk_43_ (show cX6_sumOf.data.toList[96]? = some 0x2b from (LBX6_sumOfr_6 0).trans (by decide +kernel))
theorem dX6_sumOf_97 : decode cX6_sumOf 97 = .ok (.aload_n 2, 1) := dk_44_ (show cX6_sumOf.data.toList[97]? = some 0x2c from (LBX6_sumOfr_6 1).trans (by decide +kernel))
theorem dX6_sumOf_98 : decode cX6_sumOf 98 = .ok (.iload_n 3, 1) := dk_29_ (show cX6_sumOf.data.toList[98]? = some 0x1d from (LBX6_sumOfr_6 2).trans (by decide +kernel))
theorem dX6_sumOf_99 : decode cX6_sumOf 99 = .ok (.invokestatic 36, 3) := dk_184_ (show cX6_sumOf.data.toList[99]? = some 0xb8 from (LBX6_sumOfr_6 3).trans (by decide +kernel)) (show cX6_sumOf.data.toList[100]? = some 0x00 from (LBX6_sumOfr_6 4).trans (by decide +kernel)) (show cX6_sumOf.data.toList[101]? = some 0x24 from (LBX6_sumOfr_6 5).trans (by decide +kernel)) (by decide)
theorem dX6_sumOf_102 : decode cX6_sumOf 102 = .ok (.ireturn, 1) := dk_172_ (show cX6_sumOf.data.toList[102]? = some 0xac from (LBX6_sumOfr_6 6).trans (by decide +kernel))
theorem dX6_sumOf_103 : decode cX6_sumOf 103 = .ok (.aload_n 1, 1) := dk_43_ (show cX6_sumOf.data.toList[103]? = some 0x2b from (LBX6_sumOfr_6 7).trans (by decide +kernel))
theorem dX6_sumOf_104 : decode cX6_sumOf 104 = .ok (.getfield 20, 3) := dk_180_ (show cX6_sumOf.data.toList[104]? = some 0xb4 from (LBX6_sumOfr_6 8).trans (by decide +kernel)) (show cX6_sumOf.data.toList[105]? = some 0x00 from (LBX6_sumOfr_6 9).trans (by decide +kernel)) (show cX6_sumOf.data.toList[106]? = some 0x14 from (LBX6_sumOfr_6 10).trans (by decide +kernel)) (by decide)
theorem dX6_sumOf_107 : decode cX6_sumOf 107 = .ok (.aload_n 2, 1) := dk_44_ (show cX6_sumOf.data.toList[107]? = some 0x2c from (LBX6_sumOfr_6 11).trans (by decide +kernel))
theorem dX6_sumOf_108 : decode cX6_sumOf 108 = .ok (.iload_n 3, 1) := dk_29_ (show cX6_sumOf.data.toList[108]? = some 0x1d from (LBX6_sumOfr_6 12).trans (by decide +kernel))
theorem dX6_sumOf_109 : decode cX6_sumOf 109 = .ok (.invokestatic 40, 3) := dk_184_ (show cX6_sumOf.data.toList[109]? = some 0xb8 from (LBX6_sumOfr_6 13).trans (by decide +kernel)) (show cX6_sumOf.data.toList[110]? = some 0x00 from (LBX6_sumOfr_6 14).trans (by decide +kernel)) (show cX6_sumOf.data.toList[111]? = some 0x28 from (LBX6_sumOfr_6 15).trans (by decide +kernel)) (by decide)
theorem dX6_sumOf_112 : decode cX6_sumOf 112 = .ok (.ireturn, 1) := dk_172_ (show cX6_sumOf.data.toList[112]? = some 0xac from (LBX6_sumOfr_7 0).trans (by decide +kernel))
theorem dX6_sumOf_113 : decode cX6_sumOf 113 = .ok (.ldc 43, 2) := dk_18_ (show cX6_sumOf.data.toList[113]? = some 0x12 from (LBX6_sumOfr_7 1).trans (by decide +kernel)) (show cX6_sumOf.data.toList[114]? = some 0x2b from (LBX6_sumOfr_7 2).trans (by decide +kernel)) (by decide)
theorem dX6_sumOf_115 : decode cX6_sumOf 115 = .ok (.ireturn, 1) := dk_172_ (show cX6_sumOf.data.toList[115]? = some 0xac from (LBX6_sumOfr_7 3).trans (by decide +kernel))
theorem uw139 : Cond.fieldLink RX6 44 "LongerBack$Rows" "lengths" "[I" ∈ wsU := ut1 (List.mem_of_getElem? (i := 42) rfl) rfl
theorem uw140 : Cond.methodLink RX6 49 yX3_stop ∈ wsU := ut2 (List.mem_of_getElem? (i := 211) rfl) rfl
theorem uw141 : Cond.methodLink RX6 53 yX6_stopBehind ∈ wsU := ut2 (List.mem_of_getElem? (i := 215) rfl) rfl
theorem uw142 : Cond.static yX6_stopBehind ∈ wsU := ut2 (List.mem_of_getElem? (i := 216) rfl) rfl
theorem uw143 : Cond.initialized yX6_stopBehind.cls ∈ wsU := ut1 (List.mem_of_getElem? (i := 5) rfl) rfl
theorem uw144 : Cond.code yX6_stopBehind cX6_stopBehind 3 (some .int) ∈ wsU := ut2 (List.mem_of_getElem? (i := 217) rfl) rfl
theorem uw145 : Cond.methodLink RX6 57 yX0_farOf ∈ wsU := ut2 (List.mem_of_getElem? (i := 218) rfl) rfl
theorem uw146 : Cond.methodLink RX6 69 yX1_isOpen ∈ wsU := ut2 (List.mem_of_getElem? (i := 226) rfl) rfl
theorem uw147 : Cond.methodLink RX6 73 yX1_lowOf ∈ wsU := ut2 (List.mem_of_getElem? (i := 227) rfl) rfl
theorem uw148 : Cond.constant RX6 43 1000000000 ∈ wsU := ut2 (List.mem_of_getElem? (i := 228) rfl) rfl
theorem uw149 : Cond.fieldLink RX6 20 "LongerBack$Land" "rounds" "LLongerBack$Rows;" ∈ wsU := ut1 (List.mem_of_getElem? (i := 68) rfl) rfl
theorem uw150 : Cond.methodLink RX6 65 yX6_toldWay ∈ wsU := ut2 (List.mem_of_getElem? (i := 223) rfl) rfl
theorem uw151 : Cond.static yX6_toldWay ∈ wsU := ut2 (List.mem_of_getElem? (i := 224) rfl) rfl
theorem uw152 : Cond.initialized yX6_toldWay.cls ∈ wsU := ut1 (List.mem_of_getElem? (i := 5) rfl) rfl
theorem uw153 : Cond.code yX6_toldWay cX6_toldWay 3 (some .int) ∈ wsU := ut2 (List.mem_of_getElem? (i := 225) rfl) rfl
theorem uw154 : Cond.methodLink RX6 76 yX3_lastStop ∈ wsU := ut3 (List.mem_of_getElem? (i := 7) rfl) rfl
theorem uw155 : Cond.instanceMethod yX3_lastStop ∈ wsU := ut3 (List.mem_of_getElem? (i := 8) rfl) rfl
theorem uw156 : Cond.selects RX3 yX3_lastStop yX3_lastStop ∈ wsU := ut3 (List.mem_of_getElem? (i := 9) rfl) rfl
theorem uw157 : Cond.code yX3_lastStop cX3_lastStop 2 (some .int) ∈ wsU := ut3 (List.mem_of_getElem? (i := 10) rfl) rfl
theorem uw158 : Cond.methodLink RX6 80 yX0_meetingOf ∈ wsU := ut3 (List.mem_of_getElem? (i := 12) rfl) rfl
theorem uw159 : Cond.instanceMethod yX0_meetingOf ∈ wsU := ut3 (List.mem_of_getElem? (i := 13) rfl) rfl
theorem uw160 : Cond.selects RX0 yX0_meetingOf yX0_meetingOf ∈ wsU := ut3 (List.mem_of_getElem? (i := 14) rfl) rfl
theorem uw161 : Cond.code yX0_meetingOf cX0_meetingOf 8 (some .int) ∈ wsU := ut3 (List.mem_of_getElem? (i := 15) rfl) rfl
theorem uw162 : Cond.methodLink RX6 84 yX0_priceOf ∈ wsU := ut3 (List.mem_of_getElem? (i := 21) rfl) rfl
theorem uw163 : Cond.fieldLink RX6 9 "LongerBack$Sums" "least" "[I" ∈ wsU := ut1 (List.mem_of_getElem? (i := 123) rfl) rfl
theorem uw164 : Cond.laysFinal RX6 "LongerBack$Sums" "least" "[I" ∈ wsU := ut1 (List.mem_of_getElem? (i := 124) rfl) rfl
theorem uw165 : Cond.methodLink RX6 92 Lib.Math.min.name ∈ wsU := ut3 (List.mem_of_getElem? (i := 1) rfl) rfl
theorem uw166 : Cond.methodLink RX6 97 yX6_goOnFrom ∈ wsU := ut2 (List.mem_of_getElem? (i := 237) rfl) rfl
theorem uw167 : Cond.instanceMethod yX6_goOnFrom ∈ wsU := ut2 (List.mem_of_getElem? (i := 239) rfl) rfl
theorem uw168 : Cond.selects RX6 yX6_goOnFrom yX6_goOnFrom ∈ wsU := us_sel (q := (yX6_goOnFrom, 1)) (List.mem_of_getElem? (i := 9) (by decide +kernel)) rfl
theorem uw169 : Cond.initialized RX6 ∈ wsU := ut1 (List.mem_of_getElem? (i := 5) rfl) rfl
theorem uw170 : Cond.code yX6_goOnFrom cX6_goOnFrom 10 none ∈ wsU := ut3 (List.mem_of_getElem? (i := 0) rfl) rfl
theorem uw171 : Cond.methodLink RX6 88 yX6_orderStops ∈ wsU := ut2 (List.mem_of_getElem? (i := 233) rfl) rfl
theorem uw172 : Cond.instanceMethod yX6_orderStops ∈ wsU := ut2 (List.mem_of_getElem? (i := 235) rfl) rfl
theorem uw173 : Cond.selects RX6 yX6_orderStops yX6_orderStops ∈ wsU := us_sel (q := (yX6_orderStops, 1)) (List.mem_of_getElem? (i := 8) (by decide +kernel)) rfl
theorem uw174 : Cond.code yX6_orderStops cX6_orderStops 7 none ∈ wsU := ut2 (List.mem_of_getElem? (i := 236) rfl) rfl
theorem uw175 : Cond.fieldLink RX6 15 "LongerBack$Land" "kinds" "[I" ∈ wsU := ut1 (List.mem_of_getElem? (i := 71) rfl) rfl
theorem uw176 : Cond.methodLink RX6 24 yX6_roundSum ∈ wsU := ut2 (List.mem_of_getElem? (i := 208) rfl) rfl
theorem uw177 : Cond.static yX6_roundSum ∈ wsU := ut2 (List.mem_of_getElem? (i := 209) rfl) rfl
theorem uw178 : Cond.initialized yX6_roundSum.cls ∈ wsU := ut1 (List.mem_of_getElem? (i := 5) rfl) rfl
theorem uw179 : Cond.code yX6_roundSum cX6_roundSum 5 (some .int) ∈ wsU := ut2 (List.mem_of_getElem? (i := 210) rfl) rfl
theorem uw180 : Cond.methodLink RX6 28 yX6_toldSum ∈ wsU := ut2 (List.mem_of_getElem? (i := 220) rfl) rfl
theorem uw181 : Cond.static yX6_toldSum ∈ wsU := ut2 (List.mem_of_getElem? (i := 221) rfl) rfl
theorem uw182 : Cond.initialized yX6_toldSum.cls ∈ wsU := ut1 (List.mem_of_getElem? (i := 5) rfl) rfl
theorem uw183 : Cond.code yX6_toldSum cX6_toldSum 7 (some .int) ∈ wsU := ut2 (List.mem_of_getElem? (i := 222) rfl) rfl
theorem uw184 : Cond.methodLink RX6 32 yX6_bestSum ∈ wsU := ut2 (List.mem_of_getElem? (i := 229) rfl) rfl
theorem uw185 : Cond.instanceMethod yX6_bestSum ∈ wsU := ut2 (List.mem_of_getElem? (i := 231) rfl) rfl
theorem uw186 : Cond.selects RX6 yX6_bestSum yX6_bestSum ∈ wsU := us_sel (q := (yX6_bestSum, 1)) (List.mem_of_getElem? (i := 7) (by decide +kernel)) rfl
theorem uw187 : Cond.code yX6_bestSum cX6_bestSum 9 (some .int) ∈ wsU := ut2 (List.mem_of_getElem? (i := 232) rfl) rfl
theorem uw188 : Cond.methodLink RX6 36 yX6_meetSum ∈ wsU := ut3 (List.mem_of_getElem? (i := 4) rfl) rfl
theorem uw189 : Cond.static yX6_meetSum ∈ wsU := ut3 (List.mem_of_getElem? (i := 5) rfl) rfl
theorem uw190 : Cond.initialized yX6_meetSum.cls ∈ wsU := ut1 (List.mem_of_getElem? (i := 5) rfl) rfl
theorem uw191 : Cond.code yX6_meetSum cX6_meetSum 6 (some .int) ∈ wsU := ut3 (List.mem_of_getElem? (i := 6) rfl) rfl
theorem uw192 : Cond.methodLink RX6 40 yX6_pairsSum ∈ wsU := ut3 (List.mem_of_getElem? (i := 22) rfl) rfl
theorem uw193 : Cond.static yX6_pairsSum ∈ wsU := ut3 (List.mem_of_getElem? (i := 23) rfl) rfl
theorem uw194 : Cond.initialized yX6_pairsSum.cls ∈ wsU := ut1 (List.mem_of_getElem? (i := 5) rfl) rfl
theorem uw195 : Cond.code yX6_pairsSum cX6_pairsSum 7 (some .int) ∈ wsU := ut3 (List.mem_of_getElem? (i := 24) rfl) rfl
theorem inUX6 : ∀ w ∈ u_ws RX6 TX6 1, w ∈ wsU := List.forall_mem_cons.mpr ⟨uw164, fun _ h => absurd h List.not_mem_nil⟩
theorem kf_X6_44 : xWF RX6 44 3 1 RX3 TX3 3 := ⟨inUX3, rfl, by decide, uw139⟩
theorem kv_X6_49 : xWV RX6 49 RX3 yX3_stop cX3_stop 3 (some .int) 2 := ⟨⟨uw140, uw45, uw46, uw42, uw47⟩, by decide +kernel⟩
theorem ks_X6_53 : xWS RX6 53 yX6_stopBehind cX6_stopBehind 3 (some .int) 3 := ⟨⟨uw141, uw142, uw143, uw144⟩, by decide +kernel⟩
theorem kv_X6_57 : xWV RX6 57 RX0 yX0_farOf cX0_farOf 4 (some .int) 2 := ⟨⟨uw145, uw121, uw122, uw84, uw123⟩, by decide +kernel⟩
theorem kn_X6_62 : (Cond.code yX8_together cX8_together 2 (some .int) ∈ wsU ∧ Cond.static yX8_together ∈ wsU ∧ Cond.initialized yX8_together.cls ∈ wsU) ∧ (yX8_together.cls ≠ "java/lang/invoke/MethodHandle" ∧ yX8_together.cls ≠ "java/lang/invoke/VarHandle" ∧ (parseMethodDescriptor yX8_together.desc).map (fun d => d.parameters.length) = some 2) ∧ Cond.methodLinkNest RX6 62 yX8_together RX8 ∈ xNest := ⟨⟨uw88, uw86, uw87⟩, by decide +kernel, by decide +kernel⟩
theorem kv_X6_69 : xWV RX6 69 RX1 yX1_isOpen cX1_isOpen 3 (some .boolean) 2 := ⟨⟨uw146, uw29, uw30, uw19, uw31⟩, by decide +kernel⟩
theorem kv_X6_73 : xWV RX6 73 RX1 yX1_lowOf cX1_lowOf 3 (some .int) 2 := ⟨⟨uw147, uw54, uw55, uw19, uw56⟩, by decide +kernel⟩
theorem kf_X6_20 : xWF RX6 20 1 5 RX1 TX1 10 := ⟨inUX1, rfl, by decide, uw149⟩
theorem ks_X6_65 : xWS RX6 65 yX6_toldWay cX6_toldWay 3 (some .int) 3 := ⟨⟨uw150, uw151, uw152, uw153⟩, by decide +kernel⟩
theorem kv_X6_76 : xWV RX6 76 RX3 yX3_lastStop cX3_lastStop 2 (some .int) 1 := ⟨⟨uw154, uw155, uw156, uw42, uw157⟩, by decide +kernel⟩
theorem kv_X6_80 : xWV RX6 80 RX0 yX0_meetingOf cX0_meetingOf 8 (some .int) 3 := ⟨⟨uw158, uw159, uw160, uw84, uw161⟩, by decide +kernel⟩
theorem kv_X6_84 : xWV RX6 84 RX0 yX0_priceOf cX0_priceOf 8 (some .int) 4 := ⟨⟨uw162, uw133, uw134, uw84, uw135⟩, by decide +kernel⟩
theorem kf_X6_9 : xWF RX6 9 6 0 RX6 TX6 1 := ⟨inUX6, rfl, by decide, uw163⟩
theorem kv_X6_97 : xWV RX6 97 RX6 yX6_goOnFrom cX6_goOnFrom 10 none 5 := ⟨⟨uw166, uw167, uw168, uw169, uw170⟩, by decide +kernel⟩
theorem kv_X6_88 : xWV RX6 88 RX6 yX6_orderStops cX6_orderStops 7 none 3 := ⟨⟨uw171, uw172, uw173, uw169, uw174⟩, by decide +kernel⟩
theorem kf_X6_15 : xWF RX6 15 1 6 RX1 TX1 10 := ⟨inUX1, rfl, by decide, uw175⟩
theorem ks_X6_24 : xWS RX6 24 yX6_roundSum cX6_roundSum 5 (some .int) 3 := ⟨⟨uw176, uw177, uw178, uw179⟩, by decide +kernel⟩
theorem ks_X6_28 : xWS RX6 28 yX6_toldSum cX6_toldSum 7 (some .int) 3 := ⟨⟨uw180, uw181, uw182, uw183⟩, by decide +kernel⟩
theorem kv_X6_32 : xWV RX6 32 RX6 yX6_bestSum cX6_bestSum 9 (some .int) 4 := ⟨⟨uw184, uw185, uw186, uw169, uw187⟩, by decide +kernel⟩
theorem ks_X6_36 : xWS RX6 36 yX6_meetSum cX6_meetSum 6 (some .int) 3 := ⟨⟨uw188, uw189, uw190, uw191⟩, by decide +kernel⟩
theorem ks_X6_40 : xWS RX6 40 yX6_pairsSum cX6_pairsSum 7 (some .int) 3 := ⟨⟨uw192, uw193, uw194, uw195⟩, by decide +kernel⟩
set_option maxHeartbeats 4000000 in
set_option maxRecDepth 100000 in
theorem c_X6_stopBehind (l : Launch) (D : va_G) (cI cJ cZ cS : ClassId) (ta : Nat) (sa sv : Nat → Nat) (sz : Nat) (q1 : Nat) (bn : Nat) (bp : Nat) (cn : Nat) (ln : Nat → Int32) (sp : Nat → Int32) (k : Nat) (q : Nat) (i : Nat) (hk : k < 8) (hq1 : 1 ≤ q) (hq : q < 7) (eq0 : ln k = nI q) (hln : BA 8 7 ln) (hsp : BA 48 10 sp) (hi : i < q) : Met l yX6_stopBehind (Cond.code yX6_stopBehind cX6_stopBehind 3 (some .int) :: wsU) ({ frames := 1, cells := 0, slots := 0, locals := 22 }) (va_Pc [.ref q1, .int (nI (k)), .int (nI (i))] (XW D (xT cI cJ cZ cS) ta sa sv [(q1, .inr (3, [.int (nI (cn)), .ref bn, .ref bp])), (bn, .inl (cI, 8, .inl ln)), (bp, .inl (cI, 48, .inl sp))] sz)) (vp_Si (fun r : Int32 => (∃ (y : Nat), r = nI (y) ∧ (y < 10)))) 0 0 (fun _ => False) := by
  refine xh (QA := fun _ => vp_Si (fun r : Int32 => (∃ (y : Nat), r = nI (y) ∧ (y < 10)))) (fr := fun _ _ => False) (by decide) (Nat.le_of_ble_eq_true rfl) ?_
  intro p e s m below meth c ls A hF hr hlk hin hsz hP hK hD hN hZ hA hS hl
  have hF : CallFix p m c cX6_stopBehind 3 s _ _ RX6 := hF
  have hx := hF.1
  have hb := hF.2.1
  have hml := hF.2.2.1
  have hown := hF.2.2.2.1
  have hu : ∀ w ∈ wsU, w.before _ s = true := fun w h => hF.2.2.2.2 w (List.mem_cons_of_mem _ h)
  have hl : lv_has ls 3 [(0, .ref q1), (1, .int (nI (k))), (2, .int (nI (i)))] := hl
  refine lv_aload_n hx hb dX6_stopBehind_0 rfl (lv_at hl 0 rfl) ?_
  refine lv_iload_n hx hb dX6_stopBehind_1 rfl (lv_at hl 1 rfl) ?_
  refine lv_iload_n hx hb dX6_stopBehind_2 rfl (lv_at hl 2 rfl) ?_
  refine lv_iconst (v := 1) hx hb dX6_stopBehind_3 (by decide) ?_
  refine lv_iadd hx hb dX6_stopBehind_4 ?_
  refine xl_i (y := nI (i + 1)) (nI_add i 1) ?_
  refine lv_aload_n hx hb dX6_stopBehind_5 rfl (lv_at hl 0 rfl) ?_
  refine xg hF kf_X6_44 hK hP 0 rfl rfl dX6_stopBehind_6 ?_
  refine lv_iload_n hx hb dX6_stopBehind_9 rfl (lv_at hl 1 rfl) ?_
  refine va_iald hx hb hK hP 1 0 rfl rfl (vp_in_nI (show k < 8 by omega) (by decide)) dX6_stopBehind_10 ?_
  refine xl_i (y := ln k) (congrArg ln (nI_clamp (show k < 2 ^ 31 by omega))) ?_
  refine xl_i (y := nI (q)) eq0 ?_
  refine lv_icmp_ge (tgt := 20) hx hb dX6_stopBehind_11 (by decide) (fun c_1 => ?_) (fun c_1 => ?_)
  · skip
    have nc_1 : q ≤ i + 1 := xn_le (a := q) (b := (i + 1)) (by omega) (by omega) c_1
    refine lv_iconst (v := 0) hx hb dX6_stopBehind_20 (by decide) ?_
    refine xc_Vr hF (c_X3_stop l D cI cJ cZ cS ta sa sv s.heap.size q1 bn bp cn k 0 sp (by omega) (by omega) hsp) kv_X6_49 ⟨rfl, rfl, Nat.le_of_ble_eq_true rfl, Nat.le_of_ble_eq_true rfl⟩ ⟨Nat.le_of_ble_eq_true rfl, Nat.le_of_ble_eq_true rfl⟩ hK hN hZ hP hD hS hA [0, 2] rfl rfl 0 rfl rfl rfl rfl hl.1 rfl (Nat.le_of_ble_eq_true rfl) dX6_stopBehind_21 (fun r_2 hw_r_2 => ?_)
    obtain ⟨q_3, rfl, h_4, h_5⟩ := hw_r_2
    exact W.iret (v := nI (q_3)) hx hb hr (fun t ht hW => ⟨nI (q_3), rfl, (by first | exact ⟨q_3, rfl, (by first | assumption | omega | exact Or.inl (by first | assumption | omega) | exact Or.inr (by first | assumption | omega))⟩), ht⟩) (fun q h => by cases h) dX6_stopBehind_24 hlk
  · skip
    have nc_1 : i + 1 < q := xn_nle (a := q) (b := (i + 1)) (by omega) (by omega) c_1
    refine lv_iload_n hx hb dX6_stopBehind_14 rfl (lv_at hl 2 rfl) ?_
    refine lv_iconst (v := 1) hx hb dX6_stopBehind_15 (by decide) ?_
    refine lv_iadd hx hb dX6_stopBehind_16 ?_
    refine xl_i (y := nI (i + 1)) (nI_add i 1) ?_
    refine lv_goto (tgt := 21) hx hb dX6_stopBehind_17 (by decide) ?_
    refine xc_Vr hF (c_X3_stop l D cI cJ cZ cS ta sa sv s.heap.size q1 bn bp cn k (i + 1) sp (by omega) (by omega) hsp) kv_X6_49 ⟨rfl, rfl, Nat.le_of_ble_eq_true rfl, Nat.le_of_ble_eq_true rfl⟩ ⟨Nat.le_of_ble_eq_true rfl, Nat.le_of_ble_eq_true rfl⟩ hK hN hZ hP hD hS hA [0, 2] rfl rfl 0 rfl rfl rfl rfl hl.1 rfl (Nat.le_of_ble_eq_true rfl) dX6_stopBehind_21 (fun r_6 hw_r_6 => ?_)
    obtain ⟨q_7, rfl, h_8, h_9⟩ := hw_r_6
    exact W.iret (v := nI (q_7)) hx hb hr (fun t ht hW => ⟨nI (q_7), rfl, (by first | exact ⟨q_7, rfl, (by first | assumption | omega | exact Or.inl (by first | assumption | omega) | exact Or.inr (by first | assumption | omega))⟩), ht⟩) (fun q h => by cases h) dX6_stopBehind_24 hlk
set_option maxHeartbeats 4000000 in
set_option maxRecDepth 100000 in
theorem c_X6_roundSum (l : Launch) (D : va_G) (cI cJ cZ cS : ClassId) (ta : Nat) (sa sv : Nat → Nat) (sz : Nat) (q1 : Nat) (bn : Nat) (bp : Nat) (cn : Nat) (ln : Nat → Int32) (sp : Nat → Int32) (q2 : Nat) (dn : Nat) (Q : Nat) (La : Nat → Int32) (k : Nat) (q : Nat) (hk : k < 8) (hq1 : 1 ≤ q) (hq : q < 7) (eq0 : ln k = nI q) (hln : BA 8 7 ln) (hsp : BA 48 10 sp) : Met l yX6_roundSum (Cond.code yX6_roundSum cX6_roundSum 5 (some .int) :: wsU) ({ frames := 2, cells := 0, slots := 0, locals := 45 }) (va_Pc [.ref q1, .ref q2, .int (nI (k))] (XW D (xT cI cJ cZ cS) ta sa sv [(q1, .inr (3, [.int (nI (cn)), .ref bn, .ref bp])), (bn, .inl (cI, 8, .inl ln)), (bp, .inl (cI, 48, .inl sp)), (q2, .inr (0, [.int (nI (Q)), .ref dn])), (dn, .inl (cI, 100, .inl La))] sz)) (vp_Si (fun r : Int32 => True)) 0 0 (fun _ => False) := by
  refine xh (QA := fun _ => vp_Si (fun r : Int32 => True)) (fr := fun _ _ => False) (by decide) (Nat.le_of_ble_eq_true rfl) ?_
  intro p e s m below meth c ls A hF hr hlk hin hsz hP hK hD hN hZ hA hS hl
  have hF : CallFix p m c cX6_roundSum 5 s _ _ RX6 := hF
  have hx := hF.1
  have hb := hF.2.1
  have hml := hF.2.2.1
  have hown := hF.2.2.2.1
  have hu : ∀ w ∈ wsU, w.before _ s = true := fun w h => hF.2.2.2.2 w (List.mem_cons_of_mem _ h)
  have hl : lv_has ls 5 [(0, .ref q1), (1, .ref q2), (2, .int (nI (k)))] := hl
  refine lv_iconst (v := 0) hx hb dX6_roundSum_0 (by decide) ?_
  refine lv_istore_n (lv' := [(3, .int 0), (0, .ref q1), (1, .ref q2), (2, .int (nI (k)))]) hx hb dX6_roundSum_1 rfl hl (by decide) rfl (fun ls hl => ?_)
  refine lv_iconst (v := 0) hx hb dX6_roundSum_2 (by decide) ?_
  refine lv_istore (lv' := [(4, .int 0), (3, .int 0), (0, .ref q1), (1, .ref q2), (2, .int (nI (k)))]) hx hb dX6_roundSum_3 hl (by decide) rfl (fun ls hl => ?_)
  suffices loop_5 : ∀ (n_5 : Nat) (i : Nat) (u : Int32) (ls : Array Slot), q - i < n_5 → (i ≤ q) → lv_has ls 5 [(4, .int (nI (i))), (3, .int u), (0, .ref q1), (1, .ref q2), (2, .int (nI (k)))] → W p l e ({ frames := 2, cells := 0, slots := 0, locals := 45 }) s m ([.ref q1, .ref q2, .int (nI (k))] : List Value).toArray below meth c s.heap [] 0 0 (MQ below (vp_Si (fun r : Int32 => True)) ([.ref q1, .ref q2, .int (nI (k))] : List Value).toArray s 0 0 (fun _ => False)) (F0 m 5 ls []) by
    exact loop_5 _ 0 0 _ (Nat.lt_succ_self _) (by omega) (lv_sub hl [0, 1, 2, 3, 4] rfl)
  intro n_5
  induction n_5 with
  | zero =>
    intro i u ls hm_5
    exact absurd hm_5 (Nat.not_lt_zero _)
  | succ n_5 ih_5 =>
    intro i u ls hm_5 hi hl
    refine lv_iload hx hb dX6_roundSum_5 (lv_at hl 0 rfl) ?_
    refine lv_aload_n hx hb dX6_roundSum_7 rfl (lv_at hl 2 rfl) ?_
    refine xg hF kf_X6_44 hK hP 0 rfl rfl dX6_roundSum_8 ?_
    refine lv_iload_n hx hb dX6_roundSum_11 rfl (lv_at hl 4 rfl) ?_
    refine va_iald hx hb hK hP 1 0 rfl rfl (vp_in_nI (show k < 8 by omega) (by decide)) dX6_roundSum_12 ?_
    refine xl_i (y := ln k) (congrArg ln (nI_clamp (show k < 2 ^ 31 by omega))) ?_
    refine xl_i (y := nI (q)) eq0 ?_
    refine lv_icmp_ge (tgt := 45) hx hb dX6_roundSum_13 (by decide) (fun c_1 => ?_) (fun c_1 => ?_)
    · skip
      have nc_1 : q ≤ i := xn_le (a := q) (b := i) (by omega) (by omega) c_1
      refine lv_iload_n hx hb dX6_roundSum_45 rfl (lv_at hl 1 rfl) ?_
      exact W.iret (v := u) hx hb hr (fun t ht hW => ⟨u, rfl, trivial, ht⟩) (fun q h => by cases h) dX6_roundSum_46 hlk
    · skip
      have nc_1 : i < q := xn_nle (a := q) (b := i) (by omega) (by omega) c_1
      refine lv_iload_n hx hb dX6_roundSum_16 rfl (lv_at hl 1 rfl) ?_
      refine lv_aload_n hx hb dX6_roundSum_17 rfl (lv_at hl 3 rfl) ?_
      refine lv_aload_n hx hb dX6_roundSum_18 rfl (lv_at hl 2 rfl) ?_
      refine lv_iload_n hx hb dX6_roundSum_19 rfl (lv_at hl 4 rfl) ?_
      refine lv_iload hx hb dX6_roundSum_20 (lv_at hl 0 rfl) ?_
      refine xc_Vr hF (c_X3_stop l D cI cJ cZ cS ta sa sv s.heap.size q1 bn bp cn k i sp (by omega) (by omega) hsp) kv_X6_49 ⟨rfl, rfl, Nat.le_of_ble_eq_true rfl, Nat.le_of_ble_eq_true rfl⟩ ⟨Nat.le_of_ble_eq_true rfl, Nat.le_of_ble_eq_true rfl⟩ hK hN hZ hP hD hS hA [0, 2] rfl rfl 0 rfl rfl rfl rfl hl.1 rfl (Nat.le_of_ble_eq_true rfl) dX6_roundSum_22 (fun r_2 hw_r_2 => ?_)
      obtain ⟨q_3, rfl, h_4, h_5⟩ := hw_r_2
      refine lv_aload_n hx hb dX6_roundSum_25 rfl (lv_at hl 2 rfl) ?_
      refine lv_iload_n hx hb dX6_roundSum_26 rfl (lv_at hl 4 rfl) ?_
      refine lv_iload hx hb dX6_roundSum_27 (lv_at hl 0 rfl) ?_
      refine xc_Sr hF (c_X6_stopBehind l D cI cJ cZ cS ta sa sv s.heap.size q1 bn bp cn ln sp k q i (by omega) (by omega) (by omega) (by omega) hln hsp (by omega)) ks_X6_53 ⟨rfl, rfl, Nat.le_of_ble_eq_true rfl, Nat.le_of_ble_eq_true rfl⟩ ⟨Nat.le_of_ble_eq_true rfl, Nat.le_of_ble_eq_true rfl⟩ hK hN hZ hP hD hS hA [0, 1, 2] rfl rfl rfl hl.1 rfl (Nat.le_of_ble_eq_true rfl) dX6_roundSum_29 (fun r_6 hw_r_6 => ?_)
      obtain ⟨y_7, rfl, h_8⟩ := hw_r_6
      refine xc_Vr hF (c_X0_farOf l D cI cJ cZ cS ta sa sv s.heap.size q2 dn Q La q_3 y_7 (by omega) (by omega)) kv_X6_57 ⟨rfl, rfl, Nat.le_of_ble_eq_true rfl, Nat.le_of_ble_eq_true rfl⟩ ⟨Nat.le_of_ble_eq_true rfl, Nat.le_of_ble_eq_true rfl⟩ hK hN hZ hP hD hS hA [3, 4] rfl rfl 0 rfl rfl rfl rfl hl.1 rfl (Nat.le_of_ble_eq_true rfl) dX6_roundSum_32 (fun r_9 hw_r_9 => ?_)
      refine xc_SNr hF (c_X8_together l D cI cJ cZ cS ta sa sv s.heap.size u r_9 ) kn_X6_62.1 kn_X6_62.2.1 kn_X6_62.2.2 ⟨rfl, rfl, Nat.le_of_ble_eq_true rfl, Nat.le_of_ble_eq_true rfl⟩ ⟨Nat.le_of_ble_eq_true rfl, Nat.le_of_ble_eq_true rfl⟩ hK hN hZ hP hD hS hA [] rfl rfl rfl hl.1 rfl (Nat.le_of_ble_eq_true rfl) dX6_roundSum_35 (fun r_10 hw_r_10 => ?_)
      refine lv_istore_n (lv' := [(3, .int r_10), (4, .int (nI (i))), (0, .ref q1), (1, .ref q2), (2, .int (nI (k)))]) hx hb dX6_roundSum_38 rfl hl (by decide) rfl (fun ls hl => ?_)
      refine lv_iinc (v := nI (i + 1)) (lv' := [(4, .int (nI (i + 1))), (3, .int r_10), (0, .ref q1), (1, .ref q2), (2, .int (nI (k)))]) hx hb dX6_roundSum_39 hl (k := 1) rfl (nI_1 (i)) (by decide) rfl (fun ls hl => ?_)
      refine lv_goto (tgt := 5) hx hb dX6_roundSum_42 (by decide) ?_
      exact ih_5 (i + 1) r_10 _ (by omega) (by omega) (lv_sub hl [0, 1, 2, 3, 4] rfl)
set_option maxHeartbeats 4000000 in
set_option maxRecDepth 100000 in
theorem c_X6_toldWay (l : Launch) (D : va_G) (cI cJ cZ cS : ClassId) (ta : Nat) (sa sv : Nat → Nat) (sz : Nat) (q1 : Nat) (be : Nat) (bl : Nat) (bu : Nat) (bo : Nat) (br : Nat) (bk : Nat) (bw : Nat) (btt : Nat) (bss : Nat) (P : Nat) (lo : Nat → Int32) (d : Nat → Int32) (j : Nat) (k : Nat) (hj : j < 10) (hk : k < 10) : Met l yX6_toldWay (Cond.code yX6_toldWay cX6_toldWay 3 (some .int) :: wsU) ({ frames := 2, cells := 0, slots := 0, locals := 43 }) (va_Pc [.ref q1, .int (nI (j)), .int (nI (k))] (XW D (xT cI cJ cZ cS) ta sa sv [(q1, .inr (1, [.int (nI (P)), .ref be, .ref bl, .ref bu, .ref bo, .ref br, .ref bk, .ref bw, .ref btt, .ref bss])), (bl, .inl (cI, 100, .inl lo)), (bo, .inl (cI, 100, .inl d))] sz)) (vp_Si (fun r : Int32 => True)) 0 0 (fun _ => False) := by
  refine xh (QA := fun _ => vp_Si (fun r : Int32 => True)) (fr := fun _ _ => False) (by decide) (Nat.le_of_ble_eq_true rfl) ?_
  intro p e s m below meth c ls A hF hr hlk hin hsz hP hK hD hN hZ hA hS hl
  have hF : CallFix p m c cX6_toldWay 3 s _ _ RX6 := hF
  have hx := hF.1
  have hb := hF.2.1
  have hml := hF.2.2.1
  have hown := hF.2.2.2.1
  have hu : ∀ w ∈ wsU, w.before _ s = true := fun w h => hF.2.2.2.2 w (List.mem_cons_of_mem _ h)
  have hl : lv_has ls 3 [(0, .ref q1), (1, .int (nI (j))), (2, .int (nI (k)))] := hl
  refine lv_iload_n hx hb dX6_toldWay_0 rfl (lv_at hl 1 rfl) ?_
  refine lv_iload_n hx hb dX6_toldWay_1 rfl (lv_at hl 2 rfl) ?_
  refine lv_icmp_ne (tgt := 7) hx hb dX6_toldWay_2 (by decide) (fun c_1 => ?_) (fun c_1 => ?_)
  · skip
    have nc_1 : j ≠ k := xn_ne (a := j) (b := k) (by omega) (by omega) c_1
    refine lv_aload_n hx hb dX6_toldWay_7 rfl (lv_at hl 0 rfl) ?_
    refine lv_iload_n hx hb dX6_toldWay_8 rfl (lv_at hl 1 rfl) ?_
    refine lv_iload_n hx hb dX6_toldWay_9 rfl (lv_at hl 2 rfl) ?_
    refine xc_Vr hF (c_X1_isOpen l D cI cJ cZ cS ta sa sv s.heap.size q1 be bl bu bo br bk bw btt bss P j k d (by omega) (by omega)) kv_X6_69 ⟨rfl, rfl, Nat.le_of_ble_eq_true rfl, Nat.le_of_ble_eq_true rfl⟩ ⟨Nat.le_of_ble_eq_true rfl, Nat.le_of_ble_eq_true rfl⟩ hK hN hZ hP hD hS hA [0, 2] rfl rfl 0 rfl rfl rfl rfl hl.1 rfl (Nat.le_of_ble_eq_true rfl) dX6_toldWay_10 (fun r_2 hw_r_2 => ?_)
    rcases hw_r_2 with ⟨rfl, h_3⟩ | ⟨rfl, h_4⟩
    · skip
      refine lv_if_eq (tgt := 25) hx hb dX6_toldWay_13 (by decide) (fun c_5 => absurd c_5 (by decide)) (fun c_5 => ?_)
      refine lv_aload_n hx hb dX6_toldWay_16 rfl (lv_at hl 0 rfl) ?_
      refine lv_iload_n hx hb dX6_toldWay_17 rfl (lv_at hl 1 rfl) ?_
      refine lv_iload_n hx hb dX6_toldWay_18 rfl (lv_at hl 2 rfl) ?_
      refine xc_Vr hF (c_X1_lowOf l D cI cJ cZ cS ta sa sv s.heap.size q1 be bl bu bo br bk bw btt bss P j k lo (by omega) (by omega)) kv_X6_73 ⟨rfl, rfl, Nat.le_of_ble_eq_true rfl, Nat.le_of_ble_eq_true rfl⟩ ⟨Nat.le_of_ble_eq_true rfl, Nat.le_of_ble_eq_true rfl⟩ hK hN hZ hP hD hS hA [0, 1] rfl rfl 0 rfl rfl rfl rfl hl.1 rfl (Nat.le_of_ble_eq_true rfl) dX6_toldWay_19 (fun r_6 hw_r_6 => ?_)
      subst hw_r_6
      refine lv_goto (tgt := 27) hx hb dX6_toldWay_22 (by decide) ?_
      exact W.iret (v := lo (10 * j + k)) hx hb hr (fun t ht hW => ⟨lo (10 * j + k), rfl, trivial, ht⟩) (fun q h => by cases h) dX6_toldWay_27 hlk
    · skip
      refine lv_if_eq (tgt := 25) hx hb dX6_toldWay_13 (by decide) (fun c_7 => ?_) (fun c_7 => absurd (by decide) c_7)
      refine lv_ldc (v := 1000000000) hx hb hown (hu _ uw148) dX6_toldWay_25 ?_
      exact W.iret (v := 1000000000) hx hb hr (fun t ht hW => ⟨1000000000, rfl, trivial, ht⟩) (fun q h => by cases h) dX6_toldWay_27 hlk
  · skip
    have nc_1 : j = k := xn_eq (a := j) (b := k) (by omega) (by omega) c_1
    refine lv_iconst (v := 0) hx hb dX6_toldWay_5 (by decide) ?_
    exact W.iret (v := 0) hx hb hr (fun t ht hW => ⟨0, rfl, trivial, ht⟩) (fun q h => by cases h) dX6_toldWay_6 hlk
set_option maxHeartbeats 4000000 in
set_option maxRecDepth 100000 in
theorem c_X6_toldSum (l : Launch) (D : va_G) (cI cJ cZ cS : ClassId) (ta : Nat) (sa sv : Nat → Nat) (sz : Nat) (q1 : Nat) (be : Nat) (bl : Nat) (bu : Nat) (bo : Nat) (br : Nat) (bk : Nat) (bw : Nat) (btt : Nat) (bss : Nat) (P : Nat) (bn : Nat) (bp : Nat) (cn : Nat) (lo : Nat → Int32) (d : Nat → Int32) (ln : Nat → Int32) (sp : Nat → Int32) (k : Nat) (q : Nat) (p0 : Int32) (hk : k < 8) (hq1 : 1 ≤ q) (hq : q < 7) (eq0 : ln k = nI q) (hln : BA 8 7 ln) (hsp : BA 48 10 sp) : Met l yX6_toldSum (Cond.code yX6_toldSum cX6_toldSum 7 (some .int) :: wsU) ({ frames := 3, cells := 0, slots := 0, locals := 65 }) (va_Pc [.ref q1, .int (nI (k)), .int p0] (XW D (xT cI cJ cZ cS) ta sa sv [(q1, .inr (1, [.int (nI (P)), .ref be, .ref bl, .ref bu, .ref bo, .ref br, .ref bk, .ref bw, .ref btt, .ref bss])), (bl, .inl (cI, 100, .inl lo)), (bo, .inl (cI, 100, .inl d)), (br, .inr (3, [.int (nI (cn)), .ref bn, .ref bp])), (bn, .inl (cI, 8, .inl ln)), (bp, .inl (cI, 48, .inl sp))] sz)) (vp_Si (fun r : Int32 => True)) 0 0 (fun _ => False) := by
  refine xh (QA := fun _ => vp_Si (fun r : Int32 => True)) (fr := fun _ _ => False) (by decide) (Nat.le_of_ble_eq_true rfl) ?_
  intro p e s m below meth c ls A hF hr hlk hin hsz hP hK hD hN hZ hA hS hl
  have hF : CallFix p m c cX6_toldSum 7 s _ _ RX6 := hF
  have hx := hF.1
  have hb := hF.2.1
  have hml := hF.2.2.1
  have hown := hF.2.2.2.1
  have hu : ∀ w ∈ wsU, w.before _ s = true := fun w h => hF.2.2.2.2 w (List.mem_cons_of_mem _ h)
  have hl : lv_has ls 7 [(0, .ref q1), (1, .int (nI (k))), (2, .int p0)] := hl
  refine lv_iconst (v := 0) hx hb dX6_toldSum_0 (by decide) ?_
  refine lv_istore_n (lv' := [(3, .int 0), (0, .ref q1), (1, .int (nI (k))), (2, .int p0)]) hx hb dX6_toldSum_1 rfl hl (by decide) rfl (fun ls hl => ?_)
  refine lv_iconst (v := 0) hx hb dX6_toldSum_2 (by decide) ?_
  refine lv_istore (lv' := [(4, .int 0), (3, .int 0), (0, .ref q1), (1, .int (nI (k))), (2, .int p0)]) hx hb dX6_toldSum_3 hl (by decide) rfl (fun ls hl => ?_)
  suffices loop_5 : ∀ (n_5 : Nat) (i : Nat) (u : Int32) (ls : Array Slot), q - i < n_5 → (i ≤ q) → lv_has ls 7 [(4, .int (nI (i))), (3, .int u), (0, .ref q1), (1, .int (nI (k))), (2, .int p0)] → W p l e ({ frames := 3, cells := 0, slots := 0, locals := 65 }) s m ([.ref q1, .int (nI (k)), .int p0] : List Value).toArray below meth c s.heap [] 0 0 (MQ below (vp_Si (fun r : Int32 => True)) ([.ref q1, .int (nI (k)), .int p0] : List Value).toArray s 0 0 (fun _ => False)) (F0 m 5 ls []) by
    exact loop_5 _ 0 0 _ (Nat.lt_succ_self _) (by omega) (lv_sub hl [0, 1, 2, 3, 4] rfl)
  intro n_5
  induction n_5 with
  | zero =>
    intro i u ls hm_5
    exact absurd hm_5 (Nat.not_lt_zero _)
  | succ n_5 ih_5 =>
    intro i u ls hm_5 hi hl
    refine lv_iload hx hb dX6_toldSum_5 (lv_at hl 0 rfl) ?_
    refine lv_aload_n hx hb dX6_toldSum_7 rfl (lv_at hl 2 rfl) ?_
    refine xg hF kf_X6_20 hK hP 0 rfl rfl dX6_toldSum_8 ?_
    refine xg hF kf_X6_44 hK hP 3 rfl rfl dX6_toldSum_11 ?_
    refine lv_iload_n hx hb dX6_toldSum_14 rfl (lv_at hl 3 rfl) ?_
    refine va_iald hx hb hK hP 4 0 rfl rfl (vp_in_nI (show k < 8 by omega) (by decide)) dX6_toldSum_15 ?_
    refine xl_i (y := ln k) (congrArg ln (nI_clamp (show k < 2 ^ 31 by omega))) ?_
    refine xl_i (y := nI (q)) eq0 ?_
    refine lv_icmp_ge (tgt := 77) hx hb dX6_toldSum_16 (by decide) (fun c_1 => ?_) (fun c_1 => ?_)
    · skip
      have nc_1 : q ≤ i := xn_le (a := q) (b := i) (by omega) (by omega) c_1
      refine lv_iload_n hx hb dX6_toldSum_77 rfl (lv_at hl 1 rfl) ?_
      exact W.iret (v := u) hx hb hr (fun t ht hW => ⟨u, rfl, trivial, ht⟩) (fun q h => by cases h) dX6_toldSum_78 hlk
    · skip
      have nc_1 : i < q := xn_nle (a := q) (b := i) (by omega) (by omega) c_1
      refine lv_aload_n hx hb dX6_toldSum_19 rfl (lv_at hl 2 rfl) ?_
      refine xg hF kf_X6_20 hK hP 0 rfl rfl dX6_toldSum_20 ?_
      refine lv_iload_n hx hb dX6_toldSum_23 rfl (lv_at hl 3 rfl) ?_
      refine lv_iload hx hb dX6_toldSum_24 (lv_at hl 0 rfl) ?_
      refine xc_Vr hF (c_X3_stop l D cI cJ cZ cS ta sa sv s.heap.size br bn bp cn k i sp (by omega) (by omega) hsp) kv_X6_49 ⟨rfl, rfl, Nat.le_of_ble_eq_true rfl, Nat.le_of_ble_eq_true rfl⟩ ⟨Nat.le_of_ble_eq_true rfl, Nat.le_of_ble_eq_true rfl⟩ hK hN hZ hP hD hS hA [3, 5] rfl rfl 0 rfl rfl rfl rfl hl.1 rfl (Nat.le_of_ble_eq_true rfl) dX6_toldSum_26 (fun r_2 hw_r_2 => ?_)
      obtain ⟨q_3, rfl, h_4, h_5⟩ := hw_r_2
      refine lv_istore (lv' := [(5, .int (nI (q_3))), (4, .int (nI (i))), (3, .int u), (0, .ref q1), (1, .int (nI (k))), (2, .int p0)]) hx hb dX6_toldSum_29 hl (by decide) rfl (fun ls hl => ?_)
      refine lv_aload_n hx hb dX6_toldSum_31 rfl (lv_at hl 3 rfl) ?_
      refine xg hF kf_X6_20 hK hP 0 rfl rfl dX6_toldSum_32 ?_
      refine lv_iload_n hx hb dX6_toldSum_35 rfl (lv_at hl 4 rfl) ?_
      refine lv_iload hx hb dX6_toldSum_36 (lv_at hl 1 rfl) ?_
      refine xc_Sr hF (c_X6_stopBehind l D cI cJ cZ cS ta sa sv s.heap.size br bn bp cn ln sp k q i (by omega) (by omega) (by omega) (by omega) hln hsp (by omega)) ks_X6_53 ⟨rfl, rfl, Nat.le_of_ble_eq_true rfl, Nat.le_of_ble_eq_true rfl⟩ ⟨Nat.le_of_ble_eq_true rfl, Nat.le_of_ble_eq_true rfl⟩ hK hN hZ hP hD hS hA [3, 4, 5] rfl rfl rfl hl.1 rfl (Nat.le_of_ble_eq_true rfl) dX6_toldSum_38 (fun r_6 hw_r_6 => ?_)
      obtain ⟨y_7, rfl, h_8⟩ := hw_r_6
      refine lv_istore (lv' := [(6, .int (nI (y_7))), (5, .int (nI (q_3))), (4, .int (nI (i))), (3, .int u), (0, .ref q1), (1, .int (nI (k))), (2, .int p0)]) hx hb dX6_toldSum_41 hl (by decide) rfl (fun ls hl => ?_)
      refine lv_iload_n hx hb dX6_toldSum_43 rfl (lv_at hl 3 rfl) ?_
      refine lv_iload_n hx hb dX6_toldSum_44 rfl (lv_at hl 6 rfl) ?_
      refine lv_if_eq (tgt := 59) hx hb dX6_toldSum_45 (by decide) (fun c_9 => ?_) (fun c_9 => ?_)
      · skip
        refine lv_aload_n hx hb dX6_toldSum_59 rfl (lv_at hl 4 rfl) ?_
        refine lv_iload hx hb dX6_toldSum_60 (lv_at hl 1 rfl) ?_
        refine lv_iload hx hb dX6_toldSum_62 (lv_at hl 0 rfl) ?_
        refine xc_Sr hF (c_X6_toldWay l D cI cJ cZ cS ta sa sv s.heap.size q1 be bl bu bo br bk bw btt bss P lo d q_3 y_7 (by omega) (by omega)) ks_X6_65 ⟨rfl, rfl, Nat.le_of_ble_eq_true rfl, Nat.le_of_ble_eq_true rfl⟩ ⟨Nat.le_of_ble_eq_true rfl, Nat.le_of_ble_eq_true rfl⟩ hK hN hZ hP hD hS hA [0, 1, 2] rfl rfl rfl hl.1 rfl (Nat.le_of_ble_eq_true rfl) dX6_toldSum_64 (fun r_10 hw_r_10 => ?_)
        refine xc_SNr hF (c_X8_together l D cI cJ cZ cS ta sa sv s.heap.size u r_10 ) kn_X6_62.1 kn_X6_62.2.1 kn_X6_62.2.2 ⟨rfl, rfl, Nat.le_of_ble_eq_true rfl, Nat.le_of_ble_eq_true rfl⟩ ⟨Nat.le_of_ble_eq_true rfl, Nat.le_of_ble_eq_true rfl⟩ hK hN hZ hP hD hS hA [] rfl rfl rfl hl.1 rfl (Nat.le_of_ble_eq_true rfl) dX6_toldSum_67 (fun r_11 hw_r_11 => ?_)
        refine lv_istore_n (lv' := [(3, .int r_11), (6, .int (nI (y_7))), (5, .int (nI (q_3))), (4, .int (nI (i))), (0, .ref q1), (1, .int (nI (k))), (2, .int p0)]) hx hb dX6_toldSum_70 rfl hl (by decide) rfl (fun ls hl => ?_)
        refine lv_iinc (v := nI (i + 1)) (lv' := [(4, .int (nI (i + 1))), (3, .int r_11), (6, .int (nI (y_7))), (5, .int (nI (q_3))), (0, .ref q1), (1, .int (nI (k))), (2, .int p0)]) hx hb dX6_toldSum_71 hl (k := 3) rfl (nI_1 (i)) (by decide) rfl (fun ls hl => ?_)
        refine lv_goto (tgt := 5) hx hb dX6_toldSum_74 (by decide) ?_
        exact ih_5 (i + 1) r_11 _ (by omega) (by omega) (lv_sub hl [0, 1, 4, 5, 6] rfl)
      · skip
        refine lv_aload_n hx hb dX6_toldSum_48 rfl (lv_at hl 4 rfl) ?_
        refine lv_iload hx hb dX6_toldSum_49 (lv_at hl 0 rfl) ?_
        refine lv_iload hx hb dX6_toldSum_51 (lv_at hl 1 rfl) ?_
        refine xc_Sr hF (c_X6_toldWay l D cI cJ cZ cS ta sa sv s.heap.size q1 be bl bu bo br bk bw btt bss P lo d y_7 q_3 (by omega) (by omega)) ks_X6_65 ⟨rfl, rfl, Nat.le_of_ble_eq_true rfl, Nat.le_of_ble_eq_true rfl⟩ ⟨Nat.le_of_ble_eq_true rfl, Nat.le_of_ble_eq_true rfl⟩ hK hN hZ hP hD hS hA [0, 1, 2] rfl rfl rfl hl.1 rfl (Nat.le_of_ble_eq_true rfl) dX6_toldSum_53 (fun r_12 hw_r_12 => ?_)
        refine lv_goto (tgt := 67) hx hb dX6_toldSum_56 (by decide) ?_
        refine xc_SNr hF (c_X8_together l D cI cJ cZ cS ta sa sv s.heap.size u r_12 ) kn_X6_62.1 kn_X6_62.2.1 kn_X6_62.2.2 ⟨rfl, rfl, Nat.le_of_ble_eq_true rfl, Nat.le_of_ble_eq_true rfl⟩ ⟨Nat.le_of_ble_eq_true rfl, Nat.le_of_ble_eq_true rfl⟩ hK hN hZ hP hD hS hA [] rfl rfl rfl hl.1 rfl (Nat.le_of_ble_eq_true rfl) dX6_toldSum_67 (fun r_13 hw_r_13 => ?_)
        refine lv_istore_n (lv' := [(3, .int r_13), (6, .int (nI (y_7))), (5, .int (nI (q_3))), (4, .int (nI (i))), (0, .ref q1), (1, .int (nI (k))), (2, .int p0)]) hx hb dX6_toldSum_70 rfl hl (by decide) rfl (fun ls hl => ?_)
        refine lv_iinc (v := nI (i + 1)) (lv' := [(4, .int (nI (i + 1))), (3, .int r_13), (6, .int (nI (y_7))), (5, .int (nI (q_3))), (0, .ref q1), (1, .int (nI (k))), (2, .int p0)]) hx hb dX6_toldSum_71 hl (k := 3) rfl (nI_1 (i)) (by decide) rfl (fun ls hl => ?_)
        refine lv_goto (tgt := 5) hx hb dX6_toldSum_74 (by decide) ?_
        exact ih_5 (i + 1) r_13 _ (by omega) (by omega) (lv_sub hl [0, 1, 4, 5, 6] rfl)
set_option maxHeartbeats 4000000 in
set_option maxRecDepth 100000 in
theorem c_X6_meetSum (l : Launch) (D : va_G) (cI cJ cZ cS : ClassId) (ta : Nat) (sa sv : Nat → Nat) (sz : Nat) (q1 : Nat) (be : Nat) (bl : Nat) (bu : Nat) (bo : Nat) (br : Nat) (bk : Nat) (bw : Nat) (btt : Nat) (bss : Nat) (P : Nat) (bn : Nat) (bp : Nat) (cn : Nat) (lo : Nat → Int32) (d : Nat → Int32) (ln : Nat → Int32) (sp : Nat → Int32) (q2 : Nat) (dn : Nat) (Q : Nat) (La : Nat → Int32) (k : Nat) (q : Nat) (hQ : Q ≤ 10) (hk : k < 8) (hq1 : 1 ≤ q) (hq : q < 7) (eq0 : ln k = nI q) (hln : BA 8 7 ln) (hsp : BA 48 10 sp) : Met l yX6_meetSum (Cond.code yX6_meetSum cX6_meetSum 6 (some .int) :: wsU) ({ frames := 4, cells := 0, slots := 0, locals := 99 }) (va_Pc [.ref q1, .ref q2, .int (nI (k))] (XW D (xT cI cJ cZ cS) ta sa sv [(q1, .inr (1, [.int (nI (P)), .ref be, .ref bl, .ref bu, .ref bo, .ref br, .ref bk, .ref bw, .ref btt, .ref bss])), (bl, .inl (cI, 100, .inl lo)), (bo, .inl (cI, 100, .inl d)), (br, .inr (3, [.int (nI (cn)), .ref bn, .ref bp])), (bn, .inl (cI, 8, .inl ln)), (bp, .inl (cI, 48, .inl sp)), (q2, .inr (0, [.int (nI (Q)), .ref dn])), (dn, .inl (cI, 100, .inl La))] sz)) (vp_Si (fun r : Int32 => True)) 0 0 (fun _ => False) := by
  refine xh (QA := fun _ => vp_Si (fun r : Int32 => True)) (fr := fun _ _ => False) (by decide) (Nat.le_of_ble_eq_true rfl) ?_
  intro p e s m below meth c ls A hF hr hlk hin hsz hP hK hD hN hZ hA hS hl
  have hF : CallFix p m c cX6_meetSum 6 s _ _ RX6 := hF
  have hx := hF.1
  have hb := hF.2.1
  have hml := hF.2.2.1
  have hown := hF.2.2.2.1
  have hu : ∀ w ∈ wsU, w.before _ s = true := fun w h => hF.2.2.2.2 w (List.mem_cons_of_mem _ h)
  have hl : lv_has ls 6 [(0, .ref q1), (1, .ref q2), (2, .int (nI (k)))] := hl
  refine lv_aload_n hx hb dX6_meetSum_0 rfl (lv_at hl 0 rfl) ?_
  refine xg hF kf_X6_20 hK hP 0 rfl rfl dX6_meetSum_1 ?_
  refine lv_iload_n hx hb dX6_meetSum_4 rfl (lv_at hl 2 rfl) ?_
  refine lv_iconst (v := 0) hx hb dX6_meetSum_5 (by decide) ?_
  refine xc_Vr hF (c_X3_stop l D cI cJ cZ cS ta sa sv s.heap.size br bn bp cn k 0 sp (by omega) (by omega) hsp) kv_X6_49 ⟨rfl, rfl, Nat.le_of_ble_eq_true rfl, Nat.le_of_ble_eq_true rfl⟩ ⟨Nat.le_of_ble_eq_true rfl, Nat.le_of_ble_eq_true rfl⟩ hK hN hZ hP hD hS hA [3, 5] rfl rfl 0 rfl rfl rfl rfl hl.1 rfl (Nat.le_of_ble_eq_true rfl) dX6_meetSum_6 (fun r_1 hw_r_1 => ?_)
  obtain ⟨q_2, rfl, h_3, h_4⟩ := hw_r_1
  refine lv_istore_n (lv' := [(3, .int (nI (q_2))), (0, .ref q1), (1, .ref q2), (2, .int (nI (k)))]) hx hb dX6_meetSum_9 rfl hl (by decide) rfl (fun ls hl => ?_)
  refine lv_aload_n hx hb dX6_meetSum_10 rfl (lv_at hl 1 rfl) ?_
  refine xg hF kf_X6_20 hK hP 0 rfl rfl dX6_meetSum_11 ?_
  refine lv_iload_n hx hb dX6_meetSum_14 rfl (lv_at hl 3 rfl) ?_
  refine xc_Vr hF (c_X3_lastStop l D cI cJ cZ cS ta sa sv s.heap.size br bn bp cn k q ln sp (by omega) (by omega) (by omega) (by omega) hsp) kv_X6_76 ⟨rfl, rfl, Nat.le_of_ble_eq_true rfl, Nat.le_of_ble_eq_true rfl⟩ ⟨Nat.le_of_ble_eq_true rfl, Nat.le_of_ble_eq_true rfl⟩ hK hN hZ hP hD hS hA [3, 4, 5] rfl rfl 0 rfl rfl rfl rfl hl.1 rfl (Nat.le_of_ble_eq_true rfl) dX6_meetSum_15 (fun r_5 hw_r_5 => ?_)
  obtain ⟨y_6, rfl, h_7, h_8⟩ := hw_r_5
  refine lv_istore (lv' := [(4, .int (nI (y_6))), (3, .int (nI (q_2))), (0, .ref q1), (1, .ref q2), (2, .int (nI (k)))]) hx hb dX6_meetSum_18 hl (by decide) rfl (fun ls hl => ?_)
  refine lv_aload_n hx hb dX6_meetSum_20 rfl (lv_at hl 3 rfl) ?_
  refine lv_iload_n hx hb dX6_meetSum_21 rfl (lv_at hl 1 rfl) ?_
  refine lv_iload hx hb dX6_meetSum_22 (lv_at hl 0 rfl) ?_
  refine lv_iconst (v := 1) hx hb dX6_meetSum_24 (by decide) ?_
  refine xc_Vr hF (c_X0_meetingOf l D cI cJ cZ cS ta sa sv s.heap.size q2 dn Q La q_2 y_6 1 (by omega) (by omega) (by omega)) kv_X6_80 ⟨rfl, rfl, Nat.le_of_ble_eq_true rfl, Nat.le_of_ble_eq_true rfl⟩ ⟨Nat.le_of_ble_eq_true rfl, Nat.le_of_ble_eq_true rfl⟩ hK hN hZ hP hD hS hA [6, 7] rfl rfl 0 rfl rfl rfl rfl hl.1 rfl (Nat.le_of_ble_eq_true rfl) dX6_meetSum_25 (fun r_9 hw_r_9 => ?_)
  rcases hw_r_9 with rfl | ⟨y_10, rfl, h_11⟩
  · skip
    refine lv_istore (lv' := [(5, .int (-1)), (4, .int (nI (y_6))), (3, .int (nI (q_2))), (0, .ref q1), (1, .ref q2), (2, .int (nI (k)))]) hx hb dX6_meetSum_28 hl (by decide) rfl (fun ls hl => ?_)
    refine lv_iload hx hb dX6_meetSum_30 (lv_at hl 0 rfl) ?_
    refine lv_if_ge (tgt := 40) hx hb dX6_meetSum_32 (by decide) (fun c_12 => absurd c_12 (by decide)) (fun c_12 => ?_)
    refine lv_ldc (v := 1000000000) hx hb hown (hu _ uw148) dX6_meetSum_35 ?_
    refine lv_goto (tgt := 50) hx hb dX6_meetSum_37 (by decide) ?_
    exact W.iret (v := 1000000000) hx hb hr (fun t ht hW => ⟨1000000000, rfl, trivial, ht⟩) (fun q h => by cases h) dX6_meetSum_50 hlk
  · skip
    refine lv_istore (lv' := [(5, .int (nI (y_10))), (4, .int (nI (y_6))), (3, .int (nI (q_2))), (0, .ref q1), (1, .ref q2), (2, .int (nI (k)))]) hx hb dX6_meetSum_28 hl (by decide) rfl (fun ls hl => ?_)
    refine lv_iload hx hb dX6_meetSum_30 (lv_at hl 0 rfl) ?_
    refine lv_if_ge (tgt := 40) hx hb dX6_meetSum_32 (by decide) (fun c_13 => ?_) (fun c_13 => by have nc_13 : y_10 < 0 := xn_nle (a := 0) (b := y_10) (by omega) (by omega) c_13; omega)
    have nc_13 : 0 ≤ y_10 := xn_le (a := 0) (b := y_10) (by omega) (by omega) c_13
    refine lv_aload_n hx hb dX6_meetSum_40 rfl (lv_at hl 4 rfl) ?_
    refine lv_iload_n hx hb dX6_meetSum_41 rfl (lv_at hl 2 rfl) ?_
    refine lv_iload hx hb dX6_meetSum_42 (lv_at hl 1 rfl) ?_
    refine lv_iload hx hb dX6_meetSum_44 (lv_at hl 0 rfl) ?_
    refine lv_iconst (v := 1) hx hb dX6_meetSum_46 (by decide) ?_
    refine xc_Vr hF (c_X0_priceOf l D cI cJ cZ cS ta sa sv s.heap.size q2 dn Q La q_2 y_6 y_10 1 (by omega) (by omega) (by omega)) kv_X6_84 ⟨rfl, rfl, Nat.le_of_ble_eq_true rfl, Nat.le_of_ble_eq_true rfl⟩ ⟨Nat.le_of_ble_eq_true rfl, Nat.le_of_ble_eq_true rfl⟩ hK hN hZ hP hD hS hA [6, 7] rfl rfl 0 rfl rfl rfl rfl hl.1 rfl (Nat.le_of_ble_eq_true rfl) dX6_meetSum_47 (fun r_14 hw_r_14 => ?_)
    exact W.iret (v := r_14) hx hb hr (fun t ht hW => ⟨r_14, rfl, trivial, ht⟩) (fun q h => by cases h) dX6_meetSum_50 hlk
set_option maxHeartbeats 4000000 in
set_option maxRecDepth 100000 in
theorem c_X6_pairsSum (l : Launch) (D : va_G) (cI cJ cZ cS : ClassId) (ta : Nat) (sa sv : Nat → Nat) (sz : Nat) (q1 : Nat) (bn : Nat) (bp : Nat) (cn : Nat) (ln : Nat → Int32) (sp : Nat → Int32) (q2 : Nat) (dn : Nat) (Q : Nat) (La : Nat → Int32) (k : Nat) (q : Nat) (hk : k < 8) (hq1 : 1 ≤ q) (hq : q < 7) (eq0 : ln k = nI q) (hln : BA 8 7 ln) (hsp : BA 48 10 sp) : Met l yX6_pairsSum (Cond.code yX6_pairsSum cX6_pairsSum 7 (some .int) :: wsU) ({ frames := 2, cells := 0, slots := 0, locals := 45 }) (va_Pc [.ref q1, .ref q2, .int (nI (k))] (XW D (xT cI cJ cZ cS) ta sa sv [(q1, .inr (3, [.int (nI (cn)), .ref bn, .ref bp])), (bn, .inl (cI, 8, .inl ln)), (bp, .inl (cI, 48, .inl sp)), (q2, .inr (0, [.int (nI (Q)), .ref dn])), (dn, .inl (cI, 100, .inl La))] sz)) (vp_Si (fun r : Int32 => True)) 0 0 (fun _ => False) := by
  refine xh (QA := fun _ => vp_Si (fun r : Int32 => True)) (fr := fun _ _ => False) (by decide) (Nat.le_of_ble_eq_true rfl) ?_
  intro p e s m below meth c ls A hF hr hlk hin hsz hP hK hD hN hZ hA hS hl
  have hF : CallFix p m c cX6_pairsSum 7 s _ _ RX6 := hF
  have hx := hF.1
  have hb := hF.2.1
  have hml := hF.2.2.1
  have hown := hF.2.2.2.1
  have hu : ∀ w ∈ wsU, w.before _ s = true := fun w h => hF.2.2.2.2 w (List.mem_cons_of_mem _ h)
  have hl : lv_has ls 7 [(0, .ref q1), (1, .ref q2), (2, .int (nI (k)))] := hl
  refine lv_iconst (v := 0) hx hb dX6_pairsSum_0 (by decide) ?_
  refine lv_istore_n (lv' := [(3, .int 0), (0, .ref q1), (1, .ref q2), (2, .int (nI (k)))]) hx hb dX6_pairsSum_1 rfl hl (by decide) rfl (fun ls hl => ?_)
  refine lv_iconst (v := 0) hx hb dX6_pairsSum_2 (by decide) ?_
  refine lv_istore (lv' := [(4, .int 0), (3, .int 0), (0, .ref q1), (1, .ref q2), (2, .int (nI (k)))]) hx hb dX6_pairsSum_3 hl (by decide) rfl (fun ls hl => ?_)
  suffices loop_5 : ∀ (n_5 : Nat) (i : Nat) (u : Int32) (ls : Array Slot), q - i < n_5 → (i < q) → lv_has ls 7 [(4, .int (nI (i))), (3, .int u), (0, .ref q1), (1, .ref q2), (2, .int (nI (k)))] → W p l e ({ frames := 2, cells := 0, slots := 0, locals := 45 }) s m ([.ref q1, .ref q2, .int (nI (k))] : List Value).toArray below meth c s.heap [] 0 0 (MQ below (vp_Si (fun r : Int32 => True)) ([.ref q1, .ref q2, .int (nI (k))] : List Value).toArray s 0 0 (fun _ => False)) (F0 m 5 ls []) by
    exact loop_5 _ 0 0 _ (Nat.lt_succ_self _) (by omega) (lv_sub hl [0, 1, 2, 3, 4] rfl)
  intro n_5
  induction n_5 with
  | zero =>
    intro i u ls hm_5
    exact absurd hm_5 (Nat.not_lt_zero _)
  | succ n_5 ih_5 =>
    intro i u ls hm_5 hi hl
    refine lv_iload hx hb dX6_pairsSum_5 (lv_at hl 0 rfl) ?_
    refine lv_iconst (v := 1) hx hb dX6_pairsSum_7 (by decide) ?_
    refine lv_iadd hx hb dX6_pairsSum_8 ?_
    refine xl_i (y := nI (i + 1)) (nI_add i 1) ?_
    refine lv_aload_n hx hb dX6_pairsSum_9 rfl (lv_at hl 2 rfl) ?_
    refine xg hF kf_X6_44 hK hP 0 rfl rfl dX6_pairsSum_10 ?_
    refine lv_iload_n hx hb dX6_pairsSum_13 rfl (lv_at hl 4 rfl) ?_
    refine va_iald hx hb hK hP 1 0 rfl rfl (vp_in_nI (show k < 8 by omega) (by decide)) dX6_pairsSum_14 ?_
    refine xl_i (y := ln k) (congrArg ln (nI_clamp (show k < 2 ^ 31 by omega))) ?_
    refine xl_i (y := nI (q)) eq0 ?_
    refine lv_icmp_ge (tgt := 68) hx hb dX6_pairsSum_15 (by decide) (fun c_1 => ?_) (fun c_1 => ?_)
    · skip
      have nc_1 : q ≤ i + 1 := xn_le (a := q) (b := (i + 1)) (by omega) (by omega) c_1
      refine lv_iload_n hx hb dX6_pairsSum_68 rfl (lv_at hl 1 rfl) ?_
      exact W.iret (v := u) hx hb hr (fun t ht hW => ⟨u, rfl, trivial, ht⟩) (fun q h => by cases h) dX6_pairsSum_69 hlk
    · skip
      have nc_1 : i + 1 < q := xn_nle (a := q) (b := (i + 1)) (by omega) (by omega) c_1
      refine lv_aload_n hx hb dX6_pairsSum_18 rfl (lv_at hl 2 rfl) ?_
      refine lv_iload_n hx hb dX6_pairsSum_19 rfl (lv_at hl 4 rfl) ?_
      refine lv_iload hx hb dX6_pairsSum_20 (lv_at hl 0 rfl) ?_
      refine xc_Vr hF (c_X3_stop l D cI cJ cZ cS ta sa sv s.heap.size q1 bn bp cn k i sp (by omega) (by omega) hsp) kv_X6_49 ⟨rfl, rfl, Nat.le_of_ble_eq_true rfl, Nat.le_of_ble_eq_true rfl⟩ ⟨Nat.le_of_ble_eq_true rfl, Nat.le_of_ble_eq_true rfl⟩ hK hN hZ hP hD hS hA [0, 2] rfl rfl 0 rfl rfl rfl rfl hl.1 rfl (Nat.le_of_ble_eq_true rfl) dX6_pairsSum_22 (fun r_2 hw_r_2 => ?_)
      obtain ⟨q_3, rfl, h_4, h_5⟩ := hw_r_2
      refine lv_istore (lv' := [(5, .int (nI (q_3))), (4, .int (nI (i))), (3, .int u), (0, .ref q1), (1, .ref q2), (2, .int (nI (k)))]) hx hb dX6_pairsSum_25 hl (by decide) rfl (fun ls hl => ?_)
      refine lv_aload_n hx hb dX6_pairsSum_27 rfl (lv_at hl 3 rfl) ?_
      refine lv_iload_n hx hb dX6_pairsSum_28 rfl (lv_at hl 5 rfl) ?_
      refine lv_iload hx hb dX6_pairsSum_29 (lv_at hl 1 rfl) ?_
      refine lv_iconst (v := 1) hx hb dX6_pairsSum_31 (by decide) ?_
      refine lv_iadd hx hb dX6_pairsSum_32 ?_
      refine xl_i (y := nI (i + 1)) (nI_add i 1) ?_
      refine xc_Vr hF (c_X3_stop l D cI cJ cZ cS ta sa sv s.heap.size q1 bn bp cn k (i + 1) sp (by omega) (by omega) hsp) kv_X6_49 ⟨rfl, rfl, Nat.le_of_ble_eq_true rfl, Nat.le_of_ble_eq_true rfl⟩ ⟨Nat.le_of_ble_eq_true rfl, Nat.le_of_ble_eq_true rfl⟩ hK hN hZ hP hD hS hA [0, 2] rfl rfl 0 rfl rfl rfl rfl hl.1 rfl (Nat.le_of_ble_eq_true rfl) dX6_pairsSum_33 (fun r_6 hw_r_6 => ?_)
      obtain ⟨q_7, rfl, h_8, h_9⟩ := hw_r_6
      refine lv_istore (lv' := [(6, .int (nI (q_7))), (5, .int (nI (q_3))), (4, .int (nI (i))), (3, .int u), (0, .ref q1), (1, .ref q2), (2, .int (nI (k)))]) hx hb dX6_pairsSum_36 hl (by decide) rfl (fun ls hl => ?_)
      refine lv_iload_n hx hb dX6_pairsSum_38 rfl (lv_at hl 3 rfl) ?_
      refine lv_aload_n hx hb dX6_pairsSum_39 rfl (lv_at hl 5 rfl) ?_
      refine lv_iload hx hb dX6_pairsSum_40 (lv_at hl 1 rfl) ?_
      refine lv_iload hx hb dX6_pairsSum_42 (lv_at hl 0 rfl) ?_
      refine xc_Vr hF (c_X0_farOf l D cI cJ cZ cS ta sa sv s.heap.size q2 dn Q La q_3 q_7 (by omega) (by omega)) kv_X6_57 ⟨rfl, rfl, Nat.le_of_ble_eq_true rfl, Nat.le_of_ble_eq_true rfl⟩ ⟨Nat.le_of_ble_eq_true rfl, Nat.le_of_ble_eq_true rfl⟩ hK hN hZ hP hD hS hA [3, 4] rfl rfl 0 rfl rfl rfl rfl hl.1 rfl (Nat.le_of_ble_eq_true rfl) dX6_pairsSum_44 (fun r_10 hw_r_10 => ?_)
      refine lv_aload_n hx hb dX6_pairsSum_47 rfl (lv_at hl 5 rfl) ?_
      refine lv_iload hx hb dX6_pairsSum_48 (lv_at hl 0 rfl) ?_
      refine lv_iload hx hb dX6_pairsSum_50 (lv_at hl 1 rfl) ?_
      refine xc_Vr hF (c_X0_farOf l D cI cJ cZ cS ta sa sv s.heap.size q2 dn Q La q_7 q_3 (by omega) (by omega)) kv_X6_57 ⟨rfl, rfl, Nat.le_of_ble_eq_true rfl, Nat.le_of_ble_eq_true rfl⟩ ⟨Nat.le_of_ble_eq_true rfl, Nat.le_of_ble_eq_true rfl⟩ hK hN hZ hP hD hS hA [3, 4] rfl rfl 0 rfl rfl rfl rfl hl.1 rfl (Nat.le_of_ble_eq_true rfl) dX6_pairsSum_52 (fun r_11 hw_r_11 => ?_)
      refine xc_SNr hF (c_X8_together l D cI cJ cZ cS ta sa sv s.heap.size r_10 r_11 ) kn_X6_62.1 kn_X6_62.2.1 kn_X6_62.2.2 ⟨rfl, rfl, Nat.le_of_ble_eq_true rfl, Nat.le_of_ble_eq_true rfl⟩ ⟨Nat.le_of_ble_eq_true rfl, Nat.le_of_ble_eq_true rfl⟩ hK hN hZ hP hD hS hA [] rfl rfl rfl hl.1 rfl (Nat.le_of_ble_eq_true rfl) dX6_pairsSum_55 (fun r_12 hw_r_12 => ?_)
      refine xc_SNr hF (c_X8_together l D cI cJ cZ cS ta sa sv s.heap.size u r_12 ) kn_X6_62.1 kn_X6_62.2.1 kn_X6_62.2.2 ⟨rfl, rfl, Nat.le_of_ble_eq_true rfl, Nat.le_of_ble_eq_true rfl⟩ ⟨Nat.le_of_ble_eq_true rfl, Nat.le_of_ble_eq_true rfl⟩ hK hN hZ hP hD hS hA [] rfl rfl rfl hl.1 rfl (Nat.le_of_ble_eq_true rfl) dX6_pairsSum_58 (fun r_13 hw_r_13 => ?_)
      refine lv_istore_n (lv' := [(3, .int r_13), (6, .int (nI (q_7))), (5, .int (nI (q_3))), (4, .int (nI (i))), (0, .ref q1), (1, .ref q2), (2, .int (nI (k)))]) hx hb dX6_pairsSum_61 rfl hl (by decide) rfl (fun ls hl => ?_)
      refine lv_iinc (v := nI (i + 1)) (lv' := [(4, .int (nI (i + 1))), (3, .int r_13), (6, .int (nI (q_7))), (5, .int (nI (q_3))), (0, .ref q1), (1, .ref q2), (2, .int (nI (k)))]) hx hb dX6_pairsSum_62 hl (k := 3) rfl (nI_1 (i)) (by decide) rfl (fun ls hl => ?_)
      refine lv_goto (tgt := 5) hx hb dX6_pairsSum_65 (by decide) ?_
      exact ih_5 (i + 1) r_13 _ (by omega) (by omega) (lv_sub hl [0, 1, 4, 5, 6] rfl)
set_option maxHeartbeats 4000000 in
set_option maxRecDepth 100000 in
theorem c_X6_goOnFrom (l : Launch) (D : va_G) (cI cJ cZ cS : ClassId) (ta : Nat) (sa sv : Nat → Nat) (sz : Nat) (h0 : Nat) (an : Nat) (Ls : Nat → Int32) (q1 : Nat) (bn : Nat) (bp : Nat) (cn : Nat) (ln : Nat → Int32) (sp : Nat → Int32) (q2 : Nat) (dn : Nat) (Q : Nat) (La : Nat → Int32) (k : Nat) (q : Nat) (t : Nat) (i : Nat) (hk : k < 8) (hq1 : 1 ≤ q) (hq : q < 7) (eq0 : ln k = nI q) (hln : BA 8 7 ln) (hsp : BA 48 10 sp) (ht9 : t < 64) (hi : i < q) : Met l yX6_goOnFrom (Cond.code yX6_goOnFrom cX6_goOnFrom 10 none :: wsU) ({ frames := 2, cells := 0, slots := 0, locals := 45 }) (va_Pc [.ref h0, .ref q1, .ref q2, .int (nI (k)), .int (nI (t)), .int (nI (i))] (XW D (xT cI cJ cZ cS) ta sa sv [(h0, .inr (6, [.ref an])), (an, .inl (cI, 384, .inl Ls)), (q1, .inr (3, [.int (nI (cn)), .ref bn, .ref bp])), (bn, .inl (cI, 8, .inl ln)), (bp, .inl (cI, 48, .inl sp)), (q2, .inr (0, [.int (nI (Q)), .ref dn])), (dn, .inl (cI, 100, .inl La))] sz)) (XQv (fun (L2 : (Nat → Int32)) => True) D (fun (L2 : Nat → Int32) => [(h0, .inr (6, [.ref an])), (an, .inl (cI, 384, .inl L2)), (q1, .inr (3, [.int (nI (cn)), .ref bn, .ref bp])), (bn, .inl (cI, 8, .inl ln)), (bp, .inl (cI, 48, .inl sp)), (q2, .inr (0, [.int (nI (Q)), .ref dn])), (dn, .inl (cI, 100, .inl La))]) (va_A [(h0, .inr (6, [.ref an])), (an, .inl (cI, 384, .inl Ls)), (q1, .inr (3, [.int (nI (cn)), .ref bn, .ref bp])), (bn, .inl (cI, 8, .inl ln)), (bp, .inl (cI, 48, .inl sp)), (q2, .inr (0, [.int (nI (Q)), .ref dn])), (dn, .inl (cI, 100, .inl La))] sz)) 0 0 (va_A [(h0, .inr (6, [.ref an])), (an, .inl (cI, 384, .inl Ls)), (q1, .inr (3, [.int (nI (cn)), .ref bn, .ref bp])), (bn, .inl (cI, 8, .inl ln)), (bp, .inl (cI, 48, .inl sp)), (q2, .inr (0, [.int (nI (Q)), .ref dn])), (dn, .inl (cI, 100, .inl La))] sz) := by
  refine xh (QA := fun A => XQv (fun (L2 : (Nat → Int32)) => True) D (fun (L2 : Nat → Int32) => [(h0, .inr (6, [.ref an])), (an, .inl (cI, 384, .inl L2)), (q1, .inr (3, [.int (nI (cn)), .ref bn, .ref bp])), (bn, .inl (cI, 8, .inl ln)), (bp, .inl (cI, 48, .inl sp)), (q2, .inr (0, [.int (nI (Q)), .ref dn])), (dn, .inl (cI, 100, .inl La))]) A) (fr := fun A => A) (by decide) (Nat.le_of_ble_eq_true rfl) ?_
  intro p e s m below meth c ls A hF hr hlk hin hsz hP hK hD hN hZ hA hS hl
  have hF : CallFix p m c cX6_goOnFrom 10 s _ _ RX6 := hF
  have hx := hF.1
  have hb := hF.2.1
  have hml := hF.2.2.1
  have hown := hF.2.2.2.1
  have hu : ∀ w ∈ wsU, w.before _ s = true := fun w h => hF.2.2.2.2 w (List.mem_cons_of_mem _ h)
  have hl : lv_has ls 10 [(0, .ref h0), (1, .ref q1), (2, .ref q2), (3, .int (nI (k))), (4, .int (nI (t))), (5, .int (nI (i)))] := hl
  refine lv_aload_n hx hb dX6_goOnFrom_0 rfl (lv_at hl 0 rfl) ?_
  refine xg hF kf_X6_9 hK hP 0 rfl rfl dX6_goOnFrom_1 ?_
  refine lv_iload hx hb dX6_goOnFrom_4 (lv_at hl 4 rfl) ?_
  refine lv_bipush (v := 6) hx hb dX6_goOnFrom_6 (by decide) ?_
  refine lv_imul hx hb dX6_goOnFrom_8 ?_
  refine xl_i (y := nI (t * 6)) (pk_mul t 6) ?_
  refine lv_iload hx hb dX6_goOnFrom_9 (lv_at hl 5 rfl) ?_
  refine lv_iadd hx hb dX6_goOnFrom_11 ?_
  refine xl_i (y := nI (t * 6 + i)) (nI_add (t * 6) i) ?_
  refine va_iald hx hb hK hP 1 0 rfl rfl (vp_in_nI (show t * 6 + i < 384 by omega) (by decide)) dX6_goOnFrom_12 ?_
  refine xl_i (y := Ls (t * 6 + i)) (congrArg Ls (nI_clamp (show t * 6 + i < 2 ^ 31 by omega))) ?_
  refine lv_istore (lv' := [(6, .int (Ls (t * 6 + i))), (0, .ref h0), (1, .ref q1), (2, .ref q2), (3, .int (nI (k))), (4, .int (nI (t))), (5, .int (nI (i)))]) hx hb dX6_goOnFrom_13 hl (by decide) rfl (fun ls hl => ?_)
  refine lv_iconst (v := 0) hx hb dX6_goOnFrom_15 (by decide) ?_
  refine lv_istore (lv' := [(7, .int 0), (6, .int (Ls (t * 6 + i))), (0, .ref h0), (1, .ref q1), (2, .ref q2), (3, .int (nI (k))), (4, .int (nI (t))), (5, .int (nI (i)))]) hx hb dX6_goOnFrom_16 hl (by decide) rfl (fun ls hl => ?_)
  suffices loop_18 : ∀ (n_18 : Nat) (i2 : Nat) (L9 : Nat → Int32) (H : Heap) (locs : List Loc) (ls : Array Slot), q - i2 < n_18 → (i2 ≤ q) → va_P D vwCl [(h0, .inr (6, [.ref an])), (an, .inl (cI, 384, .inl L9)), (q1, .inr (3, [.int (nI (cn)), .ref bn, .ref bp])), (bn, .inl (cI, 8, .inl ln)), (bp, .inl (cI, 48, .inl sp)), (q2, .inr (0, [.int (nI (Q)), .ref dn])), (dn, .inl (cI, 100, .inl La))] H → va_D A [(h0, .inr (6, [.ref an])), (an, .inl (cI, 384, .inl L9)), (q1, .inr (3, [.int (nI (cn)), .ref bn, .ref bp])), (bn, .inl (cI, 8, .inl ln)), (bp, .inl (cI, 48, .inl sp)), (q2, .inr (0, [.int (nI (Q)), .ref dn])), (dn, .inl (cI, 100, .inl La))] → va_S A s.heap H locs → lv_has ls 10 [(7, .int (nI (i2))), (6, .int (Ls (t * 6 + i))), (0, .ref h0), (1, .ref q1), (2, .ref q2), (3, .int (nI (k))), (4, .int (nI (t))), (5, .int (nI (i)))] → W p l e ({ frames := 2, cells := 0, slots := 0, locals := 45 }) s m ([.ref h0, .ref q1, .ref q2, .int (nI (k)), .int (nI (t)), .int (nI (i))] : List Value).toArray below meth c H locs 0 0 (MQ below (XQv (fun (L2 : (Nat → Int32)) => True) D (fun (L2 : Nat → Int32) => [(h0, .inr (6, [.ref an])), (an, .inl (cI, 384, .inl L2)), (q1, .inr (3, [.int (nI (cn)), .ref bn, .ref bp])), (bn, .inl (cI, 8, .inl ln)), (bp, .inl (cI, 48, .inl sp)), (q2, .inr (0, [.int (nI (Q)), .ref dn])), (dn, .inl (cI, 100, .inl La))]) A) ([.ref h0, .ref q1, .ref q2, .int (nI (k)), .int (nI (t)), .int (nI (i))] : List Value).toArray s 0 0 A) (F0 m 18 ls []) by
    exact loop_18 _ 0 Ls _ _ _ (Nat.lt_succ_self _) (by omega) hP hD hS (lv_sub hl [0, 1, 2, 3, 4, 5, 6, 7] rfl)
  intro n_18
  induction n_18 with
  | zero =>
    intro i2 L9 H locs ls hm_18
    exact absurd hm_18 (Nat.not_lt_zero _)
  | succ n_18 ih_18 =>
    intro i2 L9 H locs ls hm_18 hi2 hP hD hS hl
    refine lv_iload hx hb dX6_goOnFrom_18 (lv_at hl 0 rfl) ?_
    refine lv_aload_n hx hb dX6_goOnFrom_20 rfl (lv_at hl 3 rfl) ?_
    refine xg hF kf_X6_44 hK hP 2 rfl rfl dX6_goOnFrom_21 ?_
    refine lv_iload_n hx hb dX6_goOnFrom_24 rfl (lv_at hl 5 rfl) ?_
    refine va_iald hx hb hK hP 3 0 rfl rfl (vp_in_nI (show k < 8 by omega) (by decide)) dX6_goOnFrom_25 ?_
    refine xl_i (y := ln k) (congrArg ln (nI_clamp (show k < 2 ^ 31 by omega))) ?_
    refine xl_i (y := nI (q)) eq0 ?_
    refine lv_icmp_ge (tgt := 104) hx hb dX6_goOnFrom_26 (by decide) (fun c_1 => ?_) (fun c_1 => ?_)
    · skip
      have nc_1 : q ≤ i2 := xn_le (a := q) (b := i2) (by omega) (by omega) c_1
      exact W.vret hx hb hr (fun t ht hW => ⟨⟨L9, rfl, trivial, by rw [ht]; exact hP.sub [0, 1, 2, 3, 4, 5, 6] rfl, hD.sub [0, 1, 2, 3, 4, 5, 6] (by decide +kernel) rfl⟩, hS.F ht⟩) hS.2.2 dX6_goOnFrom_104 hlk
    · skip
      have nc_1 : i2 < q := xn_nle (a := q) (b := i2) (by omega) (by omega) c_1
      refine lv_iload hx hb dX6_goOnFrom_29 (lv_at hl 6 rfl) ?_
      refine lv_iconst (v := 1) hx hb dX6_goOnFrom_31 (by decide) ?_
      refine lv_iload hx hb dX6_goOnFrom_32 (lv_at hl 0 rfl) ?_
      refine lv_ishl hx hb dX6_goOnFrom_34 ?_
      refine lv_topi (fun x_2 ex_2 => ?_)
      refine lv_iand hx hb dX6_goOnFrom_35 ?_
      refine lv_topi (fun x_3 ex_3 => ?_)
      refine lv_if_ne (tgt := 98) hx hb dX6_goOnFrom_36 (by decide) (fun c_4 => ?_) (fun c_4 => ?_)
      · skip
        refine lv_iinc (v := nI (i2 + 1)) (lv' := [(7, .int (nI (i2 + 1))), (6, .int (Ls (t * 6 + i))), (0, .ref h0), (1, .ref q1), (2, .ref q2), (3, .int (nI (k))), (4, .int (nI (t))), (5, .int (nI (i)))]) hx hb dX6_goOnFrom_98 hl (k := 0) rfl (nI_1 (i2)) (by decide) rfl (fun ls hl => ?_)
        refine lv_goto (tgt := 18) hx hb dX6_goOnFrom_101 (by decide) ?_
        exact ih_18 (i2 + 1) L9 _ _ _ (by omega) (by omega) (hP.sub [0, 1, 2, 3, 4, 5, 6] rfl) (hD.sub [0, 1, 2, 3, 4, 5, 6] (by decide +kernel) rfl) hS (lv_sub hl [0, 1, 2, 3, 4, 5, 6, 7] rfl)
      · skip
        refine lv_iload hx hb dX6_goOnFrom_39 (lv_at hl 1 rfl) ?_
        refine lv_aload_n hx hb dX6_goOnFrom_41 rfl (lv_at hl 4 rfl) ?_
        refine lv_aload_n hx hb dX6_goOnFrom_42 rfl (lv_at hl 3 rfl) ?_
        refine lv_iload_n hx hb dX6_goOnFrom_43 rfl (lv_at hl 5 rfl) ?_
        refine lv_iload hx hb dX6_goOnFrom_44 (lv_at hl 7 rfl) ?_
        refine xc_Vr hF (c_X3_stop l D cI cJ cZ cS ta sa sv H.size q1 bn bp cn k i sp (by omega) (by omega) hsp) kv_X6_49 ⟨rfl, rfl, Nat.le_of_ble_eq_true rfl, Nat.le_of_ble_eq_true rfl⟩ ⟨Nat.le_of_ble_eq_true rfl, Nat.le_of_ble_eq_true rfl⟩ hK hN hZ hP hD hS hA [2, 4] rfl rfl 0 rfl rfl rfl rfl hl.1 rfl (Nat.le_of_ble_eq_true rfl) dX6_goOnFrom_46 (fun r_5 hw_r_5 => ?_)
        obtain ⟨q_6, rfl, h_7, h_8⟩ := hw_r_5
        refine lv_aload_n hx hb dX6_goOnFrom_49 rfl (lv_at hl 3 rfl) ?_
        refine lv_iload_n hx hb dX6_goOnFrom_50 rfl (lv_at hl 5 rfl) ?_
        refine lv_iload hx hb dX6_goOnFrom_51 (lv_at hl 0 rfl) ?_
        refine xc_Vr hF (c_X3_stop l D cI cJ cZ cS ta sa sv H.size q1 bn bp cn k i2 sp (by omega) (by omega) hsp) kv_X6_49 ⟨rfl, rfl, Nat.le_of_ble_eq_true rfl, Nat.le_of_ble_eq_true rfl⟩ ⟨Nat.le_of_ble_eq_true rfl, Nat.le_of_ble_eq_true rfl⟩ hK hN hZ hP hD hS hA [2, 4] rfl rfl 0 rfl rfl rfl rfl hl.1 rfl (Nat.le_of_ble_eq_true rfl) dX6_goOnFrom_53 (fun r_9 hw_r_9 => ?_)
        obtain ⟨q_10, rfl, h_11, h_12⟩ := hw_r_9
        refine xc_Vr hF (c_X0_farOf l D cI cJ cZ cS ta sa sv H.size q2 dn Q La q_6 q_10 (by omega) (by omega)) kv_X6_57 ⟨rfl, rfl, Nat.le_of_ble_eq_true rfl, Nat.le_of_ble_eq_true rfl⟩ ⟨Nat.le_of_ble_eq_true rfl, Nat.le_of_ble_eq_true rfl⟩ hK hN hZ hP hD hS hA [5, 6] rfl rfl 0 rfl rfl rfl rfl hl.1 rfl (Nat.le_of_ble_eq_true rfl) dX6_goOnFrom_56 (fun r_13 hw_r_13 => ?_)
        refine xc_SNr hF (c_X8_together l D cI cJ cZ cS ta sa sv H.size (Ls (t * 6 + i)) r_13 ) kn_X6_62.1 kn_X6_62.2.1 kn_X6_62.2.2 ⟨rfl, rfl, Nat.le_of_ble_eq_true rfl, Nat.le_of_ble_eq_true rfl⟩ ⟨Nat.le_of_ble_eq_true rfl, Nat.le_of_ble_eq_true rfl⟩ hK hN hZ hP hD hS hA [] rfl rfl rfl hl.1 rfl (Nat.le_of_ble_eq_true rfl) dX6_goOnFrom_59 (fun r_14 hw_r_14 => ?_)
        refine lv_istore (lv' := [(8, .int r_14), (7, .int (nI (i2))), (6, .int (Ls (t * 6 + i))), (0, .ref h0), (1, .ref q1), (2, .ref q2), (3, .int (nI (k))), (4, .int (nI (t))), (5, .int (nI (i)))]) hx hb dX6_goOnFrom_62 hl (by decide) rfl (fun ls hl => ?_)
        refine lv_iload hx hb dX6_goOnFrom_64 (lv_at hl 7 rfl) ?_
        refine lv_iconst (v := 1) hx hb dX6_goOnFrom_66 (by decide) ?_
        refine lv_iload hx hb dX6_goOnFrom_67 (lv_at hl 1 rfl) ?_
        refine lv_ishl hx hb dX6_goOnFrom_69 ?_
        obtain ⟨z_15, ez_15, hz_150, hz_151, hz_152⟩ := xpow (q := i2) (by omega)
        refine xl_i (y := nI (z_15)) ez_15 ?_
        refine lv_ior hx hb dX6_goOnFrom_70 ?_
        obtain ⟨z_16, ez_16, hz_160⟩ := xorb (n := i2) (by omega) (by omega) hz_152
        refine xl_i (y := nI (z_16)) ez_16 ?_
        refine lv_bipush (v := 6) hx hb dX6_goOnFrom_71 (by decide) ?_
        refine lv_imul hx hb dX6_goOnFrom_73 ?_
        refine xl_i (y := nI (z_16 * 6)) (pk_mul z_16 6) ?_
        refine lv_iload hx hb dX6_goOnFrom_74 (lv_at hl 1 rfl) ?_
        refine lv_iadd hx hb dX6_goOnFrom_76 ?_
        refine xl_i (y := nI (z_16 * 6 + i2)) (nI_add (z_16 * 6) i2) ?_
        refine lv_istore (lv' := [(9, .int (nI (z_16 * 6 + i2))), (8, .int r_14), (7, .int (nI (i2))), (6, .int (Ls (t * 6 + i))), (0, .ref h0), (1, .ref q1), (2, .ref q2), (3, .int (nI (k))), (4, .int (nI (t))), (5, .int (nI (i)))]) hx hb dX6_goOnFrom_77 hl (by decide) rfl (fun ls hl => ?_)
        refine lv_aload_n hx hb dX6_goOnFrom_79 rfl (lv_at hl 4 rfl) ?_
        refine xg hF kf_X6_9 hK hP 0 rfl rfl dX6_goOnFrom_80 ?_
        refine lv_iload hx hb dX6_goOnFrom_83 (lv_at hl 0 rfl) ?_
        refine lv_aload_n hx hb dX6_goOnFrom_85 rfl (lv_at hl 4 rfl) ?_
        refine xg hF kf_X6_9 hK hP 0 rfl rfl dX6_goOnFrom_86 ?_
        refine lv_iload hx hb dX6_goOnFrom_89 (lv_at hl 0 rfl) ?_
        refine va_iald hx hb hK hP 1 0 rfl rfl (vp_in_nI (show z_16 * 6 + i2 < 384 by omega) (by decide)) dX6_goOnFrom_91 ?_
        refine xl_i (y := L9 (z_16 * 6 + i2)) (congrArg L9 (nI_clamp (show z_16 * 6 + i2 < 2 ^ 31 by omega))) ?_
        refine lv_iload hx hb dX6_goOnFrom_92 (lv_at hl 1 rfl) ?_
        refine va_mmin hx hb (hml.trans hl.1.symm) hown (hu _ uw165) (hu _ uw137) (hu _ uw92) (hu _ uw138) (Nat.le_of_ble_eq_true rfl) (Nat.le_of_ble_eq_true rfl) (Nat.le_of_ble_eq_true rfl) (Nat.le_of_ble_eq_true rfl) dX6_goOnFrom_94 ?_
        refine lv_topi (fun x_17 ex_17 => ?_)
        refine va_iast hx hb hK hP hD hS 1 0 rfl rfl (vp_in_nI (show z_16 * 6 + i2 < 384 by omega) (by decide)) dX6_goOnFrom_97 (fun H locs hP hD hS => ?_)
        rw [nI_clamp (show z_16 * 6 + i2 < 2 ^ 31 by omega)] at hP hD
        obtain ⟨f_18, ef_18⟩ : ∃ g, g = upd L9 (z_16 * 6 + i2) x_17 := ⟨_, rfl⟩
        rw [← ef_18] at hP hD
        have hP : va_P D vwCl [(h0, .inr (6, [.ref an])), (an, .inl (cI, 384, .inl f_18)), (q1, .inr (3, [.int (nI (cn)), .ref bn, .ref bp])), (bn, .inl (cI, 8, .inl ln)), (bp, .inl (cI, 48, .inl sp)), (q2, .inr (0, [.int (nI (Q)), .ref dn])), (dn, .inl (cI, 100, .inl La))] H := hP
        have hD : va_D A [(h0, .inr (6, [.ref an])), (an, .inl (cI, 384, .inl f_18)), (q1, .inr (3, [.int (nI (cn)), .ref bn, .ref bp])), (bn, .inl (cI, 8, .inl ln)), (bp, .inl (cI, 48, .inl sp)), (q2, .inr (0, [.int (nI (Q)), .ref dn])), (dn, .inl (cI, 100, .inl La))] := hD
        refine lv_iinc (v := nI (i2 + 1)) (lv' := [(7, .int (nI (i2 + 1))), (9, .int (nI (z_16 * 6 + i2))), (8, .int r_14), (6, .int (Ls (t * 6 + i))), (0, .ref h0), (1, .ref q1), (2, .ref q2), (3, .int (nI (k))), (4, .int (nI (t))), (5, .int (nI (i)))]) hx hb dX6_goOnFrom_98 hl (k := 2) rfl (nI_1 (i2)) (by decide) rfl (fun ls hl => ?_)
        refine lv_goto (tgt := 18) hx hb dX6_goOnFrom_101 (by decide) ?_
        exact ih_18 (i2 + 1) f_18 _ _ _ (by omega) (by omega) (hP.sub [0, 1, 2, 3, 4, 5, 6] rfl) (hD.sub [0, 1, 2, 3, 4, 5, 6] (by decide +kernel) rfl) hS (lv_sub hl [0, 3, 4, 5, 6, 7, 8, 9] rfl)
set_option maxHeartbeats 4000000 in
set_option maxRecDepth 100000 in
theorem c_X6_orderStops (l : Launch) (D : va_G) (cI cJ cZ cS : ClassId) (ta : Nat) (sa sv : Nat → Nat) (sz : Nat) (h0 : Nat) (an : Nat) (Ls : Nat → Int32) (q1 : Nat) (bn : Nat) (bp : Nat) (cn : Nat) (ln : Nat → Int32) (sp : Nat → Int32) (q2 : Nat) (dn : Nat) (Q : Nat) (La : Nat → Int32) (k : Nat) (q : Nat) (hk : k < 8) (hq1 : 1 ≤ q) (hq : q < 7) (eq0 : ln k = nI q) (hln : BA 8 7 ln) (hsp : BA 48 10 sp) : Met l yX6_orderStops (Cond.code yX6_orderStops cX6_orderStops 7 none :: wsU) ({ frames := 3, cells := 0, slots := 0, locals := 74 }) (va_Pc [.ref h0, .ref q1, .ref q2, .int (nI (k))] (XW D (xT cI cJ cZ cS) ta sa sv [(h0, .inr (6, [.ref an])), (an, .inl (cI, 384, .inl Ls)), (q1, .inr (3, [.int (nI (cn)), .ref bn, .ref bp])), (bn, .inl (cI, 8, .inl ln)), (bp, .inl (cI, 48, .inl sp)), (q2, .inr (0, [.int (nI (Q)), .ref dn])), (dn, .inl (cI, 100, .inl La))] sz)) (XQv (fun (L2 : (Nat → Int32)) => True) D (fun (L2 : Nat → Int32) => [(h0, .inr (6, [.ref an])), (an, .inl (cI, 384, .inl L2)), (q1, .inr (3, [.int (nI (cn)), .ref bn, .ref bp])), (bn, .inl (cI, 8, .inl ln)), (bp, .inl (cI, 48, .inl sp)), (q2, .inr (0, [.int (nI (Q)), .ref dn])), (dn, .inl (cI, 100, .inl La))]) (va_A [(h0, .inr (6, [.ref an])), (an, .inl (cI, 384, .inl Ls)), (q1, .inr (3, [.int (nI (cn)), .ref bn, .ref bp])), (bn, .inl (cI, 8, .inl ln)), (bp, .inl (cI, 48, .inl sp)), (q2, .inr (0, [.int (nI (Q)), .ref dn])), (dn, .inl (cI, 100, .inl La))] sz)) 0 0 (va_A [(h0, .inr (6, [.ref an])), (an, .inl (cI, 384, .inl Ls)), (q1, .inr (3, [.int (nI (cn)), .ref bn, .ref bp])), (bn, .inl (cI, 8, .inl ln)), (bp, .inl (cI, 48, .inl sp)), (q2, .inr (0, [.int (nI (Q)), .ref dn])), (dn, .inl (cI, 100, .inl La))] sz) := by
  refine xh (QA := fun A => XQv (fun (L2 : (Nat → Int32)) => True) D (fun (L2 : Nat → Int32) => [(h0, .inr (6, [.ref an])), (an, .inl (cI, 384, .inl L2)), (q1, .inr (3, [.int (nI (cn)), .ref bn, .ref bp])), (bn, .inl (cI, 8, .inl ln)), (bp, .inl (cI, 48, .inl sp)), (q2, .inr (0, [.int (nI (Q)), .ref dn])), (dn, .inl (cI, 100, .inl La))]) A) (fr := fun A => A) (by decide) (Nat.le_of_ble_eq_true rfl) ?_
  intro p e s m below meth c ls A hF hr hlk hin hsz hP hK hD hN hZ hA hS hl
  have hF : CallFix p m c cX6_orderStops 7 s _ _ RX6 := hF
  have hx := hF.1
  have hb := hF.2.1
  have hml := hF.2.2.1
  have hown := hF.2.2.2.1
  have hu : ∀ w ∈ wsU, w.before _ s = true := fun w h => hF.2.2.2.2 w (List.mem_cons_of_mem _ h)
  have hl : lv_has ls 7 [(0, .ref h0), (1, .ref q1), (2, .ref q2), (3, .int (nI (k)))] := hl
  refine lv_iconst (v := 1) hx hb dX6_orderStops_0 (by decide) ?_
  refine lv_aload_n hx hb dX6_orderStops_1 rfl (lv_at hl 1 rfl) ?_
  refine xg hF kf_X6_44 hK hP 2 rfl rfl dX6_orderStops_2 ?_
  refine lv_iload_n hx hb dX6_orderStops_5 rfl (lv_at hl 3 rfl) ?_
  refine va_iald hx hb hK hP 3 0 rfl rfl (vp_in_nI (show k < 8 by omega) (by decide)) dX6_orderStops_6 ?_
  refine xl_i (y := ln k) (congrArg ln (nI_clamp (show k < 2 ^ 31 by omega))) ?_
  refine xl_i (y := nI (q)) eq0 ?_
  refine lv_ishl hx hb dX6_orderStops_7 ?_
  obtain ⟨z_1, ez_1, hz_10, hz_11, hz_12⟩ := xpow (q := q) (by omega)
  refine xl_i (y := nI (z_1)) ez_1 ?_
  refine lv_istore (lv' := [(4, .int (nI (z_1))), (0, .ref h0), (1, .ref q1), (2, .ref q2), (3, .int (nI (k)))]) hx hb dX6_orderStops_8 hl (by decide) rfl (fun ls hl => ?_)
  refine lv_iconst (v := 0) hx hb dX6_orderStops_10 (by decide) ?_
  refine lv_istore (lv' := [(5, .int 0), (4, .int (nI (z_1))), (0, .ref h0), (1, .ref q1), (2, .ref q2), (3, .int (nI (k)))]) hx hb dX6_orderStops_11 hl (by decide) rfl (fun ls hl => ?_)
  suffices loop_13 : ∀ (n_13 : Nat) (i : Nat) (L9 : Nat → Int32) (H : Heap) (locs : List Loc) (ls : Array Slot), 384 - i < n_13 → (i ≤ 384) → va_P D vwCl [(h0, .inr (6, [.ref an])), (an, .inl (cI, 384, .inl L9)), (q1, .inr (3, [.int (nI (cn)), .ref bn, .ref bp])), (bn, .inl (cI, 8, .inl ln)), (bp, .inl (cI, 48, .inl sp)), (q2, .inr (0, [.int (nI (Q)), .ref dn])), (dn, .inl (cI, 100, .inl La))] H → va_D A [(h0, .inr (6, [.ref an])), (an, .inl (cI, 384, .inl L9)), (q1, .inr (3, [.int (nI (cn)), .ref bn, .ref bp])), (bn, .inl (cI, 8, .inl ln)), (bp, .inl (cI, 48, .inl sp)), (q2, .inr (0, [.int (nI (Q)), .ref dn])), (dn, .inl (cI, 100, .inl La))] → va_S A s.heap H locs → lv_has ls 7 [(5, .int (nI (i))), (4, .int (nI (z_1))), (0, .ref h0), (1, .ref q1), (2, .ref q2), (3, .int (nI (k)))] → W p l e ({ frames := 3, cells := 0, slots := 0, locals := 74 }) s m ([.ref h0, .ref q1, .ref q2, .int (nI (k))] : List Value).toArray below meth c H locs 0 0 (MQ below (XQv (fun (L2 : (Nat → Int32)) => True) D (fun (L2 : Nat → Int32) => [(h0, .inr (6, [.ref an])), (an, .inl (cI, 384, .inl L2)), (q1, .inr (3, [.int (nI (cn)), .ref bn, .ref bp])), (bn, .inl (cI, 8, .inl ln)), (bp, .inl (cI, 48, .inl sp)), (q2, .inr (0, [.int (nI (Q)), .ref dn])), (dn, .inl (cI, 100, .inl La))]) A) ([.ref h0, .ref q1, .ref q2, .int (nI (k))] : List Value).toArray s 0 0 A) (F0 m 13 ls []) by
    exact loop_13 _ 0 Ls _ _ _ (Nat.lt_succ_self _) (by omega) hP hD hS (lv_sub hl [0, 1, 2, 3, 4, 5] rfl)
  intro n_13
  induction n_13 with
  | zero =>
    intro i L9 H locs ls hm_13
    exact absurd hm_13 (Nat.not_lt_zero _)
  | succ n_13 ih_13 =>
    intro i L9 H locs ls hm_13 hi hP hD hS hl
    refine lv_iload hx hb dX6_orderStops_13 (lv_at hl 0 rfl) ?_
    refine lv_iload hx hb dX6_orderStops_15 (lv_at hl 1 rfl) ?_
    refine lv_bipush (v := 6) hx hb dX6_orderStops_17 (by decide) ?_
    refine lv_imul hx hb dX6_orderStops_19 ?_
    refine xl_i (y := nI (z_1 * 6)) (pk_mul z_1 6) ?_
    refine lv_icmp_ge (tgt := 38) hx hb dX6_orderStops_20 (by decide) (fun c_2 => ?_) (fun c_2 => ?_)
    · skip
      have nc_2 : z_1 * 6 ≤ i := xn_le (a := (z_1 * 6)) (b := i) (by omega) (by omega) c_2
      refine lv_aload_n hx hb dX6_orderStops_38 rfl (lv_at hl 2 rfl) ?_
      refine xg hF kf_X6_9 hK hP 0 rfl rfl dX6_orderStops_39 ?_
      refine lv_bipush (v := 6) hx hb dX6_orderStops_42 (by decide) ?_
      refine lv_iconst (v := 0) hx hb dX6_orderStops_44 (by decide) ?_
      refine va_iast hx hb hK hP hD hS 1 0 rfl rfl (xin 6 384 (by decide) (by decide)) dX6_orderStops_45 (fun H locs hP hD hS => ?_)
      obtain ⟨f_3, ef_3⟩ : ∃ g, g = upd L9 6 0 := ⟨_, rfl⟩
      have hP : va_P D vwCl [(h0, .inr (6, [.ref an])), (an, .inl (cI, 384, .inl (upd L9 6 0))), (q1, .inr (3, [.int (nI (cn)), .ref bn, .ref bp])), (bn, .inl (cI, 8, .inl ln)), (bp, .inl (cI, 48, .inl sp)), (q2, .inr (0, [.int (nI (Q)), .ref dn])), (dn, .inl (cI, 100, .inl La))] H := hP
      have hD : va_D A [(h0, .inr (6, [.ref an])), (an, .inl (cI, 384, .inl (upd L9 6 0))), (q1, .inr (3, [.int (nI (cn)), .ref bn, .ref bp])), (bn, .inl (cI, 8, .inl ln)), (bp, .inl (cI, 48, .inl sp)), (q2, .inr (0, [.int (nI (Q)), .ref dn])), (dn, .inl (cI, 100, .inl La))] := hD
      rw [← ef_3] at hP hD
      have hP : va_P D vwCl [(h0, .inr (6, [.ref an])), (an, .inl (cI, 384, .inl f_3)), (q1, .inr (3, [.int (nI (cn)), .ref bn, .ref bp])), (bn, .inl (cI, 8, .inl ln)), (bp, .inl (cI, 48, .inl sp)), (q2, .inr (0, [.int (nI (Q)), .ref dn])), (dn, .inl (cI, 100, .inl La))] H := hP
      have hD : va_D A [(h0, .inr (6, [.ref an])), (an, .inl (cI, 384, .inl f_3)), (q1, .inr (3, [.int (nI (cn)), .ref bn, .ref bp])), (bn, .inl (cI, 8, .inl ln)), (bp, .inl (cI, 48, .inl sp)), (q2, .inr (0, [.int (nI (Q)), .ref dn])), (dn, .inl (cI, 100, .inl La))] := hD
      refine lv_iconst (v := 1) hx hb dX6_orderStops_46 (by decide) ?_
      refine lv_istore (lv' := [(5, .int 1), (4, .int (nI (z_1))), (0, .ref h0), (1, .ref q1), (2, .ref q2), (3, .int (nI (k)))]) hx hb dX6_orderStops_47 hl (by decide) rfl (fun ls hl => ?_)
      suffices loop_49 : ∀ (n_49 : Nat) (i2 : Nat) (L8 : Nat → Int32) (H : Heap) (locs : List Loc) (ls : Array Slot), 64 - i2 < n_49 → (i2 ≤ 64) → va_P D vwCl [(h0, .inr (6, [.ref an])), (an, .inl (cI, 384, .inl L8)), (q1, .inr (3, [.int (nI (cn)), .ref bn, .ref bp])), (bn, .inl (cI, 8, .inl ln)), (bp, .inl (cI, 48, .inl sp)), (q2, .inr (0, [.int (nI (Q)), .ref dn])), (dn, .inl (cI, 100, .inl La))] H → va_D A [(h0, .inr (6, [.ref an])), (an, .inl (cI, 384, .inl L8)), (q1, .inr (3, [.int (nI (cn)), .ref bn, .ref bp])), (bn, .inl (cI, 8, .inl ln)), (bp, .inl (cI, 48, .inl sp)), (q2, .inr (0, [.int (nI (Q)), .ref dn])), (dn, .inl (cI, 100, .inl La))] → va_S A s.heap H locs → lv_has ls 7 [(5, .int (nI (i2))), (4, .int (nI (z_1))), (0, .ref h0), (1, .ref q1), (2, .ref q2), (3, .int (nI (k)))] → W p l e ({ frames := 3, cells := 0, slots := 0, locals := 74 }) s m ([.ref h0, .ref q1, .ref q2, .int (nI (k))] : List Value).toArray below meth c H locs 0 0 (MQ below (XQv (fun (L2 : (Nat → Int32)) => True) D (fun (L2 : Nat → Int32) => [(h0, .inr (6, [.ref an])), (an, .inl (cI, 384, .inl L2)), (q1, .inr (3, [.int (nI (cn)), .ref bn, .ref bp])), (bn, .inl (cI, 8, .inl ln)), (bp, .inl (cI, 48, .inl sp)), (q2, .inr (0, [.int (nI (Q)), .ref dn])), (dn, .inl (cI, 100, .inl La))]) A) ([.ref h0, .ref q1, .ref q2, .int (nI (k))] : List Value).toArray s 0 0 A) (F0 m 49 ls []) by
        exact loop_49 _ 1 f_3 _ _ _ (Nat.lt_succ_self _) (by omega) hP hD hS (lv_sub hl [0, 1, 2, 3, 4, 5] rfl)
      intro n_49
      induction n_49 with
      | zero =>
        intro i2 L8 H locs ls hm_49
        exact absurd hm_49 (Nat.not_lt_zero _)
      | succ n_49 ih_49 =>
        intro i2 L8 H locs ls hm_49 hi2 hP hD hS hl
        refine lv_iload hx hb dX6_orderStops_49 (lv_at hl 0 rfl) ?_
        refine lv_iload hx hb dX6_orderStops_51 (lv_at hl 1 rfl) ?_
        refine lv_icmp_ge (tgt := 111) hx hb dX6_orderStops_53 (by decide) (fun c_4 => ?_) (fun c_4 => ?_)
        · skip
          have nc_4 : z_1 ≤ i2 := xn_le (a := z_1) (b := i2) (by omega) (by omega) c_4
          exact W.vret hx hb hr (fun t ht hW => ⟨⟨L8, rfl, trivial, by rw [ht]; exact hP.sub [0, 1, 2, 3, 4, 5, 6] rfl, hD.sub [0, 1, 2, 3, 4, 5, 6] (by decide +kernel) rfl⟩, hS.F ht⟩) hS.2.2 dX6_orderStops_111 hlk
        · skip
          have nc_4 : i2 < z_1 := xn_nle (a := z_1) (b := i2) (by omega) (by omega) c_4
          refine lv_iconst (v := 0) hx hb dX6_orderStops_56 (by decide) ?_
          refine lv_istore (lv' := [(6, .int 0), (5, .int (nI (i2))), (4, .int (nI (z_1))), (0, .ref h0), (1, .ref q1), (2, .ref q2), (3, .int (nI (k)))]) hx hb dX6_orderStops_57 hl (by decide) rfl (fun ls hl => ?_)
          suffices loop_59 : ∀ (n_59 : Nat) (i3 : Nat) (L7 : Nat → Int32) (H : Heap) (locs : List Loc) (ls : Array Slot), q - i3 < n_59 → (i3 ≤ q) → va_P D vwCl [(h0, .inr (6, [.ref an])), (an, .inl (cI, 384, .inl L7)), (q1, .inr (3, [.int (nI (cn)), .ref bn, .ref bp])), (bn, .inl (cI, 8, .inl ln)), (bp, .inl (cI, 48, .inl sp)), (q2, .inr (0, [.int (nI (Q)), .ref dn])), (dn, .inl (cI, 100, .inl La))] H → va_D A [(h0, .inr (6, [.ref an])), (an, .inl (cI, 384, .inl L7)), (q1, .inr (3, [.int (nI (cn)), .ref bn, .ref bp])), (bn, .inl (cI, 8, .inl ln)), (bp, .inl (cI, 48, .inl sp)), (q2, .inr (0, [.int (nI (Q)), .ref dn])), (dn, .inl (cI, 100, .inl La))] → va_S A s.heap H locs → lv_has ls 7 [(6, .int (nI (i3))), (5, .int (nI (i2))), (4, .int (nI (z_1))), (0, .ref h0), (1, .ref q1), (2, .ref q2), (3, .int (nI (k)))] → W p l e ({ frames := 3, cells := 0, slots := 0, locals := 74 }) s m ([.ref h0, .ref q1, .ref q2, .int (nI (k))] : List Value).toArray below meth c H locs 0 0 (MQ below (XQv (fun (L2 : (Nat → Int32)) => True) D (fun (L2 : Nat → Int32) => [(h0, .inr (6, [.ref an])), (an, .inl (cI, 384, .inl L2)), (q1, .inr (3, [.int (nI (cn)), .ref bn, .ref bp])), (bn, .inl (cI, 8, .inl ln)), (bp, .inl (cI, 48, .inl sp)), (q2, .inr (0, [.int (nI (Q)), .ref dn])), (dn, .inl (cI, 100, .inl La))]) A) ([.ref h0, .ref q1, .ref q2, .int (nI (k))] : List Value).toArray s 0 0 A) (F0 m 59 ls []) by
            exact loop_59 _ 0 L8 _ _ _ (Nat.lt_succ_self _) (by omega) hP hD hS (lv_sub hl [0, 1, 2, 3, 4, 5, 6] rfl)
          intro n_59
          induction n_59 with
          | zero =>
            intro i3 L7 H locs ls hm_59
            exact absurd hm_59 (Nat.not_lt_zero _)
          | succ n_59 ih_59 =>
            intro i3 L7 H locs ls hm_59 hi3 hP hD hS hl
            refine lv_iload hx hb dX6_orderStops_59 (lv_at hl 0 rfl) ?_
            refine lv_aload_n hx hb dX6_orderStops_61 rfl (lv_at hl 4 rfl) ?_
            refine xg hF kf_X6_44 hK hP 2 rfl rfl dX6_orderStops_62 ?_
            refine lv_iload_n hx hb dX6_orderStops_65 rfl (lv_at hl 6 rfl) ?_
            refine va_iald hx hb hK hP 3 0 rfl rfl (vp_in_nI (show k < 8 by omega) (by decide)) dX6_orderStops_66 ?_
            refine xl_i (y := ln k) (congrArg ln (nI_clamp (show k < 2 ^ 31 by omega))) ?_
            refine xl_i (y := nI (q)) eq0 ?_
            refine lv_icmp_ge (tgt := 105) hx hb dX6_orderStops_67 (by decide) (fun c_5 => ?_) (fun c_5 => ?_)
            · skip
              have nc_5 : q ≤ i3 := xn_le (a := q) (b := i3) (by omega) (by omega) c_5
              refine lv_iinc (v := nI (i2 + 1)) (lv' := [(5, .int (nI (i2 + 1))), (6, .int (nI (i3))), (4, .int (nI (z_1))), (0, .ref h0), (1, .ref q1), (2, .ref q2), (3, .int (nI (k)))]) hx hb dX6_orderStops_105 hl (k := 1) rfl (nI_1 (i2)) (by decide) rfl (fun ls hl => ?_)
              refine lv_goto (tgt := 49) hx hb dX6_orderStops_108 (by decide) ?_
              exact ih_49 (i2 + 1) L7 _ _ _ (by omega) (by omega) (hP.sub [0, 1, 2, 3, 4, 5, 6] rfl) (hD.sub [0, 1, 2, 3, 4, 5, 6] (by decide +kernel) rfl) hS (lv_sub hl [0, 2, 3, 4, 5, 6] rfl)
            · skip
              have nc_5 : i3 < q := xn_nle (a := q) (b := i3) (by omega) (by omega) c_5
              refine lv_aload_n hx hb dX6_orderStops_70 rfl (lv_at hl 3 rfl) ?_
              refine xg hF kf_X6_9 hK hP 0 rfl rfl dX6_orderStops_71 ?_
              refine lv_iload hx hb dX6_orderStops_74 (lv_at hl 1 rfl) ?_
              refine lv_bipush (v := 6) hx hb dX6_orderStops_76 (by decide) ?_
              refine lv_imul hx hb dX6_orderStops_78 ?_
              refine xl_i (y := nI (i2 * 6)) (pk_mul i2 6) ?_
              refine lv_iload hx hb dX6_orderStops_79 (lv_at hl 0 rfl) ?_
              refine lv_iadd hx hb dX6_orderStops_81 ?_
              refine xl_i (y := nI (i2 * 6 + i3)) (nI_add (i2 * 6) i3) ?_
              refine va_iald hx hb hK hP 1 0 rfl rfl (vp_in_nI (show i2 * 6 + i3 < 384 by omega) (by decide)) dX6_orderStops_82 ?_
              refine xl_i (y := L7 (i2 * 6 + i3)) (congrArg L7 (nI_clamp (show i2 * 6 + i3 < 2 ^ 31 by omega))) ?_
              refine lv_ldc (v := 1000000000) hx hb hown (hu _ uw148) dX6_orderStops_83 ?_
              refine lv_icmp_eq (tgt := 99) hx hb dX6_orderStops_85 (by decide) (fun c_6 => ?_) (fun c_6 => ?_)
              · skip
                refine lv_iinc (v := nI (i3 + 1)) (lv' := [(6, .int (nI (i3 + 1))), (5, .int (nI (i2))), (4, .int (nI (z_1))), (0, .ref h0), (1, .ref q1), (2, .ref q2), (3, .int (nI (k)))]) hx hb dX6_orderStops_99 hl (k := 0) rfl (nI_1 (i3)) (by decide) rfl (fun ls hl => ?_)
                refine lv_goto (tgt := 59) hx hb dX6_orderStops_102 (by decide) ?_
                exact ih_59 (i3 + 1) L7 _ _ _ (by omega) (by omega) (hP.sub [0, 1, 2, 3, 4, 5, 6] rfl) (hD.sub [0, 1, 2, 3, 4, 5, 6] (by decide +kernel) rfl) hS (lv_sub hl [0, 1, 2, 3, 4, 5, 6] rfl)
              · skip
                refine lv_aload_n hx hb dX6_orderStops_88 rfl (lv_at hl 3 rfl) ?_
                refine lv_aload_n hx hb dX6_orderStops_89 rfl (lv_at hl 4 rfl) ?_
                refine lv_aload_n hx hb dX6_orderStops_90 rfl (lv_at hl 5 rfl) ?_
                refine lv_iload_n hx hb dX6_orderStops_91 rfl (lv_at hl 6 rfl) ?_
                refine lv_iload hx hb dX6_orderStops_92 (lv_at hl 1 rfl) ?_
                refine lv_iload hx hb dX6_orderStops_94 (lv_at hl 0 rfl) ?_
                refine xc_Vv (wr := []) hF (c_X6_goOnFrom l D cI cJ cZ cS ta sa sv H.size h0 an L7 q1 bn bp cn ln sp q2 dn Q La k q i2 i3 (by omega) (by omega) (by omega) (by omega) hln hsp (by omega) (by omega)) kv_X6_97 ⟨rfl, rfl, Nat.le_of_ble_eq_true rfl, Nat.le_of_ble_eq_true rfl⟩ ⟨Nat.le_of_ble_eq_true rfl, Nat.le_of_ble_eq_true rfl⟩ hK hN hZ hP hD hS hA [0, 1, 2, 3, 4, 5, 6] [] rfl rfl (by decide +kernel) rfl (by decide +kernel) 0 rfl rfl rfl rfl hl.1 rfl (Nat.le_of_ble_eq_true rfl) dX6_orderStops_96 (fun u_r_7 H locs hw_r_7 hP hD hS => ?_)
                obtain ⟨L2_8, rfl⟩ : ∃ z, z = u_r_7 := ⟨_, rfl⟩
                try dsimp only at hw_r_7
                have hP : va_P D vwCl [(h0, .inr (6, [.ref an])), (an, .inl (cI, 384, .inl L2_8)), (q1, .inr (3, [.int (nI (cn)), .ref bn, .ref bp])), (bn, .inl (cI, 8, .inl ln)), (bp, .inl (cI, 48, .inl sp)), (q2, .inr (0, [.int (nI (Q)), .ref dn])), (dn, .inl (cI, 100, .inl La))] H := hP
                have hD : va_D A [(h0, .inr (6, [.ref an])), (an, .inl (cI, 384, .inl L2_8)), (q1, .inr (3, [.int (nI (cn)), .ref bn, .ref bp])), (bn, .inl (cI, 8, .inl ln)), (bp, .inl (cI, 48, .inl sp)), (q2, .inr (0, [.int (nI (Q)), .ref dn])), (dn, .inl (cI, 100, .inl La))] := hD
                refine lv_iinc (v := nI (i3 + 1)) (lv' := [(6, .int (nI (i3 + 1))), (5, .int (nI (i2))), (4, .int (nI (z_1))), (0, .ref h0), (1, .ref q1), (2, .ref q2), (3, .int (nI (k)))]) hx hb dX6_orderStops_99 hl (k := 0) rfl (nI_1 (i3)) (by decide) rfl (fun ls hl => ?_)
                refine lv_goto (tgt := 59) hx hb dX6_orderStops_102 (by decide) ?_
                exact ih_59 (i3 + 1) L2_8 _ _ _ (by omega) (by omega) (hP.sub [0, 1, 2, 3, 4, 5, 6] rfl) (hD.sub [0, 1, 2, 3, 4, 5, 6] (by decide +kernel) rfl) hS (lv_sub hl [0, 1, 2, 3, 4, 5, 6] rfl)
    · skip
      have nc_2 : i < z_1 * 6 := xn_nle (a := (z_1 * 6)) (b := i) (by omega) (by omega) c_2
      refine lv_aload_n hx hb dX6_orderStops_23 rfl (lv_at hl 2 rfl) ?_
      refine xg hF kf_X6_9 hK hP 0 rfl rfl dX6_orderStops_24 ?_
      refine lv_iload hx hb dX6_orderStops_27 (lv_at hl 0 rfl) ?_
      refine lv_ldc (v := 1000000000) hx hb hown (hu _ uw148) dX6_orderStops_29 ?_
      refine va_iast hx hb hK hP hD hS 1 0 rfl rfl (vp_in_nI (show i < 384 by omega) (by decide)) dX6_orderStops_31 (fun H locs hP hD hS => ?_)
      rw [nI_clamp (show i < 2 ^ 31 by omega)] at hP hD
      obtain ⟨f_9, ef_9⟩ : ∃ g, g = upd L9 i 1000000000 := ⟨_, rfl⟩
      rw [← ef_9] at hP hD
      have hP : va_P D vwCl [(h0, .inr (6, [.ref an])), (an, .inl (cI, 384, .inl f_9)), (q1, .inr (3, [.int (nI (cn)), .ref bn, .ref bp])), (bn, .inl (cI, 8, .inl ln)), (bp, .inl (cI, 48, .inl sp)), (q2, .inr (0, [.int (nI (Q)), .ref dn])), (dn, .inl (cI, 100, .inl La))] H := hP
      have hD : va_D A [(h0, .inr (6, [.ref an])), (an, .inl (cI, 384, .inl f_9)), (q1, .inr (3, [.int (nI (cn)), .ref bn, .ref bp])), (bn, .inl (cI, 8, .inl ln)), (bp, .inl (cI, 48, .inl sp)), (q2, .inr (0, [.int (nI (Q)), .ref dn])), (dn, .inl (cI, 100, .inl La))] := hD
      refine lv_iinc (v := nI (i + 1)) (lv' := [(5, .int (nI (i + 1))), (4, .int (nI (z_1))), (0, .ref h0), (1, .ref q1), (2, .ref q2), (3, .int (nI (k)))]) hx hb dX6_orderStops_32 hl (k := 0) rfl (nI_1 (i)) (by decide) rfl (fun ls hl => ?_)
      refine lv_goto (tgt := 13) hx hb dX6_orderStops_35 (by decide) ?_
      exact ih_13 (i + 1) f_9 _ _ _ (by omega) (by omega) (hP.sub [0, 1, 2, 3, 4, 5, 6] rfl) (hD.sub [0, 1, 2, 3, 4, 5, 6] (by decide +kernel) rfl) hS (lv_sub hl [0, 1, 2, 3, 4, 5] rfl)
set_option maxHeartbeats 4000000 in
set_option maxRecDepth 100000 in
theorem c_X6_bestSum (l : Launch) (D : va_G) (cI cJ cZ cS : ClassId) (ta : Nat) (sa sv : Nat → Nat) (sz : Nat) (h0 : Nat) (an : Nat) (Ls : Nat → Int32) (q1 : Nat) (bn : Nat) (bp : Nat) (cn : Nat) (ln : Nat → Int32) (sp : Nat → Int32) (q2 : Nat) (dn : Nat) (Q : Nat) (La : Nat → Int32) (k : Nat) (q : Nat) (p0 : Int32) (hk : k < 8) (hq1 : 1 ≤ q) (hq : q < 7) (eq0 : ln k = nI q) (hln : BA 8 7 ln) (hsp : BA 48 10 sp) : Met l yX6_bestSum (Cond.code yX6_bestSum cX6_bestSum 9 (some .int) :: wsU) ({ frames := 4, cells := 0, slots := 0, locals := 100 }) (va_Pc [.ref h0, .ref q1, .ref q2, .int (nI (k)), .int p0] (XW D (xT cI cJ cZ cS) ta sa sv [(h0, .inr (6, [.ref an])), (an, .inl (cI, 384, .inl Ls)), (q1, .inr (3, [.int (nI (cn)), .ref bn, .ref bp])), (bn, .inl (cI, 8, .inl ln)), (bp, .inl (cI, 48, .inl sp)), (q2, .inr (0, [.int (nI (Q)), .ref dn])), (dn, .inl (cI, 100, .inl La))] sz)) (XQi (fun (r : Int32) (L2 : (Nat → Int32)) => (True)) D (fun (L2 : Nat → Int32) => [(h0, .inr (6, [.ref an])), (an, .inl (cI, 384, .inl L2)), (q1, .inr (3, [.int (nI (cn)), .ref bn, .ref bp])), (bn, .inl (cI, 8, .inl ln)), (bp, .inl (cI, 48, .inl sp)), (q2, .inr (0, [.int (nI (Q)), .ref dn])), (dn, .inl (cI, 100, .inl La))]) (va_A [(h0, .inr (6, [.ref an])), (an, .inl (cI, 384, .inl Ls)), (q1, .inr (3, [.int (nI (cn)), .ref bn, .ref bp])), (bn, .inl (cI, 8, .inl ln)), (bp, .inl (cI, 48, .inl sp)), (q2, .inr (0, [.int (nI (Q)), .ref dn])), (dn, .inl (cI, 100, .inl La))] sz)) 0 0 (va_A [(h0, .inr (6, [.ref an])), (an, .inl (cI, 384, .inl Ls)), (q1, .inr (3, [.int (nI (cn)), .ref bn, .ref bp])), (bn, .inl (cI, 8, .inl ln)), (bp, .inl (cI, 48, .inl sp)), (q2, .inr (0, [.int (nI (Q)), .ref dn])), (dn, .inl (cI, 100, .inl La))] sz) := by
  refine xh (QA := fun A => XQi (fun (r : Int32) (L2 : (Nat → Int32)) => (True)) D (fun (L2 : Nat → Int32) => [(h0, .inr (6, [.ref an])), (an, .inl (cI, 384, .inl L2)), (q1, .inr (3, [.int (nI (cn)), .ref bn, .ref bp])), (bn, .inl (cI, 8, .inl ln)), (bp, .inl (cI, 48, .inl sp)), (q2, .inr (0, [.int (nI (Q)), .ref dn])), (dn, .inl (cI, 100, .inl La))]) A) (fr := fun A => A) (by decide) (Nat.le_of_ble_eq_true rfl) ?_
  intro p e s m below meth c ls A hF hr hlk hin hsz hP hK hD hN hZ hA hS hl
  have hF : CallFix p m c cX6_bestSum 9 s _ _ RX6 := hF
  have hx := hF.1
  have hb := hF.2.1
  have hml := hF.2.2.1
  have hown := hF.2.2.2.1
  have hu : ∀ w ∈ wsU, w.before _ s = true := fun w h => hF.2.2.2.2 w (List.mem_cons_of_mem _ h)
  have hl : lv_has ls 9 [(0, .ref h0), (1, .ref q1), (2, .ref q2), (3, .int (nI (k))), (4, .int p0)] := hl
  refine lv_aload_n hx hb dX6_bestSum_0 rfl (lv_at hl 1 rfl) ?_
  refine xg hF kf_X6_44 hK hP 2 rfl rfl dX6_bestSum_1 ?_
  refine lv_iload_n hx hb dX6_bestSum_4 rfl (lv_at hl 3 rfl) ?_
  refine va_iald hx hb hK hP 3 0 rfl rfl (vp_in_nI (show k < 8 by omega) (by decide)) dX6_bestSum_5 ?_
  refine xl_i (y := ln k) (congrArg ln (nI_clamp (show k < 2 ^ 31 by omega))) ?_
  refine xl_i (y := nI (q)) eq0 ?_
  refine lv_istore (lv' := [(5, .int (nI (q))), (0, .ref h0), (1, .ref q1), (2, .ref q2), (3, .int (nI (k))), (4, .int p0)]) hx hb dX6_bestSum_6 hl (by decide) rfl (fun ls hl => ?_)
  refine lv_aload_n hx hb dX6_bestSum_8 rfl (lv_at hl 1 rfl) ?_
  refine lv_aload_n hx hb dX6_bestSum_9 rfl (lv_at hl 2 rfl) ?_
  refine lv_aload_n hx hb dX6_bestSum_10 rfl (lv_at hl 3 rfl) ?_
  refine lv_iload_n hx hb dX6_bestSum_11 rfl (lv_at hl 4 rfl) ?_
  refine xc_Vv (wr := []) hF (c_X6_orderStops l D cI cJ cZ cS ta sa sv s.heap.size h0 an Ls q1 bn bp cn ln sp q2 dn Q La k q (by omega) (by omega) (by omega) (by omega) hln hsp) kv_X6_88 ⟨rfl, rfl, Nat.le_of_ble_eq_true rfl, Nat.le_of_ble_eq_true rfl⟩ ⟨Nat.le_of_ble_eq_true rfl, Nat.le_of_ble_eq_true rfl⟩ hK hN hZ hP hD hS hA [0, 1, 2, 3, 4, 5, 6] [] rfl rfl (by decide +kernel) rfl (by decide +kernel) 0 rfl rfl rfl rfl hl.1 rfl (Nat.le_of_ble_eq_true rfl) dX6_bestSum_12 (fun u_r_1 H locs hw_r_1 hP hD hS => ?_)
  obtain ⟨L2_2, rfl⟩ : ∃ z, z = u_r_1 := ⟨_, rfl⟩
  try dsimp only at hw_r_1
  have hP : va_P D vwCl [(h0, .inr (6, [.ref an])), (an, .inl (cI, 384, .inl L2_2)), (q1, .inr (3, [.int (nI (cn)), .ref bn, .ref bp])), (bn, .inl (cI, 8, .inl ln)), (bp, .inl (cI, 48, .inl sp)), (q2, .inr (0, [.int (nI (Q)), .ref dn])), (dn, .inl (cI, 100, .inl La))] H := hP
  have hD : va_D A [(h0, .inr (6, [.ref an])), (an, .inl (cI, 384, .inl L2_2)), (q1, .inr (3, [.int (nI (cn)), .ref bn, .ref bp])), (bn, .inl (cI, 8, .inl ln)), (bp, .inl (cI, 48, .inl sp)), (q2, .inr (0, [.int (nI (Q)), .ref dn])), (dn, .inl (cI, 100, .inl La))] := hD
  refine lv_ldc (v := 1000000000) hx hb hown (hu _ uw148) dX6_bestSum_15 ?_
  refine lv_istore (lv' := [(6, .int 1000000000), (5, .int (nI (q))), (0, .ref h0), (1, .ref q1), (2, .ref q2), (3, .int (nI (k))), (4, .int p0)]) hx hb dX6_bestSum_17 hl (by decide) rfl (fun ls hl => ?_)
  refine lv_iconst (v := 0) hx hb dX6_bestSum_19 (by decide) ?_
  refine lv_istore (lv' := [(7, .int 0), (6, .int 1000000000), (5, .int (nI (q))), (0, .ref h0), (1, .ref q1), (2, .ref q2), (3, .int (nI (k))), (4, .int p0)]) hx hb dX6_bestSum_20 hl (by decide) rfl (fun ls hl => ?_)
  suffices loop_22 : ∀ (n_22 : Nat) (i : Nat) (u : Int32) (H : Heap) (locs : List Loc) (ls : Array Slot), q - i < n_22 → (i ≤ q) → va_P D vwCl [(h0, .inr (6, [.ref an])), (an, .inl (cI, 384, .inl L2_2)), (q1, .inr (3, [.int (nI (cn)), .ref bn, .ref bp])), (bn, .inl (cI, 8, .inl ln)), (bp, .inl (cI, 48, .inl sp)), (q2, .inr (0, [.int (nI (Q)), .ref dn])), (dn, .inl (cI, 100, .inl La))] H → va_D A [(h0, .inr (6, [.ref an])), (an, .inl (cI, 384, .inl L2_2)), (q1, .inr (3, [.int (nI (cn)), .ref bn, .ref bp])), (bn, .inl (cI, 8, .inl ln)), (bp, .inl (cI, 48, .inl sp)), (q2, .inr (0, [.int (nI (Q)), .ref dn])), (dn, .inl (cI, 100, .inl La))] → va_S A s.heap H locs → lv_has ls 9 [(7, .int (nI (i))), (6, .int u), (5, .int (nI (q))), (0, .ref h0), (1, .ref q1), (2, .ref q2), (3, .int (nI (k))), (4, .int p0)] → W p l e ({ frames := 4, cells := 0, slots := 0, locals := 100 }) s m ([.ref h0, .ref q1, .ref q2, .int (nI (k)), .int p0] : List Value).toArray below meth c H locs 0 0 (MQ below (XQi (fun (r : Int32) (L2 : (Nat → Int32)) => (True)) D (fun (L2 : Nat → Int32) => [(h0, .inr (6, [.ref an])), (an, .inl (cI, 384, .inl L2)), (q1, .inr (3, [.int (nI (cn)), .ref bn, .ref bp])), (bn, .inl (cI, 8, .inl ln)), (bp, .inl (cI, 48, .inl sp)), (q2, .inr (0, [.int (nI (Q)), .ref dn])), (dn, .inl (cI, 100, .inl La))]) A) ([.ref h0, .ref q1, .ref q2, .int (nI (k)), .int p0] : List Value).toArray s 0 0 A) (F0 m 22 ls []) by
    exact loop_22 _ 0 1000000000 _ _ _ (Nat.lt_succ_self _) (by omega) hP hD hS (lv_sub hl [0, 1, 2, 3, 4, 5, 6, 7] rfl)
  intro n_22
  induction n_22 with
  | zero =>
    intro i u H locs ls hm_22
    exact absurd hm_22 (Nat.not_lt_zero _)
  | succ n_22 ih_22 =>
    intro i u H locs ls hm_22 hi hP hD hS hl
    refine lv_iload hx hb dX6_bestSum_22 (lv_at hl 0 rfl) ?_
    refine lv_iload hx hb dX6_bestSum_24 (lv_at hl 2 rfl) ?_
    refine lv_icmp_ge (tgt := 92) hx hb dX6_bestSum_26 (by decide) (fun c_3 => ?_) (fun c_3 => ?_)
    · skip
      have nc_3 : q ≤ i := xn_le (a := q) (b := i) (by omega) (by omega) c_3
      refine lv_iload hx hb dX6_bestSum_92 (lv_at hl 1 rfl) ?_
      exact W.iret (v := u) hx hb hr (fun t ht hW => ⟨⟨u, L2_2, rfl, trivial, by rw [ht]; exact hP.sub [0, 1, 2, 3, 4, 5, 6] rfl, hD.sub [0, 1, 2, 3, 4, 5, 6] (by decide +kernel) rfl⟩, hS.F ht⟩) hS.2.2 dX6_bestSum_94 hlk
    · skip
      have nc_3 : i < q := xn_nle (a := q) (b := i) (by omega) (by omega) c_3
      refine lv_aload_n hx hb dX6_bestSum_29 rfl (lv_at hl 3 rfl) ?_
      refine xg hF kf_X6_9 hK hP 0 rfl rfl dX6_bestSum_30 ?_
      refine lv_iconst (v := 1) hx hb dX6_bestSum_33 (by decide) ?_
      refine lv_iload hx hb dX6_bestSum_34 (lv_at hl 2 rfl) ?_
      refine lv_ishl hx hb dX6_bestSum_36 ?_
      obtain ⟨z_4, ez_4, hz_40, hz_41, hz_42⟩ := xpow (q := q) (by omega)
      refine xl_i (y := nI (z_4)) ez_4 ?_
      refine lv_iconst (v := 1) hx hb dX6_bestSum_37 (by decide) ?_
      refine lv_isub hx hb dX6_bestSum_38 ?_
      refine xl_i (y := nI (z_4 - 1)) (pk_sub (show 1 ≤ z_4 by omega)) ?_
      refine lv_bipush (v := 6) hx hb dX6_bestSum_39 (by decide) ?_
      refine lv_imul hx hb dX6_bestSum_41 ?_
      refine xl_i (y := nI ((z_4 - 1) * 6)) (pk_mul (z_4 - 1) 6) ?_
      refine lv_iload hx hb dX6_bestSum_42 (lv_at hl 0 rfl) ?_
      refine lv_iadd hx hb dX6_bestSum_44 ?_
      refine xl_i (y := nI ((z_4 - 1) * 6 + i)) (nI_add ((z_4 - 1) * 6) i) ?_
      refine va_iald hx hb hK hP 1 0 rfl rfl (vp_in_nI (show (z_4 - 1) * 6 + i < 384 by omega) (by decide)) dX6_bestSum_45 ?_
      refine xl_i (y := L2_2 ((z_4 - 1) * 6 + i)) (congrArg L2_2 (nI_clamp (show (z_4 - 1) * 6 + i < 2 ^ 31 by omega))) ?_
      refine lv_istore (lv' := [(8, .int (L2_2 ((z_4 - 1) * 6 + i))), (7, .int (nI (i))), (6, .int u), (5, .int (nI (q))), (0, .ref h0), (1, .ref q1), (2, .ref q2), (3, .int (nI (k))), (4, .int p0)]) hx hb dX6_bestSum_46 hl (by decide) rfl (fun ls hl => ?_)
      refine lv_iload hx hb dX6_bestSum_48 (lv_at hl 8 rfl) ?_
      refine lv_if_eq (tgt := 77) hx hb dX6_bestSum_50 (by decide) (fun c_5 => ?_) (fun c_5 => ?_)
      · skip
        refine lv_iload hx hb dX6_bestSum_77 (lv_at hl 2 rfl) ?_
        refine lv_iload hx hb dX6_bestSum_79 (lv_at hl 0 rfl) ?_
        refine va_mmin hx hb (hml.trans hl.1.symm) hown (hu _ uw165) (hu _ uw137) (hu _ uw92) (hu _ uw138) (Nat.le_of_ble_eq_true rfl) (Nat.le_of_ble_eq_true rfl) (Nat.le_of_ble_eq_true rfl) (Nat.le_of_ble_eq_true rfl) dX6_bestSum_81 ?_
        refine lv_topi (fun x_6 ex_6 => ?_)
        refine lv_istore (lv' := [(6, .int x_6), (8, .int (L2_2 ((z_4 - 1) * 6 + i))), (7, .int (nI (i))), (5, .int (nI (q))), (0, .ref h0), (1, .ref q1), (2, .ref q2), (3, .int (nI (k))), (4, .int p0)]) hx hb dX6_bestSum_84 hl (by decide) rfl (fun ls hl => ?_)
        refine lv_iinc (v := nI (i + 1)) (lv' := [(7, .int (nI (i + 1))), (6, .int x_6), (8, .int (L2_2 ((z_4 - 1) * 6 + i))), (5, .int (nI (q))), (0, .ref h0), (1, .ref q1), (2, .ref q2), (3, .int (nI (k))), (4, .int p0)]) hx hb dX6_bestSum_86 hl (k := 2) rfl (nI_1 (i)) (by decide) rfl (fun ls hl => ?_)
        refine lv_goto (tgt := 22) hx hb dX6_bestSum_89 (by decide) ?_
        exact ih_22 (i + 1) x_6 _ _ _ (by omega) (by omega) (hP.sub [0, 1, 2, 3, 4, 5, 6] rfl) (hD.sub [0, 1, 2, 3, 4, 5, 6] (by decide +kernel) rfl) hS (lv_sub hl [0, 1, 3, 4, 5, 6, 7, 8] rfl)
      · skip
        refine lv_iload hx hb dX6_bestSum_53 (lv_at hl 0 rfl) ?_
        refine lv_aload_n hx hb dX6_bestSum_55 rfl (lv_at hl 6 rfl) ?_
        refine lv_aload_n hx hb dX6_bestSum_56 rfl (lv_at hl 5 rfl) ?_
        refine lv_iload_n hx hb dX6_bestSum_57 rfl (lv_at hl 7 rfl) ?_
        refine lv_iload hx hb dX6_bestSum_58 (lv_at hl 1 rfl) ?_
        refine xc_Vr hF (c_X3_stop l D cI cJ cZ cS ta sa sv H.size q1 bn bp cn k i sp (by omega) (by omega) hsp) kv_X6_49 ⟨rfl, rfl, Nat.le_of_ble_eq_true rfl, Nat.le_of_ble_eq_true rfl⟩ ⟨Nat.le_of_ble_eq_true rfl, Nat.le_of_ble_eq_true rfl⟩ hK hN hZ hP hD hS hA [2, 4] rfl rfl 0 rfl rfl rfl rfl hl.1 rfl (Nat.le_of_ble_eq_true rfl) dX6_bestSum_60 (fun r_7 hw_r_7 => ?_)
        obtain ⟨q_8, rfl, h_9, h_10⟩ := hw_r_7
        refine lv_aload_n hx hb dX6_bestSum_63 rfl (lv_at hl 5 rfl) ?_
        refine lv_iload_n hx hb dX6_bestSum_64 rfl (lv_at hl 7 rfl) ?_
        refine lv_iconst (v := 0) hx hb dX6_bestSum_65 (by decide) ?_
        refine xc_Vr hF (c_X3_stop l D cI cJ cZ cS ta sa sv H.size q1 bn bp cn k 0 sp (by omega) (by omega) hsp) kv_X6_49 ⟨rfl, rfl, Nat.le_of_ble_eq_true rfl, Nat.le_of_ble_eq_true rfl⟩ ⟨Nat.le_of_ble_eq_true rfl, Nat.le_of_ble_eq_true rfl⟩ hK hN hZ hP hD hS hA [2, 4] rfl rfl 0 rfl rfl rfl rfl hl.1 rfl (Nat.le_of_ble_eq_true rfl) dX6_bestSum_66 (fun r_11 hw_r_11 => ?_)
        obtain ⟨q_12, rfl, h_13, h_14⟩ := hw_r_11
        refine xc_Vr hF (c_X0_farOf l D cI cJ cZ cS ta sa sv H.size q2 dn Q La q_8 q_12 (by omega) (by omega)) kv_X6_57 ⟨rfl, rfl, Nat.le_of_ble_eq_true rfl, Nat.le_of_ble_eq_true rfl⟩ ⟨Nat.le_of_ble_eq_true rfl, Nat.le_of_ble_eq_true rfl⟩ hK hN hZ hP hD hS hA [5, 6] rfl rfl 0 rfl rfl rfl rfl hl.1 rfl (Nat.le_of_ble_eq_true rfl) dX6_bestSum_69 (fun r_15 hw_r_15 => ?_)
        refine xc_SNr hF (c_X8_together l D cI cJ cZ cS ta sa sv H.size (L2_2 ((z_4 - 1) * 6 + i)) r_15 ) kn_X6_62.1 kn_X6_62.2.1 kn_X6_62.2.2 ⟨rfl, rfl, Nat.le_of_ble_eq_true rfl, Nat.le_of_ble_eq_true rfl⟩ ⟨Nat.le_of_ble_eq_true rfl, Nat.le_of_ble_eq_true rfl⟩ hK hN hZ hP hD hS hA [] rfl rfl rfl hl.1 rfl (Nat.le_of_ble_eq_true rfl) dX6_bestSum_72 (fun r_16 hw_r_16 => ?_)
        refine lv_istore (lv' := [(8, .int r_16), (7, .int (nI (i))), (6, .int u), (5, .int (nI (q))), (0, .ref h0), (1, .ref q1), (2, .ref q2), (3, .int (nI (k))), (4, .int p0)]) hx hb dX6_bestSum_75 hl (by decide) rfl (fun ls hl => ?_)
        refine lv_iload hx hb dX6_bestSum_77 (lv_at hl 2 rfl) ?_
        refine lv_iload hx hb dX6_bestSum_79 (lv_at hl 0 rfl) ?_
        refine va_mmin hx hb (hml.trans hl.1.symm) hown (hu _ uw165) (hu _ uw137) (hu _ uw92) (hu _ uw138) (Nat.le_of_ble_eq_true rfl) (Nat.le_of_ble_eq_true rfl) (Nat.le_of_ble_eq_true rfl) (Nat.le_of_ble_eq_true rfl) dX6_bestSum_81 ?_
        refine lv_topi (fun x_17 ex_17 => ?_)
        refine lv_istore (lv' := [(6, .int x_17), (8, .int r_16), (7, .int (nI (i))), (5, .int (nI (q))), (0, .ref h0), (1, .ref q1), (2, .ref q2), (3, .int (nI (k))), (4, .int p0)]) hx hb dX6_bestSum_84 hl (by decide) rfl (fun ls hl => ?_)
        refine lv_iinc (v := nI (i + 1)) (lv' := [(7, .int (nI (i + 1))), (6, .int x_17), (8, .int r_16), (5, .int (nI (q))), (0, .ref h0), (1, .ref q1), (2, .ref q2), (3, .int (nI (k))), (4, .int p0)]) hx hb dX6_bestSum_86 hl (k := 2) rfl (nI_1 (i)) (by decide) rfl (fun ls hl => ?_)
        refine lv_goto (tgt := 22) hx hb dX6_bestSum_89 (by decide) ?_
        exact ih_22 (i + 1) x_17 _ _ _ (by omega) (by omega) (hP.sub [0, 1, 2, 3, 4, 5, 6] rfl) (hD.sub [0, 1, 2, 3, 4, 5, 6] (by decide +kernel) rfl) hS (lv_sub hl [0, 1, 3, 4, 5, 6, 7, 8] rfl)
set_option maxHeartbeats 4000000 in
set_option maxRecDepth 100000 in
theorem c_X6_sumOf (l : Launch) (D : va_G) (cI cJ cZ cS : ClassId) (ta : Nat) (sa sv : Nat → Nat) (sz : Nat) (h0 : Nat) (an : Nat) (Ls : Nat → Int32) (q1 : Nat) (be : Nat) (bl : Nat) (bu : Nat) (bo : Nat) (br : Nat) (bk : Nat) (bw : Nat) (btt : Nat) (bss : Nat) (P : Nat) (bn : Nat) (bp : Nat) (cn : Nat) (lo : Nat → Int32) (d : Nat → Int32) (ln : Nat → Int32) (sp : Nat → Int32) (ki : Nat → Int32) (q2 : Nat) (dn : Nat) (Q : Nat) (La : Nat → Int32) (k : Nat) (q : Nat) (hQ : Q ≤ 10) (hk : k < 8) (hq1 : 1 ≤ q) (hq : q < 7) (eq0 : ln k = nI q) (hln : BA 8 7 ln) (hsp : BA 48 10 sp) : Met l yX6_sumOf (Cond.code yX6_sumOf cX6_sumOf 4 (some .int) :: wsU) ({ frames := 5, cells := 0, slots := 0, locals := 128 }) (va_Pc [.ref h0, .ref q1, .ref q2, .int (nI (k))] (XW D (xT cI cJ cZ cS) ta sa sv [(h0, .inr (6, [.ref an])), (an, .inl (cI, 384, .inl Ls)), (q1, .inr (1, [.int (nI (P)), .ref be, .ref bl, .ref bu, .ref bo, .ref br, .ref bk, .ref bw, .ref btt, .ref bss])), (bl, .inl (cI, 100, .inl lo)), (bo, .inl (cI, 100, .inl d)), (br, .inr (3, [.int (nI (cn)), .ref bn, .ref bp])), (bn, .inl (cI, 8, .inl ln)), (bp, .inl (cI, 48, .inl sp)), (bk, .inl (cI, 8, .inl ki)), (q2, .inr (0, [.int (nI (Q)), .ref dn])), (dn, .inl (cI, 100, .inl La))] sz)) (XQi (fun (r : Int32) (L2 : (Nat → Int32)) => (True)) D (fun (L2 : Nat → Int32) => [(h0, .inr (6, [.ref an])), (an, .inl (cI, 384, .inl L2)), (q1, .inr (1, [.int (nI (P)), .ref be, .ref bl, .ref bu, .ref bo, .ref br, .ref bk, .ref bw, .ref btt, .ref bss])), (bl, .inl (cI, 100, .inl lo)), (bo, .inl (cI, 100, .inl d)), (br, .inr (3, [.int (nI (cn)), .ref bn, .ref bp])), (bn, .inl (cI, 8, .inl ln)), (bp, .inl (cI, 48, .inl sp)), (bk, .inl (cI, 8, .inl ki)), (q2, .inr (0, [.int (nI (Q)), .ref dn])), (dn, .inl (cI, 100, .inl La))]) (va_A [(h0, .inr (6, [.ref an])), (an, .inl (cI, 384, .inl Ls)), (q1, .inr (1, [.int (nI (P)), .ref be, .ref bl, .ref bu, .ref bo, .ref br, .ref bk, .ref bw, .ref btt, .ref bss])), (bl, .inl (cI, 100, .inl lo)), (bo, .inl (cI, 100, .inl d)), (br, .inr (3, [.int (nI (cn)), .ref bn, .ref bp])), (bn, .inl (cI, 8, .inl ln)), (bp, .inl (cI, 48, .inl sp)), (bk, .inl (cI, 8, .inl ki)), (q2, .inr (0, [.int (nI (Q)), .ref dn])), (dn, .inl (cI, 100, .inl La))] sz)) 0 0 (va_A [(h0, .inr (6, [.ref an])), (an, .inl (cI, 384, .inl Ls)), (q1, .inr (1, [.int (nI (P)), .ref be, .ref bl, .ref bu, .ref bo, .ref br, .ref bk, .ref bw, .ref btt, .ref bss])), (bl, .inl (cI, 100, .inl lo)), (bo, .inl (cI, 100, .inl d)), (br, .inr (3, [.int (nI (cn)), .ref bn, .ref bp])), (bn, .inl (cI, 8, .inl ln)), (bp, .inl (cI, 48, .inl sp)), (bk, .inl (cI, 8, .inl ki)), (q2, .inr (0, [.int (nI (Q)), .ref dn])), (dn, .inl (cI, 100, .inl La))] sz) := by
  refine xh (QA := fun A => XQi (fun (r : Int32) (L2 : (Nat → Int32)) => (True)) D (fun (L2 : Nat → Int32) => [(h0, .inr (6, [.ref an])), (an, .inl (cI, 384, .inl L2)), (q1, .inr (1, [.int (nI (P)), .ref be, .ref bl, .ref bu, .ref bo, .ref br, .ref bk, .ref bw, .ref btt, .ref bss])), (bl, .inl (cI, 100, .inl lo)), (bo, .inl (cI, 100, .inl d)), (br, .inr (3, [.int (nI (cn)), .ref bn, .ref bp])), (bn, .inl (cI, 8, .inl ln)), (bp, .inl (cI, 48, .inl sp)), (bk, .inl (cI, 8, .inl ki)), (q2, .inr (0, [.int (nI (Q)), .ref dn])), (dn, .inl (cI, 100, .inl La))]) A) (fr := fun A => A) (by decide) (Nat.le_of_ble_eq_true rfl) ?_
  intro p e s m below meth c ls A hF hr hlk hin hsz hP hK hD hN hZ hA hS hl
  have hF : CallFix p m c cX6_sumOf 4 s _ _ RX6 := hF
  have hx := hF.1
  have hb := hF.2.1
  have hml := hF.2.2.1
  have hown := hF.2.2.2.1
  have hu : ∀ w ∈ wsU, w.before _ s = true := fun w h => hF.2.2.2.2 w (List.mem_cons_of_mem _ h)
  have hl : lv_has ls 4 [(0, .ref h0), (1, .ref q1), (2, .ref q2), (3, .int (nI (k)))] := hl
  refine lv_aload_n hx hb dX6_sumOf_0 rfl (lv_at hl 1 rfl) ?_
  refine xg hF kf_X6_15 hK hP 2 rfl rfl dX6_sumOf_1 ?_
  refine lv_iload_n hx hb dX6_sumOf_4 rfl (lv_at hl 3 rfl) ?_
  refine va_iald hx hb hK hP 8 0 rfl rfl (vp_in_nI (show k < 8 by omega) (by decide)) dX6_sumOf_5 ?_
  refine xl_i (y := ki k) (congrArg ki (nI_clamp (show k < 2 ^ 31 by omega))) ?_
  rcases x_s7 (ki k) with h_1 | e_2 | e_2 | e_2 | e_2 | e_2 | e_2 | e_2
  · refine lv_tableOut (tgt := 113) hx hb dX6_sumOf_6 h_1 (by decide) ?_
    refine lv_ldc (v := 1000000000) hx hb hown (hu _ uw148) dX6_sumOf_113 ?_
    exact W.iret (v := 1000000000) hx hb hr (fun t ht hW => ⟨⟨1000000000, Ls, rfl, trivial, by rw [ht]; exact hP.sub [0, 1, 2, 3, 4, 5, 6, 7, 8, 9, 10] rfl, hD.sub [0, 1, 2, 3, 4, 5, 6, 7, 8, 9, 10] (by decide +kernel) rfl⟩, hS.F ht⟩) hS.2.2 dX6_sumOf_115 hlk
  · refine xl_i (y := 0) e_2 ?_
    refine lv_tableIn (tgt := 48) hx hb dX6_sumOf_6 (by decide) (by decide) rfl (by decide) ?_
    refine lv_aload_n hx hb dX6_sumOf_48 rfl (lv_at hl 1 rfl) ?_
    refine xg hF kf_X6_20 hK hP 2 rfl rfl dX6_sumOf_49 ?_
    refine lv_aload_n hx hb dX6_sumOf_52 rfl (lv_at hl 2 rfl) ?_
    refine lv_iload_n hx hb dX6_sumOf_53 rfl (lv_at hl 3 rfl) ?_
    refine xc_Sr hF (c_X6_roundSum l D cI cJ cZ cS ta sa sv s.heap.size br bn bp cn ln sp q2 dn Q La k q (by omega) (by omega) (by omega) (by omega) hln hsp) ks_X6_24 ⟨rfl, rfl, Nat.le_of_ble_eq_true rfl, Nat.le_of_ble_eq_true rfl⟩ ⟨Nat.le_of_ble_eq_true rfl, Nat.le_of_ble_eq_true rfl⟩ hK hN hZ hP hD hS hA [5, 6, 7, 9, 10] rfl rfl rfl hl.1 rfl (Nat.le_of_ble_eq_true rfl) dX6_sumOf_54 (fun r_3 hw_r_3 => ?_)
    exact W.iret (v := r_3) hx hb hr (fun t ht hW => ⟨⟨r_3, Ls, rfl, trivial, by rw [ht]; exact hP.sub [0, 1, 2, 3, 4, 5, 6, 7, 8, 9, 10] rfl, hD.sub [0, 1, 2, 3, 4, 5, 6, 7, 8, 9, 10] (by decide +kernel) rfl⟩, hS.F ht⟩) hS.2.2 dX6_sumOf_57 hlk
  · refine xl_i (y := 1) e_2 ?_
    refine lv_tableIn (tgt := 58) hx hb dX6_sumOf_6 (by decide) (by decide) rfl (by decide) ?_
    refine lv_aload_n hx hb dX6_sumOf_58 rfl (lv_at hl 1 rfl) ?_
    refine lv_iload_n hx hb dX6_sumOf_59 rfl (lv_at hl 3 rfl) ?_
    refine lv_iconst (v := 0) hx hb dX6_sumOf_60 (by decide) ?_
    refine xc_Sr hF (c_X6_toldSum l D cI cJ cZ cS ta sa sv s.heap.size q1 be bl bu bo br bk bw btt bss P bn bp cn lo d ln sp k q 0 (by omega) (by omega) (by omega) (by omega) hln hsp) ks_X6_28 ⟨rfl, rfl, Nat.le_of_ble_eq_true rfl, Nat.le_of_ble_eq_true rfl⟩ ⟨Nat.le_of_ble_eq_true rfl, Nat.le_of_ble_eq_true rfl⟩ hK hN hZ hP hD hS hA [2, 3, 4, 5, 6, 7] rfl rfl rfl hl.1 rfl (Nat.le_of_ble_eq_true rfl) dX6_sumOf_61 (fun r_4 hw_r_4 => ?_)
    exact W.iret (v := r_4) hx hb hr (fun t ht hW => ⟨⟨r_4, Ls, rfl, trivial, by rw [ht]; exact hP.sub [0, 1, 2, 3, 4, 5, 6, 7, 8, 9, 10] rfl, hD.sub [0, 1, 2, 3, 4, 5, 6, 7, 8, 9, 10] (by decide +kernel) rfl⟩, hS.F ht⟩) hS.2.2 dX6_sumOf_64 hlk
  · refine xl_i (y := 2) e_2 ?_
    refine lv_tableIn (tgt := 72) hx hb dX6_sumOf_6 (by decide) (by decide) rfl (by decide) ?_
    refine lv_aload_n hx hb dX6_sumOf_72 rfl (lv_at hl 0 rfl) ?_
    refine lv_aload_n hx hb dX6_sumOf_73 rfl (lv_at hl 1 rfl) ?_
    refine xg hF kf_X6_20 hK hP 2 rfl rfl dX6_sumOf_74 ?_
    refine lv_aload_n hx hb dX6_sumOf_77 rfl (lv_at hl 2 rfl) ?_
    refine lv_iload_n hx hb dX6_sumOf_78 rfl (lv_at hl 3 rfl) ?_
    refine lv_iconst (v := 1) hx hb dX6_sumOf_79 (by decide) ?_
    refine xc_Vi (wr := [(q1, .inr (1, [.int (nI (P)), .ref be, .ref bl, .ref bu, .ref bo, .ref br, .ref bk, .ref bw, .ref btt, .ref bss])), (bl, .inl (cI, 100, .inl lo)), (bo, .inl (cI, 100, .inl d)), (bk, .inl (cI, 8, .inl ki))]) hF (c_X6_bestSum l D cI cJ cZ cS ta sa sv s.heap.size h0 an Ls br bn bp cn ln sp q2 dn Q La k q 1 (by omega) (by omega) (by omega) (by omega) hln hsp) kv_X6_32 ⟨rfl, rfl, Nat.le_of_ble_eq_true rfl, Nat.le_of_ble_eq_true rfl⟩ ⟨Nat.le_of_ble_eq_true rfl, Nat.le_of_ble_eq_true rfl⟩ hK hN hZ hP hD hS hA [0, 1, 5, 6, 7, 9, 10] [2, 3, 4, 8] rfl rfl (by decide +kernel) (by decide +kernel) (by decide +kernel) 0 rfl rfl rfl rfl hl.1 rfl (Nat.le_of_ble_eq_true rfl) dX6_sumOf_80 (fun r_5 u_r_5 H locs hw_r_5 hP hD hS => ?_)
    obtain ⟨L2_6, rfl⟩ : ∃ z, z = u_r_5 := ⟨_, rfl⟩
    try dsimp only at hw_r_5
    have hP : va_P D vwCl [(q1, .inr (1, [.int (nI (P)), .ref be, .ref bl, .ref bu, .ref bo, .ref br, .ref bk, .ref bw, .ref btt, .ref bss])), (bl, .inl (cI, 100, .inl lo)), (bo, .inl (cI, 100, .inl d)), (bk, .inl (cI, 8, .inl ki)), (h0, .inr (6, [.ref an])), (an, .inl (cI, 384, .inl L2_6)), (br, .inr (3, [.int (nI (cn)), .ref bn, .ref bp])), (bn, .inl (cI, 8, .inl ln)), (bp, .inl (cI, 48, .inl sp)), (q2, .inr (0, [.int (nI (Q)), .ref dn])), (dn, .inl (cI, 100, .inl La))] H := hP
    have hD : va_D A [(q1, .inr (1, [.int (nI (P)), .ref be, .ref bl, .ref bu, .ref bo, .ref br, .ref bk, .ref bw, .ref btt, .ref bss])), (bl, .inl (cI, 100, .inl lo)), (bo, .inl (cI, 100, .inl d)), (bk, .inl (cI, 8, .inl ki)), (h0, .inr (6, [.ref an])), (an, .inl (cI, 384, .inl L2_6)), (br, .inr (3, [.int (nI (cn)), .ref bn, .ref bp])), (bn, .inl (cI, 8, .inl ln)), (bp, .inl (cI, 48, .inl sp)), (q2, .inr (0, [.int (nI (Q)), .ref dn])), (dn, .inl (cI, 100, .inl La))] := hD
    exact W.iret (v := r_5) hx hb hr (fun t ht hW => ⟨⟨r_5, L2_6, rfl, trivial, by rw [ht]; exact hP.sub [4, 5, 0, 1, 2, 6, 7, 8, 3, 9, 10] rfl, hD.sub [4, 5, 0, 1, 2, 6, 7, 8, 3, 9, 10] (by decide +kernel) rfl⟩, hS.F ht⟩) hS.2.2 dX6_sumOf_83 hlk
  · refine xl_i (y := 3) e_2 ?_
    refine lv_tableIn (tgt := 96) hx hb dX6_sumOf_6 (by decide) (by decide) rfl (by decide) ?_
    refine lv_aload_n hx hb dX6_sumOf_96 rfl (lv_at hl 1 rfl) ?_
    refine lv_aload_n hx hb dX6_sumOf_97 rfl (lv_at hl 2 rfl) ?_
    refine lv_iload_n hx hb dX6_sumOf_98 rfl (lv_at hl 3 rfl) ?_
    refine xc_Sr hF (c_X6_meetSum l D cI cJ cZ cS ta sa sv s.heap.size q1 be bl bu bo br bk bw btt bss P bn bp cn lo d ln sp q2 dn Q La k q (by omega) (by omega) (by omega) (by omega) (by omega) hln hsp) ks_X6_36 ⟨rfl, rfl, Nat.le_of_ble_eq_true rfl, Nat.le_of_ble_eq_true rfl⟩ ⟨Nat.le_of_ble_eq_true rfl, Nat.le_of_ble_eq_true rfl⟩ hK hN hZ hP hD hS hA [2, 3, 4, 5, 6, 7, 9, 10] rfl rfl rfl hl.1 rfl (Nat.le_of_ble_eq_true rfl) dX6_sumOf_99 (fun r_7 hw_r_7 => ?_)
    exact W.iret (v := r_7) hx hb hr (fun t ht hW => ⟨⟨r_7, Ls, rfl, trivial, by rw [ht]; exact hP.sub [0, 1, 2, 3, 4, 5, 6, 7, 8, 9, 10] rfl, hD.sub [0, 1, 2, 3, 4, 5, 6, 7, 8, 9, 10] (by decide +kernel) rfl⟩, hS.F ht⟩) hS.2.2 dX6_sumOf_102 hlk
  · refine xl_i (y := 4) e_2 ?_
    refine lv_tableIn (tgt := 65) hx hb dX6_sumOf_6 (by decide) (by decide) rfl (by decide) ?_
    refine lv_aload_n hx hb dX6_sumOf_65 rfl (lv_at hl 1 rfl) ?_
    refine lv_iload_n hx hb dX6_sumOf_66 rfl (lv_at hl 3 rfl) ?_
    refine lv_iconst (v := 1) hx hb dX6_sumOf_67 (by decide) ?_
    refine xc_Sr hF (c_X6_toldSum l D cI cJ cZ cS ta sa sv s.heap.size q1 be bl bu bo br bk bw btt bss P bn bp cn lo d ln sp k q 1 (by omega) (by omega) (by omega) (by omega) hln hsp) ks_X6_28 ⟨rfl, rfl, Nat.le_of_ble_eq_true rfl, Nat.le_of_ble_eq_true rfl⟩ ⟨Nat.le_of_ble_eq_true rfl, Nat.le_of_ble_eq_true rfl⟩ hK hN hZ hP hD hS hA [2, 3, 4, 5, 6, 7] rfl rfl rfl hl.1 rfl (Nat.le_of_ble_eq_true rfl) dX6_sumOf_68 (fun r_8 hw_r_8 => ?_)
    exact W.iret (v := r_8) hx hb hr (fun t ht hW => ⟨⟨r_8, Ls, rfl, trivial, by rw [ht]; exact hP.sub [0, 1, 2, 3, 4, 5, 6, 7, 8, 9, 10] rfl, hD.sub [0, 1, 2, 3, 4, 5, 6, 7, 8, 9, 10] (by decide +kernel) rfl⟩, hS.F ht⟩) hS.2.2 dX6_sumOf_71 hlk
  · refine xl_i (y := 5) e_2 ?_
    refine lv_tableIn (tgt := 103) hx hb dX6_sumOf_6 (by decide) (by decide) rfl (by decide) ?_
    refine lv_aload_n hx hb dX6_sumOf_103 rfl (lv_at hl 1 rfl) ?_
    refine xg hF kf_X6_20 hK hP 2 rfl rfl dX6_sumOf_104 ?_
    refine lv_aload_n hx hb dX6_sumOf_107 rfl (lv_at hl 2 rfl) ?_
    refine lv_iload_n hx hb dX6_sumOf_108 rfl (lv_at hl 3 rfl) ?_
    refine xc_Sr hF (c_X6_pairsSum l D cI cJ cZ cS ta sa sv s.heap.size br bn bp cn ln sp q2 dn Q La k q (by omega) (by omega) (by omega) (by omega) hln hsp) ks_X6_40 ⟨rfl, rfl, Nat.le_of_ble_eq_true rfl, Nat.le_of_ble_eq_true rfl⟩ ⟨Nat.le_of_ble_eq_true rfl, Nat.le_of_ble_eq_true rfl⟩ hK hN hZ hP hD hS hA [5, 6, 7, 9, 10] rfl rfl rfl hl.1 rfl (Nat.le_of_ble_eq_true rfl) dX6_sumOf_109 (fun r_9 hw_r_9 => ?_)
    exact W.iret (v := r_9) hx hb hr (fun t ht hW => ⟨⟨r_9, Ls, rfl, trivial, by rw [ht]; exact hP.sub [0, 1, 2, 3, 4, 5, 6, 7, 8, 9, 10] rfl, hD.sub [0, 1, 2, 3, 4, 5, 6, 7, 8, 9, 10] (by decide +kernel) rfl⟩, hS.F ht⟩) hS.2.2 dX6_sumOf_112 hlk
  · refine xl_i (y := 6) e_2 ?_
    refine lv_tableIn (tgt := 84) hx hb dX6_sumOf_6 (by decide) (by decide) rfl (by decide) ?_
    refine lv_aload_n hx hb dX6_sumOf_84 rfl (lv_at hl 0 rfl) ?_
    refine lv_aload_n hx hb dX6_sumOf_85 rfl (lv_at hl 1 rfl) ?_
    refine xg hF kf_X6_20 hK hP 2 rfl rfl dX6_sumOf_86 ?_
    refine lv_aload_n hx hb dX6_sumOf_89 rfl (lv_at hl 2 rfl) ?_
    refine lv_iload_n hx hb dX6_sumOf_90 rfl (lv_at hl 3 rfl) ?_
    refine lv_iconst (v := 0) hx hb dX6_sumOf_91 (by decide) ?_
    refine xc_Vi (wr := [(q1, .inr (1, [.int (nI (P)), .ref be, .ref bl, .ref bu, .ref bo, .ref br, .ref bk, .ref bw, .ref btt, .ref bss])), (bl, .inl (cI, 100, .inl lo)), (bo, .inl (cI, 100, .inl d)), (bk, .inl (cI, 8, .inl ki))]) hF (c_X6_bestSum l D cI cJ cZ cS ta sa sv s.heap.size h0 an Ls br bn bp cn ln sp q2 dn Q La k q 0 (by omega) (by omega) (by omega) (by omega) hln hsp) kv_X6_32 ⟨rfl, rfl, Nat.le_of_ble_eq_true rfl, Nat.le_of_ble_eq_true rfl⟩ ⟨Nat.le_of_ble_eq_true rfl, Nat.le_of_ble_eq_true rfl⟩ hK hN hZ hP hD hS hA [0, 1, 5, 6, 7, 9, 10] [2, 3, 4, 8] rfl rfl (by decide +kernel) (by decide +kernel) (by decide +kernel) 0 rfl rfl rfl rfl hl.1 rfl (Nat.le_of_ble_eq_true rfl) dX6_sumOf_92 (fun r_10 u_r_10 H locs hw_r_10 hP hD hS => ?_)
    obtain ⟨L2_11, rfl⟩ : ∃ z, z = u_r_10 := ⟨_, rfl⟩
    try dsimp only at hw_r_10
    have hP : va_P D vwCl [(q1, .inr (1, [.int (nI (P)), .ref be, .ref bl, .ref bu, .ref bo, .ref br, .ref bk, .ref bw, .ref btt, .ref bss])), (bl, .inl (cI, 100, .inl lo)), (bo, .inl (cI, 100, .inl d)), (bk, .inl (cI, 8, .inl ki)), (h0, .inr (6, [.ref an])), (an, .inl (cI, 384, .inl L2_11)), (br, .inr (3, [.int (nI (cn)), .ref bn, .ref bp])), (bn, .inl (cI, 8, .inl ln)), (bp, .inl (cI, 48, .inl sp)), (q2, .inr (0, [.int (nI (Q)), .ref dn])), (dn, .inl (cI, 100, .inl La))] H := hP
    have hD : va_D A [(q1, .inr (1, [.int (nI (P)), .ref be, .ref bl, .ref bu, .ref bo, .ref br, .ref bk, .ref bw, .ref btt, .ref bss])), (bl, .inl (cI, 100, .inl lo)), (bo, .inl (cI, 100, .inl d)), (bk, .inl (cI, 8, .inl ki)), (h0, .inr (6, [.ref an])), (an, .inl (cI, 384, .inl L2_11)), (br, .inr (3, [.int (nI (cn)), .ref bn, .ref bp])), (bn, .inl (cI, 8, .inl ln)), (bp, .inl (cI, 48, .inl sp)), (q2, .inr (0, [.int (nI (Q)), .ref dn])), (dn, .inl (cI, 100, .inl La))] := hD
    exact W.iret (v := r_10) hx hb hr (fun t ht hW => ⟨⟨r_10, L2_11, rfl, trivial, by rw [ht]; exact hP.sub [4, 5, 0, 1, 2, 6, 7, 8, 3, 9, 10] rfl, hD.sub [4, 5, 0, 1, 2, 6, 7, 8, 3, 9, 10] (by decide +kernel) rfl⟩, hS.F ht⟩) hS.2.2 dX6_sumOf_95 hlk
