def LRX7_takePlace_4 : List UInt8 := []
def LBX7_takePlace_3 : List UInt8 := [0x04, 0xac]
def LRX7_takePlace_3 : List UInt8 := LBX7_takePlace_3 ++ LRX7_takePlace_4
def LBX7_takePlace_2 : List UInt8 := [0x9a, 0x00, 0x05, 0x03, 0xac, 0x2a, 0xb4, 0x00, 0x1f, 0x3d, 0x2b, 0x1c, 0xb6, 0x00, 0x4a, 0x57]
def LRX7_takePlace_2 : List UInt8 := LBX7_takePlace_2 ++ LRX7_takePlace_3
def LBX7_takePlace_1 : List UInt8 := [0x3d, 0x2a, 0x12, 0x41, 0xb6, 0x00, 0x43, 0x99, 0x00, 0x13, 0x2a, 0x10, 0x63, 0xb6, 0x00, 0x46]
def LRX7_takePlace_1 : List UInt8 := LBX7_takePlace_1 ++ LRX7_takePlace_2
def LBX7_takePlace_0 : List UInt8 := [0x2b, 0xb4, 0x00, 0x3c, 0x10, 0x0a, 0xa1, 0x00, 0x05, 0x03, 0xac, 0x2a, 0xb6, 0x00, 0x22, 0x03]
def LRX7_takePlace_0 : List UInt8 := LBX7_takePlace_0 ++ LRX7_takePlace_1
set_option maxRecDepth 100000 in
theorem LBX7_takePlace_eq : cX7_takePlace.data.toList = LRX7_takePlace_0 := by decide +kernel
theorem LBX7_takePlacer_0 (k : Nat) : cX7_takePlace.data.toList[0 + k]? = LRX7_takePlace_0[k]? := by rw [LBX7_takePlace_eq, Nat.zero_add]
theorem LBX7_takePlacer_1 (k : Nat) : cX7_takePlace.data.toList[16 + k]? = LRX7_takePlace_1[k]? := by
  have h := LBX7_takePlacer_0 (16 + k)
  rw [show 0 + (16 + k) = 16 + k by omega] at h
  rw [h]
  exact (List.getElem?_append_right (l₁ := LBX7_takePlace_0) (l₂ := LRX7_takePlace_1) (show 16 ≤ 16 + k by omega)).trans (congrArg (fun i => LRX7_takePlace_1[i]?) (show 16 + k - 16 = k by omega))
theorem LBX7_takePlacer_2 (k : Nat) : cX7_takePlace.data.toList[32 + k]? = LRX7_takePlace_2[k]? := by
  have h := LBX7_takePlacer_1 (16 + k)
  rw [show 16 + (16 + k) = 32 + k by omega] at h
  rw [h]
  exact (List.getElem?_append_right (l₁ := LBX7_takePlace_1) (l₂ := LRX7_takePlace_2) (show 16 ≤ 16 + k by omega)).trans (congrArg (fun i => LRX7_takePlace_2[i]?) (show 16 + k - 16 = k by omega))
theorem LBX7_takePlacer_3 (k : Nat) : cX7_takePlace.data.toList[48 + k]? = LRX7_takePlace_3[k]? := by
  have h := LBX7_takePlacer_2 (16 + k)
  rw [show 32 + (16 + k) = 48 + k by omega] at h
  rw [h]
  exact (List.getElem?_append_right (l₁ := LBX7_takePlace_2) (l₂ := LRX7_takePlace_3) (show 16 ≤ 16 + k by omega)).trans (congrArg (fun i => LRX7_takePlace_3[i]?) (show 16 + k - 16 = k by omega))
theorem dX7_takePlace_0 : decode cX7_takePlace 0 = .ok (.aload_n 1, 1) := dk_43_ (show cX7_takePlace.data.toList[0]? = some 0x2b from (LBX7_takePlacer_0 0).trans (by decide +kernel))
theorem dX7_takePlace_1 : decode cX7_takePlace 1 = .ok (.getfield 60, 3) := dk_180_ (show cX7_takePlace.data.toList[1]? = some 0xb4 from (LBX7_takePlacer_0 1).trans (by decide +kernel)) (show cX7_takePlace.data.toList[2]? = some 0x00 from (LBX7_takePlacer_0 2).trans (by decide +kernel)) (show cX7_takePlace.data.toList[3]? = some 0x3c from (LBX7_takePlacer_0 3).trans (by decide +kernel)) (by decide)
theorem dX7_takePlace_4 : decode cX7_takePlace 4 = .ok (.bipush 10, 2) := dk_16_ (show cX7_takePlace.data.toList[4]? = some 0x10 from (LBX7_takePlacer_0 4).trans (by decide +kernel)) (show cX7_takePlace.data.toList[5]? = some 0x0a from (LBX7_takePlacer_0 5).trans (by decide +kernel)) (by decide)
theorem dX7_takePlace_6 : decode cX7_takePlace 6 = .ok (.if_icmp .lt 5, 3) := dk_161_ (show cX7_takePlace.data.toList[6]? = some 0xa1 from (LBX7_takePlacer_0 6).trans (by decide +kernel)) (show cX7_takePlace.data.toList[7]? = some 0x00 from (LBX7_takePlacer_0 7).trans (by decide +kernel)) (show cX7_takePlace.data.toList[8]? = some 0x05 from (LBX7_takePlacer_0 8).trans (by decide +kernel)) (by decide)
theorem dX7_takePlace_9 : decode cX7_takePlace 9 = .ok (.iconst 0, 1) := dk_3_ (show cX7_takePlace.data.toList[9]? = some 0x03 from (LBX7_takePlacer_0 9).trans (by decide +kernel))
theorem dX7_takePlace_10 : decode cX7_takePlace 10 = .ok (.ireturn, 1) := dk_172_ (show cX7_takePlace.data.toList[10]? = some 0xac from (LBX7_takePlacer_0 10).trans (by decide +kernel))
theorem dX7_takePlace_11 : decode cX7_takePlace 11 = .ok (.aload_n 0, 1) := dk_42_ (show cX7_takePlace.data.toList[11]? = some 0x2a from (LBX7_takePlacer_0 11).trans (by decide +kernel))
theorem dX7_takePlace_12 : decode cX7_takePlace 12 = .ok (.invokevirtual 34, 3) := dk_182_ (show cX7_takePlace.data.toList[12]? = some 0xb6 from (LBX7_takePlacer_0 12).trans (by decide +kernel)) (show cX7_takePlace.data.toList[13]? = some 0x00 from (LBX7_takePlacer_0 13).trans (by decide +kernel)) (show cX7_takePlace.data.toList[14]? = some 0x22 from (LBX7_takePlacer_0 14).trans (by decide +kernel)) (by decide)
theorem dX7_takePlace_15 : decode cX7_takePlace 15 = .ok (.iconst 0, 1) := dk_3_ (show cX7_takePlace.data.toList[15]? = some 0x03 from (LBX7_takePlacer_0 15).trans (by decide +kernel))
theorem dX7_takePlace_16 : decode cX7_takePlace 16 = .ok (.istore_n 2, 1) := dk_61_ (show cX7_takePlace.data.toList[16]? = some 0x3d from (LBX7_takePlacer_1 0).trans (by decide +kernel))
theorem dX7_takePlace_17 : decode cX7_takePlace 17 = .ok (.aload_n 0, 1) := dk_42_ (show cX7_takePlace.data.toList[17]? = some 0x2a from (LBX7_takePlacer_1 1).trans (by decide +kernel))
theorem dX7_takePlace_18 : decode cX7_takePlace 18 = .ok (.ldc 65, 2) := dk_18_ (show cX7_takePlace.data.toList[18]? = some 0x12 from (LBX7_takePlacer_1 2).trans (by decide +kernel)) (show cX7_takePlace.data.toList[19]? = some 0x41 from (LBX7_takePlacer_1 3).trans (by decide +kernel)) (by decide)
theorem dX7_takePlace_20 : decode cX7_takePlace 20 = .ok (.invokevirtual 67, 3) := dk_182_ (show cX7_takePlace.data.toList[20]? = some 0xb6 from (LBX7_takePlacer_1 4).trans (by decide +kernel)) (show cX7_takePlace.data.toList[21]? = some 0x00 from (LBX7_takePlacer_1 5).trans (by decide +kernel)) (show cX7_takePlace.data.toList[22]? = some 0x43 from (LBX7_takePlacer_1 6).trans (by decide +kernel)) (by decide)
theorem dX7_takePlace_23 : decode cX7_takePlace 23 = .ok (.ifCond .eq 19, 3) := dk_153_ (show cX7_takePlace.data.toList[23]? = some 0x99 from (LBX7_takePlacer_1 7).trans (by decide +kernel)) (show cX7_takePlace.data.toList[24]? = some 0x00 from (LBX7_takePlacer_1 8).trans (by decide +kernel)) (show cX7_takePlace.data.toList[25]? = some 0x13 from (LBX7_takePlacer_1 9).trans (by decide +kernel)) (by decide)
theorem dX7_takePlace_26 : decode cX7_takePlace 26 = .ok (.aload_n 0, 1) := dk_42_ (show cX7_takePlace.data.toList[26]? = some 0x2a from (LBX7_takePlacer_1 10).trans (by decide +kernel))
theorem dX7_takePlace_27 : decode cX7_takePlace 27 = .ok (.bipush 99, 2) := dk_16_ (show cX7_takePlace.data.toList[27]? = some 0x10 from (LBX7_takePlacer_1 11).trans (by decide +kernel)) (show cX7_takePlace.data.toList[28]? = some 0x63 from (LBX7_takePlacer_1 12).trans (by decide +kernel)) (by decide)
theorem dX7_takePlace_29 : decode cX7_takePlace 29 = .ok (.invokevirtual 70, 3) := dk_182_ (show cX7_takePlace.data.toList[29]? = some 0xb6 from (LBX7_takePlacer_1 13).trans (by decide +kernel)) (show cX7_takePlace.data.toList[30]? = some 0x00 from (LBX7_takePlacer_1 14).trans (by decide +kernel)) (show cX7_takePlace.data.toList[31]? = some 0x46 from (LBX7_takePlacer_1 15).trans (by decide +kernel)) (by decide)
theorem dX7_takePlace_32 : decode cX7_takePlace 32 = .ok (.ifCond .ne 5, 3) := dk_154_ (show cX7_takePlace.data.toList[32]? = some 0x9a from (LBX7_takePlacer_2 0).trans (by decide +kernel)) (show cX7_takePlace.data.toList[33]? = some 0x00 from (LBX7_takePlacer_2 1).trans (by decide +kernel)) (show cX7_takePlace.data.toList[34]? = some 0x05 from (LBX7_takePlacer_2 2).trans (by decide +kernel)) (by decide)
theorem dX7_takePlace_35 : decode cX7_takePlace 35 = .ok (.iconst 0, 1) := dk_3_ (show cX7_takePlace.data.toList[35]? = some 0x03 from (LBX7_takePlacer_2 3).trans (by decide +kernel))
theorem dX7_takePlace_36 : decode cX7_takePlace 36 = .ok (.ireturn, 1) := dk_172_ (show cX7_takePlace.data.toList[36]? = some 0xac from (LBX7_takePlacer_2 4).trans (by decide +kernel))
theorem dX7_takePlace_37 : decode cX7_takePlace 37 = .ok (.aload_n 0, 1) := dk_42_ (show cX7_takePlace.data.toList[37]? = some 0x2a from (LBX7_takePlacer_2 5).trans (by decide +kernel))
theorem dX7_takePlace_38 : decode cX7_takePlace 38 = .ok (.getfield 31, 3) := dk_180_ (show cX7_takePlace.data.toList[38]? = some 0xb4 from (LBX7_takePlacer_2 6).trans (by decide +kernel)) (show cX7_takePlace.data.toList[39]? = some 0x00 from (LBX7_takePlacer_2 7).trans (by decide +kernel)) (show cX7_takePlace.data.toList[40]? = some 0x1f from (LBX7_takePlacer_2 8).trans (by decide +kernel)) (by decide)
theorem dX7_takePlace_41 : decode cX7_takePlace 41 = .ok (.istore_n 2, 1) := dk_61_ (show cX7_takePlace.data.toList[41]? = some 0x3d from (LBX7_takePlacer_2 9).trans (by decide +kernel))
theorem dX7_takePlace_42 : decode cX7_takePlace 42 = .ok (.aload_n 1, 1) := dk_43_ (show cX7_takePlace.data.toList[42]? = some 0x2b from (LBX7_takePlacer_2 10).trans (by decide +kernel))
theorem dX7_takePlace_43 : decode cX7_takePlace 43 = .ok (.iload_n 2, 1) := dk_28_ (show cX7_takePlace.data.toList[43]? = some 0x1c from (LBX7_takePlacer_2 11).trans (by decide +kernel))
theorem dX7_takePlace_44 : decode cX7_takePlace 44 = .ok (.invokevirtual 74, 3) := dk_182_ (show cX7_takePlace.data.toList[44]? = some 0xb6 from (LBX7_takePlacer_2 12).trans (by decide +kernel)) (show cX7_takePlace.data.toList[45]? = some 0x00 from (LBX7_takePlacer_2 13).trans (by decide +kernel)) (show cX7_takePlace.data.toList[46]? = some 0x4a from (LBX7_takePlacer_2 14).trans (by decide +kernel)) (by decide)
theorem dX7_takePlace_47 : decode cX7_takePlace 47 = .ok (.pop, 1) := dk_87_ (show cX7_takePlace.data.toList[47]? = some 0x57 from (LBX7_takePlacer_2 15).trans (by decide +kernel))
theorem dX7_takePlace_48 : decode cX7_takePlace 48 = .ok (.iconst 1, 1) := dk_4_ (show cX7_takePlace.data.toList[48]? = some 0x04 from (LBX7_takePlacer_3 0).trans (by decide +kernel))
theorem dX7_takePlace_49 : decode cX7_takePlace 49 = .ok (.ireturn, 1) := dk_172_ (show cX7_takePlace.data.toList[49]? = some 0xac from (LBX7_takePlacer_3 1).trans (by decide +kernel))
def LRX7_takeWayBack_2 : List UInt8 := []
def LBX7_takeWayBack_1 : List UInt8 := [0x1d, 0x2a, 0xb4, 0x00, 0x1f, 0x2a, 0xb4, 0x00, 0x1f, 0xb6, 0x00, 0x54, 0x04, 0xac]
def LRX7_takeWayBack_1 : List UInt8 := LBX7_takeWayBack_1 ++ LRX7_takeWayBack_2
def LBX7_takeWayBack_0 : List UInt8 := [0x2a, 0x10, 0x9d, 0x11, 0x03, 0xe7, 0xb6, 0x00, 0x4e, 0x9a, 0x00, 0x05, 0x03, 0xac, 0x2b, 0x1c]
def LRX7_takeWayBack_0 : List UInt8 := LBX7_takeWayBack_0 ++ LRX7_takeWayBack_1
set_option maxRecDepth 100000 in
theorem LBX7_takeWayBack_eq : cX7_takeWayBack.data.toList = LRX7_takeWayBack_0 := by decide +kernel
theorem LBX7_takeWayBackr_0 (k : Nat) : cX7_takeWayBack.data.toList[0 + k]? = LRX7_takeWayBack_0[k]? := by rw [LBX7_takeWayBack_eq, Nat.zero_add]
theorem LBX7_takeWayBackr_1 (k : Nat) : cX7_takeWayBack.data.toList[16 + k]? = LRX7_takeWayBack_1[k]? := by
  have h := LBX7_takeWayBackr_0 (16 + k)
  rw [show 0 + (16 + k) = 16 + k by omega] at h
  rw [h]
  exact (List.getElem?_append_right (l₁ := LBX7_takeWayBack_0) (l₂ := LRX7_takeWayBack_1) (show 16 ≤ 16 + k by omega)).trans (congrArg (fun i => LRX7_takeWayBack_1[i]?) (show 16 + k - 16 = k by omega))
theorem dX7_takeWayBack_0 : decode cX7_takeWayBack 0 = .ok (.aload_n 0, 1) := dk_42_ (show cX7_takeWayBack.data.toList[0]? = some 0x2a from (LBX7_takeWayBackr_0 0).trans (by decide +kernel))
theorem dX7_takeWayBack_1 : decode cX7_takeWayBack 1 = .ok (.bipush (-99), 2) := dk_16_ (show cX7_takeWayBack.data.toList[1]? = some 0x10 from (LBX7_takeWayBackr_0 1).trans (by decide +kernel)) (show cX7_takeWayBack.data.toList[2]? = some 0x9d from (LBX7_takeWayBackr_0 2).trans (by decide +kernel)) (by decide)
theorem dX7_takeWayBack_3 : decode cX7_takeWayBack 3 = .ok (.sipush 999, 3) := dk_17_ (show cX7_takeWayBack.data.toList[3]? = some 0x11 from (LBX7_takeWayBackr_0 3).trans (by decide +kernel)) (show cX7_takeWayBack.data.toList[4]? = some 0x03 from (LBX7_takeWayBackr_0 4).trans (by decide +kernel)) (show cX7_takeWayBack.data.toList[5]? = some 0xe7 from (LBX7_takeWayBackr_0 5).trans (by decide +kernel)) (by decide)
theorem dX7_takeWayBack_6 : decode cX7_takeWayBack 6 = .ok (.invokevirtual 78, 3) := dk_182_ (show cX7_takeWayBack.data.toList[6]? = some 0xb6 from (LBX7_takeWayBackr_0 6).trans (by decide +kernel)) (show cX7_takeWayBack.data.toList[7]? = some 0x00 from (LBX7_takeWayBackr_0 7).trans (by decide +kernel)) (show cX7_takeWayBack.data.toList[8]? = some 0x4e from (LBX7_takeWayBackr_0 8).trans (by decide +kernel)) (by decide)
theorem dX7_takeWayBack_9 : decode cX7_takeWayBack 9 = .ok (.ifCond .ne 5, 3) := dk_154_ (show cX7_takeWayBack.data.toList[9]? = some 0x9a from (LBX7_takeWayBackr_0 9).trans (by decide +kernel)) (show cX7_takeWayBack.data.toList[10]? = some 0x00 from (LBX7_takeWayBackr_0 10).trans (by decide +kernel)) (show cX7_takeWayBack.data.toList[11]? = some 0x05 from (LBX7_takeWayBackr_0 11).trans (by decide +kernel)) (by decide)
theorem dX7_takeWayBack_12 : decode cX7_takeWayBack 12 = .ok (.iconst 0, 1) := dk_3_ (show cX7_takeWayBack.data.toList[12]? = some 0x03 from (LBX7_takeWayBackr_0 12).trans (by decide +kernel))
theorem dX7_takeWayBack_13 : decode cX7_takeWayBack 13 = .ok (.ireturn, 1) := dk_172_ (show cX7_takeWayBack.data.toList[13]? = some 0xac from (LBX7_takeWayBackr_0 13).trans (by decide +kernel))
theorem dX7_takeWayBack_14 : decode cX7_takeWayBack 14 = .ok (.aload_n 1, 1) := dk_43_ (show cX7_takeWayBack.data.toList[14]? = some 0x2b from (LBX7_takeWayBackr_0 14).trans (by decide +kernel))
theorem dX7_takeWayBack_15 : decode cX7_takeWayBack 15 = .ok (.iload_n 2, 1) := dk_28_ (show cX7_takeWayBack.data.toList[15]? = some 0x1c from (LBX7_takeWayBackr_0 15).trans (by decide +kernel))
theorem dX7_takeWayBack_16 : decode cX7_takeWayBack 16 = .ok (.iload_n 3, 1) := dk_29_ (show cX7_takeWayBack.data.toList[16]? = some 0x1d from (LBX7_takeWayBackr_1 0).trans (by decide +kernel))
theorem dX7_takeWayBack_17 : decode cX7_takeWayBack 17 = .ok (.aload_n 0, 1) := dk_42_ (show cX7_takeWayBack.data.toList[17]? = some 0x2a from (LBX7_takeWayBackr_1 1).trans (by decide +kernel))
theorem dX7_takeWayBack_18 : decode cX7_takeWayBack 18 = .ok (.getfield 31, 3) := dk_180_ (show cX7_takeWayBack.data.toList[18]? = some 0xb4 from (LBX7_takeWayBackr_1 2).trans (by decide +kernel)) (show cX7_takeWayBack.data.toList[19]? = some 0x00 from (LBX7_takeWayBackr_1 3).trans (by decide +kernel)) (show cX7_takeWayBack.data.toList[20]? = some 0x1f from (LBX7_takeWayBackr_1 4).trans (by decide +kernel)) (by decide)
theorem dX7_takeWayBack_21 : decode cX7_takeWayBack 21 = .ok (.aload_n 0, 1) := dk_42_ (show cX7_takeWayBack.data.toList[21]? = some 0x2a from (LBX7_takeWayBackr_1 5).trans (by decide +kernel))
theorem dX7_takeWayBack_22 : decode cX7_takeWayBack 22 = .ok (.getfield 31, 3) := dk_180_ (show cX7_takeWayBack.data.toList[22]? = some 0xb4 from (LBX7_takeWayBackr_1 6).trans (by decide +kernel)) (show cX7_takeWayBack.data.toList[23]? = some 0x00 from (LBX7_takeWayBackr_1 7).trans (by decide +kernel)) (show cX7_takeWayBack.data.toList[24]? = some 0x1f from (LBX7_takeWayBackr_1 8).trans (by decide +kernel)) (by decide)
theorem dX7_takeWayBack_25 : decode cX7_takeWayBack 25 = .ok (.invokevirtual 84, 3) := dk_182_ (show cX7_takeWayBack.data.toList[25]? = some 0xb6 from (LBX7_takeWayBackr_1 9).trans (by decide +kernel)) (show cX7_takeWayBack.data.toList[26]? = some 0x00 from (LBX7_takeWayBackr_1 10).trans (by decide +kernel)) (show cX7_takeWayBack.data.toList[27]? = some 0x54 from (LBX7_takeWayBackr_1 11).trans (by decide +kernel)) (by decide)
theorem dX7_takeWayBack_28 : decode cX7_takeWayBack 28 = .ok (.iconst 1, 1) := dk_4_ (show cX7_takeWayBack.data.toList[28]? = some 0x04 from (LBX7_takeWayBackr_1 12).trans (by decide +kernel))
theorem dX7_takeWayBack_29 : decode cX7_takeWayBack 29 = .ok (.ireturn, 1) := dk_172_ (show cX7_takeWayBack.data.toList[29]? = some 0xac from (LBX7_takeWayBackr_1 13).trans (by decide +kernel))
def LRX7_takeWay_10 : List UInt8 := []
def LBX7_takeWay_9 : List UInt8 := [0x99, 0x00, 0x07, 0x04, 0xa7, 0x00, 0x04, 0x03, 0xac]
def LRX7_takeWay_9 : List UInt8 := LBX7_takeWay_9 ++ LRX7_takeWay_10
def LBX7_takeWay_8 : List UInt8 := [0x12, 0x58, 0xb6, 0x00, 0x43, 0x99, 0x00, 0x0e, 0x2a, 0x2b, 0x15, 0x04, 0x1c, 0xb6, 0x00, 0x5a]
def LRX7_takeWay_8 : List UInt8 := LBX7_takeWay_8 ++ LRX7_takeWay_9
def LBX7_takeWay_7 : List UInt8 := [0x03, 0xac, 0x2b, 0x1c, 0x15, 0x04, 0x15, 0x05, 0x2a, 0xb4, 0x00, 0x1f, 0xb6, 0x00, 0x54, 0x2a]
def LRX7_takeWay_7 : List UInt8 := LBX7_takeWay_7 ++ LRX7_takeWay_8
def LBX7_takeWay_6 : List UInt8 := [0x43, 0x99, 0x00, 0x11, 0x2a, 0x15, 0x05, 0x11, 0x03, 0xe7, 0xb6, 0x00, 0x4e, 0x9a, 0x00, 0x05]
def LRX7_takeWay_6 : List UInt8 := LBX7_takeWay_6 ++ LRX7_takeWay_7
def LBX7_takeWay_5 : List UInt8 := [0x9a, 0x00, 0x05, 0x03, 0xac, 0x2a, 0xb4, 0x00, 0x1f, 0x36, 0x05, 0x2a, 0x12, 0x52, 0xb6, 0x00]
def LRX7_takeWay_5 : List UInt8 := LBX7_takeWay_5 ++ LRX7_takeWay_6
def LBX7_takeWay_4 : List UInt8 := [0xac, 0x2a, 0xb4, 0x00, 0x1f, 0x36, 0x04, 0x2a, 0x10, 0x9d, 0x11, 0x03, 0xe7, 0xb6, 0x00, 0x4e]
def LRX7_takeWay_4 : List UInt8 := LBX7_takeWay_4 ++ LRX7_takeWay_5
def LBX7_takeWay_3 : List UInt8 := [0x00, 0x10, 0x2a, 0x2b, 0xb4, 0x00, 0x3c, 0x04, 0x64, 0xb6, 0x00, 0x46, 0x9a, 0x00, 0x05, 0x03]
def LRX7_takeWay_3 : List UInt8 := LBX7_takeWay_3 ++ LRX7_takeWay_4
def LBX7_takeWay_2 : List UInt8 := [0x2a, 0xb4, 0x00, 0x1c, 0x1c, 0xa0, 0x00, 0x07, 0x04, 0xa7, 0x00, 0x04, 0x03, 0x3e, 0x1d, 0x9a]
def LRX7_takeWay_2 : List UInt8 := LBX7_takeWay_2 ++ LRX7_takeWay_3
def LBX7_takeWay_1 : List UInt8 := [0x05, 0x03, 0xac, 0x2a, 0xb4, 0x00, 0x1f, 0x3d, 0x2a, 0xb4, 0x00, 0x13, 0x05, 0xa0, 0x00, 0x0f]
def LRX7_takeWay_1 : List UInt8 := LBX7_takeWay_1 ++ LRX7_takeWay_2
def LBX7_takeWay_0 : List UInt8 := [0x2a, 0xb6, 0x00, 0x22, 0x2a, 0x2b, 0xb4, 0x00, 0x3c, 0x04, 0x64, 0xb6, 0x00, 0x46, 0x9a, 0x00]
def LRX7_takeWay_0 : List UInt8 := LBX7_takeWay_0 ++ LRX7_takeWay_1
set_option maxRecDepth 100000 in
theorem LBX7_takeWay_eq : cX7_takeWay.data.toList = LRX7_takeWay_0 := by decide +kernel
theorem LBX7_takeWayr_0 (k : Nat) : cX7_takeWay.data.toList[0 + k]? = LRX7_takeWay_0[k]? := by rw [LBX7_takeWay_eq, Nat.zero_add]
theorem LBX7_takeWayr_1 (k : Nat) : cX7_takeWay.data.toList[16 + k]? = LRX7_takeWay_1[k]? := by
  have h := LBX7_takeWayr_0 (16 + k)
  rw [show 0 + (16 + k) = 16 + k by omega] at h
  rw [h]
  exact (List.getElem?_append_right (l₁ := LBX7_takeWay_0) (l₂ := LRX7_takeWay_1) (show 16 ≤ 16 + k by omega)).trans (congrArg (fun i => LRX7_takeWay_1[i]?) (show 16 + k - 16 = k by omega))
theorem LBX7_takeWayr_2 (k : Nat) : cX7_takeWay.data.toList[32 + k]? = LRX7_takeWay_2[k]? := by
  have h := LBX7_takeWayr_1 (16 + k)
  rw [show 16 + (16 + k) = 32 + k by omega] at h
  rw [h]
  exact (List.getElem?_append_right (l₁ := LBX7_takeWay_1) (l₂ := LRX7_takeWay_2) (show 16 ≤ 16 + k by omega)).trans (congrArg (fun i => LRX7_takeWay_2[i]?) (show 16 + k - 16 = k by omega))
theorem LBX7_takeWayr_3 (k : Nat) : cX7_takeWay.data.toList[48 + k]? = LRX7_takeWay_3[k]? := by
  have h := LBX7_takeWayr_2 (16 + k)
  rw [show 32 + (16 + k) = 48 + k by omega] at h
  rw [h]
  exact (List.getElem?_append_right (l₁ := LBX7_takeWay_2) (l₂ := LRX7_takeWay_3) (show 16 ≤ 16 + k by omega)).trans (congrArg (fun i => LRX7_takeWay_3[i]?) (show 16 + k - 16 = k by omega))
theorem LBX7_takeWayr_4 (k : Nat) : cX7_takeWay.data.toList[64 + k]? = LRX7_takeWay_4[k]? := by
  have h := LBX7_takeWayr_3 (16 + k)
  rw [show 48 + (16 + k) = 64 + k by omega] at h
  rw [h]
  exact (List.getElem?_append_right (l₁ := LBX7_takeWay_3) (l₂ := LRX7_takeWay_4) (show 16 ≤ 16 + k by omega)).trans (congrArg (fun i => LRX7_takeWay_4[i]?) (show 16 + k - 16 = k by omega))
theorem LBX7_takeWayr_5 (k : Nat) : cX7_takeWay.data.toList[80 + k]? = LRX7_takeWay_5[k]? := by
  have h := LBX7_takeWayr_4 (16 + k)
  rw [show 64 + (16 + k) = 80 + k by omega] at h
  rw [h]
  exact (List.getElem?_append_right (l₁ := LBX7_takeWay_4) (l₂ := LRX7_takeWay_5) (show 16 ≤ 16 + k by omega)).trans (congrArg (fun i => LRX7_takeWay_5[i]?) (show 16 + k - 16 = k by omega))
theorem LBX7_takeWayr_6 (k : Nat) : cX7_takeWay.data.toList[96 + k]? = LRX7_takeWay_6[k]? := by
  have h := LBX7_takeWayr_5 (16 + k)
  rw [show 80 + (16 + k) = 96 + k by omega] at h
  rw [h]
  exact (List.getElem?_append_right (l₁ := LBX7_takeWay_5) (l₂ := LRX7_takeWay_6) (show 16 ≤ 16 + k by omega)).trans (congrArg (fun i => LRX7_takeWay_6[i]?) (show 16 + k - 16 = k by omega))
theorem LBX7_takeWayr_7 (k : Nat) : cX7_takeWay.data.toList[112 + k]? = LRX7_takeWay_7[k]? := by
  have h := LBX7_takeWayr_6 (16 + k)
  rw [show 96 + (16 + k) = 112 + k by omega] at h
  rw [h]
  exact (List.getElem?_append_right (l₁ := LBX7_takeWay_6) (l₂ := LRX7_takeWay_7) (show 16 ≤ 16 + k by omega)).trans (congrArg (fun i => LRX7_takeWay_7[i]?) (show 16 + k - 16 = k by omega))
theorem LBX7_takeWayr_8 (k : Nat) : cX7_takeWay.data.toList[128 + k]? = LRX7_takeWay_8[k]? := by
  have h := LBX7_takeWayr_7 (16 + k)
  rw [show 112 + (16 + k) = 128 + k by omega] at h
  rw [h]
  exact (List.getElem?_append_right (l₁ := LBX7_takeWay_7) (l₂ := LRX7_takeWay_8) (show 16 ≤ 16 + k by omega)).trans (congrArg (fun i => LRX7_takeWay_8[i]?) (show 16 + k - 16 = k by omega))
theorem LBX7_takeWayr_9 (k : Nat) : cX7_takeWay.data.toList[144 + k]? = LRX7_takeWay_9[k]? := by
  have h := LBX7_takeWayr_8 (16 + k)
  rw [show 128 + (16 + k) = 144 + k by omega] at h
  rw [h]
  exact (List.getElem?_append_right (l₁ := LBX7_takeWay_8) (l₂ := LRX7_takeWay_9) (show 16 ≤ 16 + k by omega)).trans (congrArg (fun i => LRX7_takeWay_9[i]?) (show 16 + k - 16 = k by omega))
theorem dX7_takeWay_0 : decode cX7_takeWay 0 = .ok (.aload_n 0, 1) := dk_42_ (show cX7_takeWay.data.toList[0]? = some 0x2a from (LBX7_takeWayr_0 0).trans (by decide +kernel))
theorem dX7_takeWay_1 : decode cX7_takeWay 1 = .ok (.invokevirtual 34, 3) := dk_182_ (show cX7_takeWay.data.toList[1]? = some 0xb6 from (LBX7_takeWayr_0 1).trans (by decide +kernel)) (show cX7_takeWay.data.toList[2]? = some 0x00 from (LBX7_takeWayr_0 2).trans (by decide +kernel)) (show cX7_takeWay.data.toList[3]? = some 0x22 from (LBX7_takeWayr_0 3).trans (by decide +kernel)) (by decide)
theorem dX7_takeWay_4 : decode cX7_takeWay 4 = .ok (.aload_n 0, 1) := dk_42_ (show cX7_takeWay.data.toList[4]? = some 0x2a from (LBX7_takeWayr_0 4).trans (by decide +kernel))
theorem dX7_takeWay_5 : decode cX7_takeWay 5 = .ok (.aload_n 1, 1) := dk_43_ (show cX7_takeWay.data.toList[5]? = some 0x2b from (LBX7_takeWayr_0 5).trans (by decide +kernel))
theorem dX7_takeWay_6 : decode cX7_takeWay 6 = .ok (.getfield 60, 3) := dk_180_ (show cX7_takeWay.data.toList[6]? = some 0xb4 from (LBX7_takeWayr_0 6).trans (by decide +kernel)) (show cX7_takeWay.data.toList[7]? = some 0x00 from (LBX7_takeWayr_0 7).trans (by decide +kernel)) (show cX7_takeWay.data.toList[8]? = some 0x3c from (LBX7_takeWayr_0 8).trans (by decide +kernel)) (by decide)
theorem dX7_takeWay_9 : decode cX7_takeWay 9 = .ok (.iconst 1, 1) := dk_4_ (show cX7_takeWay.data.toList[9]? = some 0x04 from (LBX7_takeWayr_0 9).trans (by decide +kernel))
theorem dX7_takeWay_10 : decode cX7_takeWay 10 = .ok (.isub, 1) := dk_100_ (show cX7_takeWay.data.toList[10]? = some 0x64 from (LBX7_takeWayr_0 10).trans (by decide +kernel))
theorem dX7_takeWay_11 : decode cX7_takeWay 11 = .ok (.invokevirtual 70, 3) := dk_182_ (show cX7_takeWay.data.toList[11]? = some 0xb6 from (LBX7_takeWayr_0 11).trans (by decide +kernel)) (show cX7_takeWay.data.toList[12]? = some 0x00 from (LBX7_takeWayr_0 12).trans (by decide +kernel)) (show cX7_takeWay.data.toList[13]? = some 0x46 from (LBX7_takeWayr_0 13).trans (by decide +kernel)) (by decide)
theorem dX7_takeWay_14 : decode cX7_takeWay 14 = .ok (.ifCond .ne 5, 3) := dk_154_ (show cX7_takeWay.data.toList[14]? = some 0x9a from (LBX7_takeWayr_0 14).trans (by decide +kernel)) (show cX7_takeWay.data.toList[15]? = some 0x00 from (LBX7_takeWayr_0 15).trans (by decide +kernel)) (show cX7_takeWay.data.toList[16]? = some 0x05 from (LBX7_takeWayr_1 0).trans (by decide +kernel)) (by decide)
theorem dX7_takeWay_17 : decode cX7_takeWay 17 = .ok (.iconst 0, 1) := dk_3_ (show cX7_takeWay.data.toList[17]? = some 0x03 from (LBX7_takeWayr_1 1).trans (by decide +kernel))
theorem dX7_takeWay_18 : decode cX7_takeWay 18 = .ok (.ireturn, 1) := dk_172_ (show cX7_takeWay.data.toList[18]? = some 0xac from (LBX7_takeWayr_1 2).trans (by decide +kernel))
theorem dX7_takeWay_19 : decode cX7_takeWay 19 = .ok (.aload_n 0, 1) := dk_42_ (show cX7_takeWay.data.toList[19]? = some 0x2a from (LBX7_takeWayr_1 3).trans (by decide +kernel))
theorem dX7_takeWay_20 : decode cX7_takeWay 20 = .ok (.getfield 31, 3) := dk_180_ (show cX7_takeWay.data.toList[20]? = some 0xb4 from (LBX7_takeWayr_1 4).trans (by decide +kernel)) (show cX7_takeWay.data.toList[21]? = some 0x00 from (LBX7_takeWayr_1 5).trans (by decide +kernel)) (show cX7_takeWay.data.toList[22]? = some 0x1f from (LBX7_takeWayr_1 6).trans (by decide +kernel)) (by decide)
theorem dX7_takeWay_23 : decode cX7_takeWay 23 = .ok (.istore_n 2, 1) := dk_61_ (show cX7_takeWay.data.toList[23]? = some 0x3d from (LBX7_takeWayr_1 7).trans (by decide +kernel))
theorem dX7_takeWay_24 : decode cX7_takeWay 24 = .ok (.aload_n 0, 1) := dk_42_ (show cX7_takeWay.data.toList[24]? = some 0x2a from (LBX7_takeWayr_1 8).trans (by decide +kernel))
theorem dX7_takeWay_25 : decode cX7_takeWay 25 = .ok (.getfield 19, 3) := dk_180_ (show cX7_takeWay.data.toList[25]? = some 0xb4 from (LBX7_takeWayr_1 9).trans (by decide +kernel)) (show cX7_takeWay.data.toList[26]? = some 0x00 from (LBX7_takeWayr_1 10).trans (by decide +kernel)) (show cX7_takeWay.data.toList[27]? = some 0x13 from (LBX7_takeWayr_1 11).trans (by decide +kernel)) (by decide)
theorem dX7_takeWay_28 : decode cX7_takeWay 28 = .ok (.iconst 2, 1) := dk_5_ (show cX7_takeWay.data.toList[28]? = some 0x05 from (LBX7_takeWayr_1 12).trans (by decide +kernel))
theorem dX7_takeWay_29 : decode cX7_takeWay 29 = .ok (.if_icmp .ne 15, 3) := dk_160_ (show cX7_takeWay.data.toList[29]? = some 0xa0 from (LBX7_takeWayr_1 13).trans (by decide +kernel)) (show cX7_takeWay.data.toList[30]? = some 0x00 from (LBX7_takeWayr_1 14).trans (by decide +kernel)) (show cX7_takeWay.data.toList[31]? = some 0x0f from (LBX7_takeWayr_1 15).trans (by decide +kernel)) (by decide)
theorem dX7_takeWay_32 : decode cX7_takeWay 32 = .ok (.aload_n 0, 1) := dk_42_ (show cX7_takeWay.data.toList[32]? = some 0x2a from (LBX7_takeWayr_2 0).trans (by decide +kernel))
theorem dX7_takeWay_33 : decode cX7_takeWay 33 = .ok (.getfield 28, 3) := dk_180_ (show cX7_takeWay.data.toList[33]? = some 0xb4 from (LBX7_takeWayr_2 1).trans (by decide +kernel)) (show cX7_takeWay.data.toList[34]? = some 0x00 from (LBX7_takeWayr_2 2).trans (by decide +kernel)) (show cX7_takeWay.data.toList[35]? = some 0x1c from (LBX7_takeWayr_2 3).trans (by decide +kernel)) (by decide)
theorem dX7_takeWay_36 : decode cX7_takeWay 36 = .ok (.iload_n 2, 1) := dk_28_ (show cX7_takeWay.data.toList[36]? = some 0x1c from (LBX7_takeWayr_2 4).trans (by decide +kernel))
theorem dX7_takeWay_37 : decode cX7_takeWay 37 = .ok (.if_icmp .ne 7, 3) := dk_160_ (show cX7_takeWay.data.toList[37]? = some 0xa0 from (LBX7_takeWayr_2 5).trans (by decide +kernel)) (show cX7_takeWay.data.toList[38]? = some 0x00 from (LBX7_takeWayr_2 6).trans (by decide +kernel)) (show cX7_takeWay.data.toList[39]? = some 0x07 from (LBX7_takeWayr_2 7).trans (by decide +kernel)) (by decide)
theorem dX7_takeWay_40 : decode cX7_takeWay 40 = .ok (.iconst 1, 1) := dk_4_ (show cX7_takeWay.data.toList[40]? = some 0x04 from (LBX7_takeWayr_2 8).trans (by decide +kernel))
theorem dX7_takeWay_41 : decode cX7_takeWay 41 = .ok (.goto 4, 3) := dk_167_ (show cX7_takeWay.data.toList[41]? = some 0xa7 from (LBX7_takeWayr_2 9).trans (by decide +kernel)) (show cX7_takeWay.data.toList[42]? = some 0x00 from (LBX7_takeWayr_2 10).trans (by decide +kernel)) (show cX7_takeWay.data.toList[43]? = some 0x04 from (LBX7_takeWayr_2 11).trans (by decide +kernel)) (by decide)
theorem dX7_takeWay_44 : decode cX7_takeWay 44 = .ok (.iconst 0, 1) := dk_3_ (show cX7_takeWay.data.toList[44]? = some 0x03 from (LBX7_takeWayr_2 12).trans (by decide +kernel))
theorem dX7_takeWay_45 : decode cX7_takeWay 45 = .ok (.istore_n 3, 1) := dk_62_ (show cX7_takeWay.data.toList[45]? = some 0x3e from (LBX7_takeWayr_2 13).trans (by decide +kernel))
theorem dX7_takeWay_46 : decode cX7_takeWay 46 = .ok (.iload_n 3, 1) := dk_29_ (show cX7_takeWay.data.toList[46]? = some 0x1d from (LBX7_takeWayr_2 14).trans (by decide +kernel))
theorem dX7_takeWay_47 : decode cX7_takeWay 47 = .ok (.ifCond .ne 16, 3) := dk_154_ (show cX7_takeWay.data.toList[47]? = some 0x9a from (LBX7_takeWayr_2 15).trans (by decide +kernel)) (show cX7_takeWay.data.toList[48]? = some 0x00 from (LBX7_takeWayr_3 0).trans (by decide +kernel)) (show cX7_takeWay.data.toList[49]? = some 0x10 from (LBX7_takeWayr_3 1).trans (by decide +kernel)) (by decide)
theorem dX7_takeWay_50 : decode cX7_takeWay 50 = .ok (.aload_n 0, 1) := dk_42_ (show cX7_takeWay.data.toList[50]? = some 0x2a from (LBX7_takeWayr_3 2).trans (by decide +kernel))
theorem dX7_takeWay_51 : decode cX7_takeWay 51 = .ok (.aload_n 1, 1) := dk_43_ (show cX7_takeWay.data.toList[51]? = some 0x2b from (LBX7_takeWayr_3 3).trans (by decide +kernel))
theorem dX7_takeWay_52 : decode cX7_takeWay 52 = .ok (.getfield 60, 3) := dk_180_ (show cX7_takeWay.data.toList[52]? = some 0xb4 from (LBX7_takeWayr_3 4).trans (by decide +kernel)) (show cX7_takeWay.data.toList[53]? = some 0x00 from (LBX7_takeWayr_3 5).trans (by decide +kernel)) (show cX7_takeWay.data.toList[54]? = some 0x3c from (LBX7_takeWayr_3 6).trans (by decide +kernel)) (by decide)
theorem dX7_takeWay_55 : decode cX7_takeWay 55 = .ok (.iconst 1, 1) := dk_4_ (show cX7_takeWay.data.toList[55]? = some 0x04 from (LBX7_takeWayr_3 7).trans (by decide +kernel))
theorem dX7_takeWay_56 : decode cX7_takeWay 56 = .ok (.isub, 1) := dk_100_ (show cX7_takeWay.data.toList[56]? = some 0x64 from (LBX7_takeWayr_3 8).trans (by decide +kernel))
theorem dX7_takeWay_57 : decode cX7_takeWay 57 = .ok (.invokevirtual 70, 3) := dk_182_ (show cX7_takeWay.data.toList[57]? = some 0xb6 from (LBX7_takeWayr_3 9).trans (by decide +kernel)) (show cX7_takeWay.data.toList[58]? = some 0x00 from (LBX7_takeWayr_3 10).trans (by decide +kernel)) (show cX7_takeWay.data.toList[59]? = some 0x46 from (LBX7_takeWayr_3 11).trans (by decide +kernel)) (by decide)
theorem dX7_takeWay_60 : decode cX7_takeWay 60 = .ok (.ifCond .ne 5, 3) := dk_154_ (show cX7_takeWay.data.toList[60]? = some 0x9a from (LBX7_takeWayr_3 12).trans (by decide +kernel)) (show cX7_takeWay.data.toList[61]? = some 0x00 from (LBX7_takeWayr_3 13).trans (by decide +kernel)) (show cX7_takeWay.data.toList[62]? = some 0x05 from (LBX7_takeWayr_3 14).trans (by decide +kernel)) (by decide)
theorem dX7_takeWay_63 : decode cX7_takeWay 63 = .ok (.iconst 0, 1) := dk_3_ (show cX7_takeWay.data.toList[63]? = some 0x03 from (LBX7_takeWayr_3 15).trans (by decide +kernel))
theorem dX7_takeWay_64 : decode cX7_takeWay 64 = .ok (.ireturn, 1) := dk_172_ (show cX7_takeWay.data.toList[64]? = some 0xac from (LBX7_takeWayr_4 0).trans (by decide +kernel))
theorem dX7_takeWay_65 : decode cX7_takeWay 65 = .ok (.aload_n 0, 1) := dk_42_ (show cX7_takeWay.data.toList[65]? = some 0x2a from (LBX7_takeWayr_4 1).trans (by decide +kernel))
theorem dX7_takeWay_66 : decode cX7_takeWay 66 = .ok (.getfield 31, 3) := dk_180_ (show cX7_takeWay.data.toList[66]? = some 0xb4 from (LBX7_takeWayr_4 2).trans (by decide +kernel)) (show cX7_takeWay.data.toList[67]? = some 0x00 from (LBX7_takeWayr_4 3).trans (by decide +kernel)) (show cX7_takeWay.data.toList[68]? = some 0x1f from (LBX7_takeWayr_4 4).trans (by decide +kernel)) (by decide)
theorem dX7_takeWay_69 : decode cX7_takeWay 69 = .ok (.istore 4, 2) := dk_54_ (show cX7_takeWay.data.toList[69]? = some 0x36 from (LBX7_takeWayr_4 5).trans (by decide +kernel)) (show cX7_takeWay.data.toList[70]? = some 0x04 from (LBX7_takeWayr_4 6).trans (by decide +kernel)) (by decide)
theorem dX7_takeWay_71 : decode cX7_takeWay 71 = .ok (.aload_n 0, 1) := dk_42_ (show cX7_takeWay.data.toList[71]? = some 0x2a from (LBX7_takeWayr_4 7).trans (by decide +kernel))
theorem dX7_takeWay_72 : decode cX7_takeWay 72 = .ok (.bipush (-99), 2) := dk_16_ (show cX7_takeWay.data.toList[72]? = some 0x10 from (LBX7_takeWayr_4 8).trans (by decide +kernel)) (show cX7_takeWay.data.toList[73]? = some 0x9d from (LBX7_takeWayr_4 9).trans (by decide +kernel)) (by decide)
theorem dX7_takeWay_74 : decode cX7_takeWay 74 = .ok (.sipush 999, 3) := dk_17_ (show cX7_takeWay.data.toList[74]? = some 0x11 from (LBX7_takeWayr_4 10).trans (by decide +kernel)) (show cX7_takeWay.data.toList[75]? = some 0x03 from (LBX7_takeWayr_4 11).trans (by decide +kernel)) (show cX7_takeWay.data.toList[76]? = some 0xe7 from (LBX7_takeWayr_4 12).trans (by decide +kernel)) (by decide)
theorem dX7_takeWay_77 : decode cX7_takeWay 77 = .ok (.invokevirtual 78, 3) := dk_182_ (show cX7_takeWay.data.toList[77]? = some 0xb6 from (LBX7_takeWayr_4 13).trans (by decide +kernel)) (show cX7_takeWay.data.toList[78]? = some 0x00 from (LBX7_takeWayr_4 14).trans (by decide +kernel)) (show cX7_takeWay.data.toList[79]? = some 0x4e from (LBX7_takeWayr_4 15).trans (by decide +kernel)) (by decide)
theorem dX7_takeWay_80 : decode cX7_takeWay 80 = .ok (.ifCond .ne 5, 3) := dk_154_ (show cX7_takeWay.data.toList[80]? = some 0x9a from (LBX7_takeWayr_5 0).trans (by decide +kernel)) (show cX7_takeWay.data.toList[81]? = some 0x00 from (LBX7_takeWayr_5 1).trans (by decide +kernel)) (show cX7_takeWay.data.toList[82]? = some 0x05 from (LBX7_takeWayr_5 2).trans (by decide +kernel)) (by decide)
theorem dX7_takeWay_83 : decode cX7_takeWay 83 = .ok (.iconst 0, 1) := dk_3_ (show cX7_takeWay.data.toList[83]? = some 0x03 from (LBX7_takeWayr_5 3).trans (by decide +kernel))
theorem dX7_takeWay_84 : decode cX7_takeWay 84 = .ok (.ireturn, 1) := dk_172_ (show cX7_takeWay.data.toList[84]? = some 0xac from (LBX7_takeWayr_5 4).trans (by decide +kernel))
theorem dX7_takeWay_85 : decode cX7_takeWay 85 = .ok (.aload_n 0, 1) := dk_42_ (show cX7_takeWay.data.toList[85]? = some 0x2a from (LBX7_takeWayr_5 5).trans (by decide +kernel))
theorem dX7_takeWay_86 : decode cX7_takeWay 86 = .ok (.getfield 31, 3) := dk_180_ (show cX7_takeWay.data.toList[86]? = some 0xb4 from (LBX7_takeWayr_5 6).trans (by decide +kernel)) (show cX7_takeWay.data.toList[87]? = some 0x00 from (LBX7_takeWayr_5 7).trans (by decide +kernel)) (show cX7_takeWay.data.toList[88]? = some 0x1f from (LBX7_takeWayr_5 8).trans (by decide +kernel)) (by decide)
theorem dX7_takeWay_89 : decode cX7_takeWay 89 = .ok (.istore 5, 2) := dk_54_ (show cX7_takeWay.data.toList[89]? = some 0x36 from (LBX7_takeWayr_5 9).trans (by decide +kernel)) (show cX7_takeWay.data.toList[90]? = some 0x05 from (LBX7_takeWayr_5 10).trans (by decide +kernel)) (by decide)
theorem dX7_takeWay_91 : decode cX7_takeWay 91 = .ok (.aload_n 0, 1) := dk_42_ (show cX7_takeWay.data.toList[91]? = some 0x2a from (LBX7_takeWayr_5 11).trans (by decide +kernel))
theorem dX7_takeWay_92 : decode cX7_takeWay 92 = .ok (.ldc 82, 2) := dk_18_ (show cX7_takeWay.data.toList[92]? = some 0x12 from (LBX7_takeWayr_5 12).trans (by decide +kernel)) (show cX7_takeWay.data.toList[93]? = some 0x52 from (LBX7_takeWayr_5 13).trans (by decide +kernel)) (by decide)
theorem dX7_takeWay_94 : decode cX7_takeWay 94 = .ok (.invokevirtual 67, 3) := dk_182_ (show cX7_takeWay.data.toList[94]? = some 0xb6 from (LBX7_takeWayr_5 14).trans (by decide +kernel)) (show cX7_takeWay.data.toList[95]? = some 0x00 from (LBX7_takeWayr_5 15).trans (by decide +kernel)) (show cX7_takeWay.data.toList[96]? = some 0x43 from (LBX7_takeWayr_6 0).trans (by decide +kernel)) (by decide)
theorem dX7_takeWay_97 : decode cX7_takeWay 97 = .ok (.ifCond .eq 17, 3) := dk_153_ (show cX7_takeWay.data.toList[97]? = some 0x99 from (LBX7_takeWayr_6 1).trans (by decide +kernel)) (show cX7_takeWay.data.toList[98]? = some 0x00 from (LBX7_takeWayr_6 2).trans (by decide +kernel)) (show cX7_takeWay.data.toList[99]? = some 0x11 from (LBX7_takeWayr_6 3).trans (by decide +kernel)) (by decide)
theorem dX7_takeWay_100 : decode cX7_takeWay 100 = .ok (.aload_n 0, 1) := dk_42_ (show cX7_takeWay.data.toList[100]? = some 0x2a from (LBX7_takeWayr_6 4).trans (by decide +kernel))
theorem dX7_takeWay_101 : decode cX7_takeWay 101 = .ok (.iload 5, 2) := dk_21_ (show cX7_takeWay.data.toList[101]? = some 0x15 from (LBX7_takeWayr_6 5).trans (by decide +kernel)) (show cX7_takeWay.data.toList[102]? = some 0x05 from (LBX7_takeWayr_6 6).trans (by decide +kernel)) (by decide)
theorem dX7_takeWay_103 : decode cX7_takeWay 103 = .ok (.sipush 999, 3) := dk_17_ (show cX7_takeWay.data.toList[103]? = some 0x11 from (LBX7_takeWayr_6 7).trans (by decide +kernel)) (show cX7_takeWay.data.toList[104]? = some 0x03 from (LBX7_takeWayr_6 8).trans (by decide +kernel)) (show cX7_takeWay.data.toList[105]? = some 0xe7 from (LBX7_takeWayr_6 9).trans (by decide +kernel)) (by decide)
theorem dX7_takeWay_106 : decode cX7_takeWay 106 = .ok (.invokevirtual 78, 3) := dk_182_ (show cX7_takeWay.data.toList[106]? = some 0xb6 from (LBX7_takeWayr_6 10).trans (by decide +kernel)) (show cX7_takeWay.data.toList[107]? = some 0x00 from (LBX7_takeWayr_6 11).trans (by decide +kernel)) (show cX7_takeWay.data.toList[108]? = some 0x4e from (LBX7_takeWayr_6 12).trans (by decide +kernel)) (by decide)
theorem dX7_takeWay_109 : decode cX7_takeWay 109 = .ok (.ifCond .ne 5, 3) := dk_154_ (show cX7_takeWay.data.toList[109]? = some 0x9a from (LBX7_takeWayr_6 13).trans (by decide +kernel)) (show cX7_takeWay.data.toList[110]? = some 0x00 from (LBX7_takeWayr_6 14).trans (by decide +kernel)) (show cX7_takeWay.data.toList[111]? = some 0x05 from (LBX7_takeWayr_6 15).trans (by decide +kernel)) (by decide)
theorem dX7_takeWay_112 : decode cX7_takeWay 112 = .ok (.iconst 0, 1) := dk_3_ (show cX7_takeWay.data.toList[112]? = some 0x03 from (LBX7_takeWayr_7 0).trans (by decide +kernel))
theorem dX7_takeWay_113 : decode cX7_takeWay 113 = .ok (.ireturn, 1) := dk_172_ (show cX7_takeWay.data.toList[113]? = some 0xac from (LBX7_takeWayr_7 1).trans (by decide +kernel))
theorem dX7_takeWay_114 : decode cX7_takeWay 114 = .ok (.aload_n 1, 1) := dk_43_ (show cX7_takeWay.data.toList[114]? = some 0x2b from (LBX7_takeWayr_7 2).trans (by decide +kernel))
theorem dX7_takeWay_115 : decode cX7_takeWay 115 = .ok (.iload_n 2, 1) := dk_28_ (show cX7_takeWay.data.toList[115]? = some 0x1c from (LBX7_takeWayr_7 3).trans (by decide +kernel))
theorem dX7_takeWay_116 : decode cX7_takeWay 116 = .ok (.iload 4, 2) := dk_21_ (show cX7_takeWay.data.toList[116]? = some 0x15 from (LBX7_takeWayr_7 4).trans (by decide +kernel)) (show cX7_takeWay.data.toList[117]? = some 0x04 from (LBX7_takeWayr_7 5).trans (by decide +kernel)) (by decide)
theorem dX7_takeWay_118 : decode cX7_takeWay 118 = .ok (.iload 5, 2) := dk_21_ (show cX7_takeWay.data.toList[118]? = some 0x15 from (LBX7_takeWayr_7 6).trans (by decide +kernel)) (show cX7_takeWay.data.toList[119]? = some 0x05 from (LBX7_takeWayr_7 7).trans (by decide +kernel)) (by decide)
theorem dX7_takeWay_120 : decode cX7_takeWay 120 = .ok (.aload_n 0, 1) := dk_42_ (show cX7_takeWay.data.toList[120]? = some 0x2a from (LBX7_takeWayr_7 8).trans (by decide +kernel))
theorem dX7_takeWay_121 : decode cX7_takeWay 121 = .ok (.getfield 31, 3) := dk_180_ (show cX7_takeWay.data.toList[121]? = some 0xb4 from (LBX7_takeWayr_7 9).trans (by decide +kernel)) (show cX7_takeWay.data.toList[122]? = some 0x00 from (LBX7_takeWayr_7 10).trans (by decide +kernel)) (show cX7_takeWay.data.toList[123]? = some 0x1f from (LBX7_takeWayr_7 11).trans (by decide +kernel)) (by decide)
theorem dX7_takeWay_124 : decode cX7_takeWay 124 = .ok (.invokevirtual 84, 3) := dk_182_ (show cX7_takeWay.data.toList[124]? = some 0xb6 from (LBX7_takeWayr_7 12).trans (by decide +kernel)) (show cX7_takeWay.data.toList[125]? = some 0x00 from (LBX7_takeWayr_7 13).trans (by decide +kernel)) (show cX7_takeWay.data.toList[126]? = some 0x54 from (LBX7_takeWayr_7 14).trans (by decide +kernel)) (by decide)
theorem dX7_takeWay_127 : decode cX7_takeWay 127 = .ok (.aload_n 0, 1) := dk_42_ (show cX7_takeWay.data.toList[127]? = some 0x2a from (LBX7_takeWayr_7 15).trans (by decide +kernel))
theorem dX7_takeWay_128 : decode cX7_takeWay 128 = .ok (.ldc 88, 2) := dk_18_ (show cX7_takeWay.data.toList[128]? = some 0x12 from (LBX7_takeWayr_8 0).trans (by decide +kernel)) (show cX7_takeWay.data.toList[129]? = some 0x58 from (LBX7_takeWayr_8 1).trans (by decide +kernel)) (by decide)
theorem dX7_takeWay_130 : decode cX7_takeWay 130 = .ok (.invokevirtual 67, 3) := dk_182_ (show cX7_takeWay.data.toList[130]? = some 0xb6 from (LBX7_takeWayr_8 2).trans (by decide +kernel)) (show cX7_takeWay.data.toList[131]? = some 0x00 from (LBX7_takeWayr_8 3).trans (by decide +kernel)) (show cX7_takeWay.data.toList[132]? = some 0x43 from (LBX7_takeWayr_8 4).trans (by decide +kernel)) (by decide)
theorem dX7_takeWay_133 : decode cX7_takeWay 133 = .ok (.ifCond .eq 14, 3) := dk_153_ (show cX7_takeWay.data.toList[133]? = some 0x99 from (LBX7_takeWayr_8 5).trans (by decide +kernel)) (show cX7_takeWay.data.toList[134]? = some 0x00 from (LBX7_takeWayr_8 6).trans (by decide +kernel)) (show cX7_takeWay.data.toList[135]? = some 0x0e from (LBX7_takeWayr_8 7).trans (by decide +kernel)) (by decide)
theorem dX7_takeWay_136 : decode cX7_takeWay 136 = .ok (.aload_n 0, 1) := dk_42_ (show cX7_takeWay.data.toList[136]? = some 0x2a from (LBX7_takeWayr_8 8).trans (by decide +kernel))
theorem dX7_takeWay_137 : decode cX7_takeWay 137 = .ok (.aload_n 1, 1) := dk_43_ (show cX7_takeWay.data.toList[137]? = some 0x2b from (LBX7_takeWayr_8 9).trans (by decide +kernel))
theorem dX7_takeWay_138 : decode cX7_takeWay 138 = .ok (.iload 4, 2) := dk_21_ (show cX7_takeWay.data.toList[138]? = some 0x15 from (LBX7_takeWayr_8 10).trans (by decide +kernel)) (show cX7_takeWay.data.toList[139]? = some 0x04 from (LBX7_takeWayr_8 11).trans (by decide +kernel)) (by decide)
theorem dX7_takeWay_140 : decode cX7_takeWay 140 = .ok (.iload_n 2, 1) := dk_28_ (show cX7_takeWay.data.toList[140]? = some 0x1c from (LBX7_takeWayr_8 12).trans (by decide +kernel))
theorem dX7_takeWay_141 : decode cX7_takeWay 141 = .ok (.invokevirtual 90, 3) := dk_182_ (show cX7_takeWay.data.toList[141]? = some 0xb6 from (LBX7_takeWayr_8 13).trans (by decide +kernel)) (show cX7_takeWay.data.toList[142]? = some 0x00 from (LBX7_takeWayr_8 14).trans (by decide +kernel)) (show cX7_takeWay.data.toList[143]? = some 0x5a from (LBX7_takeWayr_8 15).trans (by decide +kernel)) (by decide)
theorem dX7_takeWay_144 : decode cX7_takeWay 144 = .ok (.ifCond .eq 7, 3) := dk_153_ (show cX7_takeWay.data.toList[144]? = some 0x99 from (LBX7_takeWayr_9 0).trans (by decide +kernel)) (show cX7_takeWay.data.toList[145]? = some 0x00 from (LBX7_takeWayr_9 1).trans (by decide +kernel)) (show cX7_takeWay.data.toList[146]? = some 0x07 from (LBX7_takeWayr_9 2).trans (by decide +kernel)) (by decide)
theorem dX7_takeWay_147 : decode cX7_takeWay 147 = .ok (.iconst 1, 1) := dk_4_ (show cX7_takeWay.data.toList[147]? = some 0x04 from (LBX7_takeWayr_9 3).trans (by decide +kernel))
theorem dX7_takeWay_148 : decode cX7_takeWay 148 = .ok (.goto 4, 3) := dk_167_ (show cX7_takeWay.data.toList[148]? = some 0xa7 from (LBX7_takeWayr_9 4).trans (by decide +kernel)) (show cX7_takeWay.data.toList[149]? = some 0x00 from (LBX7_takeWayr_9 5).trans (by decide +kernel)) (show cX7_takeWay.data.toList[150]? = some 0x04 from (LBX7_takeWayr_9 6).trans (by decide +kernel)) (by decide)
theorem dX7_takeWay_151 : decode cX7_takeWay 151 = .ok (.iconst 0, 1) := dk_3_ (show cX7_takeWay.data.toList[151]? = some 0x03 from (LBX7_takeWayr_9 7).trans (by decide +kernel))
theorem dX7_takeWay_152 : decode cX7_takeWay 152 = .ok (.ireturn, 1) := dk_172_ (show cX7_takeWay.data.toList[152]? = some 0xac from (LBX7_takeWayr_9 8).trans (by decide +kernel))
def LRX7_takeSlack_2 : List UInt8 := []
def LBX7_takeSlack_1 : List UInt8 := [0x2a, 0xb4, 0x00, 0x1f, 0x4f, 0x04, 0xac]
def LRX7_takeSlack_1 : List UInt8 := LBX7_takeSlack_1 ++ LRX7_takeSlack_2
def LBX7_takeSlack_0 : List UInt8 := [0x2a, 0x10, 0x63, 0xb6, 0x00, 0x46, 0x9a, 0x00, 0x05, 0x03, 0xac, 0x2b, 0xb4, 0x00, 0x81, 0x1c]
def LRX7_takeSlack_0 : List UInt8 := LBX7_takeSlack_0 ++ LRX7_takeSlack_1
set_option maxRecDepth 100000 in
theorem LBX7_takeSlack_eq : cX7_takeSlack.data.toList = LRX7_takeSlack_0 := by decide +kernel
theorem LBX7_takeSlackr_0 (k : Nat) : cX7_takeSlack.data.toList[0 + k]? = LRX7_takeSlack_0[k]? := by rw [LBX7_takeSlack_eq, Nat.zero_add]
theorem LBX7_takeSlackr_1 (k : Nat) : cX7_takeSlack.data.toList[16 + k]? = LRX7_takeSlack_1[k]? := by
  have h := LBX7_takeSlackr_0 (16 + k)
  rw [show 0 + (16 + k) = 16 + k by omega] at h
  rw [h]
  exact (List.getElem?_append_right (l₁ := LBX7_takeSlack_0) (l₂ := LRX7_takeSlack_1) (show 16 ≤ 16 + k by omega)).trans (congrArg (fun i => LRX7_takeSlack_1[i]?) (show 16 + k - 16 = k by omega))
theorem dX7_takeSlack_0 : decode cX7_takeSlack 0 = .ok (.aload_n 0, 1) := dk_42_ (show cX7_takeSlack.data.toList[0]? = some 0x2a from (LBX7_takeSlackr_0 0).trans (by decide +kernel))
theorem dX7_takeSlack_1 : decode cX7_takeSlack 1 = .ok (.bipush 99, 2) := dk_16_ (show cX7_takeSlack.data.toList[1]? = some 0x10 from (LBX7_takeSlackr_0 1).trans (by decide +kernel)) (show cX7_takeSlack.data.toList[2]? = some 0x63 from (LBX7_takeSlackr_0 2).trans (by decide +kernel)) (by decide)
theorem dX7_takeSlack_3 : decode cX7_takeSlack 3 = .ok (.invokevirtual 70, 3) := dk_182_ (show cX7_takeSlack.data.toList[3]? = some 0xb6 from (LBX7_takeSlackr_0 3).trans (by decide +kernel)) (show cX7_takeSlack.data.toList[4]? = some 0x00 from (LBX7_takeSlackr_0 4).trans (by decide +kernel)) (show cX7_takeSlack.data.toList[5]? = some 0x46 from (LBX7_takeSlackr_0 5).trans (by decide +kernel)) (by decide)
theorem dX7_takeSlack_6 : decode cX7_takeSlack 6 = .ok (.ifCond .ne 5, 3) := dk_154_ (show cX7_takeSlack.data.toList[6]? = some 0x9a from (LBX7_takeSlackr_0 6).trans (by decide +kernel)) (show cX7_takeSlack.data.toList[7]? = some 0x00 from (LBX7_takeSlackr_0 7).trans (by decide +kernel)) (show cX7_takeSlack.data.toList[8]? = some 0x05 from (LBX7_takeSlackr_0 8).trans (by decide +kernel)) (by decide)
theorem dX7_takeSlack_9 : decode cX7_takeSlack 9 = .ok (.iconst 0, 1) := dk_3_ (show cX7_takeSlack.data.toList[9]? = some 0x03 from (LBX7_takeSlackr_0 9).trans (by decide +kernel))
theorem dX7_takeSlack_10 : decode cX7_takeSlack 10 = .ok (.ireturn, 1) := dk_172_ (show cX7_takeSlack.data.toList[10]? = some 0xac from (LBX7_takeSlackr_0 10).trans (by decide +kernel))
theorem dX7_takeSlack_11 : decode cX7_takeSlack 11 = .ok (.aload_n 1, 1) := dk_43_ (show cX7_takeSlack.data.toList[11]? = some 0x2b from (LBX7_takeSlackr_0 11).trans (by decide +kernel))
theorem dX7_takeSlack_12 : decode cX7_takeSlack 12 = .ok (.getfield 129, 3) := dk_180_ (show cX7_takeSlack.data.toList[12]? = some 0xb4 from (LBX7_takeSlackr_0 12).trans (by decide +kernel)) (show cX7_takeSlack.data.toList[13]? = some 0x00 from (LBX7_takeSlackr_0 13).trans (by decide +kernel)) (show cX7_takeSlack.data.toList[14]? = some 0x81 from (LBX7_takeSlackr_0 14).trans (by decide +kernel)) (by decide)
theorem dX7_takeSlack_15 : decode cX7_takeSlack 15 = .ok (.iload_n 2, 1) := dk_28_ (show cX7_takeSlack.data.toList[15]? = some 0x1c from (LBX7_takeSlackr_0 15).trans (by decide +kernel))
theorem dX7_takeSlack_16 : decode cX7_takeSlack 16 = .ok (.aload_n 0, 1) := dk_42_ (show cX7_takeSlack.data.toList[16]? = some 0x2a from (LBX7_takeSlackr_1 0).trans (by decide +kernel))
theorem dX7_takeSlack_17 : decode cX7_takeSlack 17 = .ok (.getfield 31, 3) := dk_180_ (show cX7_takeSlack.data.toList[17]? = some 0xb4 from (LBX7_takeSlackr_1 1).trans (by decide +kernel)) (show cX7_takeSlack.data.toList[18]? = some 0x00 from (LBX7_takeSlackr_1 2).trans (by decide +kernel)) (show cX7_takeSlack.data.toList[19]? = some 0x1f from (LBX7_takeSlackr_1 3).trans (by decide +kernel)) (by decide)
theorem dX7_takeSlack_20 : decode cX7_takeSlack 20 = .ok (.iastore, 1) := dk_79_ (show cX7_takeSlack.data.toList[20]? = some 0x4f from (LBX7_takeSlackr_1 4).trans (by decide +kernel))
theorem dX7_takeSlack_21 : decode cX7_takeSlack 21 = .ok (.iconst 1, 1) := dk_4_ (show cX7_takeSlack.data.toList[21]? = some 0x04 from (LBX7_takeSlackr_1 5).trans (by decide +kernel))
theorem dX7_takeSlack_22 : decode cX7_takeSlack 22 = .ok (.ireturn, 1) := dk_172_ (show cX7_takeSlack.data.toList[22]? = some 0xac from (LBX7_takeSlackr_1 6).trans (by decide +kernel))
def LRX7_takeWalk_12 : List UInt8 := []
def LBX7_takeWalk_11 : List UInt8 := [0x03, 0xac]
def LRX7_takeWalk_11 : List UInt8 := LBX7_takeWalk_11 ++ LRX7_takeWalk_12
def LBX7_takeWalk_10 : List UInt8 := [0x99, 0x00, 0x0c, 0x2a, 0x2b, 0x1c, 0xb6, 0x00, 0x7d, 0x99, 0x00, 0x07, 0x04, 0xa7, 0x00, 0x04]
def LRX7_takeWalk_10 : List UInt8 := LBX7_takeWalk_10 ++ LRX7_takeWalk_11
def LBX7_takeWalk_9 : List UInt8 := [0x2b, 0xb4, 0x00, 0x78, 0x1c, 0x2a, 0xb4, 0x00, 0x1f, 0x4f, 0x2a, 0x12, 0x7b, 0xb6, 0x00, 0x43]
def LRX7_takeWalk_9 : List UInt8 := LBX7_takeWalk_9 ++ LRX7_takeWalk_10
def LBX7_takeWalk_8 : List UInt8 := [0x10, 0x2a, 0x11, 0xd8, 0xf1, 0x11, 0x27, 0x0f, 0xb6, 0x00, 0x4e, 0x9a, 0x00, 0x05, 0x03, 0xac]
def LRX7_takeWalk_8 : List UInt8 := LBX7_takeWalk_8 ++ LRX7_takeWalk_9
def LBX7_takeWalk_7 : List UInt8 := [0x00, 0x73, 0x1c, 0x2e, 0x05, 0xa1, 0x00, 0x19, 0x2a, 0x12, 0x76, 0xb6, 0x00, 0x43, 0x99, 0x00]
def LRX7_takeWalk_7 : List UInt8 := LBX7_takeWalk_7 ++ LRX7_takeWalk_8
def LBX7_takeWalk_6 : List UInt8 := [0x1f, 0xb6, 0x00, 0x6f, 0x57, 0x84, 0x03, 0x01, 0xa7, 0xff, 0xc4, 0x2b, 0xb4, 0x00, 0x5e, 0xb4]
def LRX7_takeWalk_6 : List UInt8 := LBX7_takeWalk_6 ++ LRX7_takeWalk_7
def LBX7_takeWalk_5 : List UInt8 := [0xb6, 0x00, 0x46, 0x9a, 0x00, 0x05, 0x03, 0xac, 0x2b, 0xb4, 0x00, 0x5e, 0x1c, 0x2a, 0xb4, 0x00]
def LRX7_takeWalk_5 : List UInt8 := LBX7_takeWalk_5 ++ LRX7_takeWalk_6
def LBX7_takeWalk_4 : List UInt8 := [0x00, 0x5e, 0x1c, 0xb6, 0x00, 0x6c, 0x9f, 0x00, 0x10, 0x2a, 0x2b, 0xb4, 0x00, 0x3c, 0x04, 0x64]
def LRX7_takeWalk_4 : List UInt8 := LBX7_takeWalk_4 ++ LRX7_takeWalk_5
def LBX7_takeWalk_3 : List UInt8 := [0x00, 0x3c, 0x2a, 0xb4, 0x00, 0x13, 0x05, 0xa0, 0x00, 0x34, 0x2a, 0xb4, 0x00, 0x1c, 0x2b, 0xb4]
def LRX7_takeWalk_3 : List UInt8 := LBX7_takeWalk_3 ++ LRX7_takeWalk_4
def LBX7_takeWalk_2 : List UInt8 := [0x2a, 0xb4, 0x00, 0x1f, 0x03, 0x03, 0xb6, 0x00, 0x68, 0x3d, 0x04, 0x3e, 0x1d, 0x10, 0x06, 0xa2]
def LRX7_takeWalk_2 : List UInt8 := LBX7_takeWalk_2 ++ LRX7_takeWalk_3
def LBX7_takeWalk_1 : List UInt8 := [0x2a, 0x2b, 0xb4, 0x00, 0x3c, 0x04, 0x64, 0xb6, 0x00, 0x46, 0x9a, 0x00, 0x05, 0x03, 0xac, 0x2b]
def LRX7_takeWalk_1 : List UInt8 := LBX7_takeWalk_1 ++ LRX7_takeWalk_2
def LBX7_takeWalk_0 : List UInt8 := [0x2b, 0xb4, 0x00, 0x5e, 0xb6, 0x00, 0x62, 0x99, 0x00, 0x05, 0x03, 0xac, 0x2a, 0xb6, 0x00, 0x22]
def LRX7_takeWalk_0 : List UInt8 := LBX7_takeWalk_0 ++ LRX7_takeWalk_1
set_option maxRecDepth 100000 in
theorem LBX7_takeWalk_eq : cX7_takeWalk.data.toList = LRX7_takeWalk_0 := by decide +kernel
theorem LBX7_takeWalkr_0 (k : Nat) : cX7_takeWalk.data.toList[0 + k]? = LRX7_takeWalk_0[k]? := by rw [LBX7_takeWalk_eq, Nat.zero_add]
theorem LBX7_takeWalkr_1 (k : Nat) : cX7_takeWalk.data.toList[16 + k]? = LRX7_takeWalk_1[k]? := by
  have h := LBX7_takeWalkr_0 (16 + k)
  rw [show 0 + (16 + k) = 16 + k by omega] at h
  rw [h]
  exact (List.getElem?_append_right (l₁ := LBX7_takeWalk_0) (l₂ := LRX7_takeWalk_1) (show 16 ≤ 16 + k by omega)).trans (congrArg (fun i => LRX7_takeWalk_1[i]?) (show 16 + k - 16 = k by omega))
theorem LBX7_takeWalkr_2 (k : Nat) : cX7_takeWalk.data.toList[32 + k]? = LRX7_takeWalk_2[k]? := by
  have h := LBX7_takeWalkr_1 (16 + k)
  rw [show 16 + (16 + k) = 32 + k by omega] at h
  rw [h]
  exact (List.getElem?_append_right (l₁ := LBX7_takeWalk_1) (l₂ := LRX7_takeWalk_2) (show 16 ≤ 16 + k by omega)).trans (congrArg (fun i => LRX7_takeWalk_2[i]?) (show 16 + k - 16 = k by omega))
theorem LBX7_takeWalkr_3 (k : Nat) : cX7_takeWalk.data.toList[48 + k]? = LRX7_takeWalk_3[k]? := by
  have h := LBX7_takeWalkr_2 (16 + k)
  rw [show 32 + (16 + k) = 48 + k by omega] at h
  rw [h]
  exact (List.getElem?_append_right (l₁ := LBX7_takeWalk_2) (l₂ := LRX7_takeWalk_3) (show 16 ≤ 16 + k by omega)).trans (congrArg (fun i => LRX7_takeWalk_3[i]?) (show 16 + k - 16 = k by omega))
theorem LBX7_takeWalkr_4 (k : Nat) : cX7_takeWalk.data.toList[64 + k]? = LRX7_takeWalk_4[k]? := by
  have h := LBX7_takeWalkr_3 (16 + k)
  rw [show 48 + (16 + k) = 64 + k by omega] at h
  rw [h]
  exact (List.getElem?_append_right (l₁ := LBX7_takeWalk_3) (l₂ := LRX7_takeWalk_4) (show 16 ≤ 16 + k by omega)).trans (congrArg (fun i => LRX7_takeWalk_4[i]?) (show 16 + k - 16 = k by omega))
theorem LBX7_takeWalkr_5 (k : Nat) : cX7_takeWalk.data.toList[80 + k]? = LRX7_takeWalk_5[k]? := by
  have h := LBX7_takeWalkr_4 (16 + k)
  rw [show 64 + (16 + k) = 80 + k by omega] at h
  rw [h]
  exact (List.getElem?_append_right (l₁ := LBX7_takeWalk_4) (l₂ := LRX7_takeWalk_5) (show 16 ≤ 16 + k by omega)).trans (congrArg (fun i => LRX7_takeWalk_5[i]?) (show 16 + k - 16 = k by omega))
theorem LBX7_takeWalkr_6 (k : Nat) : cX7_takeWalk.data.toList[96 + k]? = LRX7_takeWalk_6[k]? := by
  have h := LBX7_takeWalkr_5 (16 + k)
  rw [show 80 + (16 + k) = 96 + k by omega] at h
  rw [h]
  exact (List.getElem?_append_right (l₁ := LBX7_takeWalk_5) (l₂ := LRX7_takeWalk_6) (show 16 ≤ 16 + k by omega)).trans (congrArg (fun i => LRX7_takeWalk_6[i]?) (show 16 + k - 16 = k by omega))
theorem LBX7_takeWalkr_7 (k : Nat) : cX7_takeWalk.data.toList[112 + k]? = LRX7_takeWalk_7[k]? := by
  have h := LBX7_takeWalkr_6 (16 + k)
  rw [show 96 + (16 + k) = 112 + k by omega] at h
  rw [h]
  exact (List.getElem?_append_right (l₁ := LBX7_takeWalk_6) (l₂ := LRX7_takeWalk_7) (show 16 ≤ 16 + k by omega)).trans (congrArg (fun i => LRX7_takeWalk_7[i]?) (show 16 + k - 16 = k by omega))
theorem LBX7_takeWalkr_8 (k : Nat) : cX7_takeWalk.data.toList[128 + k]? = LRX7_takeWalk_8[k]? := by
  have h := LBX7_takeWalkr_7 (16 + k)
  rw [show 112 + (16 + k) = 128 + k by omega] at h
  rw [h]
  exact (List.getElem?_append_right (l₁ := LBX7_takeWalk_7) (l₂ := LRX7_takeWalk_8) (show 16 ≤ 16 + k by omega)).trans (congrArg (fun i => LRX7_takeWalk_8[i]?) (show 16 + k - 16 = k by omega))
theorem LBX7_takeWalkr_9 (k : Nat) : cX7_takeWalk.data.toList[144 + k]? = LRX7_takeWalk_9[k]? := by
  have h := LBX7_takeWalkr_8 (16 + k)
  rw [show 128 + (16 + k) = 144 + k by omega] at h
  rw [h]
  exact (List.getElem?_append_right (l₁ := LBX7_takeWalk_8) (l₂ := LRX7_takeWalk_9) (show 16 ≤ 16 + k by omega)).trans (congrArg (fun i => LRX7_takeWalk_9[i]?) (show 16 + k - 16 = k by omega))
theorem LBX7_takeWalkr_10 (k : Nat) : cX7_takeWalk.data.toList[160 + k]? = LRX7_takeWalk_10[k]? := by
  have h := LBX7_takeWalkr_9 (16 + k)
  rw [show 144 + (16 + k) = 160 + k by omega] at h
  rw [h]
  exact (List.getElem?_append_right (l₁ := LBX7_takeWalk_9) (l₂ := LRX7_takeWalk_10) (show 16 ≤ 16 + k by omega)).trans (congrArg (fun i => LRX7_takeWalk_10[i]?) (show 16 + k - 16 = k by omega))
theorem LBX7_takeWalkr_11 (k : Nat) : cX7_takeWalk.data.toList[176 + k]? = LRX7_takeWalk_11[k]? := by
  have h := LBX7_takeWalkr_10 (16 + k)
  rw [show 160 + (16 + k) = 176 + k by omega] at h
  rw [h]
  exact (List.getElem?_append_right (l₁ := LBX7_takeWalk_10) (l₂ := LRX7_takeWalk_11) (show 16 ≤ 16 + k by omega)).trans (congrArg (fun i => LRX7_takeWalk_11[i]?) (show 16 + k - 16 = k by omega))
theorem dX7_takeWalk_0 : decode cX7_takeWalk 0 = .ok (.aload_n 1, 1) := dk_43_ (show cX7_takeWalk.data.toList[0]? = some 0x2b from (LBX7_takeWalkr_0 0).trans (by decide +kernel))
theorem dX7_takeWalk_1 : decode cX7_takeWalk 1 = .ok (.getfield 94, 3) := dk_180_ (show cX7_takeWalk.data.toList[1]? = some 0xb4 from (LBX7_takeWalkr_0 1).trans (by decide +kernel)) (show cX7_takeWalk.data.toList[2]? = some 0x00 from (LBX7_takeWalkr_0 2).trans (by decide +kernel)) (show cX7_takeWalk.data.toList[3]? = some 0x5e from (LBX7_takeWalkr_0 3).trans (by decide +kernel)) (by decide)
theorem dX7_takeWalk_4 : decode cX7_takeWalk 4 = .ok (.invokevirtual 98, 3) := dk_182_ (show cX7_takeWalk.data.toList[4]? = some 0xb6 from (LBX7_takeWalkr_0 4).trans (by decide +kernel)) (show cX7_takeWalk.data.toList[5]? = some 0x00 from (LBX7_takeWalkr_0 5).trans (by decide +kernel)) (show cX7_takeWalk.data.toList[6]? = some 0x62 from (LBX7_takeWalkr_0 6).trans (by decide +kernel)) (by decide)
theorem dX7_takeWalk_7 : decode cX7_takeWalk 7 = .ok (.ifCond .eq 5, 3) := dk_153_ (show cX7_takeWalk.data.toList[7]? = some 0x99 from (LBX7_takeWalkr_0 7).trans (by decide +kernel)) (show cX7_takeWalk.data.toList[8]? = some 0x00 from (LBX7_takeWalkr_0 8).trans (by decide +kernel)) (show cX7_takeWalk.data.toList[9]? = some 0x05 from (LBX7_takeWalkr_0 9).trans (by decide +kernel)) (by decide)
theorem dX7_takeWalk_10 : decode cX7_takeWalk 10 = .ok (.iconst 0, 1) := dk_3_ (show cX7_takeWalk.data.toList[10]? = some 0x03 from (LBX7_takeWalkr_0 10).trans (by decide +kernel))
theorem dX7_takeWalk_11 : decode cX7_takeWalk 11 = .ok (.ireturn, 1) := dk_172_ (show cX7_takeWalk.data.toList[11]? = some 0xac from (LBX7_takeWalkr_0 11).trans (by decide +kernel))
theorem dX7_takeWalk_12 : decode cX7_takeWalk 12 = .ok (.aload_n 0, 1) := dk_42_ (show cX7_takeWalk.data.toList[12]? = some 0x2a from (LBX7_takeWalkr_0 12).trans (by decide +kernel))
theorem dX7_takeWalk_13 : decode cX7_takeWalk 13 = .ok (.invokevirtual 34, 3) := dk_182_ (show cX7_takeWalk.data.toList[13]? = some 0xb6 from (LBX7_takeWalkr_0 13).trans (by decide +kernel)) (show cX7_takeWalk.data.toList[14]? = some 0x00 from (LBX7_takeWalkr_0 14).trans (by decide +kernel)) (show cX7_takeWalk.data.toList[15]? = some 0x22 from (LBX7_takeWalkr_0 15).trans (by decide +kernel)) (by decide)
theorem dX7_takeWalk_16 : decode cX7_takeWalk 16 = .ok (.aload_n 0, 1) := dk_42_ (show cX7_takeWalk.data.toList[16]? = some 0x2a from (LBX7_takeWalkr_1 0).trans (by decide +kernel))
theorem dX7_takeWalk_17 : decode cX7_takeWalk 17 = .ok (.aload_n 1, 1) := dk_43_ (show cX7_takeWalk.data.toList[17]? = some 0x2b from (LBX7_takeWalkr_1 1).trans (by decide +kernel))
theorem dX7_takeWalk_18 : decode cX7_takeWalk 18 = .ok (.getfield 60, 3) := dk_180_ (show cX7_takeWalk.data.toList[18]? = some 0xb4 from (LBX7_takeWalkr_1 2).trans (by decide +kernel)) (show cX7_takeWalk.data.toList[19]? = some 0x00 from (LBX7_takeWalkr_1 3).trans (by decide +kernel)) (show cX7_takeWalk.data.toList[20]? = some 0x3c from (LBX7_takeWalkr_1 4).trans (by decide +kernel)) (by decide)
theorem dX7_takeWalk_21 : decode cX7_takeWalk 21 = .ok (.iconst 1, 1) := dk_4_ (show cX7_takeWalk.data.toList[21]? = some 0x04 from (LBX7_takeWalkr_1 5).trans (by decide +kernel))
theorem dX7_takeWalk_22 : decode cX7_takeWalk 22 = .ok (.isub, 1) := dk_100_ (show cX7_takeWalk.data.toList[22]? = some 0x64 from (LBX7_takeWalkr_1 6).trans (by decide +kernel))
theorem dX7_takeWalk_23 : decode cX7_takeWalk 23 = .ok (.invokevirtual 70, 3) := dk_182_ (show cX7_takeWalk.data.toList[23]? = some 0xb6 from (LBX7_takeWalkr_1 7).trans (by decide +kernel)) (show cX7_takeWalk.data.toList[24]? = some 0x00 from (LBX7_takeWalkr_1 8).trans (by decide +kernel)) (show cX7_takeWalk.data.toList[25]? = some 0x46 from (LBX7_takeWalkr_1 9).trans (by decide +kernel)) (by decide)
theorem dX7_takeWalk_26 : decode cX7_takeWalk 26 = .ok (.ifCond .ne 5, 3) := dk_154_ (show cX7_takeWalk.data.toList[26]? = some 0x9a from (LBX7_takeWalkr_1 10).trans (by decide +kernel)) (show cX7_takeWalk.data.toList[27]? = some 0x00 from (LBX7_takeWalkr_1 11).trans (by decide +kernel)) (show cX7_takeWalk.data.toList[28]? = some 0x05 from (LBX7_takeWalkr_1 12).trans (by decide +kernel)) (by decide)
theorem dX7_takeWalk_29 : decode cX7_takeWalk 29 = .ok (.iconst 0, 1) := dk_3_ (show cX7_takeWalk.data.toList[29]? = some 0x03 from (LBX7_takeWalkr_1 13).trans (by decide +kernel))
theorem dX7_takeWalk_30 : decode cX7_takeWalk 30 = .ok (.ireturn, 1) := dk_172_ (show cX7_takeWalk.data.toList[30]? = some 0xac from (LBX7_takeWalkr_1 14).trans (by decide +kernel))
theorem dX7_takeWalk_31 : decode cX7_takeWalk 31 = .ok (.aload_n 1, 1) := dk_43_ (show cX7_takeWalk.data.toList[31]? = some 0x2b from (LBX7_takeWalkr_1 15).trans (by decide +kernel))
theorem dX7_takeWalk_32 : decode cX7_takeWalk 32 = .ok (.aload_n 0, 1) := dk_42_ (show cX7_takeWalk.data.toList[32]? = some 0x2a from (LBX7_takeWalkr_2 0).trans (by decide +kernel))
theorem dX7_takeWalk_33 : decode cX7_takeWalk 33 = .ok (.getfield 31, 3) := dk_180_ (show cX7_takeWalk.data.toList[33]? = some 0xb4 from (LBX7_takeWalkr_2 1).trans (by decide +kernel)) (show cX7_takeWalk.data.toList[34]? = some 0x00 from (LBX7_takeWalkr_2 2).trans (by decide +kernel)) (show cX7_takeWalk.data.toList[35]? = some 0x1f from (LBX7_takeWalkr_2 3).trans (by decide +kernel)) (by decide)
theorem dX7_takeWalk_36 : decode cX7_takeWalk 36 = .ok (.iconst 0, 1) := dk_3_ (show cX7_takeWalk.data.toList[36]? = some 0x03 from (LBX7_takeWalkr_2 4).trans (by decide +kernel))
theorem dX7_takeWalk_37 : decode cX7_takeWalk 37 = .ok (.iconst 0, 1) := dk_3_ (show cX7_takeWalk.data.toList[37]? = some 0x03 from (LBX7_takeWalkr_2 5).trans (by decide +kernel))
theorem dX7_takeWalk_38 : decode cX7_takeWalk 38 = .ok (.invokevirtual 104, 3) := dk_182_ (show cX7_takeWalk.data.toList[38]? = some 0xb6 from (LBX7_takeWalkr_2 6).trans (by decide +kernel)) (show cX7_takeWalk.data.toList[39]? = some 0x00 from (LBX7_takeWalkr_2 7).trans (by decide +kernel)) (show cX7_takeWalk.data.toList[40]? = some 0x68 from (LBX7_takeWalkr_2 8).trans (by decide +kernel)) (by decide)
theorem dX7_takeWalk_41 : decode cX7_takeWalk 41 = .ok (.istore_n 2, 1) := dk_61_ (show cX7_takeWalk.data.toList[41]? = some 0x3d from (LBX7_takeWalkr_2 9).trans (by decide +kernel))
theorem dX7_takeWalk_42 : decode cX7_takeWalk 42 = .ok (.iconst 1, 1) := dk_4_ (show cX7_takeWalk.data.toList[42]? = some 0x04 from (LBX7_takeWalkr_2 10).trans (by decide +kernel))
theorem dX7_takeWalk_43 : decode cX7_takeWalk 43 = .ok (.istore_n 3, 1) := dk_62_ (show cX7_takeWalk.data.toList[43]? = some 0x3e from (LBX7_takeWalkr_2 11).trans (by decide +kernel))
theorem dX7_takeWalk_44 : decode cX7_takeWalk 44 = .ok (.iload_n 3, 1) := dk_29_ (show cX7_takeWalk.data.toList[44]? = some 0x1d from (LBX7_takeWalkr_2 12).trans (by decide +kernel))
theorem dX7_takeWalk_45 : decode cX7_takeWalk 45 = .ok (.bipush 6, 2) := dk_16_ (show cX7_takeWalk.data.toList[45]? = some 0x10 from (LBX7_takeWalkr_2 13).trans (by decide +kernel)) (show cX7_takeWalk.data.toList[46]? = some 0x06 from (LBX7_takeWalkr_2 14).trans (by decide +kernel)) (by decide)
theorem dX7_takeWalk_47 : decode cX7_takeWalk 47 = .ok (.if_icmp .ge 60, 3) := dk_162_ (show cX7_takeWalk.data.toList[47]? = some 0xa2 from (LBX7_takeWalkr_2 15).trans (by decide +kernel)) (show cX7_takeWalk.data.toList[48]? = some 0x00 from (LBX7_takeWalkr_3 0).trans (by decide +kernel)) (show cX7_takeWalk.data.toList[49]? = some 0x3c from (LBX7_takeWalkr_3 1).trans (by decide +kernel)) (by decide)
theorem dX7_takeWalk_50 : decode cX7_takeWalk 50 = .ok (.aload_n 0, 1) := dk_42_ (show cX7_takeWalk.data.toList[50]? = some 0x2a from (LBX7_takeWalkr_3 2).trans (by decide +kernel))
theorem dX7_takeWalk_51 : decode cX7_takeWalk 51 = .ok (.getfield 19, 3) := dk_180_ (show cX7_takeWalk.data.toList[51]? = some 0xb4 from (LBX7_takeWalkr_3 3).trans (by decide +kernel)) (show cX7_takeWalk.data.toList[52]? = some 0x00 from (LBX7_takeWalkr_3 4).trans (by decide +kernel)) (show cX7_takeWalk.data.toList[53]? = some 0x13 from (LBX7_takeWalkr_3 5).trans (by decide +kernel)) (by decide)
theorem dX7_takeWalk_54 : decode cX7_takeWalk 54 = .ok (.iconst 2, 1) := dk_5_ (show cX7_takeWalk.data.toList[54]? = some 0x05 from (LBX7_takeWalkr_3 6).trans (by decide +kernel))
theorem dX7_takeWalk_55 : decode cX7_takeWalk 55 = .ok (.if_icmp .ne 52, 3) := dk_160_ (show cX7_takeWalk.data.toList[55]? = some 0xa0 from (LBX7_takeWalkr_3 7).trans (by decide +kernel)) (show cX7_takeWalk.data.toList[56]? = some 0x00 from (LBX7_takeWalkr_3 8).trans (by decide +kernel)) (show cX7_takeWalk.data.toList[57]? = some 0x34 from (LBX7_takeWalkr_3 9).trans (by decide +kernel)) (by decide)
theorem dX7_takeWalk_58 : decode cX7_takeWalk 58 = .ok (.aload_n 0, 1) := dk_42_ (show cX7_takeWalk.data.toList[58]? = some 0x2a from (LBX7_takeWalkr_3 10).trans (by decide +kernel))
theorem dX7_takeWalk_59 : decode cX7_takeWalk 59 = .ok (.getfield 28, 3) := dk_180_ (show cX7_takeWalk.data.toList[59]? = some 0xb4 from (LBX7_takeWalkr_3 11).trans (by decide +kernel)) (show cX7_takeWalk.data.toList[60]? = some 0x00 from (LBX7_takeWalkr_3 12).trans (by decide +kernel)) (show cX7_takeWalk.data.toList[61]? = some 0x1c from (LBX7_takeWalkr_3 13).trans (by decide +kernel)) (by decide)
theorem dX7_takeWalk_62 : decode cX7_takeWalk 62 = .ok (.aload_n 1, 1) := dk_43_ (show cX7_takeWalk.data.toList[62]? = some 0x2b from (LBX7_takeWalkr_3 14).trans (by decide +kernel))
theorem dX7_takeWalk_63 : decode cX7_takeWalk 63 = .ok (.getfield 94, 3) := dk_180_ (show cX7_takeWalk.data.toList[63]? = some 0xb4 from (LBX7_takeWalkr_3 15).trans (by decide +kernel)) (show cX7_takeWalk.data.toList[64]? = some 0x00 from (LBX7_takeWalkr_4 0).trans (by decide +kernel)) (show cX7_takeWalk.data.toList[65]? = some 0x5e from (LBX7_takeWalkr_4 1).trans (by decide +kernel)) (by decide)
theorem dX7_takeWalk_66 : decode cX7_takeWalk 66 = .ok (.iload_n 2, 1) := dk_28_ (show cX7_takeWalk.data.toList[66]? = some 0x1c from (LBX7_takeWalkr_4 2).trans (by decide +kernel))
theorem dX7_takeWalk_67 : decode cX7_takeWalk 67 = .ok (.invokevirtual 108, 3) := dk_182_ (show cX7_takeWalk.data.toList[67]? = some 0xb6 from (LBX7_takeWalkr_4 3).trans (by decide +kernel)) (show cX7_takeWalk.data.toList[68]? = some 0x00 from (LBX7_takeWalkr_4 4).trans (by decide +kernel)) (show cX7_takeWalk.data.toList[69]? = some 0x6c from (LBX7_takeWalkr_4 5).trans (by decide +kernel)) (by decide)
theorem dX7_takeWalk_70 : decode cX7_takeWalk 70 = .ok (.if_icmp .eq 16, 3) := dk_159_ (show cX7_takeWalk.data.toList[70]? = some 0x9f from (LBX7_takeWalkr_4 6).trans (by decide +kernel)) (show cX7_takeWalk.data.toList[71]? = some 0x00 from (LBX7_takeWalkr_4 7).trans (by decide +kernel)) (show cX7_takeWalk.data.toList[72]? = some 0x10 from (LBX7_takeWalkr_4 8).trans (by decide +kernel)) (by decide)
theorem dX7_takeWalk_73 : decode cX7_takeWalk 73 = .ok (.aload_n 0, 1) := dk_42_ (show cX7_takeWalk.data.toList[73]? = some 0x2a from (LBX7_takeWalkr_4 9).trans (by decide +kernel))
theorem dX7_takeWalk_74 : decode cX7_takeWalk 74 = .ok (.aload_n 1, 1) := dk_43_ (show cX7_takeWalk.data.toList[74]? = some 0x2b from (LBX7_takeWalkr_4 10).trans (by decide +kernel))
theorem dX7_takeWalk_75 : decode cX7_takeWalk 75 = .ok (.getfield 60, 3) := dk_180_ (show cX7_takeWalk.data.toList[75]? = some 0xb4 from (LBX7_takeWalkr_4 11).trans (by decide +kernel)) (show cX7_takeWalk.data.toList[76]? = some 0x00 from (LBX7_takeWalkr_4 12).trans (by decide +kernel)) (show cX7_takeWalk.data.toList[77]? = some 0x3c from (LBX7_takeWalkr_4 13).trans (by decide +kernel)) (by decide)
theorem dX7_takeWalk_78 : decode cX7_takeWalk 78 = .ok (.iconst 1, 1) := dk_4_ (show cX7_takeWalk.data.toList[78]? = some 0x04 from (LBX7_takeWalkr_4 14).trans (by decide +kernel))
theorem dX7_takeWalk_79 : decode cX7_takeWalk 79 = .ok (.isub, 1) := dk_100_ (show cX7_takeWalk.data.toList[79]? = some 0x64 from (LBX7_takeWalkr_4 15).trans (by decide +kernel))
theorem dX7_takeWalk_80 : decode cX7_takeWalk 80 = .ok (.invokevirtual 70, 3) := dk_182_ (show cX7_takeWalk.data.toList[80]? = some 0xb6 from (LBX7_takeWalkr_5 0).trans (by decide +kernel)) (show cX7_takeWalk.data.toList[81]? = some 0x00 from (LBX7_takeWalkr_5 1).trans (by decide +kernel)) (show cX7_takeWalk.data.toList[82]? = some 0x46 from (LBX7_takeWalkr_5 2).trans (by decide +kernel)) (by decide)
theorem dX7_takeWalk_83 : decode cX7_takeWalk 83 = .ok (.ifCond .ne 5, 3) := dk_154_ (show cX7_takeWalk.data.toList[83]? = some 0x9a from (LBX7_takeWalkr_5 3).trans (by decide +kernel)) (show cX7_takeWalk.data.toList[84]? = some 0x00 from (LBX7_takeWalkr_5 4).trans (by decide +kernel)) (show cX7_takeWalk.data.toList[85]? = some 0x05 from (LBX7_takeWalkr_5 5).trans (by decide +kernel)) (by decide)
theorem dX7_takeWalk_86 : decode cX7_takeWalk 86 = .ok (.iconst 0, 1) := dk_3_ (show cX7_takeWalk.data.toList[86]? = some 0x03 from (LBX7_takeWalkr_5 6).trans (by decide +kernel))
theorem dX7_takeWalk_87 : decode cX7_takeWalk 87 = .ok (.ireturn, 1) := dk_172_ (show cX7_takeWalk.data.toList[87]? = some 0xac from (LBX7_takeWalkr_5 7).trans (by decide +kernel))
theorem dX7_takeWalk_88 : decode cX7_takeWalk 88 = .ok (.aload_n 1, 1) := dk_43_ (show cX7_takeWalk.data.toList[88]? = some 0x2b from (LBX7_takeWalkr_5 8).trans (by decide +kernel))
theorem dX7_takeWalk_89 : decode cX7_takeWalk 89 = .ok (.getfield 94, 3) := dk_180_ (show cX7_takeWalk.data.toList[89]? = some 0xb4 from (LBX7_takeWalkr_5 9).trans (by decide +kernel)) (show cX7_takeWalk.data.toList[90]? = some 0x00 from (LBX7_takeWalkr_5 10).trans (by decide +kernel)) (show cX7_takeWalk.data.toList[91]? = some 0x5e from (LBX7_takeWalkr_5 11).trans (by decide +kernel)) (by decide)
theorem dX7_takeWalk_92 : decode cX7_takeWalk 92 = .ok (.iload_n 2, 1) := dk_28_ (show cX7_takeWalk.data.toList[92]? = some 0x1c from (LBX7_takeWalkr_5 12).trans (by decide +kernel))
theorem dX7_takeWalk_93 : decode cX7_takeWalk 93 = .ok (.aload_n 0, 1) := dk_42_ (show cX7_takeWalk.data.toList[93]? = some 0x2a from (LBX7_takeWalkr_5 13).trans (by decide +kernel))
theorem dX7_takeWalk_94 : decode cX7_takeWalk 94 = .ok (.getfield 31, 3) := dk_180_ (show cX7_takeWalk.data.toList[94]? = some 0xb4 from (LBX7_takeWalkr_5 14).trans (by decide +kernel)) (show cX7_takeWalk.data.toList[95]? = some 0x00 from (LBX7_takeWalkr_5 15).trans (by decide +kernel)) (show cX7_takeWalk.data.toList[96]? = some 0x1f from (LBX7_takeWalkr_6 0).trans (by decide +kernel)) (by decide)
theorem dX7_takeWalk_97 : decode cX7_takeWalk 97 = .ok (.invokevirtual 111, 3) := dk_182_ (show cX7_takeWalk.data.toList[97]? = some 0xb6 from (LBX7_takeWalkr_6 1).trans (by decide +kernel)) (show cX7_takeWalk.data.toList[98]? = some 0x00 from (LBX7_takeWalkr_6 2).trans (by decide +kernel)) (show cX7_takeWalk.data.toList[99]? = some 0x6f from (LBX7_takeWalkr_6 3).trans (by decide +kernel)) (by decide)
theorem dX7_takeWalk_100 : decode cX7_takeWalk 100 = .ok (.pop, 1) := dk_87_ (show cX7_takeWalk.data.toList[100]? = some 0x57 from (LBX7_takeWalkr_6 4).trans (by decide +kernel))
theorem dX7_takeWalk_101 : decode cX7_takeWalk 101 = .ok (.iinc 3 1, 3) := dk_132_ (show cX7_takeWalk.data.toList[101]? = some 0x84 from (LBX7_takeWalkr_6 5).trans (by decide +kernel)) (show cX7_takeWalk.data.toList[102]? = some 0x03 from (LBX7_takeWalkr_6 6).trans (by decide +kernel)) (show cX7_takeWalk.data.toList[103]? = some 0x01 from (LBX7_takeWalkr_6 7).trans (by decide +kernel)) (by decide) (by decide)
theorem dX7_takeWalk_104 : decode cX7_takeWalk 104 = .ok (.goto (-60), 3) := dk_167_ (show cX7_takeWalk.data.toList[104]? = some 0xa7 from (LBX7_takeWalkr_6 8).trans (by decide +kernel)) (show cX7_takeWalk.data.toList[105]? = some 0xff from (LBX7_takeWalkr_6 9).trans (by decide +kernel)) (show cX7_takeWalk.data.toList[106]? = some 0xc4 from (LBX7_takeWalkr_6 10).trans (by decide +kernel)) (by decide)
theorem dX7_takeWalk_107 : decode cX7_takeWalk 107 = .ok (.aload_n 1, 1) := dk_43_ (show cX7_takeWalk.data.toList[107]? = some 0x2b from (LBX7_takeWalkr_6 11).trans (by decide +kernel))
theorem dX7_takeWalk_108 : decode cX7_takeWalk 108 = .ok (.getfield 94, 3) := dk_180_ (show cX7_takeWalk.data.toList[108]? = some 0xb4 from (LBX7_takeWalkr_6 12).trans (by decide +kernel)) (show cX7_takeWalk.data.toList[109]? = some 0x00 from (LBX7_takeWalkr_6 13).trans (by decide +kernel)) (show cX7_takeWalk.data.toList[110]? = some 0x5e from (LBX7_takeWalkr_6 14).trans (by decide +kernel)) (by decide)
theorem dX7_takeWalk_111 : decode cX7_takeWalk 111 = .ok (.getfield 115, 3) := dk_180_ (show cX7_takeWalk.data.toList[111]? = some 0xb4 from (LBX7_takeWalkr_6 15).trans (by decide +kernel)) (show cX7_takeWalk.data.toList[112]? = some 0x00 from (LBX7_takeWalkr_7 0).trans (by decide +kernel)) (show cX7_takeWalk.data.toList[113]? = some 0x73 from (LBX7_takeWalkr_7 1).trans (by decide +kernel)) (by decide)
theorem dX7_takeWalk_114 : decode cX7_takeWalk 114 = .ok (.iload_n 2, 1) := dk_28_ (show cX7_takeWalk.data.toList[114]? = some 0x1c from (LBX7_takeWalkr_7 2).trans (by decide +kernel))
theorem dX7_takeWalk_115 : decode cX7_takeWalk 115 = .ok (.iaload, 1) := dk_46_ (show cX7_takeWalk.data.toList[115]? = some 0x2e from (LBX7_takeWalkr_7 3).trans (by decide +kernel))
theorem dX7_takeWalk_116 : decode cX7_takeWalk 116 = .ok (.iconst 2, 1) := dk_5_ (show cX7_takeWalk.data.toList[116]? = some 0x05 from (LBX7_takeWalkr_7 4).trans (by decide +kernel))
theorem dX7_takeWalk_117 : decode cX7_takeWalk 117 = .ok (.if_icmp .lt 25, 3) := dk_161_ (show cX7_takeWalk.data.toList[117]? = some 0xa1 from (LBX7_takeWalkr_7 5).trans (by decide +kernel)) (show cX7_takeWalk.data.toList[118]? = some 0x00 from (LBX7_takeWalkr_7 6).trans (by decide +kernel)) (show cX7_takeWalk.data.toList[119]? = some 0x19 from (LBX7_takeWalkr_7 7).trans (by decide +kernel)) (by decide)
theorem dX7_takeWalk_120 : decode cX7_takeWalk 120 = .ok (.aload_n 0, 1) := dk_42_ (show cX7_takeWalk.data.toList[120]? = some 0x2a from (LBX7_takeWalkr_7 8).trans (by decide +kernel))
theorem dX7_takeWalk_121 : decode cX7_takeWalk 121 = .ok (.ldc 118, 2) := dk_18_ (show cX7_takeWalk.data.toList[121]? = some 0x12 from (LBX7_takeWalkr_7 9).trans (by decide +kernel)) (show cX7_takeWalk.data.toList[122]? = some 0x76 from (LBX7_takeWalkr_7 10).trans (by decide +kernel)) (by decide)
theorem dX7_takeWalk_123 : decode cX7_takeWalk 123 = .ok (.invokevirtual 67, 3) := dk_182_ (show cX7_takeWalk.data.toList[123]? = some 0xb6 from (LBX7_takeWalkr_7 11).trans (by decide +kernel)) (show cX7_takeWalk.data.toList[124]? = some 0x00 from (LBX7_takeWalkr_7 12).trans (by decide +kernel)) (show cX7_takeWalk.data.toList[125]? = some 0x43 from (LBX7_takeWalkr_7 13).trans (by decide +kernel)) (by decide)
theorem dX7_takeWalk_126 : decode cX7_takeWalk 126 = .ok (.ifCond .eq 16, 3) := dk_153_ (show cX7_takeWalk.data.toList[126]? = some 0x99 from (LBX7_takeWalkr_7 14).trans (by decide +kernel)) (show cX7_takeWalk.data.toList[127]? = some 0x00 from (LBX7_takeWalkr_7 15).trans (by decide +kernel)) (show cX7_takeWalk.data.toList[128]? = some 0x10 from (LBX7_takeWalkr_8 0).trans (by decide +kernel)) (by decide)
theorem dX7_takeWalk_129 : decode cX7_takeWalk 129 = .ok (.aload_n 0, 1) := dk_42_ (show cX7_takeWalk.data.toList[129]? = some 0x2a from (LBX7_takeWalkr_8 1).trans (by decide +kernel))
theorem dX7_takeWalk_130 : decode cX7_takeWalk 130 = .ok (.sipush (-9999), 3) := dk_17_ (show cX7_takeWalk.data.toList[130]? = some 0x11 from (LBX7_takeWalkr_8 2).trans (by decide +kernel)) (show cX7_takeWalk.data.toList[131]? = some 0xd8 from (LBX7_takeWalkr_8 3).trans (by decide +kernel)) (show cX7_takeWalk.data.toList[132]? = some 0xf1 from (LBX7_takeWalkr_8 4).trans (by decide +kernel)) (by decide)
theorem dX7_takeWalk_133 : decode cX7_takeWalk 133 = .ok (.sipush 9999, 3) := dk_17_ (show cX7_takeWalk.data.toList[133]? = some 0x11 from (LBX7_takeWalkr_8 5).trans (by decide +kernel)) (show cX7_takeWalk.data.toList[134]? = some 0x27 from (LBX7_takeWalkr_8 6).trans (by decide +kernel)) (show cX7_takeWalk.data.toList[135]? = some 0x0f from (LBX7_takeWalkr_8 7).trans (by decide +kernel)) (by decide)
theorem dX7_takeWalk_136 : decode cX7_takeWalk 136 = .ok (.invokevirtual 78, 3) := dk_182_ (show cX7_takeWalk.data.toList[136]? = some 0xb6 from (LBX7_takeWalkr_8 8).trans (by decide +kernel)) (show cX7_takeWalk.data.toList[137]? = some 0x00 from (LBX7_takeWalkr_8 9).trans (by decide +kernel)) (show cX7_takeWalk.data.toList[138]? = some 0x4e from (LBX7_takeWalkr_8 10).trans (by decide +kernel)) (by decide)
theorem dX7_takeWalk_139 : decode cX7_takeWalk 139 = .ok (.ifCond .ne 5, 3) := dk_154_ (show cX7_takeWalk.data.toList[139]? = some 0x9a from (LBX7_takeWalkr_8 11).trans (by decide +kernel)) (show cX7_takeWalk.data.toList[140]? = some 0x00 from (LBX7_takeWalkr_8 12).trans (by decide +kernel)) (show cX7_takeWalk.data.toList[141]? = some 0x05 from (LBX7_takeWalkr_8 13).trans (by decide +kernel)) (by decide)
theorem dX7_takeWalk_142 : decode cX7_takeWalk 142 = .ok (.iconst 0, 1) := dk_3_ (show cX7_takeWalk.data.toList[142]? = some 0x03 from (LBX7_takeWalkr_8 14).trans (by decide +kernel))
theorem dX7_takeWalk_143 : decode cX7_takeWalk 143 = .ok (.ireturn, 1) := dk_172_ (show cX7_takeWalk.data.toList[143]? = some 0xac from (LBX7_takeWalkr_8 15).trans (by decide +kernel))
theorem dX7_takeWalk_144 : decode cX7_takeWalk 144 = .ok (.aload_n 1, 1) := dk_43_ (show cX7_takeWalk.data.toList[144]? = some 0x2b from (LBX7_takeWalkr_9 0).trans (by decide +kernel))
theorem dX7_takeWalk_145 : decode cX7_takeWalk 145 = .ok (.getfield 120, 3) := dk_180_ (show cX7_takeWalk.data.toList[145]? = some 0xb4 from (LBX7_takeWalkr_9 1).trans (by decide +kernel)) (show cX7_takeWalk.data.toList[146]? = some 0x00 from (LBX7_takeWalkr_9 2).trans (by decide +kernel)) (show cX7_takeWalk.data.toList[147]? = some 0x78 from (LBX7_takeWalkr_9 3).trans (by decide +kernel)) (by decide)
theorem dX7_takeWalk_148 : decode cX7_takeWalk 148 = .ok (.iload_n 2, 1) := dk_28_ (show cX7_takeWalk.data.toList[148]? = some 0x1c from (LBX7_takeWalkr_9 4).trans (by decide +kernel))
theorem dX7_takeWalk_149 : decode cX7_takeWalk 149 = .ok (.aload_n 0, 1) := dk_42_ (show cX7_takeWalk.data.toList[149]? = some 0x2a from (LBX7_takeWalkr_9 5).trans (by decide +kernel))
theorem dX7_takeWalk_150 : decode cX7_takeWalk 150 = .ok (.getfield 31, 3) := dk_180_ (show cX7_takeWalk.data.toList[150]? = some 0xb4 from (LBX7_takeWalkr_9 6).trans (by decide +kernel)) (show cX7_takeWalk.data.toList[151]? = some 0x00 from (LBX7_takeWalkr_9 7).trans (by decide +kernel)) (show cX7_takeWalk.data.toList[152]? = some 0x1f from (LBX7_takeWalkr_9 8).trans (by decide +kernel)) (by decide)
theorem dX7_takeWalk_153 : decode cX7_takeWalk 153 = .ok (.iastore, 1) := dk_79_ (show cX7_takeWalk.data.toList[153]? = some 0x4f from (LBX7_takeWalkr_9 9).trans (by decide +kernel))
theorem dX7_takeWalk_154 : decode cX7_takeWalk 154 = .ok (.aload_n 0, 1) := dk_42_ (show cX7_takeWalk.data.toList[154]? = some 0x2a from (LBX7_takeWalkr_9 10).trans (by decide +kernel))
theorem dX7_takeWalk_155 : decode cX7_takeWalk 155 = .ok (.ldc 123, 2) := dk_18_ (show cX7_takeWalk.data.toList[155]? = some 0x12 from (LBX7_takeWalkr_9 11).trans (by decide +kernel)) (show cX7_takeWalk.data.toList[156]? = some 0x7b from (LBX7_takeWalkr_9 12).trans (by decide +kernel)) (by decide)
theorem dX7_takeWalk_157 : decode cX7_takeWalk 157 = .ok (.invokevirtual 67, 3) := dk_182_ (show cX7_takeWalk.data.toList[157]? = some 0xb6 from (LBX7_takeWalkr_9 13).trans (by decide +kernel)) (show cX7_takeWalk.data.toList[158]? = some 0x00 from (LBX7_takeWalkr_9 14).trans (by decide +kernel)) (show cX7_takeWalk.data.toList[159]? = some 0x43 from (LBX7_takeWalkr_9 15).trans (by decide +kernel)) (by decide)
theorem dX7_takeWalk_160 : decode cX7_takeWalk 160 = .ok (.ifCond .eq 12, 3) := dk_153_ (show cX7_takeWalk.data.toList[160]? = some 0x99 from (LBX7_takeWalkr_10 0).trans (by decide +kernel)) (show cX7_takeWalk.data.toList[161]? = some 0x00 from (LBX7_takeWalkr_10 1).trans (by decide +kernel)) (show cX7_takeWalk.data.toList[162]? = some 0x0c from (LBX7_takeWalkr_10 2).trans (by decide +kernel)) (by decide)
theorem dX7_takeWalk_163 : decode cX7_takeWalk 163 = .ok (.aload_n 0, 1) := dk_42_ (show cX7_takeWalk.data.toList[163]? = some 0x2a from (LBX7_takeWalkr_10 3).trans (by decide +kernel))
theorem dX7_takeWalk_164 : decode cX7_takeWalk 164 = .ok (.aload_n 1, 1) := dk_43_ (show cX7_takeWalk.data.toList[164]? = some 0x2b from (LBX7_takeWalkr_10 4).trans (by decide +kernel))
theorem dX7_takeWalk_165 : decode cX7_takeWalk 165 = .ok (.iload_n 2, 1) := dk_28_ (show cX7_takeWalk.data.toList[165]? = some 0x1c from (LBX7_takeWalkr_10 5).trans (by decide +kernel))
theorem dX7_takeWalk_166 : decode cX7_takeWalk 166 = .ok (.invokevirtual 125, 3) := dk_182_ (show cX7_takeWalk.data.toList[166]? = some 0xb6 from (LBX7_takeWalkr_10 6).trans (by decide +kernel)) (show cX7_takeWalk.data.toList[167]? = some 0x00 from (LBX7_takeWalkr_10 7).trans (by decide +kernel)) (show cX7_takeWalk.data.toList[168]? = some 0x7d from (LBX7_takeWalkr_10 8).trans (by decide +kernel)) (by decide)
theorem dX7_takeWalk_169 : decode cX7_takeWalk 169 = .ok (.ifCond .eq 7, 3) := dk_153_ (show cX7_takeWalk.data.toList[169]? = some 0x99 from (LBX7_takeWalkr_10 9).trans (by decide +kernel)) (show cX7_takeWalk.data.toList[170]? = some 0x00 from (LBX7_takeWalkr_10 10).trans (by decide +kernel)) (show cX7_takeWalk.data.toList[171]? = some 0x07 from (LBX7_takeWalkr_10 11).trans (by decide +kernel)) (by decide)
theorem dX7_takeWalk_172 : decode cX7_takeWalk 172 = .ok (.iconst 1, 1) := dk_4_ (show cX7_takeWalk.data.toList[172]? = some 0x04 from (LBX7_takeWalkr_10 12).trans (by decide +kernel))
theorem dX7_takeWalk_173 : decode cX7_takeWalk 173 = .ok (.goto 4, 3) := dk_167_ (show cX7_takeWalk.data.toList[173]? = some 0xa7 from (LBX7_takeWalkr_10 13).trans (by decide +kernel)) (show cX7_takeWalk.data.toList[174]? = some 0x00 from (LBX7_takeWalkr_10 14).trans (by decide +kernel)) (show cX7_takeWalk.data.toList[175]? = some 0x04 from (LBX7_takeWalkr_10 15).trans (by decide +kernel)) (by decide)
theorem dX7_takeWalk_176 : decode cX7_takeWalk 176 = .ok (.iconst 0, 1) := dk_3_ (show cX7_takeWalk.data.toList[176]? = some 0x03 from (LBX7_takeWalkr_11 0).trans (by decide +kernel))
theorem dX7_takeWalk_177 : decode cX7_takeWalk 177 = .ok (.ireturn, 1) := dk_172_ (show cX7_takeWalk.data.toList[177]? = some 0xac from (LBX7_takeWalkr_11 1).trans (by decide +kernel))
def LRX7_takeItem_4 : List UInt8 := []
def LBX7_takeItem_3 : List UInt8 := [0xa7, 0x00, 0x04, 0x03, 0xac]
def LRX7_takeItem_3 : List UInt8 := LBX7_takeItem_3 ++ LRX7_takeItem_4
def LBX7_takeItem_2 : List UInt8 := [0x37, 0xb6, 0x00, 0x2b, 0x99, 0x00, 0x0f, 0x2a, 0x2b, 0xb6, 0x00, 0x39, 0x99, 0x00, 0x07, 0x04]
def LRX7_takeItem_2 : List UInt8 := LBX7_takeItem_2 ++ LRX7_takeItem_3
def LBX7_takeItem_1 : List UInt8 := [0x12, 0x32, 0xb6, 0x00, 0x2b, 0x99, 0x00, 0x09, 0x2a, 0x2b, 0xb6, 0x00, 0x34, 0xac, 0x2a, 0x12]
def LRX7_takeItem_1 : List UInt8 := LBX7_takeItem_1 ++ LRX7_takeItem_2
def LBX7_takeItem_0 : List UInt8 := [0x2a, 0x12, 0x29, 0xb6, 0x00, 0x2b, 0x99, 0x00, 0x09, 0x2a, 0x2b, 0xb6, 0x00, 0x2f, 0xac, 0x2a]
def LRX7_takeItem_0 : List UInt8 := LBX7_takeItem_0 ++ LRX7_takeItem_1
set_option maxRecDepth 100000 in
theorem LBX7_takeItem_eq : cX7_takeItem.data.toList = LRX7_takeItem_0 := by decide +kernel
theorem LBX7_takeItemr_0 (k : Nat) : cX7_takeItem.data.toList[0 + k]? = LRX7_takeItem_0[k]? := by rw [LBX7_takeItem_eq, Nat.zero_add]
theorem LBX7_takeItemr_1 (k : Nat) : cX7_takeItem.data.toList[16 + k]? = LRX7_takeItem_1[k]? := by
  have h := LBX7_takeItemr_0 (16 + k)
  rw [show 0 + (16 + k) = 16 + k by omega] at h
  rw [h]
  exact (List.getElem?_append_right (l₁ := LBX7_takeItem_0) (l₂ := LRX7_takeItem_1) (show 16 ≤ 16 + k by omega)).trans (congrArg (fun i => LRX7_takeItem_1[i]?) (show 16 + k - 16 = k by omega))
theorem LBX7_takeItemr_2 (k : Nat) : cX7_takeItem.data.toList[32 + k]? = LRX7_takeItem_2[k]? := by
  have h := LBX7_takeItemr_1 (16 + k)
  rw [show 16 + (16 + k) = 32 + k by omega] at h
  rw [h]
  exact (List.getElem?_append_right (l₁ := LBX7_takeItem_1) (l₂ := LRX7_takeItem_2) (show 16 ≤ 16 + k by omega)).trans (congrArg (fun i => LRX7_takeItem_2[i]?) (show 16 + k - 16 = k by omega))
theorem LBX7_takeItemr_3 (k : Nat) : cX7_takeItem.data.toList[48 + k]? = LRX7_takeItem_3[k]? := by
  have h := LBX7_takeItemr_2 (16 + k)
  rw [show 32 + (16 + k) = 48 + k by omega] at h
  rw [h]
  exact (List.getElem?_append_right (l₁ := LBX7_takeItem_2) (l₂ := LRX7_takeItem_3) (show 16 ≤ 16 + k by omega)).trans (congrArg (fun i => LRX7_takeItem_3[i]?) (show 16 + k - 16 = k by omega))
theorem dX7_takeItem_0 : decode cX7_takeItem 0 = .ok (.aload_n 0, 1) := dk_42_ (show cX7_takeItem.data.toList[0]? = some 0x2a from (LBX7_takeItemr_0 0).trans (by decide +kernel))
theorem dX7_takeItem_1 : decode cX7_takeItem 1 = .ok (.ldc 41, 2) := dk_18_ (show cX7_takeItem.data.toList[1]? = some 0x12 from (LBX7_takeItemr_0 1).trans (by decide +kernel)) (show cX7_takeItem.data.toList[2]? = some 0x29 from (LBX7_takeItemr_0 2).trans (by decide +kernel)) (by decide)
theorem dX7_takeItem_3 : decode cX7_takeItem 3 = .ok (.invokevirtual 43, 3) := dk_182_ (show cX7_takeItem.data.toList[3]? = some 0xb6 from (LBX7_takeItemr_0 3).trans (by decide +kernel)) (show cX7_takeItem.data.toList[4]? = some 0x00 from (LBX7_takeItemr_0 4).trans (by decide +kernel)) (show cX7_takeItem.data.toList[5]? = some 0x2b from (LBX7_takeItemr_0 5).trans (by decide +kernel)) (by decide)
theorem dX7_takeItem_6 : decode cX7_takeItem 6 = .ok (.ifCond .eq 9, 3) := dk_153_ (show cX7_takeItem.data.toList[6]? = some 0x99 from (LBX7_takeItemr_0 6).trans (by decide +kernel)) (show cX7_takeItem.data.toList[7]? = some 0x00 from (LBX7_takeItemr_0 7).trans (by decide +kernel)) (show cX7_takeItem.data.toList[8]? = some 0x09 from (LBX7_takeItemr_0 8).trans (by decide +kernel)) (by decide)
theorem dX7_takeItem_9 : decode cX7_takeItem 9 = .ok (.aload_n 0, 1) := dk_42_ (show cX7_takeItem.data.toList[9]? = some 0x2a from (LBX7_takeItemr_0 9).trans (by decide +kernel))
theorem dX7_takeItem_10 : decode cX7_takeItem 10 = .ok (.aload_n 1, 1) := dk_43_ (show cX7_takeItem.data.toList[10]? = some 0x2b from (LBX7_takeItemr_0 10).trans (by decide +kernel))
theorem dX7_takeItem_11 : decode cX7_takeItem 11 = .ok (.invokevirtual 47, 3) := dk_182_ (show cX7_takeItem.data.toList[11]? = some 0xb6 from (LBX7_takeItemr_0 11).trans (by decide +kernel)) (show cX7_takeItem.data.toList[12]? = some 0x00 from (LBX7_takeItemr_0 12).trans (by decide +kernel)) (show cX7_takeItem.data.toList[13]? = some 0x2f from (LBX7_takeItemr_0 13).trans (by decide +kernel)) (by decide)
theorem dX7_takeItem_14 : decode cX7_takeItem 14 = .ok (.ireturn, 1) := dk_172_ (show cX7_takeItem.data.toList[14]? = some 0xac from (LBX7_takeItemr_0 14).trans (by decide +kernel))
theorem dX7_takeItem_15 : decode cX7_takeItem 15 = .ok (.aload_n 0, 1) := dk_42_ (show cX7_takeItem.data.toList[15]? = some 0x2a from (LBX7_takeItemr_0 15).trans (by decide +kernel))
theorem dX7_takeItem_16 : decode cX7_takeItem 16 = .ok (.ldc 50, 2) := dk_18_ (show cX7_takeItem.data.toList[16]? = some 0x12 from (LBX7_takeItemr_1 0).trans (by decide +kernel)) (show cX7_takeItem.data.toList[17]? = some 0x32 from (LBX7_takeItemr_1 1).trans (by decide +kernel)) (by decide)
theorem dX7_takeItem_18 : decode cX7_takeItem 18 = .ok (.invokevirtual 43, 3) := dk_182_ (show cX7_takeItem.data.toList[18]? = some 0xb6 from (LBX7_takeItemr_1 2).trans (by decide +kernel)) (show cX7_takeItem.data.toList[19]? = some 0x00 from (LBX7_takeItemr_1 3).trans (by decide +kernel)) (show cX7_takeItem.data.toList[20]? = some 0x2b from (LBX7_takeItemr_1 4).trans (by decide +kernel)) (by decide)
theorem dX7_takeItem_21 : decode cX7_takeItem 21 = .ok (.ifCond .eq 9, 3) := dk_153_ (show cX7_takeItem.data.toList[21]? = some 0x99 from (LBX7_takeItemr_1 5).trans (by decide +kernel)) (show cX7_takeItem.data.toList[22]? = some 0x00 from (LBX7_takeItemr_1 6).trans (by decide +kernel)) (show cX7_takeItem.data.toList[23]? = some 0x09 from (LBX7_takeItemr_1 7).trans (by decide +kernel)) (by decide)
theorem dX7_takeItem_24 : decode cX7_takeItem 24 = .ok (.aload_n 0, 1) := dk_42_ (show cX7_takeItem.data.toList[24]? = some 0x2a from (LBX7_takeItemr_1 8).trans (by decide +kernel))
theorem dX7_takeItem_25 : decode cX7_takeItem 25 = .ok (.aload_n 1, 1) := dk_43_ (show cX7_takeItem.data.toList[25]? = some 0x2b from (LBX7_takeItemr_1 9).trans (by decide +kernel))
theorem dX7_takeItem_26 : decode cX7_takeItem 26 = .ok (.invokevirtual 52, 3) := dk_182_ (show cX7_takeItem.data.toList[26]? = some 0xb6 from (LBX7_takeItemr_1 10).trans (by decide +kernel)) (show cX7_takeItem.data.toList[27]? = some 0x00 from (LBX7_takeItemr_1 11).trans (by decide +kernel)) (show cX7_takeItem.data.toList[28]? = some 0x34 from (LBX7_takeItemr_1 12).trans (by decide +kernel)) (by decide)
theorem dX7_takeItem_29 : decode cX7_takeItem 29 = .ok (.ireturn, 1) := dk_172_ (show cX7_takeItem.data.toList[29]? = some 0xac from (LBX7_takeItemr_1 13).trans (by decide +kernel))
theorem dX7_takeItem_30 : decode cX7_takeItem 30 = .ok (.aload_n 0, 1) := dk_42_ (show cX7_takeItem.data.toList[30]? = some 0x2a from (LBX7_takeItemr_1 14).trans (by decide +kernel))
theorem dX7_takeItem_31 : decode cX7_takeItem 31 = .ok (.ldc 55, 2) := dk_18_ (show cX7_takeItem.data.toList[31]? = some 0x12 from (LBX7_takeItemr_1 15).trans (by decide +kernel)) (show cX7_takeItem.data.toList[32]? = some 0x37 from (LBX7_takeItemr_2 0).trans (by decide +kernel)) (by decide)
theorem dX7_takeItem_33 : decode cX7_takeItem 33 = .ok (.invokevirtual 43, 3) := dk_182_ (show cX7_takeItem.data.toList[33]? = some 0xb6 from (LBX7_takeItemr_2 1).trans (by decide +kernel)) (show cX7_takeItem.data.toList[34]? = some 0x00 from (LBX7_takeItemr_2 2).trans (by decide +kernel)) (show cX7_takeItem.data.toList[35]? = some 0x2b from (LBX7_takeItemr_2 3).trans (by decide +kernel)) (by decide)
theorem dX7_takeItem_36 : decode cX7_takeItem 36 = .ok (.ifCond .eq 15, 3) := dk_153_ (show cX7_takeItem.data.toList[36]? = some 0x99 from (LBX7_takeItemr_2 4).trans (by decide +kernel)) (show cX7_takeItem.data.toList[37]? = some 0x00 from (LBX7_takeItemr_2 5).trans (by decide +kernel)) (show cX7_takeItem.data.toList[38]? = some 0x0f from (LBX7_takeItemr_2 6).trans (by decide +kernel)) (by decide)
theorem dX7_takeItem_39 : decode cX7_takeItem 39 = .ok (.aload_n 0, 1) := dk_42_ (show cX7_takeItem.data.toList[39]? = some 0x2a from (LBX7_takeItemr_2 7).trans (by decide +kernel))
theorem dX7_takeItem_40 : decode cX7_takeItem 40 = .ok (.aload_n 1, 1) := dk_43_ (show cX7_takeItem.data.toList[40]? = some 0x2b from (LBX7_takeItemr_2 8).trans (by decide +kernel))
theorem dX7_takeItem_41 : decode cX7_takeItem 41 = .ok (.invokevirtual 57, 3) := dk_182_ (show cX7_takeItem.data.toList[41]? = some 0xb6 from (LBX7_takeItemr_2 9).trans (by decide +kernel)) (show cX7_takeItem.data.toList[42]? = some 0x00 from (LBX7_takeItemr_2 10).trans (by decide +kernel)) (show cX7_takeItem.data.toList[43]? = some 0x39 from (LBX7_takeItemr_2 11).trans (by decide +kernel)) (by decide)
theorem dX7_takeItem_44 : decode cX7_takeItem 44 = .ok (.ifCond .eq 7, 3) := dk_153_ (show cX7_takeItem.data.toList[44]? = some 0x99 from (LBX7_takeItemr_2 12).trans (by decide +kernel)) (show cX7_takeItem.data.toList[45]? = some 0x00 from (LBX7_takeItemr_2 13).trans (by decide +kernel)) (show cX7_takeItem.data.toList[46]? = some 0x07 from (LBX7_takeItemr_2 14).trans (by decide +kernel)) (by decide)
theorem dX7_takeItem_47 : decode cX7_takeItem 47 = .ok (.iconst 1, 1) := dk_4_ (show cX7_takeItem.data.toList[47]? = some 0x04 from (LBX7_takeItemr_2 15).trans (by decide +kernel))
theorem dX7_takeItem_48 : decode cX7_takeItem 48 = .ok (.goto 4, 3) := dk_167_ (show cX7_takeItem.data.toList[48]? = some 0xa7 from (LBX7_takeItemr_3 0).trans (by decide +kernel)) (show cX7_takeItem.data.toList[49]? = some 0x00 from (LBX7_takeItemr_3 1).trans (by decide +kernel)) (show cX7_takeItem.data.toList[50]? = some 0x04 from (LBX7_takeItemr_3 2).trans (by decide +kernel)) (by decide)
theorem dX7_takeItem_51 : decode cX7_takeItem 51 = .ok (.iconst 0, 1) := dk_3_ (show cX7_takeItem.data.toList[51]? = some 0x03 from (LBX7_takeItemr_3 3).trans (by decide +kernel))
theorem dX7_takeItem_52 : decode cX7_takeItem 52 = .ok (.ireturn, 1) := dk_172_ (show cX7_takeItem.data.toList[52]? = some 0xac from (LBX7_takeItemr_3 4).trans (by decide +kernel))
def LRX7_tellTo_5 : List UInt8 := []
def LBX7_tellTo_4 : List UInt8 := [0xff, 0xcc, 0x02, 0x2a, 0xb4, 0x00, 0x16, 0x64, 0xac]
def LRX7_tellTo_4 : List UInt8 := LBX7_tellTo_4 ++ LRX7_tellTo_5
def LBX7_tellTo_3 : List UInt8 := [0x0a, 0x02, 0x2a, 0xb4, 0x00, 0x16, 0x64, 0xac, 0x2a, 0xb6, 0x00, 0x22, 0x84, 0x02, 0x01, 0xa7]
def LRX7_tellTo_3 : List UInt8 := LBX7_tellTo_3 ++ LRX7_tellTo_4
def LBX7_tellTo_2 : List UInt8 := [0x2a, 0xb4, 0x00, 0x13, 0x9a, 0x00, 0x05, 0x1c, 0xac, 0x2a, 0xb4, 0x00, 0x13, 0x06, 0x9f, 0x00]
def LRX7_tellTo_2 : List UInt8 := LBX7_tellTo_2 ++ LRX7_tellTo_3
def LBX7_tellTo_1 : List UInt8 := [0x34, 0x2a, 0x2b, 0xb6, 0x00, 0x25, 0x9a, 0x00, 0x0a, 0x02, 0x2a, 0xb4, 0x00, 0x16, 0x64, 0xac]
def LRX7_tellTo_1 : List UInt8 := LBX7_tellTo_1 ++ LRX7_tellTo_2
def LBX7_tellTo_0 : List UInt8 := [0x2a, 0x03, 0xb5, 0x00, 0x19, 0x2a, 0xb6, 0x00, 0x22, 0x04, 0x3d, 0x1c, 0x10, 0x78, 0xa3, 0x00]
def LRX7_tellTo_0 : List UInt8 := LBX7_tellTo_0 ++ LRX7_tellTo_1
set_option maxRecDepth 100000 in
theorem LBX7_tellTo_eq : cX7_tellTo.data.toList = LRX7_tellTo_0 := by decide +kernel
theorem LBX7_tellTor_0 (k : Nat) : cX7_tellTo.data.toList[0 + k]? = LRX7_tellTo_0[k]? := by rw [LBX7_tellTo_eq, Nat.zero_add]
theorem LBX7_tellTor_1 (k : Nat) : cX7_tellTo.data.toList[16 + k]? = LRX7_tellTo_1[k]? := by
  have h := LBX7_tellTor_0 (16 + k)
  rw [show 0 + (16 + k) = 16 + k by omega] at h
  rw [h]
  exact (List.getElem?_append_right (l₁ := LBX7_tellTo_0) (l₂ := LRX7_tellTo_1) (show 16 ≤ 16 + k by omega)).trans (congrArg (fun i => LRX7_tellTo_1[i]?) (show 16 + k - 16 = k by omega))
theorem LBX7_tellTor_2 (k : Nat) : cX7_tellTo.data.toList[32 + k]? = LRX7_tellTo_2[k]? := by
  have h := LBX7_tellTor_1 (16 + k)
  rw [show 16 + (16 + k) = 32 + k by omega] at h
  rw [h]
  exact (List.getElem?_append_right (l₁ := LBX7_tellTo_1) (l₂ := LRX7_tellTo_2) (show 16 ≤ 16 + k by omega)).trans (congrArg (fun i => LRX7_tellTo_2[i]?) (show 16 + k - 16 = k by omega))
theorem LBX7_tellTor_3 (k : Nat) : cX7_tellTo.data.toList[48 + k]? = LRX7_tellTo_3[k]? := by
  have h := LBX7_tellTor_2 (16 + k)
  rw [show 32 + (16 + k) = 48 + k by omega] at h
  rw [h]
  exact (List.getElem?_append_right (l₁ := LBX7_tellTo_2) (l₂ := LRX7_tellTo_3) (show 16 ≤ 16 + k by omega)).trans (congrArg (fun i => LRX7_tellTo_3[i]?) (show 16 + k - 16 = k by omega))
theorem LBX7_tellTor_4 (k : Nat) : cX7_tellTo.data.toList[64 + k]? = LRX7_tellTo_4[k]? := by
  have h := LBX7_tellTor_3 (16 + k)
  rw [show 48 + (16 + k) = 64 + k by omega] at h
  rw [h]
  exact (List.getElem?_append_right (l₁ := LBX7_tellTo_3) (l₂ := LRX7_tellTo_4) (show 16 ≤ 16 + k by omega)).trans (congrArg (fun i => LRX7_tellTo_4[i]?) (show 16 + k - 16 = k by omega))
theorem dX7_tellTo_0 : decode cX7_tellTo 0 = .ok (.aload_n 0, 1) := dk_42_ (show cX7_tellTo.data.toList[0]? = some 0x2a from (LBX7_tellTor_0 0).trans (by decide +kernel))
theorem dX7_tellTo_1 : decode cX7_tellTo 1 = .ok (.iconst 0, 1) := dk_3_ (show cX7_tellTo.data.toList[1]? = some 0x03 from (LBX7_tellTor_0 1).trans (by decide +kernel))
theorem dX7_tellTo_2 : decode cX7_tellTo 2 = .ok (.putfield 25, 3) := dk_181_ (show cX7_tellTo.data.toList[2]? = some 0xb5 from (LBX7_tellTor_0 2).trans (by decide +kernel)) (show cX7_tellTo.data.toList[3]? = some 0x00 from (LBX7_tellTor_0 3).trans (by decide +kernel)) (show cX7_tellTo.data.toList[4]? = some 0x19 from (LBX7_tellTor_0 4).trans (by decide +kernel)) (by decide)
theorem dX7_tellTo_5 : decode cX7_tellTo 5 = .ok (.aload_n 0, 1) := dk_42_ (show cX7_tellTo.data.toList[5]? = some 0x2a from (LBX7_tellTor_0 5).trans (by decide +kernel))
theorem dX7_tellTo_6 : decode cX7_tellTo 6 = .ok (.invokevirtual 34, 3) := dk_182_ (show cX7_tellTo.data.toList[6]? = some 0xb6 from (LBX7_tellTor_0 6).trans (by decide +kernel)) (show cX7_tellTo.data.toList[7]? = some 0x00 from (LBX7_tellTor_0 7).trans (by decide +kernel)) (show cX7_tellTo.data.toList[8]? = some 0x22 from (LBX7_tellTor_0 8).trans (by decide +kernel)) (by decide)
theorem dX7_tellTo_9 : decode cX7_tellTo 9 = .ok (.iconst 1, 1) := dk_4_ (show cX7_tellTo.data.toList[9]? = some 0x04 from (LBX7_tellTor_0 9).trans (by decide +kernel))
theorem dX7_tellTo_10 : decode cX7_tellTo 10 = .ok (.istore_n 2, 1) := dk_61_ (show cX7_tellTo.data.toList[10]? = some 0x3d from (LBX7_tellTor_0 10).trans (by decide +kernel))
theorem dX7_tellTo_11 : decode cX7_tellTo 11 = .ok (.iload_n 2, 1) := dk_28_ (show cX7_tellTo.data.toList[11]? = some 0x1c from (LBX7_tellTor_0 11).trans (by decide +kernel))
theorem dX7_tellTo_12 : decode cX7_tellTo 12 = .ok (.bipush 120, 2) := dk_16_ (show cX7_tellTo.data.toList[12]? = some 0x10 from (LBX7_tellTor_0 12).trans (by decide +kernel)) (show cX7_tellTo.data.toList[13]? = some 0x78 from (LBX7_tellTor_0 13).trans (by decide +kernel)) (by decide)
theorem dX7_tellTo_14 : decode cX7_tellTo 14 = .ok (.if_icmp .gt 52, 3) := dk_163_ (show cX7_tellTo.data.toList[14]? = some 0xa3 from (LBX7_tellTor_0 14).trans (by decide +kernel)) (show cX7_tellTo.data.toList[15]? = some 0x00 from (LBX7_tellTor_0 15).trans (by decide +kernel)) (show cX7_tellTo.data.toList[16]? = some 0x34 from (LBX7_tellTor_1 0).trans (by decide +kernel)) (by decide)
theorem dX7_tellTo_17 : decode cX7_tellTo 17 = .ok (.aload_n 0, 1) := dk_42_ (show cX7_tellTo.data.toList[17]? = some 0x2a from (LBX7_tellTor_1 1).trans (by decide +kernel))
theorem dX7_tellTo_18 : decode cX7_tellTo 18 = .ok (.aload_n 1, 1) := dk_43_ (show cX7_tellTo.data.toList[18]? = some 0x2b from (LBX7_tellTor_1 2).trans (by decide +kernel))
theorem dX7_tellTo_19 : decode cX7_tellTo 19 = .ok (.invokevirtual 37, 3) := dk_182_ (show cX7_tellTo.data.toList[19]? = some 0xb6 from (LBX7_tellTor_1 3).trans (by decide +kernel)) (show cX7_tellTo.data.toList[20]? = some 0x00 from (LBX7_tellTor_1 4).trans (by decide +kernel)) (show cX7_tellTo.data.toList[21]? = some 0x25 from (LBX7_tellTor_1 5).trans (by decide +kernel)) (by decide)
theorem dX7_tellTo_22 : decode cX7_tellTo 22 = .ok (.ifCond .ne 10, 3) := dk_154_ (show cX7_tellTo.data.toList[22]? = some 0x9a from (LBX7_tellTor_1 6).trans (by decide +kernel)) (show cX7_tellTo.data.toList[23]? = some 0x00 from (LBX7_tellTor_1 7).trans (by decide +kernel)) (show cX7_tellTo.data.toList[24]? = some 0x0a from (LBX7_tellTor_1 8).trans (by decide +kernel)) (by decide)
theorem dX7_tellTo_25 : decode cX7_tellTo 25 = .ok (.iconst (-1), 1) := dk_2_ (show cX7_tellTo.data.toList[25]? = some 0x02 from (LBX7_tellTor_1 9).trans (by decide +kernel))
theorem dX7_tellTo_26 : decode cX7_tellTo 26 = .ok (.aload_n 0, 1) := dk_42_ (show cX7_tellTo.data.toList[26]? = some 0x2a from (LBX7_tellTor_1 10).trans (by decide +kernel))
theorem dX7_tellTo_27 : decode cX7_tellTo 27 = .ok (.getfield 22, 3) := dk_180_ (show cX7_tellTo.data.toList[27]? = some 0xb4 from (LBX7_tellTor_1 11).trans (by decide +kernel)) (show cX7_tellTo.data.toList[28]? = some 0x00 from (LBX7_tellTor_1 12).trans (by decide +kernel)) (show cX7_tellTo.data.toList[29]? = some 0x16 from (LBX7_tellTor_1 13).trans (by decide +kernel)) (by decide)
theorem dX7_tellTo_30 : decode cX7_tellTo 30 = .ok (.isub, 1) := dk_100_ (show cX7_tellTo.data.toList[30]? = some 0x64 from (LBX7_tellTor_1 14).trans (by decide +kernel))
theorem dX7_tellTo_31 : decode cX7_tellTo 31 = .ok (.ireturn, 1) := dk_172_ (show cX7_tellTo.data.toList[31]? = some 0xac from (LBX7_tellTor_1 15).trans (by decide +kernel))
theorem dX7_tellTo_32 : decode cX7_tellTo 32 = .ok (.aload_n 0, 1) := dk_42_ (show cX7_tellTo.data.toList[32]? = some 0x2a from (LBX7_tellTor_2 0).trans (by decide +kernel))
theorem dX7_tellTo_33 : decode cX7_tellTo 33 = .ok (.getfield 19, 3) := dk_180_ (show cX7_tellTo.data.toList[33]? = some 0xb4 from (LBX7_tellTor_2 1).trans (by decide +kernel)) (show cX7_tellTo.data.toList[34]? = some 0x00 from (LBX7_tellTor_2 2).trans (by decide +kernel)) (show cX7_tellTo.data.toList[35]? = some 0x13 from (LBX7_tellTor_2 3).trans (by decide +kernel)) (by decide)
theorem dX7_tellTo_36 : decode cX7_tellTo 36 = .ok (.ifCond .ne 5, 3) := dk_154_ (show cX7_tellTo.data.toList[36]? = some 0x9a from (LBX7_tellTor_2 4).trans (by decide +kernel)) (show cX7_tellTo.data.toList[37]? = some 0x00 from (LBX7_tellTor_2 5).trans (by decide +kernel)) (show cX7_tellTo.data.toList[38]? = some 0x05 from (LBX7_tellTor_2 6).trans (by decide +kernel)) (by decide)
theorem dX7_tellTo_39 : decode cX7_tellTo 39 = .ok (.iload_n 2, 1) := dk_28_ (show cX7_tellTo.data.toList[39]? = some 0x1c from (LBX7_tellTor_2 7).trans (by decide +kernel))
theorem dX7_tellTo_40 : decode cX7_tellTo 40 = .ok (.ireturn, 1) := dk_172_ (show cX7_tellTo.data.toList[40]? = some 0xac from (LBX7_tellTor_2 8).trans (by decide +kernel))
theorem dX7_tellTo_41 : decode cX7_tellTo 41 = .ok (.aload_n 0, 1) := dk_42_ (show cX7_tellTo.data.toList[41]? = some 0x2a from (LBX7_tellTor_2 9).trans (by decide +kernel))
theorem dX7_tellTo_42 : decode cX7_tellTo 42 = .ok (.getfield 19, 3) := dk_180_ (show cX7_tellTo.data.toList[42]? = some 0xb4 from (LBX7_tellTor_2 10).trans (by decide +kernel)) (show cX7_tellTo.data.toList[43]? = some 0x00 from (LBX7_tellTor_2 11).trans (by decide +kernel)) (show cX7_tellTo.data.toList[44]? = some 0x13 from (LBX7_tellTor_2 12).trans (by decide +kernel)) (by decide)
theorem dX7_tellTo_45 : decode cX7_tellTo 45 = .ok (.iconst 3, 1) := dk_6_ (show cX7_tellTo.data.toList[45]? = some 0x06 from (LBX7_tellTor_2 13).trans (by decide +kernel))
theorem dX7_tellTo_46 : decode cX7_tellTo 46 = .ok (.if_icmp .eq 10, 3) := dk_159_ (show cX7_tellTo.data.toList[46]? = some 0x9f from (LBX7_tellTor_2 14).trans (by decide +kernel)) (show cX7_tellTo.data.toList[47]? = some 0x00 from (LBX7_tellTor_2 15).trans (by decide +kernel)) (show cX7_tellTo.data.toList[48]? = some 0x0a from (LBX7_tellTor_3 0).trans (by decide +kernel)) (by decide)
theorem dX7_tellTo_49 : decode cX7_tellTo 49 = .ok (.iconst (-1), 1) := dk_2_ (show cX7_tellTo.data.toList[49]? = some 0x02 from (LBX7_tellTor_3 1).trans (by decide +kernel))
theorem dX7_tellTo_50 : decode cX7_tellTo 50 = .ok (.aload_n 0, 1) := dk_42_ (show cX7_tellTo.data.toList[50]? = some 0x2a from (LBX7_tellTor_3 2).trans (by decide +kernel))
theorem dX7_tellTo_51 : decode cX7_tellTo 51 = .ok (.getfield 22, 3) := dk_180_ (show cX7_tellTo.data.toList[51]? = some 0xb4 from (LBX7_tellTor_3 3).trans (by decide +kernel)) (show cX7_tellTo.data.toList[52]? = some 0x00 from (LBX7_tellTor_3 4).trans (by decide +kernel)) (show cX7_tellTo.data.toList[53]? = some 0x16 from (LBX7_tellTor_3 5).trans (by decide +kernel)) (by decide)
theorem dX7_tellTo_54 : decode cX7_tellTo 54 = .ok (.isub, 1) := dk_100_ (show cX7_tellTo.data.toList[54]? = some 0x64 from (LBX7_tellTor_3 6).trans (by decide +kernel))
theorem dX7_tellTo_55 : decode cX7_tellTo 55 = .ok (.ireturn, 1) := dk_172_ (show cX7_tellTo.data.toList[55]? = some 0xac from (LBX7_tellTor_3 7).trans (by decide +kernel))
theorem dX7_tellTo_56 : decode cX7_tellTo 56 = .ok (.aload_n 0, 1) := dk_42_ (show cX7_tellTo.data.toList[56]? = some 0x2a from (LBX7_tellTor_3 8).trans (by decide +kernel))
theorem dX7_tellTo_57 : decode cX7_tellTo 57 = .ok (.invokevirtual 34, 3) := dk_182_ (show cX7_tellTo.data.toList[57]? = some 0xb6 from (LBX7_tellTor_3 9).trans (by decide +kernel)) (show cX7_tellTo.data.toList[58]? = some 0x00 from (LBX7_tellTor_3 10).trans (by decide +kernel)) (show cX7_tellTo.data.toList[59]? = some 0x22 from (LBX7_tellTor_3 11).trans (by decide +kernel)) (by decide)
theorem dX7_tellTo_60 : decode cX7_tellTo 60 = .ok (.iinc 2 1, 3) := dk_132_ (show cX7_tellTo.data.toList[60]? = some 0x84 from (LBX7_tellTor_3 12).trans (by decide +kernel)) (show cX7_tellTo.data.toList[61]? = some 0x02 from (LBX7_tellTor_3 13).trans (by decide +kernel)) (show cX7_tellTo.data.toList[62]? = some 0x01 from (LBX7_tellTor_3 14).trans (by decide +kernel)) (by decide) (by decide)
theorem dX7_tellTo_63 : decode cX7_tellTo 63 = .ok (.goto (-52), 3) := dk_167_ (show cX7_tellTo.data.toList[63]? = some 0xa7 from (LBX7_tellTor_3 15).trans (by decide +kernel)) (show cX7_tellTo.data.toList[64]? = some 0xff from (LBX7_tellTor_4 0).trans (by decide +kernel)) (show cX7_tellTo.data.toList[65]? = some 0xcc from (LBX7_tellTor_4 1).trans (by decide +kernel)) (by decide)
theorem dX7_tellTo_66 : decode cX7_tellTo 66 = .ok (.iconst (-1), 1) := dk_2_ (show cX7_tellTo.data.toList[66]? = some 0x02 from (LBX7_tellTor_4 2).trans (by decide +kernel))
theorem dX7_tellTo_67 : decode cX7_tellTo 67 = .ok (.aload_n 0, 1) := dk_42_ (show cX7_tellTo.data.toList[67]? = some 0x2a from (LBX7_tellTor_4 3).trans (by decide +kernel))
theorem dX7_tellTo_68 : decode cX7_tellTo 68 = .ok (.getfield 22, 3) := dk_180_ (show cX7_tellTo.data.toList[68]? = some 0xb4 from (LBX7_tellTor_4 4).trans (by decide +kernel)) (show cX7_tellTo.data.toList[69]? = some 0x00 from (LBX7_tellTor_4 5).trans (by decide +kernel)) (show cX7_tellTo.data.toList[70]? = some 0x16 from (LBX7_tellTor_4 6).trans (by decide +kernel)) (by decide)
theorem dX7_tellTo_71 : decode cX7_tellTo 71 = .ok (.isub, 1) := dk_100_ (show cX7_tellTo.data.toList[71]? = some 0x64 from (LBX7_tellTor_4 7).trans (by decide +kernel))
theorem dX7_tellTo_72 : decode cX7_tellTo 72 = .ok (.ireturn, 1) := dk_172_ (show cX7_tellTo.data.toList[72]? = some 0xac from (LBX7_tellTor_4 8).trans (by decide +kernel))
theorem uw321 : Cond.fieldLink RX7 60 "LongerBack$Land" "places" "I" ∈ wsU := ut1 (List.mem_of_getElem? (i := 58) rfl) rfl
theorem uw322 : Cond.methodLink RX7 67 yX7_takeWord ∈ wsU := ut4 (List.mem_of_getElem? (i := 85) rfl) rfl
theorem uw323 : Cond.instanceMethod yX7_takeWord ∈ wsU := ut4 (List.mem_of_getElem? (i := 87) rfl) rfl
theorem uw324 : Cond.selects RX7 yX7_takeWord yX7_takeWord ∈ wsU := us_sel (q := (yX7_takeWord, 7)) (List.mem_of_getElem? (i := 20) (by decide +kernel)) rfl
theorem uw325 : Cond.code yX7_takeWord cX7_takeWord 2 (some .boolean) ∈ wsU := ut4 (List.mem_of_getElem? (i := 88) rfl) rfl
theorem uw326 : Cond.methodLink RX7 70 yX7_takeNumber ∈ wsU := ut4 (List.mem_of_getElem? (i := 89) rfl) rfl
theorem uw327 : Cond.instanceMethod yX7_takeNumber ∈ wsU := ut4 (List.mem_of_getElem? (i := 91) rfl) rfl
theorem uw328 : Cond.selects RX7 yX7_takeNumber yX7_takeNumber ∈ wsU := us_sel (q := (yX7_takeNumber, 7)) (List.mem_of_getElem? (i := 21) (by decide +kernel)) rfl
theorem uw329 : Cond.code yX7_takeNumber cX7_takeNumber 2 (some .boolean) ∈ wsU := ut4 (List.mem_of_getElem? (i := 92) rfl) rfl
theorem uw330 : Cond.methodLink RX7 74 yX1_addPlace ∈ wsU := ut4 (List.mem_of_getElem? (i := 93) rfl) rfl
theorem uw331 : Cond.instanceMethod yX1_addPlace ∈ wsU := ut2 (List.mem_of_getElem? (i := 17) rfl) rfl
theorem uw332 : Cond.selects RX1 yX1_addPlace yX1_addPlace ∈ wsU := ut2 (List.mem_of_getElem? (i := 18) rfl) rfl
theorem uw333 : Cond.code yX1_addPlace cX1_addPlace 3 (some .int) ∈ wsU := ut2 (List.mem_of_getElem? (i := 19) rfl) rfl
theorem uw334 : Cond.methodLink RX7 78 yX7_takeMile ∈ wsU := ut4 (List.mem_of_getElem? (i := 99) rfl) rfl
theorem uw335 : Cond.instanceMethod yX7_takeMile ∈ wsU := ut4 (List.mem_of_getElem? (i := 101) rfl) rfl
theorem uw336 : Cond.selects RX7 yX7_takeMile yX7_takeMile ∈ wsU := us_sel (q := (yX7_takeMile, 7)) (List.mem_of_getElem? (i := 23) (by decide +kernel)) rfl
theorem uw337 : Cond.code yX7_takeMile cX7_takeMile 5 (some .boolean) ∈ wsU := ut4 (List.mem_of_getElem? (i := 102) rfl) rfl
theorem uw338 : Cond.methodLink RX7 84 yX1_setWay ∈ wsU := ut4 (List.mem_of_getElem? (i := 104) rfl) rfl
theorem uw339 : Cond.instanceMethod yX1_setWay ∈ wsU := ut2 (List.mem_of_getElem? (i := 51) rfl) rfl
theorem uw340 : Cond.selects RX1 yX1_setWay yX1_setWay ∈ wsU := ut2 (List.mem_of_getElem? (i := 52) rfl) rfl
theorem uw341 : Cond.code yX1_setWay cX1_setWay 6 none ∈ wsU := ut2 (List.mem_of_getElem? (i := 53) rfl) rfl
theorem uw342 : Cond.methodLink RX7 90 yX7_takeWayBack ∈ wsU := ut4 (List.mem_of_getElem? (i := 106) rfl) rfl
theorem uw343 : Cond.instanceMethod yX7_takeWayBack ∈ wsU := ut4 (List.mem_of_getElem? (i := 108) rfl) rfl
theorem uw344 : Cond.selects RX7 yX7_takeWayBack yX7_takeWayBack ∈ wsU := us_sel (q := (yX7_takeWayBack, 7)) (List.mem_of_getElem? (i := 24) (by decide +kernel)) rfl
theorem uw345 : Cond.code yX7_takeWayBack cX7_takeWayBack 4 (some .boolean) ∈ wsU := ut4 (List.mem_of_getElem? (i := 109) rfl) rfl
theorem uw346 : Cond.fieldLink RX7 129 "LongerBack$Land" "slacks" "[I" ∈ wsU := ut1 (List.mem_of_getElem? (i := 82) rfl) rfl
theorem uw347 : Cond.fieldLink RX7 94 "LongerBack$Land" "walks" "LLongerBack$Rows;" ∈ wsU := ut1 (List.mem_of_getElem? (i := 75) rfl) rfl
theorem uw348 : Cond.methodLink RX7 98 yX3_isFull ∈ wsU := ut4 (List.mem_of_getElem? (i := 115) rfl) rfl
theorem uw349 : Cond.instanceMethod yX3_isFull ∈ wsU := ut2 (List.mem_of_getElem? (i := 172) rfl) rfl
theorem uw350 : Cond.selects RX3 yX3_isFull yX3_isFull ∈ wsU := ut2 (List.mem_of_getElem? (i := 173) rfl) rfl
theorem uw351 : Cond.code yX3_isFull cX3_isFull 1 (some .boolean) ∈ wsU := ut2 (List.mem_of_getElem? (i := 174) rfl) rfl
theorem uw352 : Cond.methodLink RX7 104 yX1_addWalk ∈ wsU := ut4 (List.mem_of_getElem? (i := 116) rfl) rfl
theorem uw353 : Cond.instanceMethod yX1_addWalk ∈ wsU := ut3 (List.mem_of_getElem? (i := 116) rfl) rfl
theorem uw354 : Cond.selects RX1 yX1_addWalk yX1_addWalk ∈ wsU := ut3 (List.mem_of_getElem? (i := 117) rfl) rfl
theorem uw355 : Cond.code yX1_addWalk cX1_addWalk 5 (some .int) ∈ wsU := ut3 (List.mem_of_getElem? (i := 118) rfl) rfl
theorem uw356 : Cond.fieldLink RX7 115 "LongerBack$Rows" "lengths" "[I" ∈ wsU := ut1 (List.mem_of_getElem? (i := 43) rfl) rfl
theorem uw357 : Cond.fieldLink RX7 120 "LongerBack$Land" "totals" "[I" ∈ wsU := ut1 (List.mem_of_getElem? (i := 79) rfl) rfl
theorem uw358 : Cond.methodLink RX7 125 yX7_takeSlack ∈ wsU := ut4 (List.mem_of_getElem? (i := 121) rfl) rfl
theorem uw359 : Cond.instanceMethod yX7_takeSlack ∈ wsU := ut4 (List.mem_of_getElem? (i := 123) rfl) rfl
theorem uw360 : Cond.selects RX7 yX7_takeSlack yX7_takeSlack ∈ wsU := us_sel (q := (yX7_takeSlack, 7)) (List.mem_of_getElem? (i := 26) (by decide +kernel)) rfl
theorem uw361 : Cond.code yX7_takeSlack cX7_takeSlack 3 (some .boolean) ∈ wsU := ut4 (List.mem_of_getElem? (i := 124) rfl) rfl
theorem uw362 : Cond.methodLink RX7 108 yX3_lastStop ∈ wsU := ut4 (List.mem_of_getElem? (i := 117) rfl) rfl
theorem uw363 : Cond.methodLink RX7 111 yX3_append ∈ wsU := ut4 (List.mem_of_getElem? (i := 118) rfl) rfl
theorem uw364 : Cond.methodLink RX7 47 yX7_takePlace ∈ wsU := ut4 (List.mem_of_getElem? (i := 80) rfl) rfl
theorem uw365 : Cond.instanceMethod yX7_takePlace ∈ wsU := ut4 (List.mem_of_getElem? (i := 82) rfl) rfl
theorem uw366 : Cond.selects RX7 yX7_takePlace yX7_takePlace ∈ wsU := us_sel (q := (yX7_takePlace, 7)) (List.mem_of_getElem? (i := 19) (by decide +kernel)) rfl
theorem uw367 : Cond.code yX7_takePlace cX7_takePlace 3 (some .boolean) ∈ wsU := ut4 (List.mem_of_getElem? (i := 83) rfl) rfl
theorem uw368 : Cond.methodLink RX7 52 yX7_takeWay ∈ wsU := ut4 (List.mem_of_getElem? (i := 95) rfl) rfl
theorem uw369 : Cond.instanceMethod yX7_takeWay ∈ wsU := ut4 (List.mem_of_getElem? (i := 97) rfl) rfl
theorem uw370 : Cond.selects RX7 yX7_takeWay yX7_takeWay ∈ wsU := us_sel (q := (yX7_takeWay, 7)) (List.mem_of_getElem? (i := 22) (by decide +kernel)) rfl
theorem uw371 : Cond.code yX7_takeWay cX7_takeWay 6 (some .boolean) ∈ wsU := ut4 (List.mem_of_getElem? (i := 98) rfl) rfl
theorem uw372 : Cond.methodLink RX7 57 yX7_takeWalk ∈ wsU := ut4 (List.mem_of_getElem? (i := 111) rfl) rfl
theorem uw373 : Cond.instanceMethod yX7_takeWalk ∈ wsU := ut4 (List.mem_of_getElem? (i := 113) rfl) rfl
theorem uw374 : Cond.selects RX7 yX7_takeWalk yX7_takeWalk ∈ wsU := us_sel (q := (yX7_takeWalk, 7)) (List.mem_of_getElem? (i := 25) (by decide +kernel)) rfl
theorem uw375 : Cond.code yX7_takeWalk cX7_takeWalk 4 (some .boolean) ∈ wsU := ut4 (List.mem_of_getElem? (i := 114) rfl) rfl
theorem uw376 : Cond.methodLink RX7 37 yX7_takeItem ∈ wsU := ut4 (List.mem_of_getElem? (i := 23) rfl) rfl
theorem uw377 : Cond.instanceMethod yX7_takeItem ∈ wsU := ut4 (List.mem_of_getElem? (i := 25) rfl) rfl
theorem uw378 : Cond.selects RX7 yX7_takeItem yX7_takeItem ∈ wsU := us_sel (q := (yX7_takeItem, 7)) (List.mem_of_getElem? (i := 17) (by decide +kernel)) rfl
theorem uw379 : Cond.code yX7_takeItem cX7_takeItem 2 (some .boolean) ∈ wsU := ut4 (List.mem_of_getElem? (i := 26) rfl) rfl
theorem kf_X7_60 : xWF RX7 60 1 0 RX1 TX1 10 := ⟨inUX1, rfl, by decide, uw321⟩
theorem kv_X7_67 : xWV RX7 67 RX7 yX7_takeWord cX7_takeWord 2 (some .boolean) 1 := ⟨⟨uw322, uw323, uw324, uw299, uw325⟩, by decide +kernel⟩
theorem kv_X7_70 : xWV RX7 70 RX7 yX7_takeNumber cX7_takeNumber 2 (some .boolean) 1 := ⟨⟨uw326, uw327, uw328, uw299, uw329⟩, by decide +kernel⟩
theorem kv_X7_74 : xWV RX7 74 RX1 yX1_addPlace cX1_addPlace 3 (some .int) 1 := ⟨⟨uw330, uw331, uw332, uw19, uw333⟩, by decide +kernel⟩
theorem kv_X7_78 : xWV RX7 78 RX7 yX7_takeMile cX7_takeMile 5 (some .boolean) 2 := ⟨⟨uw334, uw335, uw336, uw299, uw337⟩, by decide +kernel⟩
theorem kv_X7_84 : xWV RX7 84 RX1 yX1_setWay cX1_setWay 6 none 4 := ⟨⟨uw338, uw339, uw340, uw19, uw341⟩, by decide +kernel⟩
theorem kv_X7_90 : xWV RX7 90 RX7 yX7_takeWayBack cX7_takeWayBack 4 (some .boolean) 3 := ⟨⟨uw342, uw343, uw344, uw299, uw345⟩, by decide +kernel⟩
theorem kf_X7_129 : xWF RX7 129 1 9 RX1 TX1 10 := ⟨inUX1, rfl, by decide, uw346⟩
theorem kf_X7_94 : xWF RX7 94 1 7 RX1 TX1 10 := ⟨inUX1, rfl, by decide, uw347⟩
theorem kv_X7_98 : xWV RX7 98 RX3 yX3_isFull cX3_isFull 1 (some .boolean) 0 := ⟨⟨uw348, uw349, uw350, uw42, uw351⟩, by decide +kernel⟩
theorem kv_X7_104 : xWV RX7 104 RX1 yX1_addWalk cX1_addWalk 5 (some .int) 3 := ⟨⟨uw352, uw353, uw354, uw19, uw355⟩, by decide +kernel⟩
theorem kf_X7_115 : xWF RX7 115 3 1 RX3 TX3 3 := ⟨inUX3, rfl, by decide, uw356⟩
theorem kf_X7_120 : xWF RX7 120 1 8 RX1 TX1 10 := ⟨inUX1, rfl, by decide, uw357⟩
theorem kv_X7_125 : xWV RX7 125 RX7 yX7_takeSlack cX7_takeSlack 3 (some .boolean) 2 := ⟨⟨uw358, uw359, uw360, uw299, uw361⟩, by decide +kernel⟩
theorem kv_X7_108 : xWV RX7 108 RX3 yX3_lastStop cX3_lastStop 2 (some .int) 1 := ⟨⟨uw362, uw155, uw156, uw42, uw157⟩, by decide +kernel⟩
theorem kv_X7_111 : xWV RX7 111 RX3 yX3_append cX3_append 3 (some .int) 2 := ⟨⟨uw363, uw40, uw41, uw42, uw43⟩, by decide +kernel⟩
theorem kv_X7_47 : xWV RX7 47 RX7 yX7_takePlace cX7_takePlace 3 (some .boolean) 1 := ⟨⟨uw364, uw365, uw366, uw299, uw367⟩, by decide +kernel⟩
theorem kv_X7_52 : xWV RX7 52 RX7 yX7_takeWay cX7_takeWay 6 (some .boolean) 1 := ⟨⟨uw368, uw369, uw370, uw299, uw371⟩, by decide +kernel⟩
theorem kv_X7_57 : xWV RX7 57 RX7 yX7_takeWalk cX7_takeWalk 4 (some .boolean) 1 := ⟨⟨uw372, uw373, uw374, uw299, uw375⟩, by decide +kernel⟩
theorem kv_X7_37 : xWV RX7 37 RX7 yX7_takeItem cX7_takeItem 2 (some .boolean) 1 := ⟨⟨uw376, uw377, uw378, uw299, uw379⟩, by decide +kernel⟩
set_option maxHeartbeats 4000000 in
set_option maxRecDepth 100000 in
theorem c_X7_takePlace (l : Launch) (D : va_G) (cI cJ cZ cS : ClassId) (ta : Nat) (sa sv : Nat → Nat) (sz : Nat) (h0 : Nat) (ab : Nat) (z : Nat) (u9 : Nat) (t9 : Int32) (by9 : Nat → Int32) (q1 : Nat) (be : Nat) (bl : Nat) (bu : Nat) (bo : Nat) (br : Nat) (bk : Nat) (bw : Nat) (btt : Nat) (bss : Nat) (P : Nat) (er : Nat → Int32) (hz : z ≤ 120) (hu9 : u9 ≤ z) (hP0 : P ≤ 10) : Met l yX7_takePlace (Cond.code yX7_takePlace cX7_takePlace 3 (some .boolean) :: wsU) ({ frames := 6, cells := 0, slots := 0, locals := 128 }) (va_Pc [.ref h0, .ref q1] (XW D (xT cI cJ cZ cS) ta sa sv [(h0, .inr (7, [.int (nI (z)), .ref ab, .int (kd (bA by9 z) z (nf (bA by9 z) z u9)), .int (nI (nf (bA by9 z) z u9)), .int (nI (nx (bA by9 z) z u9)), .int (nI (cv (bA by9 z) z (nf (bA by9 z) z u9) (nx (bA by9 z) z u9))), .int t9])), (ab, .inl (cI, 120, .inl by9)), (q1, .inr (1, [.int (nI (P)), .ref be, .ref bl, .ref bu, .ref bo, .ref br, .ref bk, .ref bw, .ref btt, .ref bss])), (be, .inl (cI, 10, .inl er))] sz)) (XQi (fun (r : Int32) (u : Nat × Int32 × Nat × (Nat → Int32)) => match u with | (u2, t2, P2, e2) => ((r = 1 ∧ (spPl (bA by9 z) z u9 P = Sum.inr u2) ∧ (P2 = P + 1)) ∨ (r = 0 ∧ (spPl (bA by9 z) z u9 P = Sum.inl u2))) ∧ (u2 ≤ z) ∧ (u9 ≤ u2) ∧ (cv (bA by9 z) z (nf (bA by9 z) z u2) (nx (bA by9 z) z u2) ≤ 10000) ∧ (nx (bA by9 z) z u2 ≤ z) ∧ (P2 ≤ 10)) D (fun (u : Nat × Int32 × Nat × (Nat → Int32)) => match u with | (u2, t2, P2, e2) => [(h0, .inr (7, [.int (nI (z)), .ref ab, .int (kd (bA by9 z) z (nf (bA by9 z) z u2)), .int (nI (nf (bA by9 z) z u2)), .int (nI (nx (bA by9 z) z u2)), .int (nI (cv (bA by9 z) z (nf (bA by9 z) z u2) (nx (bA by9 z) z u2))), .int t2])), (ab, .inl (cI, 120, .inl by9)), (q1, .inr (1, [.int (nI (P2)), .ref be, .ref bl, .ref bu, .ref bo, .ref br, .ref bk, .ref bw, .ref btt, .ref bss])), (be, .inl (cI, 10, .inl e2))]) (va_A [(h0, .inr (7, [.int (nI (z)), .ref ab, .int (kd (bA by9 z) z (nf (bA by9 z) z u9)), .int (nI (nf (bA by9 z) z u9)), .int (nI (nx (bA by9 z) z u9)), .int (nI (cv (bA by9 z) z (nf (bA by9 z) z u9) (nx (bA by9 z) z u9))), .int t9])), (ab, .inl (cI, 120, .inl by9)), (q1, .inr (1, [.int (nI (P)), .ref be, .ref bl, .ref bu, .ref bo, .ref br, .ref bk, .ref bw, .ref btt, .ref bss])), (be, .inl (cI, 10, .inl er))] sz)) 0 0 (va_A [(h0, .inr (7, [.int (nI (z)), .ref ab, .int (kd (bA by9 z) z (nf (bA by9 z) z u9)), .int (nI (nf (bA by9 z) z u9)), .int (nI (nx (bA by9 z) z u9)), .int (nI (cv (bA by9 z) z (nf (bA by9 z) z u9) (nx (bA by9 z) z u9))), .int t9])), (ab, .inl (cI, 120, .inl by9)), (q1, .inr (1, [.int (nI (P)), .ref be, .ref bl, .ref bu, .ref bo, .ref br, .ref bk, .ref bw, .ref btt, .ref bss])), (be, .inl (cI, 10, .inl er))] sz) := by
  refine xh (QA := fun A => XQi (fun (r : Int32) (u : Nat × Int32 × Nat × (Nat → Int32)) => match u with | (u2, t2, P2, e2) => ((r = 1 ∧ (spPl (bA by9 z) z u9 P = Sum.inr u2) ∧ (P2 = P + 1)) ∨ (r = 0 ∧ (spPl (bA by9 z) z u9 P = Sum.inl u2))) ∧ (u2 ≤ z) ∧ (u9 ≤ u2) ∧ (cv (bA by9 z) z (nf (bA by9 z) z u2) (nx (bA by9 z) z u2) ≤ 10000) ∧ (nx (bA by9 z) z u2 ≤ z) ∧ (P2 ≤ 10)) D (fun (u : Nat × Int32 × Nat × (Nat → Int32)) => match u with | (u2, t2, P2, e2) => [(h0, .inr (7, [.int (nI (z)), .ref ab, .int (kd (bA by9 z) z (nf (bA by9 z) z u2)), .int (nI (nf (bA by9 z) z u2)), .int (nI (nx (bA by9 z) z u2)), .int (nI (cv (bA by9 z) z (nf (bA by9 z) z u2) (nx (bA by9 z) z u2))), .int t2])), (ab, .inl (cI, 120, .inl by9)), (q1, .inr (1, [.int (nI (P2)), .ref be, .ref bl, .ref bu, .ref bo, .ref br, .ref bk, .ref bw, .ref btt, .ref bss])), (be, .inl (cI, 10, .inl e2))]) A) (fr := fun A => A) (by decide) (Nat.le_of_ble_eq_true rfl) ?_
  intro p e s m below meth c ls A hF hr hlk hin hsz hP hK hD hN hZ hA hS hl
  have hF : CallFix p m c cX7_takePlace 3 s _ _ RX7 := hF
  have hx := hF.1
  have hb := hF.2.1
  have hml := hF.2.2.1
  have hown := hF.2.2.2.1
  have hu : ∀ w ∈ wsU, w.before _ s = true := fun w h => hF.2.2.2.2 w (List.mem_cons_of_mem _ h)
  have hl : lv_has ls 3 [(0, .ref h0), (1, .ref q1)] := hl
  have htk := tk_le (b := (bA by9 z)) hu9
  refine lv_aload_n hx hb dX7_takePlace_0 rfl (lv_at hl 1 rfl) ?_
  refine xg hF kf_X7_60 hK hP 2 rfl rfl dX7_takePlace_1 ?_
  refine lv_bipush (v := 10) hx hb dX7_takePlace_4 (by decide) ?_
  refine lv_icmp_lt (tgt := 11) hx hb dX7_takePlace_6 (by decide) (fun c_1 => ?_) (fun c_1 => ?_)
  · skip
    have nc_1 : P < 10 := xn_lt (a := P) (b := 10) (by omega) (by omega) c_1
    refine lv_aload_n hx hb dX7_takePlace_11 rfl (lv_at hl 0 rfl) ?_
    refine xc_Vv (wr := [(q1, .inr (1, [.int (nI (P)), .ref be, .ref bl, .ref bu, .ref bo, .ref br, .ref bk, .ref bw, .ref btt, .ref bss])), (be, .inl (cI, 10, .inl er))]) hF (c_X7_step l D cI cJ cZ cS ta sa sv s.heap.size h0 ab z (nf (bA by9 z) z u9) (nx (bA by9 z) z u9) (cv (bA by9 z) z (nf (bA by9 z) z u9) (nx (bA by9 z) z u9)) (kd (bA by9 z) z (nf (bA by9 z) z u9)) t9 by9 (by omega) (by omega)) kv_X7_34 ⟨rfl, rfl, Nat.le_of_ble_eq_true rfl, Nat.le_of_ble_eq_true rfl⟩ ⟨Nat.le_of_ble_eq_true rfl, Nat.le_of_ble_eq_true rfl⟩ hK hN hZ hP hD hS hA [0, 1] [2, 3] rfl rfl rfl rfl (by decide) 0 rfl rfl rfl rfl hl.1 rfl (Nat.le_of_ble_eq_true rfl) dX7_takePlace_12 (fun u_r_2 H locs hw_r_2 hP hD hS => ?_)
    obtain ⟨s2_3, x2_4, v2_5, tk2_6⟩ := u_r_2
    try dsimp only at hw_r_2
    obtain ⟨i_7, i_8, i_9, i_10, i_11, i_12, i_13, i_14⟩ := hw_r_2
    subst i_7
    subst i_8
    subst i_9
    subst i_10
    have hP : va_P D vwCl [(q1, .inr (1, [.int (nI (P)), .ref be, .ref bl, .ref bu, .ref bo, .ref br, .ref bk, .ref bw, .ref btt, .ref bss])), (be, .inl (cI, 10, .inl er)), (h0, .inr (7, [.int (nI (z)), .ref ab, .int (kd (bA by9 z) z (nf (bA by9 z) z (nx (bA by9 z) z u9))), .int (nI ((nf (bA by9 z) z (nx (bA by9 z) z u9)))), .int (nI ((nx (bA by9 z) z (nx (bA by9 z) z u9)))), .int (nI ((cv (bA by9 z) z (nf (bA by9 z) z (nx (bA by9 z) z u9)) (nx (bA by9 z) z (nx (bA by9 z) z u9))))), .int t9])), (ab, .inl (cI, 120, .inl by9))] H := hP
    have hD : va_D A [(q1, .inr (1, [.int (nI (P)), .ref be, .ref bl, .ref bu, .ref bo, .ref br, .ref bk, .ref bw, .ref btt, .ref bss])), (be, .inl (cI, 10, .inl er)), (h0, .inr (7, [.int (nI (z)), .ref ab, .int (kd (bA by9 z) z (nf (bA by9 z) z (nx (bA by9 z) z u9))), .int (nI ((nf (bA by9 z) z (nx (bA by9 z) z u9)))), .int (nI ((nx (bA by9 z) z (nx (bA by9 z) z u9)))), .int (nI ((cv (bA by9 z) z (nf (bA by9 z) z (nx (bA by9 z) z u9)) (nx (bA by9 z) z (nx (bA by9 z) z u9))))), .int t9])), (ab, .inl (cI, 120, .inl by9))] := hD
    refine lv_iconst (v := 0) hx hb dX7_takePlace_15 (by decide) ?_
    refine lv_istore_n (lv' := [(2, .int 0), (0, .ref h0), (1, .ref q1)]) hx hb dX7_takePlace_16 rfl hl (by decide) rfl (fun ls hl => ?_)
    refine lv_aload_n hx hb dX7_takePlace_17 rfl (lv_at hl 1 rfl) ?_
    refine va_ldcS (tx := "errands") (q := sa 3) hx hb hown (hN.2.2 (65, "errands", 3) (by decide)) dX7_takePlace_18 ?_
    refine xc_Vi (wr := [(q1, .inr (1, [.int (nI (P)), .ref be, .ref bl, .ref bu, .ref bo, .ref br, .ref bk, .ref bw, .ref btt, .ref bss])), (be, .inl (cI, 10, .inl er))]) hF (c_X7_takeWord l D cI cJ cZ cS ta sa sv H.size h0 ab z (nx (bA by9 z) z u9) t9 by9 3 (by omega) (by omega) (by omega)) kv_X7_67 ⟨rfl, rfl, Nat.le_of_ble_eq_true rfl, Nat.le_of_ble_eq_true rfl⟩ ⟨Nat.le_of_ble_eq_true rfl, Nat.le_of_ble_eq_true rfl⟩ hK hN hZ hP hD hS hA [2, 3] [0, 1] rfl rfl rfl rfl (by decide) 0 rfl rfl rfl rfl hl.1 rfl (Nat.le_of_ble_eq_true rfl) dX7_takePlace_20 (fun r_15 u_r_15 H locs hw_r_15 hP hD hS => ?_)
    obtain ⟨u2_16, t2_17⟩ := u_r_15
    try dsimp only at hw_r_15
    obtain ⟨hw_r_15, i_18, i_19, i_20, i_21⟩ := hw_r_15
    have hP : va_P D vwCl [(q1, .inr (1, [.int (nI (P)), .ref be, .ref bl, .ref bu, .ref bo, .ref br, .ref bk, .ref bw, .ref btt, .ref bss])), (be, .inl (cI, 10, .inl er)), (h0, .inr (7, [.int (nI (z)), .ref ab, .int (kd (bA by9 z) z (nf (bA by9 z) z u2_16)), .int (nI (nf (bA by9 z) z u2_16)), .int (nI (nx (bA by9 z) z u2_16)), .int (nI (cv (bA by9 z) z (nf (bA by9 z) z u2_16) (nx (bA by9 z) z u2_16))), .int t2_17])), (ab, .inl (cI, 120, .inl by9))] H := hP
    have hD : va_D A [(q1, .inr (1, [.int (nI (P)), .ref be, .ref bl, .ref bu, .ref bo, .ref br, .ref bk, .ref bw, .ref btt, .ref bss])), (be, .inl (cI, 10, .inl er)), (h0, .inr (7, [.int (nI (z)), .ref ab, .int (kd (bA by9 z) z (nf (bA by9 z) z u2_16)), .int (nI (nf (bA by9 z) z u2_16)), .int (nI (nx (bA by9 z) z u2_16)), .int (nI (cv (bA by9 z) z (nf (bA by9 z) z u2_16) (nx (bA by9 z) z u2_16))), .int t2_17])), (ab, .inl (cI, 120, .inl by9))] := hD
    rcases hw_r_15 with ⟨rfl, h_22, h_23, h_24⟩ | ⟨rfl, h_25, h_26, h_27⟩
    · skip
      subst h_23
      replace h_24 := h_24.symm; subst h_24
      refine lv_if_eq (tgt := 42) hx hb dX7_takePlace_23 (by decide) (fun c_28 => absurd c_28 (by decide)) (fun c_28 => ?_)
      refine lv_aload_n hx hb dX7_takePlace_26 rfl (lv_at hl 1 rfl) ?_
      refine lv_bipush (v := 99) hx hb dX7_takePlace_27 (by decide) ?_
      refine xc_Vi (wr := [(q1, .inr (1, [.int (nI (P)), .ref be, .ref bl, .ref bu, .ref bo, .ref br, .ref bk, .ref bw, .ref btt, .ref bss])), (be, .inl (cI, 10, .inl er))]) hF (c_X7_takeNumber l D cI cJ cZ cS ta sa sv H.size h0 ab z (nx (bA by9 z) z (nx (bA by9 z) z u9)) t9 by9 99 (by omega) (by omega)) kv_X7_70 ⟨rfl, rfl, Nat.le_of_ble_eq_true rfl, Nat.le_of_ble_eq_true rfl⟩ ⟨Nat.le_of_ble_eq_true rfl, Nat.le_of_ble_eq_true rfl⟩ hK hN hZ hP hD hS hA [2, 3] [0, 1] rfl rfl rfl rfl (by decide) 0 rfl rfl rfl rfl hl.1 rfl (Nat.le_of_ble_eq_true rfl) dX7_takePlace_29 (fun r_29 u_r_29 H locs hw_r_29 hP hD hS => ?_)
      obtain ⟨u2_30, t2_31⟩ := u_r_29
      try dsimp only at hw_r_29
      obtain ⟨hw_r_29, i_32, i_33, i_34, i_35⟩ := hw_r_29
      have hP : va_P D vwCl [(q1, .inr (1, [.int (nI (P)), .ref be, .ref bl, .ref bu, .ref bo, .ref br, .ref bk, .ref bw, .ref btt, .ref bss])), (be, .inl (cI, 10, .inl er)), (h0, .inr (7, [.int (nI (z)), .ref ab, .int (kd (bA by9 z) z (nf (bA by9 z) z u2_30)), .int (nI (nf (bA by9 z) z u2_30)), .int (nI (nx (bA by9 z) z u2_30)), .int (nI (cv (bA by9 z) z (nf (bA by9 z) z u2_30) (nx (bA by9 z) z u2_30))), .int t2_31])), (ab, .inl (cI, 120, .inl by9))] H := hP
      have hD : va_D A [(q1, .inr (1, [.int (nI (P)), .ref be, .ref bl, .ref bu, .ref bo, .ref br, .ref bk, .ref bw, .ref btt, .ref bss])), (be, .inl (cI, 10, .inl er)), (h0, .inr (7, [.int (nI (z)), .ref ab, .int (kd (bA by9 z) z (nf (bA by9 z) z u2_30)), .int (nI (nf (bA by9 z) z u2_30)), .int (nI (nx (bA by9 z) z u2_30)), .int (nI (cv (bA by9 z) z (nf (bA by9 z) z u2_30) (nx (bA by9 z) z u2_30))), .int t2_31])), (ab, .inl (cI, 120, .inl by9))] := hD
      rcases hw_r_29 with ⟨rfl, h_36, h_37, h_38⟩ | ⟨rfl, h_39, h_40, h_41⟩
      · skip
        subst h_37
        subst h_38
        refine lv_if_ne (tgt := 37) hx hb dX7_takePlace_32 (by decide) (fun c_42 => ?_) (fun c_42 => absurd c_42 (by decide))
        refine lv_aload_n hx hb dX7_takePlace_37 rfl (lv_at hl 1 rfl) ?_
        refine xg hF kf_X7_31 hK hP 2 rfl rfl dX7_takePlace_38 ?_
        refine lv_istore_n (lv' := [(2, .int (nI (cv (bA by9 z) z (nf (bA by9 z) z (nx (bA by9 z) z (nx (bA by9 z) z u9))) (nx (bA by9 z) z (nx (bA by9 z) z (nx (bA by9 z) z u9)))))), (0, .ref h0), (1, .ref q1)]) hx hb dX7_takePlace_41 rfl hl (by decide) rfl (fun ls hl => ?_)
        refine lv_aload_n hx hb dX7_takePlace_42 rfl (lv_at hl 2 rfl) ?_
        refine lv_iload_n hx hb dX7_takePlace_43 rfl (lv_at hl 0 rfl) ?_
        refine xc_Vi (wr := [(h0, .inr (7, [.int (nI (z)), .ref ab, .int (kd (bA by9 z) z (nf (bA by9 z) z (nx (bA by9 z) z (nx (bA by9 z) z (nx (bA by9 z) z u9))))), .int (nI (nf (bA by9 z) z (nx (bA by9 z) z (nx (bA by9 z) z (nx (bA by9 z) z u9))))), .int (nI (nx (bA by9 z) z (nx (bA by9 z) z (nx (bA by9 z) z (nx (bA by9 z) z u9))))), .int (nI (cv (bA by9 z) z (nf (bA by9 z) z (nx (bA by9 z) z (nx (bA by9 z) z (nx (bA by9 z) z u9)))) (nx (bA by9 z) z (nx (bA by9 z) z (nx (bA by9 z) z (nx (bA by9 z) z u9)))))), .int (nI (cv (bA by9 z) z (nf (bA by9 z) z (nx (bA by9 z) z (nx (bA by9 z) z u9))) (nx (bA by9 z) z (nx (bA by9 z) z (nx (bA by9 z) z u9)))))])), (ab, .inl (cI, 120, .inl by9))]) hF (c_X1_addPlace l D cI cJ cZ cS ta sa sv H.size q1 be bl bu bo br bk bw btt bss P er (nI (cv (bA by9 z) z (nf (bA by9 z) z (nx (bA by9 z) z (nx (bA by9 z) z u9))) (nx (bA by9 z) z (nx (bA by9 z) z (nx (bA by9 z) z u9))))) (by omega)) kv_X7_74 ⟨rfl, rfl, Nat.le_of_ble_eq_true rfl, Nat.le_of_ble_eq_true rfl⟩ ⟨Nat.le_of_ble_eq_true rfl, Nat.le_of_ble_eq_true rfl⟩ hK hN hZ hP hD hS hA [0, 1] [2, 3] rfl rfl rfl rfl (by decide) 0 rfl rfl rfl rfl hl.1 rfl (Nat.le_of_ble_eq_true rfl) dX7_takePlace_44 (fun r_43 u_r_43 H locs hw_r_43 hP hD hS => ?_)
        obtain ⟨e2_44, rfl⟩ : ∃ z, z = u_r_43 := ⟨_, rfl⟩
        try dsimp only at hw_r_43
        obtain ⟨hw_r_43, i_45⟩ := hw_r_43
        have hP : va_P D vwCl [(h0, .inr (7, [.int (nI (z)), .ref ab, .int (kd (bA by9 z) z (nf (bA by9 z) z (nx (bA by9 z) z (nx (bA by9 z) z (nx (bA by9 z) z u9))))), .int (nI (nf (bA by9 z) z (nx (bA by9 z) z (nx (bA by9 z) z (nx (bA by9 z) z u9))))), .int (nI (nx (bA by9 z) z (nx (bA by9 z) z (nx (bA by9 z) z (nx (bA by9 z) z u9))))), .int (nI (cv (bA by9 z) z (nf (bA by9 z) z (nx (bA by9 z) z (nx (bA by9 z) z (nx (bA by9 z) z u9)))) (nx (bA by9 z) z (nx (bA by9 z) z (nx (bA by9 z) z (nx (bA by9 z) z u9)))))), .int (nI (cv (bA by9 z) z (nf (bA by9 z) z (nx (bA by9 z) z (nx (bA by9 z) z u9))) (nx (bA by9 z) z (nx (bA by9 z) z (nx (bA by9 z) z u9)))))])), (ab, .inl (cI, 120, .inl by9)), (q1, .inr (1, [.int (nI (P + 1)), .ref be, .ref bl, .ref bu, .ref bo, .ref br, .ref bk, .ref bw, .ref btt, .ref bss])), (be, .inl (cI, 10, .inl e2_44))] H := hP
        have hD : va_D A [(h0, .inr (7, [.int (nI (z)), .ref ab, .int (kd (bA by9 z) z (nf (bA by9 z) z (nx (bA by9 z) z (nx (bA by9 z) z (nx (bA by9 z) z u9))))), .int (nI (nf (bA by9 z) z (nx (bA by9 z) z (nx (bA by9 z) z (nx (bA by9 z) z u9))))), .int (nI (nx (bA by9 z) z (nx (bA by9 z) z (nx (bA by9 z) z (nx (bA by9 z) z u9))))), .int (nI (cv (bA by9 z) z (nf (bA by9 z) z (nx (bA by9 z) z (nx (bA by9 z) z (nx (bA by9 z) z u9)))) (nx (bA by9 z) z (nx (bA by9 z) z (nx (bA by9 z) z (nx (bA by9 z) z u9)))))), .int (nI (cv (bA by9 z) z (nf (bA by9 z) z (nx (bA by9 z) z (nx (bA by9 z) z u9))) (nx (bA by9 z) z (nx (bA by9 z) z (nx (bA by9 z) z u9)))))])), (ab, .inl (cI, 120, .inl by9)), (q1, .inr (1, [.int (nI (P + 1)), .ref be, .ref bl, .ref bu, .ref bo, .ref br, .ref bk, .ref bw, .ref btt, .ref bss])), (be, .inl (cI, 10, .inl e2_44))] := hD
        subst hw_r_43
        refine lv_pop hx hb dX7_takePlace_47 rfl ?_
        refine lv_iconst (v := 1) hx hb dX7_takePlace_48 (by decide) ?_
        exact W.zret (v := 1) hx hb hr rfl (fun t ht hW => ⟨⟨1, (nx (bA by9 z) z (nx (bA by9 z) z (nx (bA by9 z) z u9)), nI (cv (bA by9 z) z (nf (bA by9 z) z (nx (bA by9 z) z (nx (bA by9 z) z u9))) (nx (bA by9 z) z (nx (bA by9 z) z (nx (bA by9 z) z u9)))), P + 1, e2_44), rfl, ⟨Or.inl ⟨rfl, (cif_pos (show P < 10 by omega)).trans ((cif_pos (h_22)).trans (cif_pos (h_36))), rfl⟩, (by first | assumption | omega), (by first | assumption | omega), cv_le, (nx_le (by omega)), (by first | assumption | omega)⟩, by rw [ht]; exact hP.sub [0, 1, 2, 3] rfl, hD.sub [0, 1, 2, 3] (by decide) rfl⟩, hS.F ht⟩) hS.2.2 dX7_takePlace_49 hlk
      · skip
        subst h_40
        replace h_41 := h_41.symm; subst h_41
        refine lv_if_ne (tgt := 37) hx hb dX7_takePlace_32 (by decide) (fun c_46 => absurd (by decide) c_46) (fun c_46 => ?_)
        refine lv_iconst (v := 0) hx hb dX7_takePlace_35 (by decide) ?_
        exact W.zret (v := 0) hx hb hr rfl (fun t ht hW => ⟨⟨0, (nx (bA by9 z) z (nx (bA by9 z) z u9), t9, P, er), rfl, ⟨Or.inr ⟨rfl, (cif_pos (show P < 10 by omega)).trans ((cif_pos (h_22)).trans (cif_neg (h_39)))⟩, (by first | assumption | omega), (by first | assumption | omega), cv_le, (nx_le (by omega)), (by first | assumption | omega)⟩, by rw [ht]; exact hP.sub [2, 3, 0, 1] rfl, hD.sub [2, 3, 0, 1] (by decide) rfl⟩, hS.F ht⟩) hS.2.2 dX7_takePlace_36 hlk
    · skip
      subst h_26
      replace h_27 := h_27.symm; subst h_27
      refine lv_if_eq (tgt := 42) hx hb dX7_takePlace_23 (by decide) (fun c_47 => ?_) (fun c_47 => absurd (by decide) c_47)
      refine lv_aload_n hx hb dX7_takePlace_42 rfl (lv_at hl 2 rfl) ?_
      refine lv_iload_n hx hb dX7_takePlace_43 rfl (lv_at hl 0 rfl) ?_
      refine xc_Vi (wr := [(h0, .inr (7, [.int (nI (z)), .ref ab, .int (kd (bA by9 z) z (nf (bA by9 z) z (nx (bA by9 z) z u9))), .int (nI (nf (bA by9 z) z (nx (bA by9 z) z u9))), .int (nI (nx (bA by9 z) z (nx (bA by9 z) z u9))), .int (nI (cv (bA by9 z) z (nf (bA by9 z) z (nx (bA by9 z) z u9)) (nx (bA by9 z) z (nx (bA by9 z) z u9)))), .int t9])), (ab, .inl (cI, 120, .inl by9))]) hF (c_X1_addPlace l D cI cJ cZ cS ta sa sv H.size q1 be bl bu bo br bk bw btt bss P er 0 (by omega)) kv_X7_74 ⟨rfl, rfl, Nat.le_of_ble_eq_true rfl, Nat.le_of_ble_eq_true rfl⟩ ⟨Nat.le_of_ble_eq_true rfl, Nat.le_of_ble_eq_true rfl⟩ hK hN hZ hP hD hS hA [0, 1] [2, 3] rfl rfl rfl rfl (by decide) 0 rfl rfl rfl rfl hl.1 rfl (Nat.le_of_ble_eq_true rfl) dX7_takePlace_44 (fun r_48 u_r_48 H locs hw_r_48 hP hD hS => ?_)
      obtain ⟨e2_49, rfl⟩ : ∃ z, z = u_r_48 := ⟨_, rfl⟩
      try dsimp only at hw_r_48
      obtain ⟨hw_r_48, i_50⟩ := hw_r_48
      have hP : va_P D vwCl [(h0, .inr (7, [.int (nI (z)), .ref ab, .int (kd (bA by9 z) z (nf (bA by9 z) z (nx (bA by9 z) z u9))), .int (nI (nf (bA by9 z) z (nx (bA by9 z) z u9))), .int (nI (nx (bA by9 z) z (nx (bA by9 z) z u9))), .int (nI (cv (bA by9 z) z (nf (bA by9 z) z (nx (bA by9 z) z u9)) (nx (bA by9 z) z (nx (bA by9 z) z u9)))), .int t9])), (ab, .inl (cI, 120, .inl by9)), (q1, .inr (1, [.int (nI (P + 1)), .ref be, .ref bl, .ref bu, .ref bo, .ref br, .ref bk, .ref bw, .ref btt, .ref bss])), (be, .inl (cI, 10, .inl e2_49))] H := hP
      have hD : va_D A [(h0, .inr (7, [.int (nI (z)), .ref ab, .int (kd (bA by9 z) z (nf (bA by9 z) z (nx (bA by9 z) z u9))), .int (nI (nf (bA by9 z) z (nx (bA by9 z) z u9))), .int (nI (nx (bA by9 z) z (nx (bA by9 z) z u9))), .int (nI (cv (bA by9 z) z (nf (bA by9 z) z (nx (bA by9 z) z u9)) (nx (bA by9 z) z (nx (bA by9 z) z u9)))), .int t9])), (ab, .inl (cI, 120, .inl by9)), (q1, .inr (1, [.int (nI (P + 1)), .ref be, .ref bl, .ref bu, .ref bo, .ref br, .ref bk, .ref bw, .ref btt, .ref bss])), (be, .inl (cI, 10, .inl e2_49))] := hD
      subst hw_r_48
      refine lv_pop hx hb dX7_takePlace_47 rfl ?_
      refine lv_iconst (v := 1) hx hb dX7_takePlace_48 (by decide) ?_
      exact W.zret (v := 1) hx hb hr rfl (fun t ht hW => ⟨⟨1, (nx (bA by9 z) z u9, t9, P + 1, e2_49), rfl, ⟨Or.inl ⟨rfl, (cif_pos (show P < 10 by omega)).trans (cif_neg (h_25)), rfl⟩, (by first | assumption | omega), (by first | assumption | omega), cv_le, (nx_le (by omega)), (by first | assumption | omega)⟩, by rw [ht]; exact hP.sub [0, 1, 2, 3] rfl, hD.sub [0, 1, 2, 3] (by decide) rfl⟩, hS.F ht⟩) hS.2.2 dX7_takePlace_49 hlk
  · skip
    have nc_1 : 10 ≤ P := xn_nlt (a := P) (b := 10) (by omega) (by omega) c_1
    refine lv_iconst (v := 0) hx hb dX7_takePlace_9 (by decide) ?_
    exact W.zret (v := 0) hx hb hr rfl (fun t ht hW => ⟨⟨0, (u9, t9, P, er), rfl, ⟨Or.inr ⟨rfl, cif_neg (show ¬ P < 10 by omega)⟩, (by first | assumption | omega), (by first | assumption | omega), cv_le, (nx_le (by omega)), (by first | assumption | omega)⟩, by rw [ht]; exact hP.sub [0, 1, 2, 3] rfl, hD.sub [0, 1, 2, 3] (by decide) rfl⟩, hS.F ht⟩) hS.2.2 dX7_takePlace_10 hlk
set_option maxHeartbeats 4000000 in
set_option maxRecDepth 100000 in
theorem c_X7_takeWayBack (l : Launch) (D : va_G) (cI cJ cZ cS : ClassId) (ta : Nat) (sa sv : Nat → Nat) (sz : Nat) (h0 : Nat) (ab : Nat) (z : Nat) (u9 : Nat) (t9 : Int32) (by9 : Nat → Int32) (q1 : Nat) (be : Nat) (bl : Nat) (bu : Nat) (bo : Nat) (br : Nat) (bk : Nat) (bw : Nat) (btt : Nat) (bss : Nat) (P : Nat) (lo : Nat → Int32) (hg : Nat → Int32) (d : Nat → Int32) (j : Nat) (k : Nat) (hz : z ≤ 120) (hu9 : u9 ≤ z) (hj : j < 10) (hk : k < 10) : Met l yX7_takeWayBack (Cond.code yX7_takeWayBack cX7_takeWayBack 4 (some .boolean) :: wsU) ({ frames := 3, cells := 0, slots := 0, locals := 86 }) (va_Pc [.ref h0, .ref q1, .int (nI (j)), .int (nI (k))] (XW D (xT cI cJ cZ cS) ta sa sv [(h0, .inr (7, [.int (nI (z)), .ref ab, .int (kd (bA by9 z) z (nf (bA by9 z) z u9)), .int (nI (nf (bA by9 z) z u9)), .int (nI (nx (bA by9 z) z u9)), .int (nI (cv (bA by9 z) z (nf (bA by9 z) z u9) (nx (bA by9 z) z u9))), .int t9])), (ab, .inl (cI, 120, .inl by9)), (q1, .inr (1, [.int (nI (P)), .ref be, .ref bl, .ref bu, .ref bo, .ref br, .ref bk, .ref bw, .ref btt, .ref bss])), (bl, .inl (cI, 100, .inl lo)), (bu, .inl (cI, 100, .inl hg)), (bo, .inl (cI, 100, .inl d))] sz)) (XQi (fun (r : Int32) (u : Nat × Int32 × (Nat → Int32) × (Nat → Int32) × (Nat → Int32)) => match u with | (u2, t2, l2, u3, d2) => ((r = 1 ∧ (spM (bA by9 z) z u9 (-99) 999 Sum.inr = Sum.inr u2)) ∨ (r = 0 ∧ (spM (bA by9 z) z u9 (-99) 999 Sum.inr = Sum.inl u2))) ∧ (u2 ≤ z) ∧ (u9 ≤ u2) ∧ (cv (bA by9 z) z (nf (bA by9 z) z u2) (nx (bA by9 z) z u2) ≤ 10000) ∧ (nx (bA by9 z) z u2 ≤ z)) D (fun (u : Nat × Int32 × (Nat → Int32) × (Nat → Int32) × (Nat → Int32)) => match u with | (u2, t2, l2, u3, d2) => [(h0, .inr (7, [.int (nI (z)), .ref ab, .int (kd (bA by9 z) z (nf (bA by9 z) z u2)), .int (nI (nf (bA by9 z) z u2)), .int (nI (nx (bA by9 z) z u2)), .int (nI (cv (bA by9 z) z (nf (bA by9 z) z u2) (nx (bA by9 z) z u2))), .int t2])), (ab, .inl (cI, 120, .inl by9)), (q1, .inr (1, [.int (nI (P)), .ref be, .ref bl, .ref bu, .ref bo, .ref br, .ref bk, .ref bw, .ref btt, .ref bss])), (bl, .inl (cI, 100, .inl l2)), (bu, .inl (cI, 100, .inl u3)), (bo, .inl (cI, 100, .inl d2))]) (va_A [(h0, .inr (7, [.int (nI (z)), .ref ab, .int (kd (bA by9 z) z (nf (bA by9 z) z u9)), .int (nI (nf (bA by9 z) z u9)), .int (nI (nx (bA by9 z) z u9)), .int (nI (cv (bA by9 z) z (nf (bA by9 z) z u9) (nx (bA by9 z) z u9))), .int t9])), (ab, .inl (cI, 120, .inl by9)), (q1, .inr (1, [.int (nI (P)), .ref be, .ref bl, .ref bu, .ref bo, .ref br, .ref bk, .ref bw, .ref btt, .ref bss])), (bl, .inl (cI, 100, .inl lo)), (bu, .inl (cI, 100, .inl hg)), (bo, .inl (cI, 100, .inl d))] sz)) 0 0 (va_A [(h0, .inr (7, [.int (nI (z)), .ref ab, .int (kd (bA by9 z) z (nf (bA by9 z) z u9)), .int (nI (nf (bA by9 z) z u9)), .int (nI (nx (bA by9 z) z u9)), .int (nI (cv (bA by9 z) z (nf (bA by9 z) z u9) (nx (bA by9 z) z u9))), .int t9])), (ab, .inl (cI, 120, .inl by9)), (q1, .inr (1, [.int (nI (P)), .ref be, .ref bl, .ref bu, .ref bo, .ref br, .ref bk, .ref bw, .ref btt, .ref bss])), (bl, .inl (cI, 100, .inl lo)), (bu, .inl (cI, 100, .inl hg)), (bo, .inl (cI, 100, .inl d))] sz) := by
  refine xh (QA := fun A => XQi (fun (r : Int32) (u : Nat × Int32 × (Nat → Int32) × (Nat → Int32) × (Nat → Int32)) => match u with | (u2, t2, l2, u3, d2) => ((r = 1 ∧ (spM (bA by9 z) z u9 (-99) 999 Sum.inr = Sum.inr u2)) ∨ (r = 0 ∧ (spM (bA by9 z) z u9 (-99) 999 Sum.inr = Sum.inl u2))) ∧ (u2 ≤ z) ∧ (u9 ≤ u2) ∧ (cv (bA by9 z) z (nf (bA by9 z) z u2) (nx (bA by9 z) z u2) ≤ 10000) ∧ (nx (bA by9 z) z u2 ≤ z)) D (fun (u : Nat × Int32 × (Nat → Int32) × (Nat → Int32) × (Nat → Int32)) => match u with | (u2, t2, l2, u3, d2) => [(h0, .inr (7, [.int (nI (z)), .ref ab, .int (kd (bA by9 z) z (nf (bA by9 z) z u2)), .int (nI (nf (bA by9 z) z u2)), .int (nI (nx (bA by9 z) z u2)), .int (nI (cv (bA by9 z) z (nf (bA by9 z) z u2) (nx (bA by9 z) z u2))), .int t2])), (ab, .inl (cI, 120, .inl by9)), (q1, .inr (1, [.int (nI (P)), .ref be, .ref bl, .ref bu, .ref bo, .ref br, .ref bk, .ref bw, .ref btt, .ref bss])), (bl, .inl (cI, 100, .inl l2)), (bu, .inl (cI, 100, .inl u3)), (bo, .inl (cI, 100, .inl d2))]) A) (fr := fun A => A) (by decide) (Nat.le_of_ble_eq_true rfl) ?_
  intro p e s m below meth c ls A hF hr hlk hin hsz hP hK hD hN hZ hA hS hl
  have hF : CallFix p m c cX7_takeWayBack 4 s _ _ RX7 := hF
  have hx := hF.1
  have hb := hF.2.1
  have hml := hF.2.2.1
  have hown := hF.2.2.2.1
  have hu : ∀ w ∈ wsU, w.before _ s = true := fun w h => hF.2.2.2.2 w (List.mem_cons_of_mem _ h)
  have hl : lv_has ls 4 [(0, .ref h0), (1, .ref q1), (2, .int (nI (j))), (3, .int (nI (k)))] := hl
  have htk := tk_le (b := (bA by9 z)) hu9
  refine lv_aload_n hx hb dX7_takeWayBack_0 rfl (lv_at hl 0 rfl) ?_
  refine lv_bipush (v := (-99)) hx hb dX7_takeWayBack_1 (by decide) ?_
  refine lv_sipush (v := 999) hx hb dX7_takeWayBack_3 (by decide) ?_
  refine xc_Vi (wr := [(q1, .inr (1, [.int (nI (P)), .ref be, .ref bl, .ref bu, .ref bo, .ref br, .ref bk, .ref bw, .ref btt, .ref bss])), (bl, .inl (cI, 100, .inl lo)), (bu, .inl (cI, 100, .inl hg)), (bo, .inl (cI, 100, .inl d))]) hF (c_X7_takeMile l D cI cJ cZ cS ta sa sv s.heap.size h0 ab z u9 t9 by9 (-99) 999 (by omega) (by omega)) kv_X7_78 ⟨rfl, rfl, Nat.le_of_ble_eq_true rfl, Nat.le_of_ble_eq_true rfl⟩ ⟨Nat.le_of_ble_eq_true rfl, Nat.le_of_ble_eq_true rfl⟩ hK hN hZ hP hD hS hA [0, 1] [2, 3, 4, 5] rfl rfl rfl rfl (by decide) 0 rfl rfl rfl rfl hl.1 rfl (Nat.le_of_ble_eq_true rfl) dX7_takeWayBack_6 (fun r_1 u_r_1 H locs hw_r_1 hP hD hS => ?_)
  obtain ⟨u2_2, t2_3⟩ := u_r_1
  try dsimp only at hw_r_1
  obtain ⟨hw_r_1, i_4, i_5, i_6, i_7⟩ := hw_r_1
  have hP : va_P D vwCl [(q1, .inr (1, [.int (nI (P)), .ref be, .ref bl, .ref bu, .ref bo, .ref br, .ref bk, .ref bw, .ref btt, .ref bss])), (bl, .inl (cI, 100, .inl lo)), (bu, .inl (cI, 100, .inl hg)), (bo, .inl (cI, 100, .inl d)), (h0, .inr (7, [.int (nI (z)), .ref ab, .int (kd (bA by9 z) z (nf (bA by9 z) z u2_2)), .int (nI (nf (bA by9 z) z u2_2)), .int (nI (nx (bA by9 z) z u2_2)), .int (nI (cv (bA by9 z) z (nf (bA by9 z) z u2_2) (nx (bA by9 z) z u2_2))), .int t2_3])), (ab, .inl (cI, 120, .inl by9))] H := hP
  have hD : va_D A [(q1, .inr (1, [.int (nI (P)), .ref be, .ref bl, .ref bu, .ref bo, .ref br, .ref bk, .ref bw, .ref btt, .ref bss])), (bl, .inl (cI, 100, .inl lo)), (bu, .inl (cI, 100, .inl hg)), (bo, .inl (cI, 100, .inl d)), (h0, .inr (7, [.int (nI (z)), .ref ab, .int (kd (bA by9 z) z (nf (bA by9 z) z u2_2)), .int (nI (nf (bA by9 z) z u2_2)), .int (nI (nx (bA by9 z) z u2_2)), .int (nI (cv (bA by9 z) z (nf (bA by9 z) z u2_2) (nx (bA by9 z) z u2_2))), .int t2_3])), (ab, .inl (cI, 120, .inl by9))] := hD
  rcases hw_r_1 with ⟨rfl, h_8, h_9, h_10⟩ | ⟨rfl, h_11, h_12, h_13⟩
  · skip
    subst h_9
    subst h_10
    refine lv_if_ne (tgt := 14) hx hb dX7_takeWayBack_9 (by decide) (fun c_14 => ?_) (fun c_14 => absurd c_14 (by decide))
    refine lv_aload_n hx hb dX7_takeWayBack_14 rfl (lv_at hl 1 rfl) ?_
    refine lv_iload_n hx hb dX7_takeWayBack_15 rfl (lv_at hl 2 rfl) ?_
    refine lv_iload_n hx hb dX7_takeWayBack_16 rfl (lv_at hl 3 rfl) ?_
    refine lv_aload_n hx hb dX7_takeWayBack_17 rfl (lv_at hl 0 rfl) ?_
    refine xg hF kf_X7_31 hK hP 4 rfl rfl dX7_takeWayBack_18 ?_
    refine lv_aload_n hx hb dX7_takeWayBack_21 rfl (lv_at hl 0 rfl) ?_
    refine xg hF kf_X7_31 hK hP 4 rfl rfl dX7_takeWayBack_22 ?_
    refine xc_Vv (wr := [(h0, .inr (7, [.int (nI (z)), .ref ab, .int (kd (bA by9 z) z (nf (bA by9 z) z (nx (bA by9 z) z (mSt (bA by9 z) z u9)))), .int (nI (nf (bA by9 z) z (nx (bA by9 z) z (mSt (bA by9 z) z u9)))), .int (nI (nx (bA by9 z) z (nx (bA by9 z) z (mSt (bA by9 z) z u9)))), .int (nI (cv (bA by9 z) z (nf (bA by9 z) z (nx (bA by9 z) z (mSt (bA by9 z) z u9))) (nx (bA by9 z) z (nx (bA by9 z) z (mSt (bA by9 z) z u9))))), .int (mV (bA by9 z) z u9)])), (ab, .inl (cI, 120, .inl by9))]) hF (c_X1_setWay l D cI cJ cZ cS ta sa sv H.size q1 be bl bu bo br bk bw btt bss P j k (mV (bA by9 z) z u9) (mV (bA by9 z) z u9) lo hg d (by omega) (by omega)) kv_X7_84 ⟨rfl, rfl, Nat.le_of_ble_eq_true rfl, Nat.le_of_ble_eq_true rfl⟩ ⟨Nat.le_of_ble_eq_true rfl, Nat.le_of_ble_eq_true rfl⟩ hK hN hZ hP hD hS hA [0, 1, 2, 3] [4, 5] rfl rfl rfl rfl (by decide) 0 rfl rfl rfl rfl hl.1 rfl (Nat.le_of_ble_eq_true rfl) dX7_takeWayBack_25 (fun u_r_15 H locs hw_r_15 hP hD hS => ?_)
    obtain ⟨l2_16, u2_17, d2_18⟩ := u_r_15
    try dsimp only at hw_r_15
    obtain ⟨i_19, i_20, i_21⟩ := hw_r_15
    have hP : va_P D vwCl [(h0, .inr (7, [.int (nI (z)), .ref ab, .int (kd (bA by9 z) z (nf (bA by9 z) z (nx (bA by9 z) z (mSt (bA by9 z) z u9)))), .int (nI (nf (bA by9 z) z (nx (bA by9 z) z (mSt (bA by9 z) z u9)))), .int (nI (nx (bA by9 z) z (nx (bA by9 z) z (mSt (bA by9 z) z u9)))), .int (nI (cv (bA by9 z) z (nf (bA by9 z) z (nx (bA by9 z) z (mSt (bA by9 z) z u9))) (nx (bA by9 z) z (nx (bA by9 z) z (mSt (bA by9 z) z u9))))), .int (mV (bA by9 z) z u9)])), (ab, .inl (cI, 120, .inl by9)), (q1, .inr (1, [.int (nI (P)), .ref be, .ref bl, .ref bu, .ref bo, .ref br, .ref bk, .ref bw, .ref btt, .ref bss])), (bl, .inl (cI, 100, .inl l2_16)), (bu, .inl (cI, 100, .inl u2_17)), (bo, .inl (cI, 100, .inl d2_18))] H := hP
    have hD : va_D A [(h0, .inr (7, [.int (nI (z)), .ref ab, .int (kd (bA by9 z) z (nf (bA by9 z) z (nx (bA by9 z) z (mSt (bA by9 z) z u9)))), .int (nI (nf (bA by9 z) z (nx (bA by9 z) z (mSt (bA by9 z) z u9)))), .int (nI (nx (bA by9 z) z (nx (bA by9 z) z (mSt (bA by9 z) z u9)))), .int (nI (cv (bA by9 z) z (nf (bA by9 z) z (nx (bA by9 z) z (mSt (bA by9 z) z u9))) (nx (bA by9 z) z (nx (bA by9 z) z (mSt (bA by9 z) z u9))))), .int (mV (bA by9 z) z u9)])), (ab, .inl (cI, 120, .inl by9)), (q1, .inr (1, [.int (nI (P)), .ref be, .ref bl, .ref bu, .ref bo, .ref br, .ref bk, .ref bw, .ref btt, .ref bss])), (bl, .inl (cI, 100, .inl l2_16)), (bu, .inl (cI, 100, .inl u2_17)), (bo, .inl (cI, 100, .inl d2_18))] := hD
    refine lv_iconst (v := 1) hx hb dX7_takeWayBack_28 (by decide) ?_
    exact W.zret (v := 1) hx hb hr rfl (fun t ht hW => ⟨⟨1, (nx (bA by9 z) z (mSt (bA by9 z) z u9), (mV (bA by9 z) z u9), l2_16, u2_17, d2_18), rfl, ⟨Or.inl ⟨rfl, cif_pos (h_8)⟩, (by first | assumption | omega), (by first | assumption | omega), cv_le, (nx_le (by omega))⟩, by rw [ht]; exact hP.sub [0, 1, 2, 3, 4, 5] rfl, hD.sub [0, 1, 2, 3, 4, 5] (by decide +kernel) rfl⟩, hS.F ht⟩) hS.2.2 dX7_takeWayBack_29 hlk
  · skip
    subst h_12
    replace h_13 := h_13.symm; subst h_13
    refine lv_if_ne (tgt := 14) hx hb dX7_takeWayBack_9 (by decide) (fun c_22 => absurd (by decide) c_22) (fun c_22 => ?_)
    refine lv_iconst (v := 0) hx hb dX7_takeWayBack_12 (by decide) ?_
    exact W.zret (v := 0) hx hb hr rfl (fun t ht hW => ⟨⟨0, (mSt (bA by9 z) z u9, t9, lo, hg, d), rfl, ⟨Or.inr ⟨rfl, cif_neg (h_11)⟩, (by first | assumption | omega), (by first | assumption | omega), cv_le, (nx_le (by omega))⟩, by rw [ht]; exact hP.sub [4, 5, 0, 1, 2, 3] rfl, hD.sub [4, 5, 0, 1, 2, 3] (by decide +kernel) rfl⟩, hS.F ht⟩) hS.2.2 dX7_takeWayBack_13 hlk
set_option maxHeartbeats 4000000 in
set_option maxRecDepth 100000 in
theorem c_X7_takeWay (l : Launch) (D : va_G) (cI cJ cZ cS : ClassId) (ta : Nat) (sa sv : Nat → Nat) (sz : Nat) (h0 : Nat) (ab : Nat) (z : Nat) (u9 : Nat) (t9 : Int32) (by9 : Nat → Int32) (q1 : Nat) (be : Nat) (bl : Nat) (bu : Nat) (bo : Nat) (br : Nat) (bk : Nat) (bw : Nat) (btt : Nat) (bss : Nat) (P : Nat) (lo : Nat → Int32) (hg : Nat → Int32) (d : Nat → Int32) (hz : z ≤ 120) (hu9 : u9 ≤ z) (hP0 : P ≤ 10) : Met l yX7_takeWay (Cond.code yX7_takeWay cX7_takeWay 6 (some .boolean) :: wsU) ({ frames := 6, cells := 0, slots := 0, locals := 128 }) (va_Pc [.ref h0, .ref q1] (XW D (xT cI cJ cZ cS) ta sa sv [(h0, .inr (7, [.int (nI (z)), .ref ab, .int (kd (bA by9 z) z (nf (bA by9 z) z u9)), .int (nI (nf (bA by9 z) z u9)), .int (nI (nx (bA by9 z) z u9)), .int (nI (cv (bA by9 z) z (nf (bA by9 z) z u9) (nx (bA by9 z) z u9))), .int t9])), (ab, .inl (cI, 120, .inl by9)), (q1, .inr (1, [.int (nI (P)), .ref be, .ref bl, .ref bu, .ref bo, .ref br, .ref bk, .ref bw, .ref btt, .ref bss])), (bl, .inl (cI, 100, .inl lo)), (bu, .inl (cI, 100, .inl hg)), (bo, .inl (cI, 100, .inl d))] sz)) (XQi (fun (r : Int32) (u : Nat × Int32 × (Nat → Int32) × (Nat → Int32) × (Nat → Int32)) => match u with | (u2, t2, l2, u3, d2) => ((r = 1 ∧ (spWay (bA by9 z) z u9 P = Sum.inr u2)) ∨ (r = 0 ∧ (spWay (bA by9 z) z u9 P = Sum.inl u2))) ∧ (u2 ≤ z) ∧ (u9 ≤ u2) ∧ (cv (bA by9 z) z (nf (bA by9 z) z u2) (nx (bA by9 z) z u2) ≤ 10000) ∧ (nx (bA by9 z) z u2 ≤ z)) D (fun (u : Nat × Int32 × (Nat → Int32) × (Nat → Int32) × (Nat → Int32)) => match u with | (u2, t2, l2, u3, d2) => [(h0, .inr (7, [.int (nI (z)), .ref ab, .int (kd (bA by9 z) z (nf (bA by9 z) z u2)), .int (nI (nf (bA by9 z) z u2)), .int (nI (nx (bA by9 z) z u2)), .int (nI (cv (bA by9 z) z (nf (bA by9 z) z u2) (nx (bA by9 z) z u2))), .int t2])), (ab, .inl (cI, 120, .inl by9)), (q1, .inr (1, [.int (nI (P)), .ref be, .ref bl, .ref bu, .ref bo, .ref br, .ref bk, .ref bw, .ref btt, .ref bss])), (bl, .inl (cI, 100, .inl l2)), (bu, .inl (cI, 100, .inl u3)), (bo, .inl (cI, 100, .inl d2))]) (va_A [(h0, .inr (7, [.int (nI (z)), .ref ab, .int (kd (bA by9 z) z (nf (bA by9 z) z u9)), .int (nI (nf (bA by9 z) z u9)), .int (nI (nx (bA by9 z) z u9)), .int (nI (cv (bA by9 z) z (nf (bA by9 z) z u9) (nx (bA by9 z) z u9))), .int t9])), (ab, .inl (cI, 120, .inl by9)), (q1, .inr (1, [.int (nI (P)), .ref be, .ref bl, .ref bu, .ref bo, .ref br, .ref bk, .ref bw, .ref btt, .ref bss])), (bl, .inl (cI, 100, .inl lo)), (bu, .inl (cI, 100, .inl hg)), (bo, .inl (cI, 100, .inl d))] sz)) 0 0 (va_A [(h0, .inr (7, [.int (nI (z)), .ref ab, .int (kd (bA by9 z) z (nf (bA by9 z) z u9)), .int (nI (nf (bA by9 z) z u9)), .int (nI (nx (bA by9 z) z u9)), .int (nI (cv (bA by9 z) z (nf (bA by9 z) z u9) (nx (bA by9 z) z u9))), .int t9])), (ab, .inl (cI, 120, .inl by9)), (q1, .inr (1, [.int (nI (P)), .ref be, .ref bl, .ref bu, .ref bo, .ref br, .ref bk, .ref bw, .ref btt, .ref bss])), (bl, .inl (cI, 100, .inl lo)), (bu, .inl (cI, 100, .inl hg)), (bo, .inl (cI, 100, .inl d))] sz) := by
  refine xh (QA := fun A => XQi (fun (r : Int32) (u : Nat × Int32 × (Nat → Int32) × (Nat → Int32) × (Nat → Int32)) => match u with | (u2, t2, l2, u3, d2) => ((r = 1 ∧ (spWay (bA by9 z) z u9 P = Sum.inr u2)) ∨ (r = 0 ∧ (spWay (bA by9 z) z u9 P = Sum.inl u2))) ∧ (u2 ≤ z) ∧ (u9 ≤ u2) ∧ (cv (bA by9 z) z (nf (bA by9 z) z u2) (nx (bA by9 z) z u2) ≤ 10000) ∧ (nx (bA by9 z) z u2 ≤ z)) D (fun (u : Nat × Int32 × (Nat → Int32) × (Nat → Int32) × (Nat → Int32)) => match u with | (u2, t2, l2, u3, d2) => [(h0, .inr (7, [.int (nI (z)), .ref ab, .int (kd (bA by9 z) z (nf (bA by9 z) z u2)), .int (nI (nf (bA by9 z) z u2)), .int (nI (nx (bA by9 z) z u2)), .int (nI (cv (bA by9 z) z (nf (bA by9 z) z u2) (nx (bA by9 z) z u2))), .int t2])), (ab, .inl (cI, 120, .inl by9)), (q1, .inr (1, [.int (nI (P)), .ref be, .ref bl, .ref bu, .ref bo, .ref br, .ref bk, .ref bw, .ref btt, .ref bss])), (bl, .inl (cI, 100, .inl l2)), (bu, .inl (cI, 100, .inl u3)), (bo, .inl (cI, 100, .inl d2))]) A) (fr := fun A => A) (by decide) (Nat.le_of_ble_eq_true rfl) ?_
  intro p e s m below meth c ls A hF hr hlk hin hsz hP hK hD hN hZ hA hS hl
  have hF : CallFix p m c cX7_takeWay 6 s _ _ RX7 := hF
  have hx := hF.1
  have hb := hF.2.1
  have hml := hF.2.2.1
  have hown := hF.2.2.2.1
  have hu : ∀ w ∈ wsU, w.before _ s = true := fun w h => hF.2.2.2.2 w (List.mem_cons_of_mem _ h)
  have hl : lv_has ls 6 [(0, .ref h0), (1, .ref q1)] := hl
  have htk := tk_le (b := (bA by9 z)) hu9
  refine lv_aload_n hx hb dX7_takeWay_0 rfl (lv_at hl 0 rfl) ?_
  refine xc_Vv (wr := [(q1, .inr (1, [.int (nI (P)), .ref be, .ref bl, .ref bu, .ref bo, .ref br, .ref bk, .ref bw, .ref btt, .ref bss])), (bl, .inl (cI, 100, .inl lo)), (bu, .inl (cI, 100, .inl hg)), (bo, .inl (cI, 100, .inl d))]) hF (c_X7_step l D cI cJ cZ cS ta sa sv s.heap.size h0 ab z (nf (bA by9 z) z u9) (nx (bA by9 z) z u9) (cv (bA by9 z) z (nf (bA by9 z) z u9) (nx (bA by9 z) z u9)) (kd (bA by9 z) z (nf (bA by9 z) z u9)) t9 by9 (by omega) (by omega)) kv_X7_34 ⟨rfl, rfl, Nat.le_of_ble_eq_true rfl, Nat.le_of_ble_eq_true rfl⟩ ⟨Nat.le_of_ble_eq_true rfl, Nat.le_of_ble_eq_true rfl⟩ hK hN hZ hP hD hS hA [0, 1] [2, 3, 4, 5] rfl rfl rfl rfl (by decide) 0 rfl rfl rfl rfl hl.1 rfl (Nat.le_of_ble_eq_true rfl) dX7_takeWay_1 (fun u_r_1 H locs hw_r_1 hP hD hS => ?_)
  obtain ⟨s2_2, x2_3, v2_4, tk2_5⟩ := u_r_1
  try dsimp only at hw_r_1
  obtain ⟨i_6, i_7, i_8, i_9, i_10, i_11, i_12, i_13⟩ := hw_r_1
  subst i_6
  subst i_7
  subst i_8
  subst i_9
  have hP : va_P D vwCl [(q1, .inr (1, [.int (nI (P)), .ref be, .ref bl, .ref bu, .ref bo, .ref br, .ref bk, .ref bw, .ref btt, .ref bss])), (bl, .inl (cI, 100, .inl lo)), (bu, .inl (cI, 100, .inl hg)), (bo, .inl (cI, 100, .inl d)), (h0, .inr (7, [.int (nI (z)), .ref ab, .int (kd (bA by9 z) z (nf (bA by9 z) z (nx (bA by9 z) z u9))), .int (nI ((nf (bA by9 z) z (nx (bA by9 z) z u9)))), .int (nI ((nx (bA by9 z) z (nx (bA by9 z) z u9)))), .int (nI ((cv (bA by9 z) z (nf (bA by9 z) z (nx (bA by9 z) z u9)) (nx (bA by9 z) z (nx (bA by9 z) z u9))))), .int t9])), (ab, .inl (cI, 120, .inl by9))] H := hP
  have hD : va_D A [(q1, .inr (1, [.int (nI (P)), .ref be, .ref bl, .ref bu, .ref bo, .ref br, .ref bk, .ref bw, .ref btt, .ref bss])), (bl, .inl (cI, 100, .inl lo)), (bu, .inl (cI, 100, .inl hg)), (bo, .inl (cI, 100, .inl d)), (h0, .inr (7, [.int (nI (z)), .ref ab, .int (kd (bA by9 z) z (nf (bA by9 z) z (nx (bA by9 z) z u9))), .int (nI ((nf (bA by9 z) z (nx (bA by9 z) z u9)))), .int (nI ((nx (bA by9 z) z (nx (bA by9 z) z u9)))), .int (nI ((cv (bA by9 z) z (nf (bA by9 z) z (nx (bA by9 z) z u9)) (nx (bA by9 z) z (nx (bA by9 z) z u9))))), .int t9])), (ab, .inl (cI, 120, .inl by9))] := hD
  refine lv_aload_n hx hb dX7_takeWay_4 rfl (lv_at hl 0 rfl) ?_
  refine lv_aload_n hx hb dX7_takeWay_5 rfl (lv_at hl 1 rfl) ?_
  refine xg hF kf_X7_60 hK hP 0 rfl rfl dX7_takeWay_6 ?_
  refine lv_iconst (v := 1) hx hb dX7_takeWay_9 (by decide) ?_
  refine lv_isub hx hb dX7_takeWay_10 ?_
  refine xc_Vi (wr := [(q1, .inr (1, [.int (nI (P)), .ref be, .ref bl, .ref bu, .ref bo, .ref br, .ref bk, .ref bw, .ref btt, .ref bss])), (bl, .inl (cI, 100, .inl lo)), (bu, .inl (cI, 100, .inl hg)), (bo, .inl (cI, 100, .inl d))]) hF (c_X7_takeNumber l D cI cJ cZ cS ta sa sv H.size h0 ab z (nx (bA by9 z) z u9) t9 by9 ((nI (P)) - 1) (by omega) (by omega)) kv_X7_70 ⟨rfl, rfl, Nat.le_of_ble_eq_true rfl, Nat.le_of_ble_eq_true rfl⟩ ⟨Nat.le_of_ble_eq_true rfl, Nat.le_of_ble_eq_true rfl⟩ hK hN hZ hP hD hS hA [4, 5] [0, 1, 2, 3] rfl rfl rfl rfl (by decide) 0 rfl rfl rfl rfl hl.1 rfl (Nat.le_of_ble_eq_true rfl) dX7_takeWay_11 (fun r_14 u_r_14 H locs hw_r_14 hP hD hS => ?_)
  obtain ⟨u2_15, t2_16⟩ := u_r_14
  try dsimp only at hw_r_14
  obtain ⟨hw_r_14, i_17, i_18, i_19, i_20⟩ := hw_r_14
  have hP : va_P D vwCl [(q1, .inr (1, [.int (nI (P)), .ref be, .ref bl, .ref bu, .ref bo, .ref br, .ref bk, .ref bw, .ref btt, .ref bss])), (bl, .inl (cI, 100, .inl lo)), (bu, .inl (cI, 100, .inl hg)), (bo, .inl (cI, 100, .inl d)), (h0, .inr (7, [.int (nI (z)), .ref ab, .int (kd (bA by9 z) z (nf (bA by9 z) z u2_15)), .int (nI (nf (bA by9 z) z u2_15)), .int (nI (nx (bA by9 z) z u2_15)), .int (nI (cv (bA by9 z) z (nf (bA by9 z) z u2_15) (nx (bA by9 z) z u2_15))), .int t2_16])), (ab, .inl (cI, 120, .inl by9))] H := hP
  have hD : va_D A [(q1, .inr (1, [.int (nI (P)), .ref be, .ref bl, .ref bu, .ref bo, .ref br, .ref bk, .ref bw, .ref btt, .ref bss])), (bl, .inl (cI, 100, .inl lo)), (bu, .inl (cI, 100, .inl hg)), (bo, .inl (cI, 100, .inl d)), (h0, .inr (7, [.int (nI (z)), .ref ab, .int (kd (bA by9 z) z (nf (bA by9 z) z u2_15)), .int (nI (nf (bA by9 z) z u2_15)), .int (nI (nx (bA by9 z) z u2_15)), .int (nI (cv (bA by9 z) z (nf (bA by9 z) z u2_15) (nx (bA by9 z) z u2_15))), .int t2_16])), (ab, .inl (cI, 120, .inl by9))] := hD
  rcases hw_r_14 with ⟨rfl, h_21, h_22, h_23⟩ | ⟨rfl, h_24, h_25, h_26⟩
  · skip
    subst h_22
    subst h_23
    have hm_h_21 : cv (bA by9 z) z (nf (bA by9 z) z (nx (bA by9 z) z u9)) (nx (bA by9 z) z (nx (bA by9 z) z u9)) < P := okNu_lt hP0 h_21
    refine lv_if_ne (tgt := 19) hx hb dX7_takeWay_14 (by decide) (fun c_27 => ?_) (fun c_27 => absurd c_27 (by decide))
    refine lv_aload_n hx hb dX7_takeWay_19 rfl (lv_at hl 0 rfl) ?_
    refine xg hF kf_X7_31 hK hP 4 rfl rfl dX7_takeWay_20 ?_
    refine lv_istore_n (lv' := [(2, .int (nI (cv (bA by9 z) z (nf (bA by9 z) z (nx (bA by9 z) z u9)) (nx (bA by9 z) z (nx (bA by9 z) z u9))))), (0, .ref h0), (1, .ref q1)]) hx hb dX7_takeWay_23 rfl hl (by decide) rfl (fun ls hl => ?_)
    refine lv_aload_n hx hb dX7_takeWay_24 rfl (lv_at hl 1 rfl) ?_
    refine xg hF kf_X7_19 hK hP 4 rfl rfl dX7_takeWay_25 ?_
    refine lv_iconst (v := 2) hx hb dX7_takeWay_28 (by decide) ?_
    refine lv_icmp_ne (tgt := 44) hx hb dX7_takeWay_29 (by decide) (fun c_28 => ?_) (fun c_28 => ?_)
    · skip
      refine lv_iconst (v := 0) hx hb dX7_takeWay_44 (by decide) ?_
      refine lv_istore_n (lv' := [(3, .int 0), (2, .int (nI (cv (bA by9 z) z (nf (bA by9 z) z (nx (bA by9 z) z u9)) (nx (bA by9 z) z (nx (bA by9 z) z u9))))), (0, .ref h0), (1, .ref q1)]) hx hb dX7_takeWay_45 rfl hl (by decide) rfl (fun ls hl => ?_)
      refine lv_iload_n hx hb dX7_takeWay_46 rfl (lv_at hl 0 rfl) ?_
      refine lv_if_ne (tgt := 63) hx hb dX7_takeWay_47 (by decide) (fun c_29 => absurd (by decide) c_29) (fun c_29 => ?_)
      refine lv_aload_n hx hb dX7_takeWay_50 rfl (lv_at hl 2 rfl) ?_
      refine lv_aload_n hx hb dX7_takeWay_51 rfl (lv_at hl 3 rfl) ?_
      refine xg hF kf_X7_60 hK hP 0 rfl rfl dX7_takeWay_52 ?_
      refine lv_iconst (v := 1) hx hb dX7_takeWay_55 (by decide) ?_
      refine lv_isub hx hb dX7_takeWay_56 ?_
      refine xc_Vi (wr := [(q1, .inr (1, [.int (nI (P)), .ref be, .ref bl, .ref bu, .ref bo, .ref br, .ref bk, .ref bw, .ref btt, .ref bss])), (bl, .inl (cI, 100, .inl lo)), (bu, .inl (cI, 100, .inl hg)), (bo, .inl (cI, 100, .inl d))]) hF (c_X7_takeNumber l D cI cJ cZ cS ta sa sv H.size h0 ab z (nx (bA by9 z) z (nx (bA by9 z) z u9)) (nI (cv (bA by9 z) z (nf (bA by9 z) z (nx (bA by9 z) z u9)) (nx (bA by9 z) z (nx (bA by9 z) z u9)))) by9 ((nI (P)) - 1) (by omega) (by omega)) kv_X7_70 ⟨rfl, rfl, Nat.le_of_ble_eq_true rfl, Nat.le_of_ble_eq_true rfl⟩ ⟨Nat.le_of_ble_eq_true rfl, Nat.le_of_ble_eq_true rfl⟩ hK hN hZ hP hD hS hA [4, 5] [0, 1, 2, 3] rfl rfl rfl rfl (by decide) 0 rfl rfl rfl rfl hl.1 rfl (Nat.le_of_ble_eq_true rfl) dX7_takeWay_57 (fun r_30 u_r_30 H locs hw_r_30 hP hD hS => ?_)
      obtain ⟨u2_31, t2_32⟩ := u_r_30
      try dsimp only at hw_r_30
      obtain ⟨hw_r_30, i_33, i_34, i_35, i_36⟩ := hw_r_30
      have hP : va_P D vwCl [(q1, .inr (1, [.int (nI (P)), .ref be, .ref bl, .ref bu, .ref bo, .ref br, .ref bk, .ref bw, .ref btt, .ref bss])), (bl, .inl (cI, 100, .inl lo)), (bu, .inl (cI, 100, .inl hg)), (bo, .inl (cI, 100, .inl d)), (h0, .inr (7, [.int (nI (z)), .ref ab, .int (kd (bA by9 z) z (nf (bA by9 z) z u2_31)), .int (nI (nf (bA by9 z) z u2_31)), .int (nI (nx (bA by9 z) z u2_31)), .int (nI (cv (bA by9 z) z (nf (bA by9 z) z u2_31) (nx (bA by9 z) z u2_31))), .int t2_32])), (ab, .inl (cI, 120, .inl by9))] H := hP
      have hD : va_D A [(q1, .inr (1, [.int (nI (P)), .ref be, .ref bl, .ref bu, .ref bo, .ref br, .ref bk, .ref bw, .ref btt, .ref bss])), (bl, .inl (cI, 100, .inl lo)), (bu, .inl (cI, 100, .inl hg)), (bo, .inl (cI, 100, .inl d)), (h0, .inr (7, [.int (nI (z)), .ref ab, .int (kd (bA by9 z) z (nf (bA by9 z) z u2_31)), .int (nI (nf (bA by9 z) z u2_31)), .int (nI (nx (bA by9 z) z u2_31)), .int (nI (cv (bA by9 z) z (nf (bA by9 z) z u2_31) (nx (bA by9 z) z u2_31))), .int t2_32])), (ab, .inl (cI, 120, .inl by9))] := hD
      rcases hw_r_30 with ⟨rfl, h_37, h_38, h_39⟩ | ⟨rfl, h_40, h_41, h_42⟩
      · skip
        subst h_38
        subst h_39
        have hm_h_37 : cv (bA by9 z) z (nf (bA by9 z) z (nx (bA by9 z) z (nx (bA by9 z) z u9))) (nx (bA by9 z) z (nx (bA by9 z) z (nx (bA by9 z) z u9))) < P := okNu_lt hP0 h_37
        refine lv_if_ne (tgt := 65) hx hb dX7_takeWay_60 (by decide) (fun c_43 => ?_) (fun c_43 => absurd c_43 (by decide))
        refine lv_aload_n hx hb dX7_takeWay_65 rfl (lv_at hl 2 rfl) ?_
        refine xg hF kf_X7_31 hK hP 4 rfl rfl dX7_takeWay_66 ?_
        refine lv_istore (lv' := [(4, .int (nI (cv (bA by9 z) z (nf (bA by9 z) z (nx (bA by9 z) z (nx (bA by9 z) z u9))) (nx (bA by9 z) z (nx (bA by9 z) z (nx (bA by9 z) z u9)))))), (3, .int 0), (2, .int (nI (cv (bA by9 z) z (nf (bA by9 z) z (nx (bA by9 z) z u9)) (nx (bA by9 z) z (nx (bA by9 z) z u9))))), (0, .ref h0), (1, .ref q1)]) hx hb dX7_takeWay_69 hl (by decide) rfl (fun ls hl => ?_)
        refine lv_aload_n hx hb dX7_takeWay_71 rfl (lv_at hl 3 rfl) ?_
        refine lv_bipush (v := (-99)) hx hb dX7_takeWay_72 (by decide) ?_
        refine lv_sipush (v := 999) hx hb dX7_takeWay_74 (by decide) ?_
        refine xc_Vi (wr := [(q1, .inr (1, [.int (nI (P)), .ref be, .ref bl, .ref bu, .ref bo, .ref br, .ref bk, .ref bw, .ref btt, .ref bss])), (bl, .inl (cI, 100, .inl lo)), (bu, .inl (cI, 100, .inl hg)), (bo, .inl (cI, 100, .inl d))]) hF (c_X7_takeMile l D cI cJ cZ cS ta sa sv H.size h0 ab z (nx (bA by9 z) z (nx (bA by9 z) z (nx (bA by9 z) z u9))) (nI (cv (bA by9 z) z (nf (bA by9 z) z (nx (bA by9 z) z (nx (bA by9 z) z u9))) (nx (bA by9 z) z (nx (bA by9 z) z (nx (bA by9 z) z u9))))) by9 (-99) 999 (by omega) (by omega)) kv_X7_78 ⟨rfl, rfl, Nat.le_of_ble_eq_true rfl, Nat.le_of_ble_eq_true rfl⟩ ⟨Nat.le_of_ble_eq_true rfl, Nat.le_of_ble_eq_true rfl⟩ hK hN hZ hP hD hS hA [4, 5] [0, 1, 2, 3] rfl rfl rfl rfl (by decide) 0 rfl rfl rfl rfl hl.1 rfl (Nat.le_of_ble_eq_true rfl) dX7_takeWay_77 (fun r_44 u_r_44 H locs hw_r_44 hP hD hS => ?_)
        obtain ⟨u2_45, t2_46⟩ := u_r_44
        try dsimp only at hw_r_44
        obtain ⟨hw_r_44, i_47, i_48, i_49, i_50⟩ := hw_r_44
        have hP : va_P D vwCl [(q1, .inr (1, [.int (nI (P)), .ref be, .ref bl, .ref bu, .ref bo, .ref br, .ref bk, .ref bw, .ref btt, .ref bss])), (bl, .inl (cI, 100, .inl lo)), (bu, .inl (cI, 100, .inl hg)), (bo, .inl (cI, 100, .inl d)), (h0, .inr (7, [.int (nI (z)), .ref ab, .int (kd (bA by9 z) z (nf (bA by9 z) z u2_45)), .int (nI (nf (bA by9 z) z u2_45)), .int (nI (nx (bA by9 z) z u2_45)), .int (nI (cv (bA by9 z) z (nf (bA by9 z) z u2_45) (nx (bA by9 z) z u2_45))), .int t2_46])), (ab, .inl (cI, 120, .inl by9))] H := hP
        have hD : va_D A [(q1, .inr (1, [.int (nI (P)), .ref be, .ref bl, .ref bu, .ref bo, .ref br, .ref bk, .ref bw, .ref btt, .ref bss])), (bl, .inl (cI, 100, .inl lo)), (bu, .inl (cI, 100, .inl hg)), (bo, .inl (cI, 100, .inl d)), (h0, .inr (7, [.int (nI (z)), .ref ab, .int (kd (bA by9 z) z (nf (bA by9 z) z u2_45)), .int (nI (nf (bA by9 z) z u2_45)), .int (nI (nx (bA by9 z) z u2_45)), .int (nI (cv (bA by9 z) z (nf (bA by9 z) z u2_45) (nx (bA by9 z) z u2_45))), .int t2_46])), (ab, .inl (cI, 120, .inl by9))] := hD
        rcases hw_r_44 with ⟨rfl, h_51, h_52, h_53⟩ | ⟨rfl, h_54, h_55, h_56⟩
        · skip
          subst h_52
          subst h_53
          refine lv_if_ne (tgt := 85) hx hb dX7_takeWay_80 (by decide) (fun c_57 => ?_) (fun c_57 => absurd c_57 (by decide))
          refine lv_aload_n hx hb dX7_takeWay_85 rfl (lv_at hl 3 rfl) ?_
          refine xg hF kf_X7_31 hK hP 4 rfl rfl dX7_takeWay_86 ?_
          refine lv_istore (lv' := [(5, .int (mV (bA by9 z) z (nx (bA by9 z) z (nx (bA by9 z) z (nx (bA by9 z) z u9))))), (4, .int (nI (cv (bA by9 z) z (nf (bA by9 z) z (nx (bA by9 z) z (nx (bA by9 z) z u9))) (nx (bA by9 z) z (nx (bA by9 z) z (nx (bA by9 z) z u9)))))), (3, .int 0), (2, .int (nI (cv (bA by9 z) z (nf (bA by9 z) z (nx (bA by9 z) z u9)) (nx (bA by9 z) z (nx (bA by9 z) z u9))))), (0, .ref h0), (1, .ref q1)]) hx hb dX7_takeWay_89 hl (by decide) rfl (fun ls hl => ?_)
          refine lv_aload_n hx hb dX7_takeWay_91 rfl (lv_at hl 4 rfl) ?_
          refine va_ldcS (tx := "to") (q := sa 4) hx hb hown (hN.2.2 (82, "to", 4) (by decide)) dX7_takeWay_92 ?_
          refine xc_Vi (wr := [(q1, .inr (1, [.int (nI (P)), .ref be, .ref bl, .ref bu, .ref bo, .ref br, .ref bk, .ref bw, .ref btt, .ref bss])), (bl, .inl (cI, 100, .inl lo)), (bu, .inl (cI, 100, .inl hg)), (bo, .inl (cI, 100, .inl d))]) hF (c_X7_takeWord l D cI cJ cZ cS ta sa sv H.size h0 ab z (nx (bA by9 z) z (mSt (bA by9 z) z (nx (bA by9 z) z (nx (bA by9 z) z (nx (bA by9 z) z u9))))) (mV (bA by9 z) z (nx (bA by9 z) z (nx (bA by9 z) z (nx (bA by9 z) z u9)))) by9 4 (by omega) (by omega) (by omega)) kv_X7_67 ⟨rfl, rfl, Nat.le_of_ble_eq_true rfl, Nat.le_of_ble_eq_true rfl⟩ ⟨Nat.le_of_ble_eq_true rfl, Nat.le_of_ble_eq_true rfl⟩ hK hN hZ hP hD hS hA [4, 5] [0, 1, 2, 3] rfl rfl rfl rfl (by decide) 0 rfl rfl rfl rfl hl.1 rfl (Nat.le_of_ble_eq_true rfl) dX7_takeWay_94 (fun r_58 u_r_58 H locs hw_r_58 hP hD hS => ?_)
          obtain ⟨u2_59, t2_60⟩ := u_r_58
          try dsimp only at hw_r_58
          obtain ⟨hw_r_58, i_61, i_62, i_63, i_64⟩ := hw_r_58
          have hP : va_P D vwCl [(q1, .inr (1, [.int (nI (P)), .ref be, .ref bl, .ref bu, .ref bo, .ref br, .ref bk, .ref bw, .ref btt, .ref bss])), (bl, .inl (cI, 100, .inl lo)), (bu, .inl (cI, 100, .inl hg)), (bo, .inl (cI, 100, .inl d)), (h0, .inr (7, [.int (nI (z)), .ref ab, .int (kd (bA by9 z) z (nf (bA by9 z) z u2_59)), .int (nI (nf (bA by9 z) z u2_59)), .int (nI (nx (bA by9 z) z u2_59)), .int (nI (cv (bA by9 z) z (nf (bA by9 z) z u2_59) (nx (bA by9 z) z u2_59))), .int t2_60])), (ab, .inl (cI, 120, .inl by9))] H := hP
          have hD : va_D A [(q1, .inr (1, [.int (nI (P)), .ref be, .ref bl, .ref bu, .ref bo, .ref br, .ref bk, .ref bw, .ref btt, .ref bss])), (bl, .inl (cI, 100, .inl lo)), (bu, .inl (cI, 100, .inl hg)), (bo, .inl (cI, 100, .inl d)), (h0, .inr (7, [.int (nI (z)), .ref ab, .int (kd (bA by9 z) z (nf (bA by9 z) z u2_59)), .int (nI (nf (bA by9 z) z u2_59)), .int (nI (nx (bA by9 z) z u2_59)), .int (nI (cv (bA by9 z) z (nf (bA by9 z) z u2_59) (nx (bA by9 z) z u2_59))), .int t2_60])), (ab, .inl (cI, 120, .inl by9))] := hD
          rcases hw_r_58 with ⟨rfl, h_65, h_66, h_67⟩ | ⟨rfl, h_68, h_69, h_70⟩
          · skip
            subst h_66
            subst h_67
            refine lv_if_eq (tgt := 114) hx hb dX7_takeWay_97 (by decide) (fun c_71 => absurd c_71 (by decide)) (fun c_71 => ?_)
            refine lv_aload_n hx hb dX7_takeWay_100 rfl (lv_at hl 4 rfl) ?_
            refine lv_iload hx hb dX7_takeWay_101 (lv_at hl 0 rfl) ?_
            refine lv_sipush (v := 999) hx hb dX7_takeWay_103 (by decide) ?_
            refine xc_Vi (wr := [(q1, .inr (1, [.int (nI (P)), .ref be, .ref bl, .ref bu, .ref bo, .ref br, .ref bk, .ref bw, .ref btt, .ref bss])), (bl, .inl (cI, 100, .inl lo)), (bu, .inl (cI, 100, .inl hg)), (bo, .inl (cI, 100, .inl d))]) hF (c_X7_takeMile l D cI cJ cZ cS ta sa sv H.size h0 ab z (nx (bA by9 z) z (nx (bA by9 z) z (mSt (bA by9 z) z (nx (bA by9 z) z (nx (bA by9 z) z (nx (bA by9 z) z u9)))))) (mV (bA by9 z) z (nx (bA by9 z) z (nx (bA by9 z) z (nx (bA by9 z) z u9)))) by9 (mV (bA by9 z) z (nx (bA by9 z) z (nx (bA by9 z) z (nx (bA by9 z) z u9)))) 999 (by omega) (by omega)) kv_X7_78 ⟨rfl, rfl, Nat.le_of_ble_eq_true rfl, Nat.le_of_ble_eq_true rfl⟩ ⟨Nat.le_of_ble_eq_true rfl, Nat.le_of_ble_eq_true rfl⟩ hK hN hZ hP hD hS hA [4, 5] [0, 1, 2, 3] rfl rfl rfl rfl (by decide) 0 rfl rfl rfl rfl hl.1 rfl (Nat.le_of_ble_eq_true rfl) dX7_takeWay_106 (fun r_72 u_r_72 H locs hw_r_72 hP hD hS => ?_)
            obtain ⟨u2_73, t2_74⟩ := u_r_72
            try dsimp only at hw_r_72
            obtain ⟨hw_r_72, i_75, i_76, i_77, i_78⟩ := hw_r_72
            have hP : va_P D vwCl [(q1, .inr (1, [.int (nI (P)), .ref be, .ref bl, .ref bu, .ref bo, .ref br, .ref bk, .ref bw, .ref btt, .ref bss])), (bl, .inl (cI, 100, .inl lo)), (bu, .inl (cI, 100, .inl hg)), (bo, .inl (cI, 100, .inl d)), (h0, .inr (7, [.int (nI (z)), .ref ab, .int (kd (bA by9 z) z (nf (bA by9 z) z u2_73)), .int (nI (nf (bA by9 z) z u2_73)), .int (nI (nx (bA by9 z) z u2_73)), .int (nI (cv (bA by9 z) z (nf (bA by9 z) z u2_73) (nx (bA by9 z) z u2_73))), .int t2_74])), (ab, .inl (cI, 120, .inl by9))] H := hP
            have hD : va_D A [(q1, .inr (1, [.int (nI (P)), .ref be, .ref bl, .ref bu, .ref bo, .ref br, .ref bk, .ref bw, .ref btt, .ref bss])), (bl, .inl (cI, 100, .inl lo)), (bu, .inl (cI, 100, .inl hg)), (bo, .inl (cI, 100, .inl d)), (h0, .inr (7, [.int (nI (z)), .ref ab, .int (kd (bA by9 z) z (nf (bA by9 z) z u2_73)), .int (nI (nf (bA by9 z) z u2_73)), .int (nI (nx (bA by9 z) z u2_73)), .int (nI (cv (bA by9 z) z (nf (bA by9 z) z u2_73) (nx (bA by9 z) z u2_73))), .int t2_74])), (ab, .inl (cI, 120, .inl by9))] := hD
            rcases hw_r_72 with ⟨rfl, h_79, h_80, h_81⟩ | ⟨rfl, h_82, h_83, h_84⟩
            · skip
              subst h_80
              subst h_81
              refine lv_if_ne (tgt := 114) hx hb dX7_takeWay_109 (by decide) (fun c_85 => ?_) (fun c_85 => absurd c_85 (by decide))
              refine lv_aload_n hx hb dX7_takeWay_114 rfl (lv_at hl 5 rfl) ?_
              refine lv_iload_n hx hb dX7_takeWay_115 rfl (lv_at hl 3 rfl) ?_
              refine lv_iload hx hb dX7_takeWay_116 (lv_at hl 1 rfl) ?_
              refine lv_iload hx hb dX7_takeWay_118 (lv_at hl 0 rfl) ?_
              refine lv_aload_n hx hb dX7_takeWay_120 rfl (lv_at hl 4 rfl) ?_
              refine xg hF kf_X7_31 hK hP 4 rfl rfl dX7_takeWay_121 ?_
              refine xc_Vv (wr := [(h0, .inr (7, [.int (nI (z)), .ref ab, .int (kd (bA by9 z) z (nf (bA by9 z) z (nx (bA by9 z) z (mSt (bA by9 z) z (nx (bA by9 z) z (nx (bA by9 z) z (mSt (bA by9 z) z (nx (bA by9 z) z (nx (bA by9 z) z (nx (bA by9 z) z u9)))))))))), .int (nI (nf (bA by9 z) z (nx (bA by9 z) z (mSt (bA by9 z) z (nx (bA by9 z) z (nx (bA by9 z) z (mSt (bA by9 z) z (nx (bA by9 z) z (nx (bA by9 z) z (nx (bA by9 z) z u9)))))))))), .int (nI (nx (bA by9 z) z (nx (bA by9 z) z (mSt (bA by9 z) z (nx (bA by9 z) z (nx (bA by9 z) z (mSt (bA by9 z) z (nx (bA by9 z) z (nx (bA by9 z) z (nx (bA by9 z) z u9)))))))))), .int (nI (cv (bA by9 z) z (nf (bA by9 z) z (nx (bA by9 z) z (mSt (bA by9 z) z (nx (bA by9 z) z (nx (bA by9 z) z (mSt (bA by9 z) z (nx (bA by9 z) z (nx (bA by9 z) z (nx (bA by9 z) z u9))))))))) (nx (bA by9 z) z (nx (bA by9 z) z (mSt (bA by9 z) z (nx (bA by9 z) z (nx (bA by9 z) z (mSt (bA by9 z) z (nx (bA by9 z) z (nx (bA by9 z) z (nx (bA by9 z) z u9))))))))))), .int (mV (bA by9 z) z (nx (bA by9 z) z (nx (bA by9 z) z (mSt (bA by9 z) z (nx (bA by9 z) z (nx (bA by9 z) z (nx (bA by9 z) z u9)))))))])), (ab, .inl (cI, 120, .inl by9))]) hF (c_X1_setWay l D cI cJ cZ cS ta sa sv H.size q1 be bl bu bo br bk bw btt bss P (cv (bA by9 z) z (nf (bA by9 z) z (nx (bA by9 z) z u9)) (nx (bA by9 z) z (nx (bA by9 z) z u9))) (cv (bA by9 z) z (nf (bA by9 z) z (nx (bA by9 z) z (nx (bA by9 z) z u9))) (nx (bA by9 z) z (nx (bA by9 z) z (nx (bA by9 z) z u9)))) (mV (bA by9 z) z (nx (bA by9 z) z (nx (bA by9 z) z (nx (bA by9 z) z u9)))) (mV (bA by9 z) z (nx (bA by9 z) z (nx (bA by9 z) z (mSt (bA by9 z) z (nx (bA by9 z) z (nx (bA by9 z) z (nx (bA by9 z) z u9))))))) lo hg d (by omega) (by omega)) kv_X7_84 ⟨rfl, rfl, Nat.le_of_ble_eq_true rfl, Nat.le_of_ble_eq_true rfl⟩ ⟨Nat.le_of_ble_eq_true rfl, Nat.le_of_ble_eq_true rfl⟩ hK hN hZ hP hD hS hA [0, 1, 2, 3] [4, 5] rfl rfl rfl rfl (by decide) 0 rfl rfl rfl rfl hl.1 rfl (Nat.le_of_ble_eq_true rfl) dX7_takeWay_124 (fun u_r_86 H locs hw_r_86 hP hD hS => ?_)
              obtain ⟨l2_87, u2_88, d2_89⟩ := u_r_86
              try dsimp only at hw_r_86
              obtain ⟨i_90, i_91, i_92⟩ := hw_r_86
              have hP : va_P D vwCl [(h0, .inr (7, [.int (nI (z)), .ref ab, .int (kd (bA by9 z) z (nf (bA by9 z) z (nx (bA by9 z) z (mSt (bA by9 z) z (nx (bA by9 z) z (nx (bA by9 z) z (mSt (bA by9 z) z (nx (bA by9 z) z (nx (bA by9 z) z (nx (bA by9 z) z u9)))))))))), .int (nI (nf (bA by9 z) z (nx (bA by9 z) z (mSt (bA by9 z) z (nx (bA by9 z) z (nx (bA by9 z) z (mSt (bA by9 z) z (nx (bA by9 z) z (nx (bA by9 z) z (nx (bA by9 z) z u9)))))))))), .int (nI (nx (bA by9 z) z (nx (bA by9 z) z (mSt (bA by9 z) z (nx (bA by9 z) z (nx (bA by9 z) z (mSt (bA by9 z) z (nx (bA by9 z) z (nx (bA by9 z) z (nx (bA by9 z) z u9)))))))))), .int (nI (cv (bA by9 z) z (nf (bA by9 z) z (nx (bA by9 z) z (mSt (bA by9 z) z (nx (bA by9 z) z (nx (bA by9 z) z (mSt (bA by9 z) z (nx (bA by9 z) z (nx (bA by9 z) z (nx (bA by9 z) z u9))))))))) (nx (bA by9 z) z (nx (bA by9 z) z (mSt (bA by9 z) z (nx (bA by9 z) z (nx (bA by9 z) z (mSt (bA by9 z) z (nx (bA by9 z) z (nx (bA by9 z) z (nx (bA by9 z) z u9))))))))))), .int (mV (bA by9 z) z (nx (bA by9 z) z (nx (bA by9 z) z (mSt (bA by9 z) z (nx (bA by9 z) z (nx (bA by9 z) z (nx (bA by9 z) z u9)))))))])), (ab, .inl (cI, 120, .inl by9)), (q1, .inr (1, [.int (nI (P)), .ref be, .ref bl, .ref bu, .ref bo, .ref br, .ref bk, .ref bw, .ref btt, .ref bss])), (bl, .inl (cI, 100, .inl l2_87)), (bu, .inl (cI, 100, .inl u2_88)), (bo, .inl (cI, 100, .inl d2_89))] H := hP
              have hD : va_D A [(h0, .inr (7, [.int (nI (z)), .ref ab, .int (kd (bA by9 z) z (nf (bA by9 z) z (nx (bA by9 z) z (mSt (bA by9 z) z (nx (bA by9 z) z (nx (bA by9 z) z (mSt (bA by9 z) z (nx (bA by9 z) z (nx (bA by9 z) z (nx (bA by9 z) z u9)))))))))), .int (nI (nf (bA by9 z) z (nx (bA by9 z) z (mSt (bA by9 z) z (nx (bA by9 z) z (nx (bA by9 z) z (mSt (bA by9 z) z (nx (bA by9 z) z (nx (bA by9 z) z (nx (bA by9 z) z u9)))))))))), .int (nI (nx (bA by9 z) z (nx (bA by9 z) z (mSt (bA by9 z) z (nx (bA by9 z) z (nx (bA by9 z) z (mSt (bA by9 z) z (nx (bA by9 z) z (nx (bA by9 z) z (nx (bA by9 z) z u9)))))))))), .int (nI (cv (bA by9 z) z (nf (bA by9 z) z (nx (bA by9 z) z (mSt (bA by9 z) z (nx (bA by9 z) z (nx (bA by9 z) z (mSt (bA by9 z) z (nx (bA by9 z) z (nx (bA by9 z) z (nx (bA by9 z) z u9))))))))) (nx (bA by9 z) z (nx (bA by9 z) z (mSt (bA by9 z) z (nx (bA by9 z) z (nx (bA by9 z) z (mSt (bA by9 z) z (nx (bA by9 z) z (nx (bA by9 z) z (nx (bA by9 z) z u9))))))))))), .int (mV (bA by9 z) z (nx (bA by9 z) z (nx (bA by9 z) z (mSt (bA by9 z) z (nx (bA by9 z) z (nx (bA by9 z) z (nx (bA by9 z) z u9)))))))])), (ab, .inl (cI, 120, .inl by9)), (q1, .inr (1, [.int (nI (P)), .ref be, .ref bl, .ref bu, .ref bo, .ref br, .ref bk, .ref bw, .ref btt, .ref bss])), (bl, .inl (cI, 100, .inl l2_87)), (bu, .inl (cI, 100, .inl u2_88)), (bo, .inl (cI, 100, .inl d2_89))] := hD
              refine lv_aload_n hx hb dX7_takeWay_127 rfl (lv_at hl 4 rfl) ?_
              refine va_ldcS (tx := "back") (q := sa 5) hx hb hown (hN.2.2 (88, "back", 5) (by decide)) dX7_takeWay_128 ?_
              refine xc_Vi (wr := [(q1, .inr (1, [.int (nI (P)), .ref be, .ref bl, .ref bu, .ref bo, .ref br, .ref bk, .ref bw, .ref btt, .ref bss])), (bl, .inl (cI, 100, .inl l2_87)), (bu, .inl (cI, 100, .inl u2_88)), (bo, .inl (cI, 100, .inl d2_89))]) hF (c_X7_takeWord l D cI cJ cZ cS ta sa sv H.size h0 ab z (nx (bA by9 z) z (mSt (bA by9 z) z (nx (bA by9 z) z (nx (bA by9 z) z (mSt (bA by9 z) z (nx (bA by9 z) z (nx (bA by9 z) z (nx (bA by9 z) z u9)))))))) (mV (bA by9 z) z (nx (bA by9 z) z (nx (bA by9 z) z (mSt (bA by9 z) z (nx (bA by9 z) z (nx (bA by9 z) z (nx (bA by9 z) z u9))))))) by9 5 (by omega) (by omega) (by omega)) kv_X7_67 ⟨rfl, rfl, Nat.le_of_ble_eq_true rfl, Nat.le_of_ble_eq_true rfl⟩ ⟨Nat.le_of_ble_eq_true rfl, Nat.le_of_ble_eq_true rfl⟩ hK hN hZ hP hD hS hA [0, 1] [2, 3, 4, 5] rfl rfl rfl rfl (by decide) 0 rfl rfl rfl rfl hl.1 rfl (Nat.le_of_ble_eq_true rfl) dX7_takeWay_130 (fun r_93 u_r_93 H locs hw_r_93 hP hD hS => ?_)
              obtain ⟨u2_94, t2_95⟩ := u_r_93
              try dsimp only at hw_r_93
              obtain ⟨hw_r_93, i_96, i_97, i_98, i_99⟩ := hw_r_93
              have hP : va_P D vwCl [(q1, .inr (1, [.int (nI (P)), .ref be, .ref bl, .ref bu, .ref bo, .ref br, .ref bk, .ref bw, .ref btt, .ref bss])), (bl, .inl (cI, 100, .inl l2_87)), (bu, .inl (cI, 100, .inl u2_88)), (bo, .inl (cI, 100, .inl d2_89)), (h0, .inr (7, [.int (nI (z)), .ref ab, .int (kd (bA by9 z) z (nf (bA by9 z) z u2_94)), .int (nI (nf (bA by9 z) z u2_94)), .int (nI (nx (bA by9 z) z u2_94)), .int (nI (cv (bA by9 z) z (nf (bA by9 z) z u2_94) (nx (bA by9 z) z u2_94))), .int t2_95])), (ab, .inl (cI, 120, .inl by9))] H := hP
              have hD : va_D A [(q1, .inr (1, [.int (nI (P)), .ref be, .ref bl, .ref bu, .ref bo, .ref br, .ref bk, .ref bw, .ref btt, .ref bss])), (bl, .inl (cI, 100, .inl l2_87)), (bu, .inl (cI, 100, .inl u2_88)), (bo, .inl (cI, 100, .inl d2_89)), (h0, .inr (7, [.int (nI (z)), .ref ab, .int (kd (bA by9 z) z (nf (bA by9 z) z u2_94)), .int (nI (nf (bA by9 z) z u2_94)), .int (nI (nx (bA by9 z) z u2_94)), .int (nI (cv (bA by9 z) z (nf (bA by9 z) z u2_94) (nx (bA by9 z) z u2_94))), .int t2_95])), (ab, .inl (cI, 120, .inl by9))] := hD
              rcases hw_r_93 with ⟨rfl, h_100, h_101, h_102⟩ | ⟨rfl, h_103, h_104, h_105⟩
              · skip
                subst h_101
                subst h_102
                refine lv_if_eq (tgt := 147) hx hb dX7_takeWay_133 (by decide) (fun c_106 => absurd c_106 (by decide)) (fun c_106 => ?_)
                refine lv_aload_n hx hb dX7_takeWay_136 rfl (lv_at hl 4 rfl) ?_
                refine lv_aload_n hx hb dX7_takeWay_137 rfl (lv_at hl 5 rfl) ?_
                refine lv_iload hx hb dX7_takeWay_138 (lv_at hl 1 rfl) ?_
                refine lv_iload_n hx hb dX7_takeWay_140 rfl (lv_at hl 3 rfl) ?_
                refine xc_Vi (wr := []) hF (c_X7_takeWayBack l D cI cJ cZ cS ta sa sv H.size h0 ab z (nx (bA by9 z) z (nx (bA by9 z) z (mSt (bA by9 z) z (nx (bA by9 z) z (nx (bA by9 z) z (mSt (bA by9 z) z (nx (bA by9 z) z (nx (bA by9 z) z (nx (bA by9 z) z u9))))))))) (mV (bA by9 z) z (nx (bA by9 z) z (nx (bA by9 z) z (mSt (bA by9 z) z (nx (bA by9 z) z (nx (bA by9 z) z (nx (bA by9 z) z u9))))))) by9 q1 be bl bu bo br bk bw btt bss P l2_87 u2_88 d2_89 (cv (bA by9 z) z (nf (bA by9 z) z (nx (bA by9 z) z (nx (bA by9 z) z u9))) (nx (bA by9 z) z (nx (bA by9 z) z (nx (bA by9 z) z u9)))) (cv (bA by9 z) z (nf (bA by9 z) z (nx (bA by9 z) z u9)) (nx (bA by9 z) z (nx (bA by9 z) z u9))) (by omega) (by omega) (by omega) (by omega)) kv_X7_90 ⟨rfl, rfl, Nat.le_of_ble_eq_true rfl, Nat.le_of_ble_eq_true rfl⟩ ⟨Nat.le_of_ble_eq_true rfl, Nat.le_of_ble_eq_true rfl⟩ hK hN hZ hP hD hS hA [4, 5, 0, 1, 2, 3] [] rfl rfl rfl rfl (by decide) 0 rfl rfl rfl rfl hl.1 rfl (Nat.le_of_ble_eq_true rfl) dX7_takeWay_141 (fun r_107 u_r_107 H locs hw_r_107 hP hD hS => ?_)
                obtain ⟨u2_108, t2_109, l2_110, u3_111, d2_112⟩ := u_r_107
                try dsimp only at hw_r_107
                obtain ⟨hw_r_107, i_113, i_114, i_115, i_116⟩ := hw_r_107
                have hP : va_P D vwCl [(h0, .inr (7, [.int (nI (z)), .ref ab, .int (kd (bA by9 z) z (nf (bA by9 z) z u2_108)), .int (nI (nf (bA by9 z) z u2_108)), .int (nI (nx (bA by9 z) z u2_108)), .int (nI (cv (bA by9 z) z (nf (bA by9 z) z u2_108) (nx (bA by9 z) z u2_108))), .int t2_109])), (ab, .inl (cI, 120, .inl by9)), (q1, .inr (1, [.int (nI (P)), .ref be, .ref bl, .ref bu, .ref bo, .ref br, .ref bk, .ref bw, .ref btt, .ref bss])), (bl, .inl (cI, 100, .inl l2_110)), (bu, .inl (cI, 100, .inl u3_111)), (bo, .inl (cI, 100, .inl d2_112))] H := hP
                have hD : va_D A [(h0, .inr (7, [.int (nI (z)), .ref ab, .int (kd (bA by9 z) z (nf (bA by9 z) z u2_108)), .int (nI (nf (bA by9 z) z u2_108)), .int (nI (nx (bA by9 z) z u2_108)), .int (nI (cv (bA by9 z) z (nf (bA by9 z) z u2_108) (nx (bA by9 z) z u2_108))), .int t2_109])), (ab, .inl (cI, 120, .inl by9)), (q1, .inr (1, [.int (nI (P)), .ref be, .ref bl, .ref bu, .ref bo, .ref br, .ref bk, .ref bw, .ref btt, .ref bss])), (bl, .inl (cI, 100, .inl l2_110)), (bu, .inl (cI, 100, .inl u3_111)), (bo, .inl (cI, 100, .inl d2_112))] := hD
                rcases hw_r_107 with ⟨rfl, h_117⟩ | ⟨rfl, h_118⟩
                · skip
                  refine lv_if_eq (tgt := 151) hx hb dX7_takeWay_144 (by decide) (fun c_119 => absurd c_119 (by decide)) (fun c_119 => ?_)
                  refine lv_iconst (v := 1) hx hb dX7_takeWay_147 (by decide) ?_
                  refine lv_goto (tgt := 152) hx hb dX7_takeWay_148 (by decide) ?_
                  exact W.zret (v := 1) hx hb hr rfl (fun t ht hW => ⟨⟨1, (u2_108, t2_109, l2_110, u3_111, d2_112), rfl, ⟨Or.inl ⟨rfl, (cif_pos (h_21)).trans ((cif_pos (⟨h_37, absurd h_37.1 c_28⟩)).trans ((cif_pos (h_51)).trans ((cif_pos (h_65)).trans ((cif_pos (h_79)).trans ((cif_pos (h_100)).trans (h_117))))))⟩, (by first | assumption | omega), (by first | assumption | omega), cv_le, (nx_le (by omega))⟩, by rw [ht]; exact hP.sub [0, 1, 2, 3, 4, 5] rfl, hD.sub [0, 1, 2, 3, 4, 5] (by decide +kernel) rfl⟩, hS.F ht⟩) hS.2.2 dX7_takeWay_152 hlk
                · skip
                  refine lv_if_eq (tgt := 151) hx hb dX7_takeWay_144 (by decide) (fun c_120 => ?_) (fun c_120 => absurd (by decide) c_120)
                  refine lv_iconst (v := 0) hx hb dX7_takeWay_151 (by decide) ?_
                  exact W.zret (v := 0) hx hb hr rfl (fun t ht hW => ⟨⟨0, (u2_108, t2_109, l2_110, u3_111, d2_112), rfl, ⟨Or.inr ⟨rfl, (cif_pos (h_21)).trans ((cif_pos (⟨h_37, absurd h_37.1 c_28⟩)).trans ((cif_pos (h_51)).trans ((cif_pos (h_65)).trans ((cif_pos (h_79)).trans ((cif_pos (h_100)).trans (h_118))))))⟩, (by first | assumption | omega), (by first | assumption | omega), cv_le, (nx_le (by omega))⟩, by rw [ht]; exact hP.sub [0, 1, 2, 3, 4, 5] rfl, hD.sub [0, 1, 2, 3, 4, 5] (by decide +kernel) rfl⟩, hS.F ht⟩) hS.2.2 dX7_takeWay_152 hlk
              · skip
                subst h_104
                subst h_105
                refine lv_if_eq (tgt := 147) hx hb dX7_takeWay_133 (by decide) (fun c_121 => ?_) (fun c_121 => absurd (by decide) c_121)
                refine lv_iconst (v := 1) hx hb dX7_takeWay_147 (by decide) ?_
                refine lv_goto (tgt := 152) hx hb dX7_takeWay_148 (by decide) ?_
                exact W.zret (v := 1) hx hb hr rfl (fun t ht hW => ⟨⟨1, (nx (bA by9 z) z (mSt (bA by9 z) z (nx (bA by9 z) z (nx (bA by9 z) z (mSt (bA by9 z) z (nx (bA by9 z) z (nx (bA by9 z) z (nx (bA by9 z) z u9))))))), (mV (bA by9 z) z (nx (bA by9 z) z (nx (bA by9 z) z (mSt (bA by9 z) z (nx (bA by9 z) z (nx (bA by9 z) z (nx (bA by9 z) z u9))))))), l2_87, u2_88, d2_89), rfl, ⟨Or.inl ⟨rfl, (cif_pos (h_21)).trans ((cif_pos (⟨h_37, absurd h_37.1 c_28⟩)).trans ((cif_pos (h_51)).trans ((cif_pos (h_65)).trans ((cif_pos (h_79)).trans (cif_neg (h_103))))))⟩, (by first | assumption | omega), (by first | assumption | omega), cv_le, (nx_le (by omega))⟩, by rw [ht]; exact hP.sub [4, 5, 0, 1, 2, 3] rfl, hD.sub [4, 5, 0, 1, 2, 3] (by decide +kernel) rfl⟩, hS.F ht⟩) hS.2.2 dX7_takeWay_152 hlk
            · skip
              subst h_83
              subst h_84
              refine lv_if_ne (tgt := 114) hx hb dX7_takeWay_109 (by decide) (fun c_122 => absurd (by decide) c_122) (fun c_122 => ?_)
              refine lv_iconst (v := 0) hx hb dX7_takeWay_112 (by decide) ?_
              exact W.zret (v := 0) hx hb hr rfl (fun t ht hW => ⟨⟨0, (mSt (bA by9 z) z (nx (bA by9 z) z (nx (bA by9 z) z (mSt (bA by9 z) z (nx (bA by9 z) z (nx (bA by9 z) z (nx (bA by9 z) z u9)))))), (mV (bA by9 z) z (nx (bA by9 z) z (nx (bA by9 z) z (nx (bA by9 z) z u9)))), lo, hg, d), rfl, ⟨Or.inr ⟨rfl, (cif_pos (h_21)).trans ((cif_pos (⟨h_37, absurd h_37.1 c_28⟩)).trans ((cif_pos (h_51)).trans ((cif_pos (h_65)).trans (cif_neg (h_82)))))⟩, (by first | assumption | omega), (by first | assumption | omega), cv_le, (nx_le (by omega))⟩, by rw [ht]; exact hP.sub [4, 5, 0, 1, 2, 3] rfl, hD.sub [4, 5, 0, 1, 2, 3] (by decide +kernel) rfl⟩, hS.F ht⟩) hS.2.2 dX7_takeWay_113 hlk
          · skip
            subst h_69
            subst h_70
            refine lv_if_eq (tgt := 114) hx hb dX7_takeWay_97 (by decide) (fun c_123 => ?_) (fun c_123 => absurd (by decide) c_123)
            refine lv_aload_n hx hb dX7_takeWay_114 rfl (lv_at hl 5 rfl) ?_
            refine lv_iload_n hx hb dX7_takeWay_115 rfl (lv_at hl 3 rfl) ?_
            refine lv_iload hx hb dX7_takeWay_116 (lv_at hl 1 rfl) ?_
            refine lv_iload hx hb dX7_takeWay_118 (lv_at hl 0 rfl) ?_
            refine lv_aload_n hx hb dX7_takeWay_120 rfl (lv_at hl 4 rfl) ?_
            refine xg hF kf_X7_31 hK hP 4 rfl rfl dX7_takeWay_121 ?_
            refine xc_Vv (wr := [(h0, .inr (7, [.int (nI (z)), .ref ab, .int (kd (bA by9 z) z (nf (bA by9 z) z (nx (bA by9 z) z (mSt (bA by9 z) z (nx (bA by9 z) z (nx (bA by9 z) z (nx (bA by9 z) z u9))))))), .int (nI (nf (bA by9 z) z (nx (bA by9 z) z (mSt (bA by9 z) z (nx (bA by9 z) z (nx (bA by9 z) z (nx (bA by9 z) z u9))))))), .int (nI (nx (bA by9 z) z (nx (bA by9 z) z (mSt (bA by9 z) z (nx (bA by9 z) z (nx (bA by9 z) z (nx (bA by9 z) z u9))))))), .int (nI (cv (bA by9 z) z (nf (bA by9 z) z (nx (bA by9 z) z (mSt (bA by9 z) z (nx (bA by9 z) z (nx (bA by9 z) z (nx (bA by9 z) z u9)))))) (nx (bA by9 z) z (nx (bA by9 z) z (mSt (bA by9 z) z (nx (bA by9 z) z (nx (bA by9 z) z (nx (bA by9 z) z u9)))))))), .int (mV (bA by9 z) z (nx (bA by9 z) z (nx (bA by9 z) z (nx (bA by9 z) z u9))))])), (ab, .inl (cI, 120, .inl by9))]) hF (c_X1_setWay l D cI cJ cZ cS ta sa sv H.size q1 be bl bu bo br bk bw btt bss P (cv (bA by9 z) z (nf (bA by9 z) z (nx (bA by9 z) z u9)) (nx (bA by9 z) z (nx (bA by9 z) z u9))) (cv (bA by9 z) z (nf (bA by9 z) z (nx (bA by9 z) z (nx (bA by9 z) z u9))) (nx (bA by9 z) z (nx (bA by9 z) z (nx (bA by9 z) z u9)))) (mV (bA by9 z) z (nx (bA by9 z) z (nx (bA by9 z) z (nx (bA by9 z) z u9)))) (mV (bA by9 z) z (nx (bA by9 z) z (nx (bA by9 z) z (nx (bA by9 z) z u9)))) lo hg d (by omega) (by omega)) kv_X7_84 ⟨rfl, rfl, Nat.le_of_ble_eq_true rfl, Nat.le_of_ble_eq_true rfl⟩ ⟨Nat.le_of_ble_eq_true rfl, Nat.le_of_ble_eq_true rfl⟩ hK hN hZ hP hD hS hA [0, 1, 2, 3] [4, 5] rfl rfl rfl rfl (by decide) 0 rfl rfl rfl rfl hl.1 rfl (Nat.le_of_ble_eq_true rfl) dX7_takeWay_124 (fun u_r_124 H locs hw_r_124 hP hD hS => ?_)
            obtain ⟨l2_125, u2_126, d2_127⟩ := u_r_124
            try dsimp only at hw_r_124
            obtain ⟨i_128, i_129, i_130⟩ := hw_r_124
            have hP : va_P D vwCl [(h0, .inr (7, [.int (nI (z)), .ref ab, .int (kd (bA by9 z) z (nf (bA by9 z) z (nx (bA by9 z) z (mSt (bA by9 z) z (nx (bA by9 z) z (nx (bA by9 z) z (nx (bA by9 z) z u9))))))), .int (nI (nf (bA by9 z) z (nx (bA by9 z) z (mSt (bA by9 z) z (nx (bA by9 z) z (nx (bA by9 z) z (nx (bA by9 z) z u9))))))), .int (nI (nx (bA by9 z) z (nx (bA by9 z) z (mSt (bA by9 z) z (nx (bA by9 z) z (nx (bA by9 z) z (nx (bA by9 z) z u9))))))), .int (nI (cv (bA by9 z) z (nf (bA by9 z) z (nx (bA by9 z) z (mSt (bA by9 z) z (nx (bA by9 z) z (nx (bA by9 z) z (nx (bA by9 z) z u9)))))) (nx (bA by9 z) z (nx (bA by9 z) z (mSt (bA by9 z) z (nx (bA by9 z) z (nx (bA by9 z) z (nx (bA by9 z) z u9)))))))), .int (mV (bA by9 z) z (nx (bA by9 z) z (nx (bA by9 z) z (nx (bA by9 z) z u9))))])), (ab, .inl (cI, 120, .inl by9)), (q1, .inr (1, [.int (nI (P)), .ref be, .ref bl, .ref bu, .ref bo, .ref br, .ref bk, .ref bw, .ref btt, .ref bss])), (bl, .inl (cI, 100, .inl l2_125)), (bu, .inl (cI, 100, .inl u2_126)), (bo, .inl (cI, 100, .inl d2_127))] H := hP
            have hD : va_D A [(h0, .inr (7, [.int (nI (z)), .ref ab, .int (kd (bA by9 z) z (nf (bA by9 z) z (nx (bA by9 z) z (mSt (bA by9 z) z (nx (bA by9 z) z (nx (bA by9 z) z (nx (bA by9 z) z u9))))))), .int (nI (nf (bA by9 z) z (nx (bA by9 z) z (mSt (bA by9 z) z (nx (bA by9 z) z (nx (bA by9 z) z (nx (bA by9 z) z u9))))))), .int (nI (nx (bA by9 z) z (nx (bA by9 z) z (mSt (bA by9 z) z (nx (bA by9 z) z (nx (bA by9 z) z (nx (bA by9 z) z u9))))))), .int (nI (cv (bA by9 z) z (nf (bA by9 z) z (nx (bA by9 z) z (mSt (bA by9 z) z (nx (bA by9 z) z (nx (bA by9 z) z (nx (bA by9 z) z u9)))))) (nx (bA by9 z) z (nx (bA by9 z) z (mSt (bA by9 z) z (nx (bA by9 z) z (nx (bA by9 z) z (nx (bA by9 z) z u9)))))))), .int (mV (bA by9 z) z (nx (bA by9 z) z (nx (bA by9 z) z (nx (bA by9 z) z u9))))])), (ab, .inl (cI, 120, .inl by9)), (q1, .inr (1, [.int (nI (P)), .ref be, .ref bl, .ref bu, .ref bo, .ref br, .ref bk, .ref bw, .ref btt, .ref bss])), (bl, .inl (cI, 100, .inl l2_125)), (bu, .inl (cI, 100, .inl u2_126)), (bo, .inl (cI, 100, .inl d2_127))] := hD
            refine lv_aload_n hx hb dX7_takeWay_127 rfl (lv_at hl 4 rfl) ?_
            refine va_ldcS (tx := "back") (q := sa 5) hx hb hown (hN.2.2 (88, "back", 5) (by decide)) dX7_takeWay_128 ?_
            refine xc_Vi (wr := [(q1, .inr (1, [.int (nI (P)), .ref be, .ref bl, .ref bu, .ref bo, .ref br, .ref bk, .ref bw, .ref btt, .ref bss])), (bl, .inl (cI, 100, .inl l2_125)), (bu, .inl (cI, 100, .inl u2_126)), (bo, .inl (cI, 100, .inl d2_127))]) hF (c_X7_takeWord l D cI cJ cZ cS ta sa sv H.size h0 ab z (nx (bA by9 z) z (mSt (bA by9 z) z (nx (bA by9 z) z (nx (bA by9 z) z (nx (bA by9 z) z u9))))) (mV (bA by9 z) z (nx (bA by9 z) z (nx (bA by9 z) z (nx (bA by9 z) z u9)))) by9 5 (by omega) (by omega) (by omega)) kv_X7_67 ⟨rfl, rfl, Nat.le_of_ble_eq_true rfl, Nat.le_of_ble_eq_true rfl⟩ ⟨Nat.le_of_ble_eq_true rfl, Nat.le_of_ble_eq_true rfl⟩ hK hN hZ hP hD hS hA [0, 1] [2, 3, 4, 5] rfl rfl rfl rfl (by decide) 0 rfl rfl rfl rfl hl.1 rfl (Nat.le_of_ble_eq_true rfl) dX7_takeWay_130 (fun r_131 u_r_131 H locs hw_r_131 hP hD hS => ?_)
            obtain ⟨u2_132, t2_133⟩ := u_r_131
            try dsimp only at hw_r_131
            obtain ⟨hw_r_131, i_134, i_135, i_136, i_137⟩ := hw_r_131
            have hP : va_P D vwCl [(q1, .inr (1, [.int (nI (P)), .ref be, .ref bl, .ref bu, .ref bo, .ref br, .ref bk, .ref bw, .ref btt, .ref bss])), (bl, .inl (cI, 100, .inl l2_125)), (bu, .inl (cI, 100, .inl u2_126)), (bo, .inl (cI, 100, .inl d2_127)), (h0, .inr (7, [.int (nI (z)), .ref ab, .int (kd (bA by9 z) z (nf (bA by9 z) z u2_132)), .int (nI (nf (bA by9 z) z u2_132)), .int (nI (nx (bA by9 z) z u2_132)), .int (nI (cv (bA by9 z) z (nf (bA by9 z) z u2_132) (nx (bA by9 z) z u2_132))), .int t2_133])), (ab, .inl (cI, 120, .inl by9))] H := hP
            have hD : va_D A [(q1, .inr (1, [.int (nI (P)), .ref be, .ref bl, .ref bu, .ref bo, .ref br, .ref bk, .ref bw, .ref btt, .ref bss])), (bl, .inl (cI, 100, .inl l2_125)), (bu, .inl (cI, 100, .inl u2_126)), (bo, .inl (cI, 100, .inl d2_127)), (h0, .inr (7, [.int (nI (z)), .ref ab, .int (kd (bA by9 z) z (nf (bA by9 z) z u2_132)), .int (nI (nf (bA by9 z) z u2_132)), .int (nI (nx (bA by9 z) z u2_132)), .int (nI (cv (bA by9 z) z (nf (bA by9 z) z u2_132) (nx (bA by9 z) z u2_132))), .int t2_133])), (ab, .inl (cI, 120, .inl by9))] := hD
            rcases hw_r_131 with ⟨rfl, h_138, h_139, h_140⟩ | ⟨rfl, h_141, h_142, h_143⟩
            · skip
              subst h_139
              subst h_140
              refine lv_if_eq (tgt := 147) hx hb dX7_takeWay_133 (by decide) (fun c_144 => absurd c_144 (by decide)) (fun c_144 => ?_)
              refine lv_aload_n hx hb dX7_takeWay_136 rfl (lv_at hl 4 rfl) ?_
              refine lv_aload_n hx hb dX7_takeWay_137 rfl (lv_at hl 5 rfl) ?_
              refine lv_iload hx hb dX7_takeWay_138 (lv_at hl 1 rfl) ?_
              refine lv_iload_n hx hb dX7_takeWay_140 rfl (lv_at hl 3 rfl) ?_
              refine xc_Vi (wr := []) hF (c_X7_takeWayBack l D cI cJ cZ cS ta sa sv H.size h0 ab z (nx (bA by9 z) z (nx (bA by9 z) z (mSt (bA by9 z) z (nx (bA by9 z) z (nx (bA by9 z) z (nx (bA by9 z) z u9)))))) (mV (bA by9 z) z (nx (bA by9 z) z (nx (bA by9 z) z (nx (bA by9 z) z u9)))) by9 q1 be bl bu bo br bk bw btt bss P l2_125 u2_126 d2_127 (cv (bA by9 z) z (nf (bA by9 z) z (nx (bA by9 z) z (nx (bA by9 z) z u9))) (nx (bA by9 z) z (nx (bA by9 z) z (nx (bA by9 z) z u9)))) (cv (bA by9 z) z (nf (bA by9 z) z (nx (bA by9 z) z u9)) (nx (bA by9 z) z (nx (bA by9 z) z u9))) (by omega) (by omega) (by omega) (by omega)) kv_X7_90 ⟨rfl, rfl, Nat.le_of_ble_eq_true rfl, Nat.le_of_ble_eq_true rfl⟩ ⟨Nat.le_of_ble_eq_true rfl, Nat.le_of_ble_eq_true rfl⟩ hK hN hZ hP hD hS hA [4, 5, 0, 1, 2, 3] [] rfl rfl rfl rfl (by decide) 0 rfl rfl rfl rfl hl.1 rfl (Nat.le_of_ble_eq_true rfl) dX7_takeWay_141 (fun r_145 u_r_145 H locs hw_r_145 hP hD hS => ?_)
              obtain ⟨u2_146, t2_147, l2_148, u3_149, d2_150⟩ := u_r_145
              try dsimp only at hw_r_145
              obtain ⟨hw_r_145, i_151, i_152, i_153, i_154⟩ := hw_r_145
              have hP : va_P D vwCl [(h0, .inr (7, [.int (nI (z)), .ref ab, .int (kd (bA by9 z) z (nf (bA by9 z) z u2_146)), .int (nI (nf (bA by9 z) z u2_146)), .int (nI (nx (bA by9 z) z u2_146)), .int (nI (cv (bA by9 z) z (nf (bA by9 z) z u2_146) (nx (bA by9 z) z u2_146))), .int t2_147])), (ab, .inl (cI, 120, .inl by9)), (q1, .inr (1, [.int (nI (P)), .ref be, .ref bl, .ref bu, .ref bo, .ref br, .ref bk, .ref bw, .ref btt, .ref bss])), (bl, .inl (cI, 100, .inl l2_148)), (bu, .inl (cI, 100, .inl u3_149)), (bo, .inl (cI, 100, .inl d2_150))] H := hP
              have hD : va_D A [(h0, .inr (7, [.int (nI (z)), .ref ab, .int (kd (bA by9 z) z (nf (bA by9 z) z u2_146)), .int (nI (nf (bA by9 z) z u2_146)), .int (nI (nx (bA by9 z) z u2_146)), .int (nI (cv (bA by9 z) z (nf (bA by9 z) z u2_146) (nx (bA by9 z) z u2_146))), .int t2_147])), (ab, .inl (cI, 120, .inl by9)), (q1, .inr (1, [.int (nI (P)), .ref be, .ref bl, .ref bu, .ref bo, .ref br, .ref bk, .ref bw, .ref btt, .ref bss])), (bl, .inl (cI, 100, .inl l2_148)), (bu, .inl (cI, 100, .inl u3_149)), (bo, .inl (cI, 100, .inl d2_150))] := hD
              rcases hw_r_145 with ⟨rfl, h_155⟩ | ⟨rfl, h_156⟩
              · skip
                refine lv_if_eq (tgt := 151) hx hb dX7_takeWay_144 (by decide) (fun c_157 => absurd c_157 (by decide)) (fun c_157 => ?_)
                refine lv_iconst (v := 1) hx hb dX7_takeWay_147 (by decide) ?_
                refine lv_goto (tgt := 152) hx hb dX7_takeWay_148 (by decide) ?_
                exact W.zret (v := 1) hx hb hr rfl (fun t ht hW => ⟨⟨1, (u2_146, t2_147, l2_148, u3_149, d2_150), rfl, ⟨Or.inl ⟨rfl, (cif_pos (h_21)).trans ((cif_pos (⟨h_37, absurd h_37.1 c_28⟩)).trans ((cif_pos (h_51)).trans ((cif_neg (h_68)).trans ((cif_pos (h_138)).trans (h_155)))))⟩, (by first | assumption | omega), (by first | assumption | omega), cv_le, (nx_le (by omega))⟩, by rw [ht]; exact hP.sub [0, 1, 2, 3, 4, 5] rfl, hD.sub [0, 1, 2, 3, 4, 5] (by decide +kernel) rfl⟩, hS.F ht⟩) hS.2.2 dX7_takeWay_152 hlk
              · skip
                refine lv_if_eq (tgt := 151) hx hb dX7_takeWay_144 (by decide) (fun c_158 => ?_) (fun c_158 => absurd (by decide) c_158)
                refine lv_iconst (v := 0) hx hb dX7_takeWay_151 (by decide) ?_
                exact W.zret (v := 0) hx hb hr rfl (fun t ht hW => ⟨⟨0, (u2_146, t2_147, l2_148, u3_149, d2_150), rfl, ⟨Or.inr ⟨rfl, (cif_pos (h_21)).trans ((cif_pos (⟨h_37, absurd h_37.1 c_28⟩)).trans ((cif_pos (h_51)).trans ((cif_neg (h_68)).trans ((cif_pos (h_138)).trans (h_156)))))⟩, (by first | assumption | omega), (by first | assumption | omega), cv_le, (nx_le (by omega))⟩, by rw [ht]; exact hP.sub [0, 1, 2, 3, 4, 5] rfl, hD.sub [0, 1, 2, 3, 4, 5] (by decide +kernel) rfl⟩, hS.F ht⟩) hS.2.2 dX7_takeWay_152 hlk
            · skip
              subst h_142
              subst h_143
              refine lv_if_eq (tgt := 147) hx hb dX7_takeWay_133 (by decide) (fun c_159 => ?_) (fun c_159 => absurd (by decide) c_159)
              refine lv_iconst (v := 1) hx hb dX7_takeWay_147 (by decide) ?_
              refine lv_goto (tgt := 152) hx hb dX7_takeWay_148 (by decide) ?_
              exact W.zret (v := 1) hx hb hr rfl (fun t ht hW => ⟨⟨1, (nx (bA by9 z) z (mSt (bA by9 z) z (nx (bA by9 z) z (nx (bA by9 z) z (nx (bA by9 z) z u9)))), (mV (bA by9 z) z (nx (bA by9 z) z (nx (bA by9 z) z (nx (bA by9 z) z u9)))), l2_125, u2_126, d2_127), rfl, ⟨Or.inl ⟨rfl, (cif_pos (h_21)).trans ((cif_pos (⟨h_37, absurd h_37.1 c_28⟩)).trans ((cif_pos (h_51)).trans ((cif_neg (h_68)).trans (cif_neg (h_141)))))⟩, (by first | assumption | omega), (by first | assumption | omega), cv_le, (nx_le (by omega))⟩, by rw [ht]; exact hP.sub [4, 5, 0, 1, 2, 3] rfl, hD.sub [4, 5, 0, 1, 2, 3] (by decide +kernel) rfl⟩, hS.F ht⟩) hS.2.2 dX7_takeWay_152 hlk
        · skip
          subst h_55
          subst h_56
          refine lv_if_ne (tgt := 85) hx hb dX7_takeWay_80 (by decide) (fun c_160 => absurd (by decide) c_160) (fun c_160 => ?_)
          refine lv_iconst (v := 0) hx hb dX7_takeWay_83 (by decide) ?_
          exact W.zret (v := 0) hx hb hr rfl (fun t ht hW => ⟨⟨0, (mSt (bA by9 z) z (nx (bA by9 z) z (nx (bA by9 z) z (nx (bA by9 z) z u9))), nI (cv (bA by9 z) z (nf (bA by9 z) z (nx (bA by9 z) z (nx (bA by9 z) z u9))) (nx (bA by9 z) z (nx (bA by9 z) z (nx (bA by9 z) z u9)))), lo, hg, d), rfl, ⟨Or.inr ⟨rfl, (cif_pos (h_21)).trans ((cif_pos (⟨h_37, absurd h_37.1 c_28⟩)).trans (cif_neg (h_54)))⟩, (by first | assumption | omega), (by first | assumption | omega), cv_le, (nx_le (by omega))⟩, by rw [ht]; exact hP.sub [4, 5, 0, 1, 2, 3] rfl, hD.sub [4, 5, 0, 1, 2, 3] (by decide +kernel) rfl⟩, hS.F ht⟩) hS.2.2 dX7_takeWay_84 hlk
      · skip
        subst h_41
        subst h_42
        refine lv_if_ne (tgt := 65) hx hb dX7_takeWay_60 (by decide) (fun c_161 => absurd (by decide) c_161) (fun c_161 => ?_)
        refine lv_iconst (v := 0) hx hb dX7_takeWay_63 (by decide) ?_
        exact W.zret (v := 0) hx hb hr rfl (fun t ht hW => ⟨⟨0, (nx (bA by9 z) z (nx (bA by9 z) z u9), nI (cv (bA by9 z) z (nf (bA by9 z) z (nx (bA by9 z) z u9)) (nx (bA by9 z) z (nx (bA by9 z) z u9))), lo, hg, d), rfl, ⟨Or.inr ⟨rfl, (cif_pos (h_21)).trans (cif_neg (fun h => h_40 h.1))⟩, (by first | assumption | omega), (by first | assumption | omega), cv_le, (nx_le (by omega))⟩, by rw [ht]; exact hP.sub [4, 5, 0, 1, 2, 3] rfl, hD.sub [4, 5, 0, 1, 2, 3] (by decide +kernel) rfl⟩, hS.F ht⟩) hS.2.2 dX7_takeWay_64 hlk
    · skip
      refine lv_aload_n hx hb dX7_takeWay_32 rfl (lv_at hl 1 rfl) ?_
      refine xg hF kf_X7_28 hK hP 4 rfl rfl dX7_takeWay_33 ?_
      refine lv_iload_n hx hb dX7_takeWay_36 rfl (lv_at hl 0 rfl) ?_
      refine lv_icmp_ne (tgt := 44) hx hb dX7_takeWay_37 (by decide) (fun c_162 => ?_) (fun c_162 => ?_)
      · skip
        have nc_162 : cv (bA by9 z) z (nf (bA by9 z) z (nx (bA by9 z) z (nx (bA by9 z) z u9))) (nx (bA by9 z) z (nx (bA by9 z) z (nx (bA by9 z) z u9))) ≠ cv (bA by9 z) z (nf (bA by9 z) z (nx (bA by9 z) z u9)) (nx (bA by9 z) z (nx (bA by9 z) z u9)) := xn_ne (a := (cv (bA by9 z) z (nf (bA by9 z) z (nx (bA by9 z) z (nx (bA by9 z) z u9))) (nx (bA by9 z) z (nx (bA by9 z) z (nx (bA by9 z) z u9))))) (b := (cv (bA by9 z) z (nf (bA by9 z) z (nx (bA by9 z) z u9)) (nx (bA by9 z) z (nx (bA by9 z) z u9)))) (by omega) (by omega) c_162
        refine lv_iconst (v := 0) hx hb dX7_takeWay_44 (by decide) ?_
        refine lv_istore_n (lv' := [(3, .int 0), (2, .int (nI (cv (bA by9 z) z (nf (bA by9 z) z (nx (bA by9 z) z u9)) (nx (bA by9 z) z (nx (bA by9 z) z u9))))), (0, .ref h0), (1, .ref q1)]) hx hb dX7_takeWay_45 rfl hl (by decide) rfl (fun ls hl => ?_)
        refine lv_iload_n hx hb dX7_takeWay_46 rfl (lv_at hl 0 rfl) ?_
        refine lv_if_ne (tgt := 63) hx hb dX7_takeWay_47 (by decide) (fun c_163 => absurd (by decide) c_163) (fun c_163 => ?_)
        refine lv_aload_n hx hb dX7_takeWay_50 rfl (lv_at hl 2 rfl) ?_
        refine lv_aload_n hx hb dX7_takeWay_51 rfl (lv_at hl 3 rfl) ?_
        refine xg hF kf_X7_60 hK hP 0 rfl rfl dX7_takeWay_52 ?_
        refine lv_iconst (v := 1) hx hb dX7_takeWay_55 (by decide) ?_
        refine lv_isub hx hb dX7_takeWay_56 ?_
        refine xc_Vi (wr := [(q1, .inr (1, [.int (nI (P)), .ref be, .ref bl, .ref bu, .ref bo, .ref br, .ref bk, .ref bw, .ref btt, .ref bss])), (bl, .inl (cI, 100, .inl lo)), (bu, .inl (cI, 100, .inl hg)), (bo, .inl (cI, 100, .inl d))]) hF (c_X7_takeNumber l D cI cJ cZ cS ta sa sv H.size h0 ab z (nx (bA by9 z) z (nx (bA by9 z) z u9)) (nI (cv (bA by9 z) z (nf (bA by9 z) z (nx (bA by9 z) z u9)) (nx (bA by9 z) z (nx (bA by9 z) z u9)))) by9 ((nI (P)) - 1) (by omega) (by omega)) kv_X7_70 ⟨rfl, rfl, Nat.le_of_ble_eq_true rfl, Nat.le_of_ble_eq_true rfl⟩ ⟨Nat.le_of_ble_eq_true rfl, Nat.le_of_ble_eq_true rfl⟩ hK hN hZ hP hD hS hA [4, 5] [0, 1, 2, 3] rfl rfl rfl rfl (by decide) 0 rfl rfl rfl rfl hl.1 rfl (Nat.le_of_ble_eq_true rfl) dX7_takeWay_57 (fun r_164 u_r_164 H locs hw_r_164 hP hD hS => ?_)
        obtain ⟨u2_165, t2_166⟩ := u_r_164
        try dsimp only at hw_r_164
        obtain ⟨hw_r_164, i_167, i_168, i_169, i_170⟩ := hw_r_164
        have hP : va_P D vwCl [(q1, .inr (1, [.int (nI (P)), .ref be, .ref bl, .ref bu, .ref bo, .ref br, .ref bk, .ref bw, .ref btt, .ref bss])), (bl, .inl (cI, 100, .inl lo)), (bu, .inl (cI, 100, .inl hg)), (bo, .inl (cI, 100, .inl d)), (h0, .inr (7, [.int (nI (z)), .ref ab, .int (kd (bA by9 z) z (nf (bA by9 z) z u2_165)), .int (nI (nf (bA by9 z) z u2_165)), .int (nI (nx (bA by9 z) z u2_165)), .int (nI (cv (bA by9 z) z (nf (bA by9 z) z u2_165) (nx (bA by9 z) z u2_165))), .int t2_166])), (ab, .inl (cI, 120, .inl by9))] H := hP
        have hD : va_D A [(q1, .inr (1, [.int (nI (P)), .ref be, .ref bl, .ref bu, .ref bo, .ref br, .ref bk, .ref bw, .ref btt, .ref bss])), (bl, .inl (cI, 100, .inl lo)), (bu, .inl (cI, 100, .inl hg)), (bo, .inl (cI, 100, .inl d)), (h0, .inr (7, [.int (nI (z)), .ref ab, .int (kd (bA by9 z) z (nf (bA by9 z) z u2_165)), .int (nI (nf (bA by9 z) z u2_165)), .int (nI (nx (bA by9 z) z u2_165)), .int (nI (cv (bA by9 z) z (nf (bA by9 z) z u2_165) (nx (bA by9 z) z u2_165))), .int t2_166])), (ab, .inl (cI, 120, .inl by9))] := hD
        rcases hw_r_164 with ⟨rfl, h_171, h_172, h_173⟩ | ⟨rfl, h_174, h_175, h_176⟩
        · skip
          subst h_172
          subst h_173
          have hm_h_171 : cv (bA by9 z) z (nf (bA by9 z) z (nx (bA by9 z) z (nx (bA by9 z) z u9))) (nx (bA by9 z) z (nx (bA by9 z) z (nx (bA by9 z) z u9))) < P := okNu_lt hP0 h_171
          refine lv_if_ne (tgt := 65) hx hb dX7_takeWay_60 (by decide) (fun c_177 => ?_) (fun c_177 => absurd c_177 (by decide))
          refine lv_aload_n hx hb dX7_takeWay_65 rfl (lv_at hl 2 rfl) ?_
          refine xg hF kf_X7_31 hK hP 4 rfl rfl dX7_takeWay_66 ?_
          refine lv_istore (lv' := [(4, .int (nI (cv (bA by9 z) z (nf (bA by9 z) z (nx (bA by9 z) z (nx (bA by9 z) z u9))) (nx (bA by9 z) z (nx (bA by9 z) z (nx (bA by9 z) z u9)))))), (3, .int 0), (2, .int (nI (cv (bA by9 z) z (nf (bA by9 z) z (nx (bA by9 z) z u9)) (nx (bA by9 z) z (nx (bA by9 z) z u9))))), (0, .ref h0), (1, .ref q1)]) hx hb dX7_takeWay_69 hl (by decide) rfl (fun ls hl => ?_)
          refine lv_aload_n hx hb dX7_takeWay_71 rfl (lv_at hl 3 rfl) ?_
          refine lv_bipush (v := (-99)) hx hb dX7_takeWay_72 (by decide) ?_
          refine lv_sipush (v := 999) hx hb dX7_takeWay_74 (by decide) ?_
          refine xc_Vi (wr := [(q1, .inr (1, [.int (nI (P)), .ref be, .ref bl, .ref bu, .ref bo, .ref br, .ref bk, .ref bw, .ref btt, .ref bss])), (bl, .inl (cI, 100, .inl lo)), (bu, .inl (cI, 100, .inl hg)), (bo, .inl (cI, 100, .inl d))]) hF (c_X7_takeMile l D cI cJ cZ cS ta sa sv H.size h0 ab z (nx (bA by9 z) z (nx (bA by9 z) z (nx (bA by9 z) z u9))) (nI (cv (bA by9 z) z (nf (bA by9 z) z (nx (bA by9 z) z (nx (bA by9 z) z u9))) (nx (bA by9 z) z (nx (bA by9 z) z (nx (bA by9 z) z u9))))) by9 (-99) 999 (by omega) (by omega)) kv_X7_78 ⟨rfl, rfl, Nat.le_of_ble_eq_true rfl, Nat.le_of_ble_eq_true rfl⟩ ⟨Nat.le_of_ble_eq_true rfl, Nat.le_of_ble_eq_true rfl⟩ hK hN hZ hP hD hS hA [4, 5] [0, 1, 2, 3] rfl rfl rfl rfl (by decide) 0 rfl rfl rfl rfl hl.1 rfl (Nat.le_of_ble_eq_true rfl) dX7_takeWay_77 (fun r_178 u_r_178 H locs hw_r_178 hP hD hS => ?_)
          obtain ⟨u2_179, t2_180⟩ := u_r_178
          try dsimp only at hw_r_178
          obtain ⟨hw_r_178, i_181, i_182, i_183, i_184⟩ := hw_r_178
          have hP : va_P D vwCl [(q1, .inr (1, [.int (nI (P)), .ref be, .ref bl, .ref bu, .ref bo, .ref br, .ref bk, .ref bw, .ref btt, .ref bss])), (bl, .inl (cI, 100, .inl lo)), (bu, .inl (cI, 100, .inl hg)), (bo, .inl (cI, 100, .inl d)), (h0, .inr (7, [.int (nI (z)), .ref ab, .int (kd (bA by9 z) z (nf (bA by9 z) z u2_179)), .int (nI (nf (bA by9 z) z u2_179)), .int (nI (nx (bA by9 z) z u2_179)), .int (nI (cv (bA by9 z) z (nf (bA by9 z) z u2_179) (nx (bA by9 z) z u2_179))), .int t2_180])), (ab, .inl (cI, 120, .inl by9))] H := hP
          have hD : va_D A [(q1, .inr (1, [.int (nI (P)), .ref be, .ref bl, .ref bu, .ref bo, .ref br, .ref bk, .ref bw, .ref btt, .ref bss])), (bl, .inl (cI, 100, .inl lo)), (bu, .inl (cI, 100, .inl hg)), (bo, .inl (cI, 100, .inl d)), (h0, .inr (7, [.int (nI (z)), .ref ab, .int (kd (bA by9 z) z (nf (bA by9 z) z u2_179)), .int (nI (nf (bA by9 z) z u2_179)), .int (nI (nx (bA by9 z) z u2_179)), .int (nI (cv (bA by9 z) z (nf (bA by9 z) z u2_179) (nx (bA by9 z) z u2_179))), .int t2_180])), (ab, .inl (cI, 120, .inl by9))] := hD
          rcases hw_r_178 with ⟨rfl, h_185, h_186, h_187⟩ | ⟨rfl, h_188, h_189, h_190⟩
          · skip
            subst h_186
            subst h_187
            refine lv_if_ne (tgt := 85) hx hb dX7_takeWay_80 (by decide) (fun c_191 => ?_) (fun c_191 => absurd c_191 (by decide))
            refine lv_aload_n hx hb dX7_takeWay_85 rfl (lv_at hl 3 rfl) ?_
            refine xg hF kf_X7_31 hK hP 4 rfl rfl dX7_takeWay_86 ?_
            refine lv_istore (lv' := [(5, .int (mV (bA by9 z) z (nx (bA by9 z) z (nx (bA by9 z) z (nx (bA by9 z) z u9))))), (4, .int (nI (cv (bA by9 z) z (nf (bA by9 z) z (nx (bA by9 z) z (nx (bA by9 z) z u9))) (nx (bA by9 z) z (nx (bA by9 z) z (nx (bA by9 z) z u9)))))), (3, .int 0), (2, .int (nI (cv (bA by9 z) z (nf (bA by9 z) z (nx (bA by9 z) z u9)) (nx (bA by9 z) z (nx (bA by9 z) z u9))))), (0, .ref h0), (1, .ref q1)]) hx hb dX7_takeWay_89 hl (by decide) rfl (fun ls hl => ?_)
            refine lv_aload_n hx hb dX7_takeWay_91 rfl (lv_at hl 4 rfl) ?_
            refine va_ldcS (tx := "to") (q := sa 4) hx hb hown (hN.2.2 (82, "to", 4) (by decide)) dX7_takeWay_92 ?_
            refine xc_Vi (wr := [(q1, .inr (1, [.int (nI (P)), .ref be, .ref bl, .ref bu, .ref bo, .ref br, .ref bk, .ref bw, .ref btt, .ref bss])), (bl, .inl (cI, 100, .inl lo)), (bu, .inl (cI, 100, .inl hg)), (bo, .inl (cI, 100, .inl d))]) hF (c_X7_takeWord l D cI cJ cZ cS ta sa sv H.size h0 ab z (nx (bA by9 z) z (mSt (bA by9 z) z (nx (bA by9 z) z (nx (bA by9 z) z (nx (bA by9 z) z u9))))) (mV (bA by9 z) z (nx (bA by9 z) z (nx (bA by9 z) z (nx (bA by9 z) z u9)))) by9 4 (by omega) (by omega) (by omega)) kv_X7_67 ⟨rfl, rfl, Nat.le_of_ble_eq_true rfl, Nat.le_of_ble_eq_true rfl⟩ ⟨Nat.le_of_ble_eq_true rfl, Nat.le_of_ble_eq_true rfl⟩ hK hN hZ hP hD hS hA [4, 5] [0, 1, 2, 3] rfl rfl rfl rfl (by decide) 0 rfl rfl rfl rfl hl.1 rfl (Nat.le_of_ble_eq_true rfl) dX7_takeWay_94 (fun r_192 u_r_192 H locs hw_r_192 hP hD hS => ?_)
            obtain ⟨u2_193, t2_194⟩ := u_r_192
            try dsimp only at hw_r_192
            obtain ⟨hw_r_192, i_195, i_196, i_197, i_198⟩ := hw_r_192
            have hP : va_P D vwCl [(q1, .inr (1, [.int (nI (P)), .ref be, .ref bl, .ref bu, .ref bo, .ref br, .ref bk, .ref bw, .ref btt, .ref bss])), (bl, .inl (cI, 100, .inl lo)), (bu, .inl (cI, 100, .inl hg)), (bo, .inl (cI, 100, .inl d)), (h0, .inr (7, [.int (nI (z)), .ref ab, .int (kd (bA by9 z) z (nf (bA by9 z) z u2_193)), .int (nI (nf (bA by9 z) z u2_193)), .int (nI (nx (bA by9 z) z u2_193)), .int (nI (cv (bA by9 z) z (nf (bA by9 z) z u2_193) (nx (bA by9 z) z u2_193))), .int t2_194])), (ab, .inl (cI, 120, .inl by9))] H := hP
            have hD : va_D A [(q1, .inr (1, [.int (nI (P)), .ref be, .ref bl, .ref bu, .ref bo, .ref br, .ref bk, .ref bw, .ref btt, .ref bss])), (bl, .inl (cI, 100, .inl lo)), (bu, .inl (cI, 100, .inl hg)), (bo, .inl (cI, 100, .inl d)), (h0, .inr (7, [.int (nI (z)), .ref ab, .int (kd (bA by9 z) z (nf (bA by9 z) z u2_193)), .int (nI (nf (bA by9 z) z u2_193)), .int (nI (nx (bA by9 z) z u2_193)), .int (nI (cv (bA by9 z) z (nf (bA by9 z) z u2_193) (nx (bA by9 z) z u2_193))), .int t2_194])), (ab, .inl (cI, 120, .inl by9))] := hD
            rcases hw_r_192 with ⟨rfl, h_199, h_200, h_201⟩ | ⟨rfl, h_202, h_203, h_204⟩
            · skip
              subst h_200
              subst h_201
              refine lv_if_eq (tgt := 114) hx hb dX7_takeWay_97 (by decide) (fun c_205 => absurd c_205 (by decide)) (fun c_205 => ?_)
              refine lv_aload_n hx hb dX7_takeWay_100 rfl (lv_at hl 4 rfl) ?_
              refine lv_iload hx hb dX7_takeWay_101 (lv_at hl 0 rfl) ?_
              refine lv_sipush (v := 999) hx hb dX7_takeWay_103 (by decide) ?_
              refine xc_Vi (wr := [(q1, .inr (1, [.int (nI (P)), .ref be, .ref bl, .ref bu, .ref bo, .ref br, .ref bk, .ref bw, .ref btt, .ref bss])), (bl, .inl (cI, 100, .inl lo)), (bu, .inl (cI, 100, .inl hg)), (bo, .inl (cI, 100, .inl d))]) hF (c_X7_takeMile l D cI cJ cZ cS ta sa sv H.size h0 ab z (nx (bA by9 z) z (nx (bA by9 z) z (mSt (bA by9 z) z (nx (bA by9 z) z (nx (bA by9 z) z (nx (bA by9 z) z u9)))))) (mV (bA by9 z) z (nx (bA by9 z) z (nx (bA by9 z) z (nx (bA by9 z) z u9)))) by9 (mV (bA by9 z) z (nx (bA by9 z) z (nx (bA by9 z) z (nx (bA by9 z) z u9)))) 999 (by omega) (by omega)) kv_X7_78 ⟨rfl, rfl, Nat.le_of_ble_eq_true rfl, Nat.le_of_ble_eq_true rfl⟩ ⟨Nat.le_of_ble_eq_true rfl, Nat.le_of_ble_eq_true rfl⟩ hK hN hZ hP hD hS hA [4, 5] [0, 1, 2, 3] rfl rfl rfl rfl (by decide) 0 rfl rfl rfl rfl hl.1 rfl (Nat.le_of_ble_eq_true rfl) dX7_takeWay_106 (fun r_206 u_r_206 H locs hw_r_206 hP hD hS => ?_)
              obtain ⟨u2_207, t2_208⟩ := u_r_206
              try dsimp only at hw_r_206
              obtain ⟨hw_r_206, i_209, i_210, i_211, i_212⟩ := hw_r_206
              have hP : va_P D vwCl [(q1, .inr (1, [.int (nI (P)), .ref be, .ref bl, .ref bu, .ref bo, .ref br, .ref bk, .ref bw, .ref btt, .ref bss])), (bl, .inl (cI, 100, .inl lo)), (bu, .inl (cI, 100, .inl hg)), (bo, .inl (cI, 100, .inl d)), (h0, .inr (7, [.int (nI (z)), .ref ab, .int (kd (bA by9 z) z (nf (bA by9 z) z u2_207)), .int (nI (nf (bA by9 z) z u2_207)), .int (nI (nx (bA by9 z) z u2_207)), .int (nI (cv (bA by9 z) z (nf (bA by9 z) z u2_207) (nx (bA by9 z) z u2_207))), .int t2_208])), (ab, .inl (cI, 120, .inl by9))] H := hP
              have hD : va_D A [(q1, .inr (1, [.int (nI (P)), .ref be, .ref bl, .ref bu, .ref bo, .ref br, .ref bk, .ref bw, .ref btt, .ref bss])), (bl, .inl (cI, 100, .inl lo)), (bu, .inl (cI, 100, .inl hg)), (bo, .inl (cI, 100, .inl d)), (h0, .inr (7, [.int (nI (z)), .ref ab, .int (kd (bA by9 z) z (nf (bA by9 z) z u2_207)), .int (nI (nf (bA by9 z) z u2_207)), .int (nI (nx (bA by9 z) z u2_207)), .int (nI (cv (bA by9 z) z (nf (bA by9 z) z u2_207) (nx (bA by9 z) z u2_207))), .int t2_208])), (ab, .inl (cI, 120, .inl by9))] := hD
              rcases hw_r_206 with ⟨rfl, h_213, h_214, h_215⟩ | ⟨rfl, h_216, h_217, h_218⟩
              · skip
                subst h_214
                subst h_215
                refine lv_if_ne (tgt := 114) hx hb dX7_takeWay_109 (by decide) (fun c_219 => ?_) (fun c_219 => absurd c_219 (by decide))
                refine lv_aload_n hx hb dX7_takeWay_114 rfl (lv_at hl 5 rfl) ?_
                refine lv_iload_n hx hb dX7_takeWay_115 rfl (lv_at hl 3 rfl) ?_
                refine lv_iload hx hb dX7_takeWay_116 (lv_at hl 1 rfl) ?_
                refine lv_iload hx hb dX7_takeWay_118 (lv_at hl 0 rfl) ?_
                refine lv_aload_n hx hb dX7_takeWay_120 rfl (lv_at hl 4 rfl) ?_
                refine xg hF kf_X7_31 hK hP 4 rfl rfl dX7_takeWay_121 ?_
                refine xc_Vv (wr := [(h0, .inr (7, [.int (nI (z)), .ref ab, .int (kd (bA by9 z) z (nf (bA by9 z) z (nx (bA by9 z) z (mSt (bA by9 z) z (nx (bA by9 z) z (nx (bA by9 z) z (mSt (bA by9 z) z (nx (bA by9 z) z (nx (bA by9 z) z (nx (bA by9 z) z u9)))))))))), .int (nI (nf (bA by9 z) z (nx (bA by9 z) z (mSt (bA by9 z) z (nx (bA by9 z) z (nx (bA by9 z) z (mSt (bA by9 z) z (nx (bA by9 z) z (nx (bA by9 z) z (nx (bA by9 z) z u9)))))))))), .int (nI (nx (bA by9 z) z (nx (bA by9 z) z (mSt (bA by9 z) z (nx (bA by9 z) z (nx (bA by9 z) z (mSt (bA by9 z) z (nx (bA by9 z) z (nx (bA by9 z) z (nx (bA by9 z) z u9)))))))))), .int (nI (cv (bA by9 z) z (nf (bA by9 z) z (nx (bA by9 z) z (mSt (bA by9 z) z (nx (bA by9 z) z (nx (bA by9 z) z (mSt (bA by9 z) z (nx (bA by9 z) z (nx (bA by9 z) z (nx (bA by9 z) z u9))))))))) (nx (bA by9 z) z (nx (bA by9 z) z (mSt (bA by9 z) z (nx (bA by9 z) z (nx (bA by9 z) z (mSt (bA by9 z) z (nx (bA by9 z) z (nx (bA by9 z) z (nx (bA by9 z) z u9))))))))))), .int (mV (bA by9 z) z (nx (bA by9 z) z (nx (bA by9 z) z (mSt (bA by9 z) z (nx (bA by9 z) z (nx (bA by9 z) z (nx (bA by9 z) z u9)))))))])), (ab, .inl (cI, 120, .inl by9))]) hF (c_X1_setWay l D cI cJ cZ cS ta sa sv H.size q1 be bl bu bo br bk bw btt bss P (cv (bA by9 z) z (nf (bA by9 z) z (nx (bA by9 z) z u9)) (nx (bA by9 z) z (nx (bA by9 z) z u9))) (cv (bA by9 z) z (nf (bA by9 z) z (nx (bA by9 z) z (nx (bA by9 z) z u9))) (nx (bA by9 z) z (nx (bA by9 z) z (nx (bA by9 z) z u9)))) (mV (bA by9 z) z (nx (bA by9 z) z (nx (bA by9 z) z (nx (bA by9 z) z u9)))) (mV (bA by9 z) z (nx (bA by9 z) z (nx (bA by9 z) z (mSt (bA by9 z) z (nx (bA by9 z) z (nx (bA by9 z) z (nx (bA by9 z) z u9))))))) lo hg d (by omega) (by omega)) kv_X7_84 ⟨rfl, rfl, Nat.le_of_ble_eq_true rfl, Nat.le_of_ble_eq_true rfl⟩ ⟨Nat.le_of_ble_eq_true rfl, Nat.le_of_ble_eq_true rfl⟩ hK hN hZ hP hD hS hA [0, 1, 2, 3] [4, 5] rfl rfl rfl rfl (by decide) 0 rfl rfl rfl rfl hl.1 rfl (Nat.le_of_ble_eq_true rfl) dX7_takeWay_124 (fun u_r_220 H locs hw_r_220 hP hD hS => ?_)
                obtain ⟨l2_221, u2_222, d2_223⟩ := u_r_220
                try dsimp only at hw_r_220
                obtain ⟨i_224, i_225, i_226⟩ := hw_r_220
                have hP : va_P D vwCl [(h0, .inr (7, [.int (nI (z)), .ref ab, .int (kd (bA by9 z) z (nf (bA by9 z) z (nx (bA by9 z) z (mSt (bA by9 z) z (nx (bA by9 z) z (nx (bA by9 z) z (mSt (bA by9 z) z (nx (bA by9 z) z (nx (bA by9 z) z (nx (bA by9 z) z u9)))))))))), .int (nI (nf (bA by9 z) z (nx (bA by9 z) z (mSt (bA by9 z) z (nx (bA by9 z) z (nx (bA by9 z) z (mSt (bA by9 z) z (nx (bA by9 z) z (nx (bA by9 z) z (nx (bA by9 z) z u9)))))))))), .int (nI (nx (bA by9 z) z (nx (bA by9 z) z (mSt (bA by9 z) z (nx (bA by9 z) z (nx (bA by9 z) z (mSt (bA by9 z) z (nx (bA by9 z) z (nx (bA by9 z) z (nx (bA by9 z) z u9)))))))))), .int (nI (cv (bA by9 z) z (nf (bA by9 z) z (nx (bA by9 z) z (mSt (bA by9 z) z (nx (bA by9 z) z (nx (bA by9 z) z (mSt (bA by9 z) z (nx (bA by9 z) z (nx (bA by9 z) z (nx (bA by9 z) z u9))))))))) (nx (bA by9 z) z (nx (bA by9 z) z (mSt (bA by9 z) z (nx (bA by9 z) z (nx (bA by9 z) z (mSt (bA by9 z) z (nx (bA by9 z) z (nx (bA by9 z) z (nx (bA by9 z) z u9))))))))))), .int (mV (bA by9 z) z (nx (bA by9 z) z (nx (bA by9 z) z (mSt (bA by9 z) z (nx (bA by9 z) z (nx (bA by9 z) z (nx (bA by9 z) z u9)))))))])), (ab, .inl (cI, 120, .inl by9)), (q1, .inr (1, [.int (nI (P)), .ref be, .ref bl, .ref bu, .ref bo, .ref br, .ref bk, .ref bw, .ref btt, .ref bss])), (bl, .inl (cI, 100, .inl l2_221)), (bu, .inl (cI, 100, .inl u2_222)), (bo, .inl (cI, 100, .inl d2_223))] H := hP
                have hD : va_D A [(h0, .inr (7, [.int (nI (z)), .ref ab, .int (kd (bA by9 z) z (nf (bA by9 z) z (nx (bA by9 z) z (mSt (bA by9 z) z (nx (bA by9 z) z (nx (bA by9 z) z (mSt (bA by9 z) z (nx (bA by9 z) z (nx (bA by9 z) z (nx (bA by9 z) z u9)))))))))), .int (nI (nf (bA by9 z) z (nx (bA by9 z) z (mSt (bA by9 z) z (nx (bA by9 z) z (nx (bA by9 z) z (mSt (bA by9 z) z (nx (bA by9 z) z (nx (bA by9 z) z (nx (bA by9 z) z u9)))))))))), .int (nI (nx (bA by9 z) z (nx (bA by9 z) z (mSt (bA by9 z) z (nx (bA by9 z) z (nx (bA by9 z) z (mSt (bA by9 z) z (nx (bA by9 z) z (nx (bA by9 z) z (nx (bA by9 z) z u9)))))))))), .int (nI (cv (bA by9 z) z (nf (bA by9 z) z (nx (bA by9 z) z (mSt (bA by9 z) z (nx (bA by9 z) z (nx (bA by9 z) z (mSt (bA by9 z) z (nx (bA by9 z) z (nx (bA by9 z) z (nx (bA by9 z) z u9))))))))) (nx (bA by9 z) z (nx (bA by9 z) z (mSt (bA by9 z) z (nx (bA by9 z) z (nx (bA by9 z) z (mSt (bA by9 z) z (nx (bA by9 z) z (nx (bA by9 z) z (nx (bA by9 z) z u9))))))))))), .int (mV (bA by9 z) z (nx (bA by9 z) z (nx (bA by9 z) z (mSt (bA by9 z) z (nx (bA by9 z) z (nx (bA by9 z) z (nx (bA by9 z) z u9)))))))])), (ab, .inl (cI, 120, .inl by9)), (q1, .inr (1, [.int (nI (P)), .ref be, .ref bl, .ref bu, .ref bo, .ref br, .ref bk, .ref bw, .ref btt, .ref bss])), (bl, .inl (cI, 100, .inl l2_221)), (bu, .inl (cI, 100, .inl u2_222)), (bo, .inl (cI, 100, .inl d2_223))] := hD
                refine lv_aload_n hx hb dX7_takeWay_127 rfl (lv_at hl 4 rfl) ?_
                refine va_ldcS (tx := "back") (q := sa 5) hx hb hown (hN.2.2 (88, "back", 5) (by decide)) dX7_takeWay_128 ?_
                refine xc_Vi (wr := [(q1, .inr (1, [.int (nI (P)), .ref be, .ref bl, .ref bu, .ref bo, .ref br, .ref bk, .ref bw, .ref btt, .ref bss])), (bl, .inl (cI, 100, .inl l2_221)), (bu, .inl (cI, 100, .inl u2_222)), (bo, .inl (cI, 100, .inl d2_223))]) hF (c_X7_takeWord l D cI cJ cZ cS ta sa sv H.size h0 ab z (nx (bA by9 z) z (mSt (bA by9 z) z (nx (bA by9 z) z (nx (bA by9 z) z (mSt (bA by9 z) z (nx (bA by9 z) z (nx (bA by9 z) z (nx (bA by9 z) z u9)))))))) (mV (bA by9 z) z (nx (bA by9 z) z (nx (bA by9 z) z (mSt (bA by9 z) z (nx (bA by9 z) z (nx (bA by9 z) z (nx (bA by9 z) z u9))))))) by9 5 (by omega) (by omega) (by omega)) kv_X7_67 ⟨rfl, rfl, Nat.le_of_ble_eq_true rfl, Nat.le_of_ble_eq_true rfl⟩ ⟨Nat.le_of_ble_eq_true rfl, Nat.le_of_ble_eq_true rfl⟩ hK hN hZ hP hD hS hA [0, 1] [2, 3, 4, 5] rfl rfl rfl rfl (by decide) 0 rfl rfl rfl rfl hl.1 rfl (Nat.le_of_ble_eq_true rfl) dX7_takeWay_130 (fun r_227 u_r_227 H locs hw_r_227 hP hD hS => ?_)
                obtain ⟨u2_228, t2_229⟩ := u_r_227
                try dsimp only at hw_r_227
                obtain ⟨hw_r_227, i_230, i_231, i_232, i_233⟩ := hw_r_227
                have hP : va_P D vwCl [(q1, .inr (1, [.int (nI (P)), .ref be, .ref bl, .ref bu, .ref bo, .ref br, .ref bk, .ref bw, .ref btt, .ref bss])), (bl, .inl (cI, 100, .inl l2_221)), (bu, .inl (cI, 100, .inl u2_222)), (bo, .inl (cI, 100, .inl d2_223)), (h0, .inr (7, [.int (nI (z)), .ref ab, .int (kd (bA by9 z) z (nf (bA by9 z) z u2_228)), .int (nI (nf (bA by9 z) z u2_228)), .int (nI (nx (bA by9 z) z u2_228)), .int (nI (cv (bA by9 z) z (nf (bA by9 z) z u2_228) (nx (bA by9 z) z u2_228))), .int t2_229])), (ab, .inl (cI, 120, .inl by9))] H := hP
                have hD : va_D A [(q1, .inr (1, [.int (nI (P)), .ref be, .ref bl, .ref bu, .ref bo, .ref br, .ref bk, .ref bw, .ref btt, .ref bss])), (bl, .inl (cI, 100, .inl l2_221)), (bu, .inl (cI, 100, .inl u2_222)), (bo, .inl (cI, 100, .inl d2_223)), (h0, .inr (7, [.int (nI (z)), .ref ab, .int (kd (bA by9 z) z (nf (bA by9 z) z u2_228)), .int (nI (nf (bA by9 z) z u2_228)), .int (nI (nx (bA by9 z) z u2_228)), .int (nI (cv (bA by9 z) z (nf (bA by9 z) z u2_228) (nx (bA by9 z) z u2_228))), .int t2_229])), (ab, .inl (cI, 120, .inl by9))] := hD
                rcases hw_r_227 with ⟨rfl, h_234, h_235, h_236⟩ | ⟨rfl, h_237, h_238, h_239⟩
                · skip
                  subst h_235
                  subst h_236
                  refine lv_if_eq (tgt := 147) hx hb dX7_takeWay_133 (by decide) (fun c_240 => absurd c_240 (by decide)) (fun c_240 => ?_)
                  refine lv_aload_n hx hb dX7_takeWay_136 rfl (lv_at hl 4 rfl) ?_
                  refine lv_aload_n hx hb dX7_takeWay_137 rfl (lv_at hl 5 rfl) ?_
                  refine lv_iload hx hb dX7_takeWay_138 (lv_at hl 1 rfl) ?_
                  refine lv_iload_n hx hb dX7_takeWay_140 rfl (lv_at hl 3 rfl) ?_
                  refine xc_Vi (wr := []) hF (c_X7_takeWayBack l D cI cJ cZ cS ta sa sv H.size h0 ab z (nx (bA by9 z) z (nx (bA by9 z) z (mSt (bA by9 z) z (nx (bA by9 z) z (nx (bA by9 z) z (mSt (bA by9 z) z (nx (bA by9 z) z (nx (bA by9 z) z (nx (bA by9 z) z u9))))))))) (mV (bA by9 z) z (nx (bA by9 z) z (nx (bA by9 z) z (mSt (bA by9 z) z (nx (bA by9 z) z (nx (bA by9 z) z (nx (bA by9 z) z u9))))))) by9 q1 be bl bu bo br bk bw btt bss P l2_221 u2_222 d2_223 (cv (bA by9 z) z (nf (bA by9 z) z (nx (bA by9 z) z (nx (bA by9 z) z u9))) (nx (bA by9 z) z (nx (bA by9 z) z (nx (bA by9 z) z u9)))) (cv (bA by9 z) z (nf (bA by9 z) z (nx (bA by9 z) z u9)) (nx (bA by9 z) z (nx (bA by9 z) z u9))) (by omega) (by omega) (by omega) (by omega)) kv_X7_90 ⟨rfl, rfl, Nat.le_of_ble_eq_true rfl, Nat.le_of_ble_eq_true rfl⟩ ⟨Nat.le_of_ble_eq_true rfl, Nat.le_of_ble_eq_true rfl⟩ hK hN hZ hP hD hS hA [4, 5, 0, 1, 2, 3] [] rfl rfl rfl rfl (by decide) 0 rfl rfl rfl rfl hl.1 rfl (Nat.le_of_ble_eq_true rfl) dX7_takeWay_141 (fun r_241 u_r_241 H locs hw_r_241 hP hD hS => ?_)
                  obtain ⟨u2_242, t2_243, l2_244, u3_245, d2_246⟩ := u_r_241
                  try dsimp only at hw_r_241
                  obtain ⟨hw_r_241, i_247, i_248, i_249, i_250⟩ := hw_r_241
                  have hP : va_P D vwCl [(h0, .inr (7, [.int (nI (z)), .ref ab, .int (kd (bA by9 z) z (nf (bA by9 z) z u2_242)), .int (nI (nf (bA by9 z) z u2_242)), .int (nI (nx (bA by9 z) z u2_242)), .int (nI (cv (bA by9 z) z (nf (bA by9 z) z u2_242) (nx (bA by9 z) z u2_242))), .int t2_243])), (ab, .inl (cI, 120, .inl by9)), (q1, .inr (1, [.int (nI (P)), .ref be, .ref bl, .ref bu, .ref bo, .ref br, .ref bk, .ref bw, .ref btt, .ref bss])), (bl, .inl (cI, 100, .inl l2_244)), (bu, .inl (cI, 100, .inl u3_245)), (bo, .inl (cI, 100, .inl d2_246))] H := hP
                  have hD : va_D A [(h0, .inr (7, [.int (nI (z)), .ref ab, .int (kd (bA by9 z) z (nf (bA by9 z) z u2_242)), .int (nI (nf (bA by9 z) z u2_242)), .int (nI (nx (bA by9 z) z u2_242)), .int (nI (cv (bA by9 z) z (nf (bA by9 z) z u2_242) (nx (bA by9 z) z u2_242))), .int t2_243])), (ab, .inl (cI, 120, .inl by9)), (q1, .inr (1, [.int (nI (P)), .ref be, .ref bl, .ref bu, .ref bo, .ref br, .ref bk, .ref bw, .ref btt, .ref bss])), (bl, .inl (cI, 100, .inl l2_244)), (bu, .inl (cI, 100, .inl u3_245)), (bo, .inl (cI, 100, .inl d2_246))] := hD
                  rcases hw_r_241 with ⟨rfl, h_251⟩ | ⟨rfl, h_252⟩
                  · skip
                    refine lv_if_eq (tgt := 151) hx hb dX7_takeWay_144 (by decide) (fun c_253 => absurd c_253 (by decide)) (fun c_253 => ?_)
                    refine lv_iconst (v := 1) hx hb dX7_takeWay_147 (by decide) ?_
                    refine lv_goto (tgt := 152) hx hb dX7_takeWay_148 (by decide) ?_
                    exact W.zret (v := 1) hx hb hr rfl (fun t ht hW => ⟨⟨1, (u2_242, t2_243, l2_244, u3_245, d2_246), rfl, ⟨Or.inl ⟨rfl, (cif_pos (h_21)).trans ((cif_pos (⟨h_171, fun h => absurd (congrArg nI h) c_162⟩)).trans ((cif_pos (h_185)).trans ((cif_pos (h_199)).trans ((cif_pos (h_213)).trans ((cif_pos (h_234)).trans (h_251))))))⟩, (by first | assumption | omega), (by first | assumption | omega), cv_le, (nx_le (by omega))⟩, by rw [ht]; exact hP.sub [0, 1, 2, 3, 4, 5] rfl, hD.sub [0, 1, 2, 3, 4, 5] (by decide +kernel) rfl⟩, hS.F ht⟩) hS.2.2 dX7_takeWay_152 hlk
                  · skip
                    refine lv_if_eq (tgt := 151) hx hb dX7_takeWay_144 (by decide) (fun c_254 => ?_) (fun c_254 => absurd (by decide) c_254)
                    refine lv_iconst (v := 0) hx hb dX7_takeWay_151 (by decide) ?_
                    exact W.zret (v := 0) hx hb hr rfl (fun t ht hW => ⟨⟨0, (u2_242, t2_243, l2_244, u3_245, d2_246), rfl, ⟨Or.inr ⟨rfl, (cif_pos (h_21)).trans ((cif_pos (⟨h_171, fun h => absurd (congrArg nI h) c_162⟩)).trans ((cif_pos (h_185)).trans ((cif_pos (h_199)).trans ((cif_pos (h_213)).trans ((cif_pos (h_234)).trans (h_252))))))⟩, (by first | assumption | omega), (by first | assumption | omega), cv_le, (nx_le (by omega))⟩, by rw [ht]; exact hP.sub [0, 1, 2, 3, 4, 5] rfl, hD.sub [0, 1, 2, 3, 4, 5] (by decide +kernel) rfl⟩, hS.F ht⟩) hS.2.2 dX7_takeWay_152 hlk
                · skip
                  subst h_238
                  subst h_239
                  refine lv_if_eq (tgt := 147) hx hb dX7_takeWay_133 (by decide) (fun c_255 => ?_) (fun c_255 => absurd (by decide) c_255)
                  refine lv_iconst (v := 1) hx hb dX7_takeWay_147 (by decide) ?_
                  refine lv_goto (tgt := 152) hx hb dX7_takeWay_148 (by decide) ?_
                  exact W.zret (v := 1) hx hb hr rfl (fun t ht hW => ⟨⟨1, (nx (bA by9 z) z (mSt (bA by9 z) z (nx (bA by9 z) z (nx (bA by9 z) z (mSt (bA by9 z) z (nx (bA by9 z) z (nx (bA by9 z) z (nx (bA by9 z) z u9))))))), (mV (bA by9 z) z (nx (bA by9 z) z (nx (bA by9 z) z (mSt (bA by9 z) z (nx (bA by9 z) z (nx (bA by9 z) z (nx (bA by9 z) z u9))))))), l2_221, u2_222, d2_223), rfl, ⟨Or.inl ⟨rfl, (cif_pos (h_21)).trans ((cif_pos (⟨h_171, fun h => absurd (congrArg nI h) c_162⟩)).trans ((cif_pos (h_185)).trans ((cif_pos (h_199)).trans ((cif_pos (h_213)).trans (cif_neg (h_237))))))⟩, (by first | assumption | omega), (by first | assumption | omega), cv_le, (nx_le (by omega))⟩, by rw [ht]; exact hP.sub [4, 5, 0, 1, 2, 3] rfl, hD.sub [4, 5, 0, 1, 2, 3] (by decide +kernel) rfl⟩, hS.F ht⟩) hS.2.2 dX7_takeWay_152 hlk
              · skip
                subst h_217
                subst h_218
                refine lv_if_ne (tgt := 114) hx hb dX7_takeWay_109 (by decide) (fun c_256 => absurd (by decide) c_256) (fun c_256 => ?_)
                refine lv_iconst (v := 0) hx hb dX7_takeWay_112 (by decide) ?_
                exact W.zret (v := 0) hx hb hr rfl (fun t ht hW => ⟨⟨0, (mSt (bA by9 z) z (nx (bA by9 z) z (nx (bA by9 z) z (mSt (bA by9 z) z (nx (bA by9 z) z (nx (bA by9 z) z (nx (bA by9 z) z u9)))))), (mV (bA by9 z) z (nx (bA by9 z) z (nx (bA by9 z) z (nx (bA by9 z) z u9)))), lo, hg, d), rfl, ⟨Or.inr ⟨rfl, (cif_pos (h_21)).trans ((cif_pos (⟨h_171, fun h => absurd (congrArg nI h) c_162⟩)).trans ((cif_pos (h_185)).trans ((cif_pos (h_199)).trans (cif_neg (h_216)))))⟩, (by first | assumption | omega), (by first | assumption | omega), cv_le, (nx_le (by omega))⟩, by rw [ht]; exact hP.sub [4, 5, 0, 1, 2, 3] rfl, hD.sub [4, 5, 0, 1, 2, 3] (by decide +kernel) rfl⟩, hS.F ht⟩) hS.2.2 dX7_takeWay_113 hlk
            · skip
              subst h_203
              subst h_204
              refine lv_if_eq (tgt := 114) hx hb dX7_takeWay_97 (by decide) (fun c_257 => ?_) (fun c_257 => absurd (by decide) c_257)
              refine lv_aload_n hx hb dX7_takeWay_114 rfl (lv_at hl 5 rfl) ?_
              refine lv_iload_n hx hb dX7_takeWay_115 rfl (lv_at hl 3 rfl) ?_
              refine lv_iload hx hb dX7_takeWay_116 (lv_at hl 1 rfl) ?_
              refine lv_iload hx hb dX7_takeWay_118 (lv_at hl 0 rfl) ?_
              refine lv_aload_n hx hb dX7_takeWay_120 rfl (lv_at hl 4 rfl) ?_
              refine xg hF kf_X7_31 hK hP 4 rfl rfl dX7_takeWay_121 ?_
              refine xc_Vv (wr := [(h0, .inr (7, [.int (nI (z)), .ref ab, .int (kd (bA by9 z) z (nf (bA by9 z) z (nx (bA by9 z) z (mSt (bA by9 z) z (nx (bA by9 z) z (nx (bA by9 z) z (nx (bA by9 z) z u9))))))), .int (nI (nf (bA by9 z) z (nx (bA by9 z) z (mSt (bA by9 z) z (nx (bA by9 z) z (nx (bA by9 z) z (nx (bA by9 z) z u9))))))), .int (nI (nx (bA by9 z) z (nx (bA by9 z) z (mSt (bA by9 z) z (nx (bA by9 z) z (nx (bA by9 z) z (nx (bA by9 z) z u9))))))), .int (nI (cv (bA by9 z) z (nf (bA by9 z) z (nx (bA by9 z) z (mSt (bA by9 z) z (nx (bA by9 z) z (nx (bA by9 z) z (nx (bA by9 z) z u9)))))) (nx (bA by9 z) z (nx (bA by9 z) z (mSt (bA by9 z) z (nx (bA by9 z) z (nx (bA by9 z) z (nx (bA by9 z) z u9)))))))), .int (mV (bA by9 z) z (nx (bA by9 z) z (nx (bA by9 z) z (nx (bA by9 z) z u9))))])), (ab, .inl (cI, 120, .inl by9))]) hF (c_X1_setWay l D cI cJ cZ cS ta sa sv H.size q1 be bl bu bo br bk bw btt bss P (cv (bA by9 z) z (nf (bA by9 z) z (nx (bA by9 z) z u9)) (nx (bA by9 z) z (nx (bA by9 z) z u9))) (cv (bA by9 z) z (nf (bA by9 z) z (nx (bA by9 z) z (nx (bA by9 z) z u9))) (nx (bA by9 z) z (nx (bA by9 z) z (nx (bA by9 z) z u9)))) (mV (bA by9 z) z (nx (bA by9 z) z (nx (bA by9 z) z (nx (bA by9 z) z u9)))) (mV (bA by9 z) z (nx (bA by9 z) z (nx (bA by9 z) z (nx (bA by9 z) z u9)))) lo hg d (by omega) (by omega)) kv_X7_84 ⟨rfl, rfl, Nat.le_of_ble_eq_true rfl, Nat.le_of_ble_eq_true rfl⟩ ⟨Nat.le_of_ble_eq_true rfl, Nat.le_of_ble_eq_true rfl⟩ hK hN hZ hP hD hS hA [0, 1, 2, 3] [4, 5] rfl rfl rfl rfl (by decide) 0 rfl rfl rfl rfl hl.1 rfl (Nat.le_of_ble_eq_true rfl) dX7_takeWay_124 (fun u_r_258 H locs hw_r_258 hP hD hS => ?_)
              obtain ⟨l2_259, u2_260, d2_261⟩ := u_r_258
              try dsimp only at hw_r_258
              obtain ⟨i_262, i_263, i_264⟩ := hw_r_258
              have hP : va_P D vwCl [(h0, .inr (7, [.int (nI (z)), .ref ab, .int (kd (bA by9 z) z (nf (bA by9 z) z (nx (bA by9 z) z (mSt (bA by9 z) z (nx (bA by9 z) z (nx (bA by9 z) z (nx (bA by9 z) z u9))))))), .int (nI (nf (bA by9 z) z (nx (bA by9 z) z (mSt (bA by9 z) z (nx (bA by9 z) z (nx (bA by9 z) z (nx (bA by9 z) z u9))))))), .int (nI (nx (bA by9 z) z (nx (bA by9 z) z (mSt (bA by9 z) z (nx (bA by9 z) z (nx (bA by9 z) z (nx (bA by9 z) z u9))))))), .int (nI (cv (bA by9 z) z (nf (bA by9 z) z (nx (bA by9 z) z (mSt (bA by9 z) z (nx (bA by9 z) z (nx (bA by9 z) z (nx (bA by9 z) z u9)))))) (nx (bA by9 z) z (nx (bA by9 z) z (mSt (bA by9 z) z (nx (bA by9 z) z (nx (bA by9 z) z (nx (bA by9 z) z u9)))))))), .int (mV (bA by9 z) z (nx (bA by9 z) z (nx (bA by9 z) z (nx (bA by9 z) z u9))))])), (ab, .inl (cI, 120, .inl by9)), (q1, .inr (1, [.int (nI (P)), .ref be, .ref bl, .ref bu, .ref bo, .ref br, .ref bk, .ref bw, .ref btt, .ref bss])), (bl, .inl (cI, 100, .inl l2_259)), (bu, .inl (cI, 100, .inl u2_260)), (bo, .inl (cI, 100, .inl d2_261))] H := hP
              have hD : va_D A [(h0, .inr (7, [.int (nI (z)), .ref ab, .int (kd (bA by9 z) z (nf (bA by9 z) z (nx (bA by9 z) z (mSt (bA by9 z) z (nx (bA by9 z) z (nx (bA by9 z) z (nx (bA by9 z) z u9))))))), .int (nI (nf (bA by9 z) z (nx (bA by9 z) z (mSt (bA by9 z) z (nx (bA by9 z) z (nx (bA by9 z) z (nx (bA by9 z) z u9))))))), .int (nI (nx (bA by9 z) z (nx (bA by9 z) z (mSt (bA by9 z) z (nx (bA by9 z) z (nx (bA by9 z) z (nx (bA by9 z) z u9))))))), .int (nI (cv (bA by9 z) z (nf (bA by9 z) z (nx (bA by9 z) z (mSt (bA by9 z) z (nx (bA by9 z) z (nx (bA by9 z) z (nx (bA by9 z) z u9)))))) (nx (bA by9 z) z (nx (bA by9 z) z (mSt (bA by9 z) z (nx (bA by9 z) z (nx (bA by9 z) z (nx (bA by9 z) z u9)))))))), .int (mV (bA by9 z) z (nx (bA by9 z) z (nx (bA by9 z) z (nx (bA by9 z) z u9))))])), (ab, .inl (cI, 120, .inl by9)), (q1, .inr (1, [.int (nI (P)), .ref be, .ref bl, .ref bu, .ref bo, .ref br, .ref bk, .ref bw, .ref btt, .ref bss])), (bl, .inl (cI, 100, .inl l2_259)), (bu, .inl (cI, 100, .inl u2_260)), (bo, .inl (cI, 100, .inl d2_261))] := hD
              refine lv_aload_n hx hb dX7_takeWay_127 rfl (lv_at hl 4 rfl) ?_
              refine va_ldcS (tx := "back") (q := sa 5) hx hb hown (hN.2.2 (88, "back", 5) (by decide)) dX7_takeWay_128 ?_
              refine xc_Vi (wr := [(q1, .inr (1, [.int (nI (P)), .ref be, .ref bl, .ref bu, .ref bo, .ref br, .ref bk, .ref bw, .ref btt, .ref bss])), (bl, .inl (cI, 100, .inl l2_259)), (bu, .inl (cI, 100, .inl u2_260)), (bo, .inl (cI, 100, .inl d2_261))]) hF (c_X7_takeWord l D cI cJ cZ cS ta sa sv H.size h0 ab z (nx (bA by9 z) z (mSt (bA by9 z) z (nx (bA by9 z) z (nx (bA by9 z) z (nx (bA by9 z) z u9))))) (mV (bA by9 z) z (nx (bA by9 z) z (nx (bA by9 z) z (nx (bA by9 z) z u9)))) by9 5 (by omega) (by omega) (by omega)) kv_X7_67 ⟨rfl, rfl, Nat.le_of_ble_eq_true rfl, Nat.le_of_ble_eq_true rfl⟩ ⟨Nat.le_of_ble_eq_true rfl, Nat.le_of_ble_eq_true rfl⟩ hK hN hZ hP hD hS hA [0, 1] [2, 3, 4, 5] rfl rfl rfl rfl (by decide) 0 rfl rfl rfl rfl hl.1 rfl (Nat.le_of_ble_eq_true rfl) dX7_takeWay_130 (fun r_265 u_r_265 H locs hw_r_265 hP hD hS => ?_)
              obtain ⟨u2_266, t2_267⟩ := u_r_265
              try dsimp only at hw_r_265
              obtain ⟨hw_r_265, i_268, i_269, i_270, i_271⟩ := hw_r_265
              have hP : va_P D vwCl [(q1, .inr (1, [.int (nI (P)), .ref be, .ref bl, .ref bu, .ref bo, .ref br, .ref bk, .ref bw, .ref btt, .ref bss])), (bl, .inl (cI, 100, .inl l2_259)), (bu, .inl (cI, 100, .inl u2_260)), (bo, .inl (cI, 100, .inl d2_261)), (h0, .inr (7, [.int (nI (z)), .ref ab, .int (kd (bA by9 z) z (nf (bA by9 z) z u2_266)), .int (nI (nf (bA by9 z) z u2_266)), .int (nI (nx (bA by9 z) z u2_266)), .int (nI (cv (bA by9 z) z (nf (bA by9 z) z u2_266) (nx (bA by9 z) z u2_266))), .int t2_267])), (ab, .inl (cI, 120, .inl by9))] H := hP
              have hD : va_D A [(q1, .inr (1, [.int (nI (P)), .ref be, .ref bl, .ref bu, .ref bo, .ref br, .ref bk, .ref bw, .ref btt, .ref bss])), (bl, .inl (cI, 100, .inl l2_259)), (bu, .inl (cI, 100, .inl u2_260)), (bo, .inl (cI, 100, .inl d2_261)), (h0, .inr (7, [.int (nI (z)), .ref ab, .int (kd (bA by9 z) z (nf (bA by9 z) z u2_266)), .int (nI (nf (bA by9 z) z u2_266)), .int (nI (nx (bA by9 z) z u2_266)), .int (nI (cv (bA by9 z) z (nf (bA by9 z) z u2_266) (nx (bA by9 z) z u2_266))), .int t2_267])), (ab, .inl (cI, 120, .inl by9))] := hD
              rcases hw_r_265 with ⟨rfl, h_272, h_273, h_274⟩ | ⟨rfl, h_275, h_276, h_277⟩
              · skip
                subst h_273
                subst h_274
                refine lv_if_eq (tgt := 147) hx hb dX7_takeWay_133 (by decide) (fun c_278 => absurd c_278 (by decide)) (fun c_278 => ?_)
                refine lv_aload_n hx hb dX7_takeWay_136 rfl (lv_at hl 4 rfl) ?_
                refine lv_aload_n hx hb dX7_takeWay_137 rfl (lv_at hl 5 rfl) ?_
                refine lv_iload hx hb dX7_takeWay_138 (lv_at hl 1 rfl) ?_
                refine lv_iload_n hx hb dX7_takeWay_140 rfl (lv_at hl 3 rfl) ?_
                refine xc_Vi (wr := []) hF (c_X7_takeWayBack l D cI cJ cZ cS ta sa sv H.size h0 ab z (nx (bA by9 z) z (nx (bA by9 z) z (mSt (bA by9 z) z (nx (bA by9 z) z (nx (bA by9 z) z (nx (bA by9 z) z u9)))))) (mV (bA by9 z) z (nx (bA by9 z) z (nx (bA by9 z) z (nx (bA by9 z) z u9)))) by9 q1 be bl bu bo br bk bw btt bss P l2_259 u2_260 d2_261 (cv (bA by9 z) z (nf (bA by9 z) z (nx (bA by9 z) z (nx (bA by9 z) z u9))) (nx (bA by9 z) z (nx (bA by9 z) z (nx (bA by9 z) z u9)))) (cv (bA by9 z) z (nf (bA by9 z) z (nx (bA by9 z) z u9)) (nx (bA by9 z) z (nx (bA by9 z) z u9))) (by omega) (by omega) (by omega) (by omega)) kv_X7_90 ⟨rfl, rfl, Nat.le_of_ble_eq_true rfl, Nat.le_of_ble_eq_true rfl⟩ ⟨Nat.le_of_ble_eq_true rfl, Nat.le_of_ble_eq_true rfl⟩ hK hN hZ hP hD hS hA [4, 5, 0, 1, 2, 3] [] rfl rfl rfl rfl (by decide) 0 rfl rfl rfl rfl hl.1 rfl (Nat.le_of_ble_eq_true rfl) dX7_takeWay_141 (fun r_279 u_r_279 H locs hw_r_279 hP hD hS => ?_)
                obtain ⟨u2_280, t2_281, l2_282, u3_283, d2_284⟩ := u_r_279
                try dsimp only at hw_r_279
                obtain ⟨hw_r_279, i_285, i_286, i_287, i_288⟩ := hw_r_279
                have hP : va_P D vwCl [(h0, .inr (7, [.int (nI (z)), .ref ab, .int (kd (bA by9 z) z (nf (bA by9 z) z u2_280)), .int (nI (nf (bA by9 z) z u2_280)), .int (nI (nx (bA by9 z) z u2_280)), .int (nI (cv (bA by9 z) z (nf (bA by9 z) z u2_280) (nx (bA by9 z) z u2_280))), .int t2_281])), (ab, .inl (cI, 120, .inl by9)), (q1, .inr (1, [.int (nI (P)), .ref be, .ref bl, .ref bu, .ref bo, .ref br, .ref bk, .ref bw, .ref btt, .ref bss])), (bl, .inl (cI, 100, .inl l2_282)), (bu, .inl (cI, 100, .inl u3_283)), (bo, .inl (cI, 100, .inl d2_284))] H := hP
                have hD : va_D A [(h0, .inr (7, [.int (nI (z)), .ref ab, .int (kd (bA by9 z) z (nf (bA by9 z) z u2_280)), .int (nI (nf (bA by9 z) z u2_280)), .int (nI (nx (bA by9 z) z u2_280)), .int (nI (cv (bA by9 z) z (nf (bA by9 z) z u2_280) (nx (bA by9 z) z u2_280))), .int t2_281])), (ab, .inl (cI, 120, .inl by9)), (q1, .inr (1, [.int (nI (P)), .ref be, .ref bl, .ref bu, .ref bo, .ref br, .ref bk, .ref bw, .ref btt, .ref bss])), (bl, .inl (cI, 100, .inl l2_282)), (bu, .inl (cI, 100, .inl u3_283)), (bo, .inl (cI, 100, .inl d2_284))] := hD
                rcases hw_r_279 with ⟨rfl, h_289⟩ | ⟨rfl, h_290⟩
                · skip
                  refine lv_if_eq (tgt := 151) hx hb dX7_takeWay_144 (by decide) (fun c_291 => absurd c_291 (by decide)) (fun c_291 => ?_)
                  refine lv_iconst (v := 1) hx hb dX7_takeWay_147 (by decide) ?_
                  refine lv_goto (tgt := 152) hx hb dX7_takeWay_148 (by decide) ?_
                  exact W.zret (v := 1) hx hb hr rfl (fun t ht hW => ⟨⟨1, (u2_280, t2_281, l2_282, u3_283, d2_284), rfl, ⟨Or.inl ⟨rfl, (cif_pos (h_21)).trans ((cif_pos (⟨h_171, fun h => absurd (congrArg nI h) c_162⟩)).trans ((cif_pos (h_185)).trans ((cif_neg (h_202)).trans ((cif_pos (h_272)).trans (h_289)))))⟩, (by first | assumption | omega), (by first | assumption | omega), cv_le, (nx_le (by omega))⟩, by rw [ht]; exact hP.sub [0, 1, 2, 3, 4, 5] rfl, hD.sub [0, 1, 2, 3, 4, 5] (by decide +kernel) rfl⟩, hS.F ht⟩) hS.2.2 dX7_takeWay_152 hlk
                · skip
                  refine lv_if_eq (tgt := 151) hx hb dX7_takeWay_144 (by decide) (fun c_292 => ?_) (fun c_292 => absurd (by decide) c_292)
                  refine lv_iconst (v := 0) hx hb dX7_takeWay_151 (by decide) ?_
                  exact W.zret (v := 0) hx hb hr rfl (fun t ht hW => ⟨⟨0, (u2_280, t2_281, l2_282, u3_283, d2_284), rfl, ⟨Or.inr ⟨rfl, (cif_pos (h_21)).trans ((cif_pos (⟨h_171, fun h => absurd (congrArg nI h) c_162⟩)).trans ((cif_pos (h_185)).trans ((cif_neg (h_202)).trans ((cif_pos (h_272)).trans (h_290)))))⟩, (by first | assumption | omega), (by first | assumption | omega), cv_le, (nx_le (by omega))⟩, by rw [ht]; exact hP.sub [0, 1, 2, 3, 4, 5] rfl, hD.sub [0, 1, 2, 3, 4, 5] (by decide +kernel) rfl⟩, hS.F ht⟩) hS.2.2 dX7_takeWay_152 hlk
              · skip
                subst h_276
                subst h_277
                refine lv_if_eq (tgt := 147) hx hb dX7_takeWay_133 (by decide) (fun c_293 => ?_) (fun c_293 => absurd (by decide) c_293)
                refine lv_iconst (v := 1) hx hb dX7_takeWay_147 (by decide) ?_
                refine lv_goto (tgt := 152) hx hb dX7_takeWay_148 (by decide) ?_
                exact W.zret (v := 1) hx hb hr rfl (fun t ht hW => ⟨⟨1, (nx (bA by9 z) z (mSt (bA by9 z) z (nx (bA by9 z) z (nx (bA by9 z) z (nx (bA by9 z) z u9)))), (mV (bA by9 z) z (nx (bA by9 z) z (nx (bA by9 z) z (nx (bA by9 z) z u9)))), l2_259, u2_260, d2_261), rfl, ⟨Or.inl ⟨rfl, (cif_pos (h_21)).trans ((cif_pos (⟨h_171, fun h => absurd (congrArg nI h) c_162⟩)).trans ((cif_pos (h_185)).trans ((cif_neg (h_202)).trans (cif_neg (h_275)))))⟩, (by first | assumption | omega), (by first | assumption | omega), cv_le, (nx_le (by omega))⟩, by rw [ht]; exact hP.sub [4, 5, 0, 1, 2, 3] rfl, hD.sub [4, 5, 0, 1, 2, 3] (by decide +kernel) rfl⟩, hS.F ht⟩) hS.2.2 dX7_takeWay_152 hlk
          · skip
            subst h_189
            subst h_190
            refine lv_if_ne (tgt := 85) hx hb dX7_takeWay_80 (by decide) (fun c_294 => absurd (by decide) c_294) (fun c_294 => ?_)
            refine lv_iconst (v := 0) hx hb dX7_takeWay_83 (by decide) ?_
            exact W.zret (v := 0) hx hb hr rfl (fun t ht hW => ⟨⟨0, (mSt (bA by9 z) z (nx (bA by9 z) z (nx (bA by9 z) z (nx (bA by9 z) z u9))), nI (cv (bA by9 z) z (nf (bA by9 z) z (nx (bA by9 z) z (nx (bA by9 z) z u9))) (nx (bA by9 z) z (nx (bA by9 z) z (nx (bA by9 z) z u9)))), lo, hg, d), rfl, ⟨Or.inr ⟨rfl, (cif_pos (h_21)).trans ((cif_pos (⟨h_171, fun h => absurd (congrArg nI h) c_162⟩)).trans (cif_neg (h_188)))⟩, (by first | assumption | omega), (by first | assumption | omega), cv_le, (nx_le (by omega))⟩, by rw [ht]; exact hP.sub [4, 5, 0, 1, 2, 3] rfl, hD.sub [4, 5, 0, 1, 2, 3] (by decide +kernel) rfl⟩, hS.F ht⟩) hS.2.2 dX7_takeWay_84 hlk
        · skip
          subst h_175
          subst h_176
          refine lv_if_ne (tgt := 65) hx hb dX7_takeWay_60 (by decide) (fun c_295 => absurd (by decide) c_295) (fun c_295 => ?_)
          refine lv_iconst (v := 0) hx hb dX7_takeWay_63 (by decide) ?_
          exact W.zret (v := 0) hx hb hr rfl (fun t ht hW => ⟨⟨0, (nx (bA by9 z) z (nx (bA by9 z) z u9), nI (cv (bA by9 z) z (nf (bA by9 z) z (nx (bA by9 z) z u9)) (nx (bA by9 z) z (nx (bA by9 z) z u9))), lo, hg, d), rfl, ⟨Or.inr ⟨rfl, (cif_pos (h_21)).trans (cif_neg (fun h => h_174 h.1))⟩, (by first | assumption | omega), (by first | assumption | omega), cv_le, (nx_le (by omega))⟩, by rw [ht]; exact hP.sub [4, 5, 0, 1, 2, 3] rfl, hD.sub [4, 5, 0, 1, 2, 3] (by decide +kernel) rfl⟩, hS.F ht⟩) hS.2.2 dX7_takeWay_64 hlk
      · skip
        have nc_162 : cv (bA by9 z) z (nf (bA by9 z) z (nx (bA by9 z) z (nx (bA by9 z) z u9))) (nx (bA by9 z) z (nx (bA by9 z) z (nx (bA by9 z) z u9))) = cv (bA by9 z) z (nf (bA by9 z) z (nx (bA by9 z) z u9)) (nx (bA by9 z) z (nx (bA by9 z) z u9)) := xn_eq (a := (cv (bA by9 z) z (nf (bA by9 z) z (nx (bA by9 z) z (nx (bA by9 z) z u9))) (nx (bA by9 z) z (nx (bA by9 z) z (nx (bA by9 z) z u9))))) (b := (cv (bA by9 z) z (nf (bA by9 z) z (nx (bA by9 z) z u9)) (nx (bA by9 z) z (nx (bA by9 z) z u9)))) (by omega) (by omega) c_162
        refine lv_iconst (v := 1) hx hb dX7_takeWay_40 (by decide) ?_
        refine lv_goto (tgt := 45) hx hb dX7_takeWay_41 (by decide) ?_
        refine lv_istore_n (lv' := [(3, .int 1), (2, .int (nI (cv (bA by9 z) z (nf (bA by9 z) z (nx (bA by9 z) z u9)) (nx (bA by9 z) z (nx (bA by9 z) z u9))))), (0, .ref h0), (1, .ref q1)]) hx hb dX7_takeWay_45 rfl hl (by decide) rfl (fun ls hl => ?_)
        refine lv_iload_n hx hb dX7_takeWay_46 rfl (lv_at hl 0 rfl) ?_
        refine lv_if_ne (tgt := 63) hx hb dX7_takeWay_47 (by decide) (fun c_296 => ?_) (fun c_296 => absurd c_296 (by decide))
        refine lv_iconst (v := 0) hx hb dX7_takeWay_63 (by decide) ?_
        exact W.zret (v := 0) hx hb hr rfl (fun t ht hW => ⟨⟨0, (nx (bA by9 z) z (nx (bA by9 z) z u9), nI (cv (bA by9 z) z (nf (bA by9 z) z (nx (bA by9 z) z u9)) (nx (bA by9 z) z (nx (bA by9 z) z u9))), lo, hg, d), rfl, ⟨Or.inr ⟨rfl, (cif_pos (h_21)).trans (cif_neg (fun h => h.2 (xnn cv_le cv_le c_162)))⟩, (by first | assumption | omega), (by first | assumption | omega), cv_le, (nx_le (by omega))⟩, by rw [ht]; exact hP.sub [4, 5, 0, 1, 2, 3] rfl, hD.sub [4, 5, 0, 1, 2, 3] (by decide +kernel) rfl⟩, hS.F ht⟩) hS.2.2 dX7_takeWay_64 hlk
  · skip
    subst h_25
    replace h_26 := h_26.symm; subst h_26
    refine lv_if_ne (tgt := 19) hx hb dX7_takeWay_14 (by decide) (fun c_297 => absurd (by decide) c_297) (fun c_297 => ?_)
    refine lv_iconst (v := 0) hx hb dX7_takeWay_17 (by decide) ?_
    exact W.zret (v := 0) hx hb hr rfl (fun t ht hW => ⟨⟨0, (nx (bA by9 z) z u9, t9, lo, hg, d), rfl, ⟨Or.inr ⟨rfl, cif_neg (h_24)⟩, (by first | assumption | omega), (by first | assumption | omega), cv_le, (nx_le (by omega))⟩, by rw [ht]; exact hP.sub [4, 5, 0, 1, 2, 3] rfl, hD.sub [4, 5, 0, 1, 2, 3] (by decide +kernel) rfl⟩, hS.F ht⟩) hS.2.2 dX7_takeWay_18 hlk
set_option maxHeartbeats 4000000 in
set_option maxRecDepth 100000 in
theorem c_X7_takeSlack (l : Launch) (D : va_G) (cI cJ cZ cS : ClassId) (ta : Nat) (sa sv : Nat → Nat) (sz : Nat) (h0 : Nat) (ab : Nat) (z : Nat) (u9 : Nat) (t9 : Int32) (by9 : Nat → Int32) (q1 : Nat) (be : Nat) (bl : Nat) (bu : Nat) (bo : Nat) (br : Nat) (bk : Nat) (bw : Nat) (btt : Nat) (bss : Nat) (P : Nat) (sl : Nat → Int32) (j : Nat) (hz : z ≤ 120) (hu9 : u9 ≤ z) (hj : j < 8) : Met l yX7_takeSlack (Cond.code yX7_takeSlack cX7_takeSlack 3 (some .boolean) :: wsU) ({ frames := 3, cells := 0, slots := 0, locals := 83 }) (va_Pc [.ref h0, .ref q1, .int (nI (j))] (XW D (xT cI cJ cZ cS) ta sa sv [(h0, .inr (7, [.int (nI (z)), .ref ab, .int (kd (bA by9 z) z (nf (bA by9 z) z u9)), .int (nI (nf (bA by9 z) z u9)), .int (nI (nx (bA by9 z) z u9)), .int (nI (cv (bA by9 z) z (nf (bA by9 z) z u9) (nx (bA by9 z) z u9))), .int t9])), (ab, .inl (cI, 120, .inl by9)), (q1, .inr (1, [.int (nI (P)), .ref be, .ref bl, .ref bu, .ref bo, .ref br, .ref bk, .ref bw, .ref btt, .ref bss])), (bss, .inl (cI, 8, .inl sl))] sz)) (XQi (fun (r : Int32) (u : Nat × Int32 × (Nat → Int32)) => match u with | (u2, t2, z2) => ((r = 1 ∧ (spS1 (bA by9 z) z u9 = Sum.inr u2)) ∨ (r = 0 ∧ (spS1 (bA by9 z) z u9 = Sum.inl u2))) ∧ (u2 ≤ z) ∧ (u9 ≤ u2) ∧ (cv (bA by9 z) z (nf (bA by9 z) z u2) (nx (bA by9 z) z u2) ≤ 10000) ∧ (nx (bA by9 z) z u2 ≤ z)) D (fun (u : Nat × Int32 × (Nat → Int32)) => match u with | (u2, t2, z2) => [(h0, .inr (7, [.int (nI (z)), .ref ab, .int (kd (bA by9 z) z (nf (bA by9 z) z u2)), .int (nI (nf (bA by9 z) z u2)), .int (nI (nx (bA by9 z) z u2)), .int (nI (cv (bA by9 z) z (nf (bA by9 z) z u2) (nx (bA by9 z) z u2))), .int t2])), (ab, .inl (cI, 120, .inl by9)), (q1, .inr (1, [.int (nI (P)), .ref be, .ref bl, .ref bu, .ref bo, .ref br, .ref bk, .ref bw, .ref btt, .ref bss])), (bss, .inl (cI, 8, .inl z2))]) (va_A [(h0, .inr (7, [.int (nI (z)), .ref ab, .int (kd (bA by9 z) z (nf (bA by9 z) z u9)), .int (nI (nf (bA by9 z) z u9)), .int (nI (nx (bA by9 z) z u9)), .int (nI (cv (bA by9 z) z (nf (bA by9 z) z u9) (nx (bA by9 z) z u9))), .int t9])), (ab, .inl (cI, 120, .inl by9)), (q1, .inr (1, [.int (nI (P)), .ref be, .ref bl, .ref bu, .ref bo, .ref br, .ref bk, .ref bw, .ref btt, .ref bss])), (bss, .inl (cI, 8, .inl sl))] sz)) 0 0 (va_A [(h0, .inr (7, [.int (nI (z)), .ref ab, .int (kd (bA by9 z) z (nf (bA by9 z) z u9)), .int (nI (nf (bA by9 z) z u9)), .int (nI (nx (bA by9 z) z u9)), .int (nI (cv (bA by9 z) z (nf (bA by9 z) z u9) (nx (bA by9 z) z u9))), .int t9])), (ab, .inl (cI, 120, .inl by9)), (q1, .inr (1, [.int (nI (P)), .ref be, .ref bl, .ref bu, .ref bo, .ref br, .ref bk, .ref bw, .ref btt, .ref bss])), (bss, .inl (cI, 8, .inl sl))] sz) := by
  refine xh (QA := fun A => XQi (fun (r : Int32) (u : Nat × Int32 × (Nat → Int32)) => match u with | (u2, t2, z2) => ((r = 1 ∧ (spS1 (bA by9 z) z u9 = Sum.inr u2)) ∨ (r = 0 ∧ (spS1 (bA by9 z) z u9 = Sum.inl u2))) ∧ (u2 ≤ z) ∧ (u9 ≤ u2) ∧ (cv (bA by9 z) z (nf (bA by9 z) z u2) (nx (bA by9 z) z u2) ≤ 10000) ∧ (nx (bA by9 z) z u2 ≤ z)) D (fun (u : Nat × Int32 × (Nat → Int32)) => match u with | (u2, t2, z2) => [(h0, .inr (7, [.int (nI (z)), .ref ab, .int (kd (bA by9 z) z (nf (bA by9 z) z u2)), .int (nI (nf (bA by9 z) z u2)), .int (nI (nx (bA by9 z) z u2)), .int (nI (cv (bA by9 z) z (nf (bA by9 z) z u2) (nx (bA by9 z) z u2))), .int t2])), (ab, .inl (cI, 120, .inl by9)), (q1, .inr (1, [.int (nI (P)), .ref be, .ref bl, .ref bu, .ref bo, .ref br, .ref bk, .ref bw, .ref btt, .ref bss])), (bss, .inl (cI, 8, .inl z2))]) A) (fr := fun A => A) (by decide) (Nat.le_of_ble_eq_true rfl) ?_
  intro p e s m below meth c ls A hF hr hlk hin hsz hP hK hD hN hZ hA hS hl
  have hF : CallFix p m c cX7_takeSlack 3 s _ _ RX7 := hF
  have hx := hF.1
  have hb := hF.2.1
  have hml := hF.2.2.1
  have hown := hF.2.2.2.1
  have hu : ∀ w ∈ wsU, w.before _ s = true := fun w h => hF.2.2.2.2 w (List.mem_cons_of_mem _ h)
  have hl : lv_has ls 3 [(0, .ref h0), (1, .ref q1), (2, .int (nI (j)))] := hl
  have htk := tk_le (b := (bA by9 z)) hu9
  refine lv_aload_n hx hb dX7_takeSlack_0 rfl (lv_at hl 0 rfl) ?_
  refine lv_bipush (v := 99) hx hb dX7_takeSlack_1 (by decide) ?_
  refine xc_Vi (wr := [(q1, .inr (1, [.int (nI (P)), .ref be, .ref bl, .ref bu, .ref bo, .ref br, .ref bk, .ref bw, .ref btt, .ref bss])), (bss, .inl (cI, 8, .inl sl))]) hF (c_X7_takeNumber l D cI cJ cZ cS ta sa sv s.heap.size h0 ab z u9 t9 by9 99 (by omega) (by omega)) kv_X7_70 ⟨rfl, rfl, Nat.le_of_ble_eq_true rfl, Nat.le_of_ble_eq_true rfl⟩ ⟨Nat.le_of_ble_eq_true rfl, Nat.le_of_ble_eq_true rfl⟩ hK hN hZ hP hD hS hA [0, 1] [2, 3] rfl rfl rfl rfl (by decide) 0 rfl rfl rfl rfl hl.1 rfl (Nat.le_of_ble_eq_true rfl) dX7_takeSlack_3 (fun r_1 u_r_1 H locs hw_r_1 hP hD hS => ?_)
  obtain ⟨u2_2, t2_3⟩ := u_r_1
  try dsimp only at hw_r_1
  obtain ⟨hw_r_1, i_4, i_5, i_6, i_7⟩ := hw_r_1
  have hP : va_P D vwCl [(q1, .inr (1, [.int (nI (P)), .ref be, .ref bl, .ref bu, .ref bo, .ref br, .ref bk, .ref bw, .ref btt, .ref bss])), (bss, .inl (cI, 8, .inl sl)), (h0, .inr (7, [.int (nI (z)), .ref ab, .int (kd (bA by9 z) z (nf (bA by9 z) z u2_2)), .int (nI (nf (bA by9 z) z u2_2)), .int (nI (nx (bA by9 z) z u2_2)), .int (nI (cv (bA by9 z) z (nf (bA by9 z) z u2_2) (nx (bA by9 z) z u2_2))), .int t2_3])), (ab, .inl (cI, 120, .inl by9))] H := hP
  have hD : va_D A [(q1, .inr (1, [.int (nI (P)), .ref be, .ref bl, .ref bu, .ref bo, .ref br, .ref bk, .ref bw, .ref btt, .ref bss])), (bss, .inl (cI, 8, .inl sl)), (h0, .inr (7, [.int (nI (z)), .ref ab, .int (kd (bA by9 z) z (nf (bA by9 z) z u2_2)), .int (nI (nf (bA by9 z) z u2_2)), .int (nI (nx (bA by9 z) z u2_2)), .int (nI (cv (bA by9 z) z (nf (bA by9 z) z u2_2) (nx (bA by9 z) z u2_2))), .int t2_3])), (ab, .inl (cI, 120, .inl by9))] := hD
  rcases hw_r_1 with ⟨rfl, h_8, h_9, h_10⟩ | ⟨rfl, h_11, h_12, h_13⟩
  · skip
    subst h_9
    subst h_10
    refine lv_if_ne (tgt := 11) hx hb dX7_takeSlack_6 (by decide) (fun c_14 => ?_) (fun c_14 => absurd c_14 (by decide))
    refine lv_aload_n hx hb dX7_takeSlack_11 rfl (lv_at hl 1 rfl) ?_
    refine xg hF kf_X7_129 hK hP 0 rfl rfl dX7_takeSlack_12 ?_
    refine lv_iload_n hx hb dX7_takeSlack_15 rfl (lv_at hl 2 rfl) ?_
    refine lv_aload_n hx hb dX7_takeSlack_16 rfl (lv_at hl 0 rfl) ?_
    refine xg hF kf_X7_31 hK hP 2 rfl rfl dX7_takeSlack_17 ?_
    refine va_iast hx hb hK hP hD hS 1 0 rfl rfl (vp_in_nI (show j < 8 by omega) (by decide)) dX7_takeSlack_20 (fun H locs hP hD hS => ?_)
    rw [nI_clamp (show j < 2 ^ 31 by omega)] at hP hD
    obtain ⟨f_15, ef_15⟩ : ∃ g, g = upd sl j (nI (cv (bA by9 z) z (nf (bA by9 z) z u9) (nx (bA by9 z) z u9))) := ⟨_, rfl⟩
    rw [← ef_15] at hP hD
    have hP : va_P D vwCl [(q1, .inr (1, [.int (nI (P)), .ref be, .ref bl, .ref bu, .ref bo, .ref br, .ref bk, .ref bw, .ref btt, .ref bss])), (bss, .inl (cI, 8, .inl f_15)), (h0, .inr (7, [.int (nI (z)), .ref ab, .int (kd (bA by9 z) z (nf (bA by9 z) z (nx (bA by9 z) z u9))), .int (nI (nf (bA by9 z) z (nx (bA by9 z) z u9))), .int (nI (nx (bA by9 z) z (nx (bA by9 z) z u9))), .int (nI (cv (bA by9 z) z (nf (bA by9 z) z (nx (bA by9 z) z u9)) (nx (bA by9 z) z (nx (bA by9 z) z u9)))), .int (nI (cv (bA by9 z) z (nf (bA by9 z) z u9) (nx (bA by9 z) z u9)))])), (ab, .inl (cI, 120, .inl by9))] H := hP
    have hD : va_D A [(q1, .inr (1, [.int (nI (P)), .ref be, .ref bl, .ref bu, .ref bo, .ref br, .ref bk, .ref bw, .ref btt, .ref bss])), (bss, .inl (cI, 8, .inl f_15)), (h0, .inr (7, [.int (nI (z)), .ref ab, .int (kd (bA by9 z) z (nf (bA by9 z) z (nx (bA by9 z) z u9))), .int (nI (nf (bA by9 z) z (nx (bA by9 z) z u9))), .int (nI (nx (bA by9 z) z (nx (bA by9 z) z u9))), .int (nI (cv (bA by9 z) z (nf (bA by9 z) z (nx (bA by9 z) z u9)) (nx (bA by9 z) z (nx (bA by9 z) z u9)))), .int (nI (cv (bA by9 z) z (nf (bA by9 z) z u9) (nx (bA by9 z) z u9)))])), (ab, .inl (cI, 120, .inl by9))] := hD
    refine lv_iconst (v := 1) hx hb dX7_takeSlack_21 (by decide) ?_
    exact W.zret (v := 1) hx hb hr rfl (fun t ht hW => ⟨⟨1, (nx (bA by9 z) z u9, nI (cv (bA by9 z) z (nf (bA by9 z) z u9) (nx (bA by9 z) z u9)), f_15), rfl, ⟨Or.inl ⟨rfl, cif_pos (h_8)⟩, (by first | assumption | omega), (by first | assumption | omega), cv_le, (nx_le (by omega))⟩, by rw [ht]; exact hP.sub [2, 3, 0, 1] rfl, hD.sub [2, 3, 0, 1] (by decide) rfl⟩, hS.F ht⟩) hS.2.2 dX7_takeSlack_22 hlk
  · skip
    replace h_12 := h_12.symm; subst h_12
    replace h_13 := h_13.symm; subst h_13
    refine lv_if_ne (tgt := 11) hx hb dX7_takeSlack_6 (by decide) (fun c_16 => absurd (by decide) c_16) (fun c_16 => ?_)
    refine lv_iconst (v := 0) hx hb dX7_takeSlack_9 (by decide) ?_
    exact W.zret (v := 0) hx hb hr rfl (fun t ht hW => ⟨⟨0, (u9, t9, sl), rfl, ⟨Or.inr ⟨rfl, cif_neg (h_11)⟩, (by first | assumption | omega), (by first | assumption | omega), cv_le, (nx_le (by omega))⟩, by rw [ht]; exact hP.sub [2, 3, 0, 1] rfl, hD.sub [2, 3, 0, 1] (by decide) rfl⟩, hS.F ht⟩) hS.2.2 dX7_takeSlack_10 hlk
set_option maxHeartbeats 4000000 in
set_option maxRecDepth 100000 in
theorem c_X7_takeWalk (l : Launch) (D : va_G) (cI cJ cZ cS : ClassId) (ta : Nat) (sa sv : Nat → Nat) (sz : Nat) (h0 : Nat) (ab : Nat) (z : Nat) (u9 : Nat) (t9 : Int32) (by9 : Nat → Int32) (q1 : Nat) (be : Nat) (bl : Nat) (bu : Nat) (bo : Nat) (br : Nat) (bk : Nat) (bw : Nat) (btt : Nat) (bss : Nat) (P : Nat) (bWn : Nat) (bWp : Nat) (cn : Nat) (ln : Nat → Int32) (sp : Nat → Int32) (to9 : Nat → Int32) (sl : Nat → Int32) (hz : z ≤ 120) (hu9 : u9 ≤ z) (hP0 : P ≤ 10) (hc : cn ≤ 8) (hLL : LL cn ln) (hln : BA 8 7 ln) (hsp : BA 48 10 sp) : Met l yX7_takeWalk (Cond.code yX7_takeWalk cX7_takeWalk 4 (some .boolean) :: wsU) ({ frames := 6, cells := 0, slots := 0, locals := 128 }) (va_Pc [.ref h0, .ref q1] (XW D (xT cI cJ cZ cS) ta sa sv [(h0, .inr (7, [.int (nI (z)), .ref ab, .int (kd (bA by9 z) z (nf (bA by9 z) z u9)), .int (nI (nf (bA by9 z) z u9)), .int (nI (nx (bA by9 z) z u9)), .int (nI (cv (bA by9 z) z (nf (bA by9 z) z u9) (nx (bA by9 z) z u9))), .int t9])), (ab, .inl (cI, 120, .inl by9)), (q1, .inr (1, [.int (nI (P)), .ref be, .ref bl, .ref bu, .ref bo, .ref br, .ref bk, .ref bw, .ref btt, .ref bss])), (bw, .inr (3, [.int (nI (cn)), .ref bWn, .ref bWp])), (bWn, .inl (cI, 8, .inl ln)), (bWp, .inl (cI, 48, .inl sp)), (btt, .inl (cI, 8, .inl to9)), (bss, .inl (cI, 8, .inl sl))] sz)) (XQi (fun (r : Int32) (u : Nat × Int32 × Nat × (Nat → Int32) × (Nat → Int32) × (Nat → Int32) × (Nat → Int32)) => match u with | (u2, t2, cn2, l2, p2, t3, z3) => ((r = 1 ∧ (spWalk (bA by9 z) z u9 P cn = Sum.inr u2) ∧ (cn2 = cn + 1)) ∨ (r = 0 ∧ (spWalk (bA by9 z) z u9 P cn = Sum.inl u2))) ∧ (u2 ≤ z) ∧ (u9 ≤ u2) ∧ (cv (bA by9 z) z (nf (bA by9 z) z u2) (nx (bA by9 z) z u2) ≤ 10000) ∧ (nx (bA by9 z) z u2 ≤ z) ∧ (cn2 ≤ 8) ∧ (LL cn2 l2) ∧ (BA 8 7 l2) ∧ (BA 48 10 p2)) D (fun (u : Nat × Int32 × Nat × (Nat → Int32) × (Nat → Int32) × (Nat → Int32) × (Nat → Int32)) => match u with | (u2, t2, cn2, l2, p2, t3, z3) => [(h0, .inr (7, [.int (nI (z)), .ref ab, .int (kd (bA by9 z) z (nf (bA by9 z) z u2)), .int (nI (nf (bA by9 z) z u2)), .int (nI (nx (bA by9 z) z u2)), .int (nI (cv (bA by9 z) z (nf (bA by9 z) z u2) (nx (bA by9 z) z u2))), .int t2])), (ab, .inl (cI, 120, .inl by9)), (q1, .inr (1, [.int (nI (P)), .ref be, .ref bl, .ref bu, .ref bo, .ref br, .ref bk, .ref bw, .ref btt, .ref bss])), (bw, .inr (3, [.int (nI (cn2)), .ref bWn, .ref bWp])), (bWn, .inl (cI, 8, .inl l2)), (bWp, .inl (cI, 48, .inl p2)), (btt, .inl (cI, 8, .inl t3)), (bss, .inl (cI, 8, .inl z3))]) (va_A [(h0, .inr (7, [.int (nI (z)), .ref ab, .int (kd (bA by9 z) z (nf (bA by9 z) z u9)), .int (nI (nf (bA by9 z) z u9)), .int (nI (nx (bA by9 z) z u9)), .int (nI (cv (bA by9 z) z (nf (bA by9 z) z u9) (nx (bA by9 z) z u9))), .int t9])), (ab, .inl (cI, 120, .inl by9)), (q1, .inr (1, [.int (nI (P)), .ref be, .ref bl, .ref bu, .ref bo, .ref br, .ref bk, .ref bw, .ref btt, .ref bss])), (bw, .inr (3, [.int (nI (cn)), .ref bWn, .ref bWp])), (bWn, .inl (cI, 8, .inl ln)), (bWp, .inl (cI, 48, .inl sp)), (btt, .inl (cI, 8, .inl to9)), (bss, .inl (cI, 8, .inl sl))] sz)) 0 0 (va_A [(h0, .inr (7, [.int (nI (z)), .ref ab, .int (kd (bA by9 z) z (nf (bA by9 z) z u9)), .int (nI (nf (bA by9 z) z u9)), .int (nI (nx (bA by9 z) z u9)), .int (nI (cv (bA by9 z) z (nf (bA by9 z) z u9) (nx (bA by9 z) z u9))), .int t9])), (ab, .inl (cI, 120, .inl by9)), (q1, .inr (1, [.int (nI (P)), .ref be, .ref bl, .ref bu, .ref bo, .ref br, .ref bk, .ref bw, .ref btt, .ref bss])), (bw, .inr (3, [.int (nI (cn)), .ref bWn, .ref bWp])), (bWn, .inl (cI, 8, .inl ln)), (bWp, .inl (cI, 48, .inl sp)), (btt, .inl (cI, 8, .inl to9)), (bss, .inl (cI, 8, .inl sl))] sz) := by
  refine xh (QA := fun A => XQi (fun (r : Int32) (u : Nat × Int32 × Nat × (Nat → Int32) × (Nat → Int32) × (Nat → Int32) × (Nat → Int32)) => match u with | (u2, t2, cn2, l2, p2, t3, z3) => ((r = 1 ∧ (spWalk (bA by9 z) z u9 P cn = Sum.inr u2) ∧ (cn2 = cn + 1)) ∨ (r = 0 ∧ (spWalk (bA by9 z) z u9 P cn = Sum.inl u2))) ∧ (u2 ≤ z) ∧ (u9 ≤ u2) ∧ (cv (bA by9 z) z (nf (bA by9 z) z u2) (nx (bA by9 z) z u2) ≤ 10000) ∧ (nx (bA by9 z) z u2 ≤ z) ∧ (cn2 ≤ 8) ∧ (LL cn2 l2) ∧ (BA 8 7 l2) ∧ (BA 48 10 p2)) D (fun (u : Nat × Int32 × Nat × (Nat → Int32) × (Nat → Int32) × (Nat → Int32) × (Nat → Int32)) => match u with | (u2, t2, cn2, l2, p2, t3, z3) => [(h0, .inr (7, [.int (nI (z)), .ref ab, .int (kd (bA by9 z) z (nf (bA by9 z) z u2)), .int (nI (nf (bA by9 z) z u2)), .int (nI (nx (bA by9 z) z u2)), .int (nI (cv (bA by9 z) z (nf (bA by9 z) z u2) (nx (bA by9 z) z u2))), .int t2])), (ab, .inl (cI, 120, .inl by9)), (q1, .inr (1, [.int (nI (P)), .ref be, .ref bl, .ref bu, .ref bo, .ref br, .ref bk, .ref bw, .ref btt, .ref bss])), (bw, .inr (3, [.int (nI (cn2)), .ref bWn, .ref bWp])), (bWn, .inl (cI, 8, .inl l2)), (bWp, .inl (cI, 48, .inl p2)), (btt, .inl (cI, 8, .inl t3)), (bss, .inl (cI, 8, .inl z3))]) A) (fr := fun A => A) (by decide) (Nat.le_of_ble_eq_true rfl) ?_
  intro p e s m below meth c ls A hF hr hlk hin hsz hP hK hD hN hZ hA hS hl
  have hF : CallFix p m c cX7_takeWalk 4 s _ _ RX7 := hF
  have hx := hF.1
  have hb := hF.2.1
  have hml := hF.2.2.1
  have hown := hF.2.2.2.1
  have hu : ∀ w ∈ wsU, w.before _ s = true := fun w h => hF.2.2.2.2 w (List.mem_cons_of_mem _ h)
  have hl : lv_has ls 4 [(0, .ref h0), (1, .ref q1)] := hl
  have htk := tk_le (b := (bA by9 z)) hu9
  refine lv_aload_n hx hb dX7_takeWalk_0 rfl (lv_at hl 1 rfl) ?_
  refine xg hF kf_X7_94 hK hP 2 rfl rfl dX7_takeWalk_1 ?_
  refine xc_Vr hF (c_X3_isFull l D cI cJ cZ cS ta sa sv s.heap.size bw bWn bWp cn (by omega)) kv_X7_98 ⟨rfl, rfl, Nat.le_of_ble_eq_true rfl, Nat.le_of_ble_eq_true rfl⟩ ⟨Nat.le_of_ble_eq_true rfl, Nat.le_of_ble_eq_true rfl⟩ hK hN hZ hP hD hS hA [3] rfl rfl 0 rfl rfl rfl rfl hl.1 rfl (Nat.le_of_ble_eq_true rfl) dX7_takeWalk_4 (fun r_1 hw_r_1 => ?_)
  rcases hw_r_1 with ⟨rfl, h_2⟩ | ⟨rfl, h_3⟩
  · skip
    refine lv_if_eq (tgt := 12) hx hb dX7_takeWalk_7 (by decide) (fun c_4 => absurd c_4 (by decide)) (fun c_4 => ?_)
    refine lv_iconst (v := 0) hx hb dX7_takeWalk_10 (by decide) ?_
    exact W.zret (v := 0) hx hb hr rfl (fun t ht hW => ⟨⟨0, (u9, t9, cn, ln, sp, to9, sl), rfl, ⟨Or.inr ⟨rfl, cif_neg (show ¬ cn < 8 by omega)⟩, (by first | assumption | omega), (by first | assumption | omega), cv_le, (nx_le (by omega)), (by first | assumption | omega), (by first | assumption | omega), hln, hsp⟩, by rw [ht]; exact hP.sub [0, 1, 2, 3, 4, 5, 6, 7] rfl, hD.sub [0, 1, 2, 3, 4, 5, 6, 7] (by decide +kernel) rfl⟩, hS.F ht⟩) hS.2.2 dX7_takeWalk_11 hlk
  · skip
    refine lv_if_eq (tgt := 12) hx hb dX7_takeWalk_7 (by decide) (fun c_5 => ?_) (fun c_5 => absurd (by decide) c_5)
    refine lv_aload_n hx hb dX7_takeWalk_12 rfl (lv_at hl 0 rfl) ?_
    refine xc_Vv (wr := [(q1, .inr (1, [.int (nI (P)), .ref be, .ref bl, .ref bu, .ref bo, .ref br, .ref bk, .ref bw, .ref btt, .ref bss])), (bw, .inr (3, [.int (nI (cn)), .ref bWn, .ref bWp])), (bWn, .inl (cI, 8, .inl ln)), (bWp, .inl (cI, 48, .inl sp)), (btt, .inl (cI, 8, .inl to9)), (bss, .inl (cI, 8, .inl sl))]) hF (c_X7_step l D cI cJ cZ cS ta sa sv s.heap.size h0 ab z (nf (bA by9 z) z u9) (nx (bA by9 z) z u9) (cv (bA by9 z) z (nf (bA by9 z) z u9) (nx (bA by9 z) z u9)) (kd (bA by9 z) z (nf (bA by9 z) z u9)) t9 by9 (by omega) (by omega)) kv_X7_34 ⟨rfl, rfl, Nat.le_of_ble_eq_true rfl, Nat.le_of_ble_eq_true rfl⟩ ⟨Nat.le_of_ble_eq_true rfl, Nat.le_of_ble_eq_true rfl⟩ hK hN hZ hP hD hS hA [0, 1] [2, 3, 4, 5, 6, 7] rfl rfl rfl (by decide +kernel) (by decide +kernel) 0 rfl rfl rfl rfl hl.1 rfl (Nat.le_of_ble_eq_true rfl) dX7_takeWalk_13 (fun u_r_6 H locs hw_r_6 hP hD hS => ?_)
    obtain ⟨s2_7, x2_8, v2_9, tk2_10⟩ := u_r_6
    try dsimp only at hw_r_6
    obtain ⟨i_11, i_12, i_13, i_14, i_15, i_16, i_17, i_18⟩ := hw_r_6
    subst i_11
    subst i_12
    subst i_13
    subst i_14
    have hP : va_P D vwCl [(q1, .inr (1, [.int (nI (P)), .ref be, .ref bl, .ref bu, .ref bo, .ref br, .ref bk, .ref bw, .ref btt, .ref bss])), (bw, .inr (3, [.int (nI (cn)), .ref bWn, .ref bWp])), (bWn, .inl (cI, 8, .inl ln)), (bWp, .inl (cI, 48, .inl sp)), (btt, .inl (cI, 8, .inl to9)), (bss, .inl (cI, 8, .inl sl)), (h0, .inr (7, [.int (nI (z)), .ref ab, .int (kd (bA by9 z) z (nf (bA by9 z) z (nx (bA by9 z) z u9))), .int (nI ((nf (bA by9 z) z (nx (bA by9 z) z u9)))), .int (nI ((nx (bA by9 z) z (nx (bA by9 z) z u9)))), .int (nI ((cv (bA by9 z) z (nf (bA by9 z) z (nx (bA by9 z) z u9)) (nx (bA by9 z) z (nx (bA by9 z) z u9))))), .int t9])), (ab, .inl (cI, 120, .inl by9))] H := hP
    have hD : va_D A [(q1, .inr (1, [.int (nI (P)), .ref be, .ref bl, .ref bu, .ref bo, .ref br, .ref bk, .ref bw, .ref btt, .ref bss])), (bw, .inr (3, [.int (nI (cn)), .ref bWn, .ref bWp])), (bWn, .inl (cI, 8, .inl ln)), (bWp, .inl (cI, 48, .inl sp)), (btt, .inl (cI, 8, .inl to9)), (bss, .inl (cI, 8, .inl sl)), (h0, .inr (7, [.int (nI (z)), .ref ab, .int (kd (bA by9 z) z (nf (bA by9 z) z (nx (bA by9 z) z u9))), .int (nI ((nf (bA by9 z) z (nx (bA by9 z) z u9)))), .int (nI ((nx (bA by9 z) z (nx (bA by9 z) z u9)))), .int (nI ((cv (bA by9 z) z (nf (bA by9 z) z (nx (bA by9 z) z u9)) (nx (bA by9 z) z (nx (bA by9 z) z u9))))), .int t9])), (ab, .inl (cI, 120, .inl by9))] := hD
    refine lv_aload_n hx hb dX7_takeWalk_16 rfl (lv_at hl 0 rfl) ?_
    refine lv_aload_n hx hb dX7_takeWalk_17 rfl (lv_at hl 1 rfl) ?_
    refine xg hF kf_X7_60 hK hP 0 rfl rfl dX7_takeWalk_18 ?_
    refine lv_iconst (v := 1) hx hb dX7_takeWalk_21 (by decide) ?_
    refine lv_isub hx hb dX7_takeWalk_22 ?_
    refine xc_Vi (wr := [(q1, .inr (1, [.int (nI (P)), .ref be, .ref bl, .ref bu, .ref bo, .ref br, .ref bk, .ref bw, .ref btt, .ref bss])), (bw, .inr (3, [.int (nI (cn)), .ref bWn, .ref bWp])), (bWn, .inl (cI, 8, .inl ln)), (bWp, .inl (cI, 48, .inl sp)), (btt, .inl (cI, 8, .inl to9)), (bss, .inl (cI, 8, .inl sl))]) hF (c_X7_takeNumber l D cI cJ cZ cS ta sa sv H.size h0 ab z (nx (bA by9 z) z u9) t9 by9 ((nI (P)) - 1) (by omega) (by omega)) kv_X7_70 ⟨rfl, rfl, Nat.le_of_ble_eq_true rfl, Nat.le_of_ble_eq_true rfl⟩ ⟨Nat.le_of_ble_eq_true rfl, Nat.le_of_ble_eq_true rfl⟩ hK hN hZ hP hD hS hA [6, 7] [0, 1, 2, 3, 4, 5] rfl rfl rfl (by decide +kernel) (by decide +kernel) 0 rfl rfl rfl rfl hl.1 rfl (Nat.le_of_ble_eq_true rfl) dX7_takeWalk_23 (fun r_19 u_r_19 H locs hw_r_19 hP hD hS => ?_)
    obtain ⟨u2_20, t2_21⟩ := u_r_19
    try dsimp only at hw_r_19
    obtain ⟨hw_r_19, i_22, i_23, i_24, i_25⟩ := hw_r_19
    have hP : va_P D vwCl [(q1, .inr (1, [.int (nI (P)), .ref be, .ref bl, .ref bu, .ref bo, .ref br, .ref bk, .ref bw, .ref btt, .ref bss])), (bw, .inr (3, [.int (nI (cn)), .ref bWn, .ref bWp])), (bWn, .inl (cI, 8, .inl ln)), (bWp, .inl (cI, 48, .inl sp)), (btt, .inl (cI, 8, .inl to9)), (bss, .inl (cI, 8, .inl sl)), (h0, .inr (7, [.int (nI (z)), .ref ab, .int (kd (bA by9 z) z (nf (bA by9 z) z u2_20)), .int (nI (nf (bA by9 z) z u2_20)), .int (nI (nx (bA by9 z) z u2_20)), .int (nI (cv (bA by9 z) z (nf (bA by9 z) z u2_20) (nx (bA by9 z) z u2_20))), .int t2_21])), (ab, .inl (cI, 120, .inl by9))] H := hP
    have hD : va_D A [(q1, .inr (1, [.int (nI (P)), .ref be, .ref bl, .ref bu, .ref bo, .ref br, .ref bk, .ref bw, .ref btt, .ref bss])), (bw, .inr (3, [.int (nI (cn)), .ref bWn, .ref bWp])), (bWn, .inl (cI, 8, .inl ln)), (bWp, .inl (cI, 48, .inl sp)), (btt, .inl (cI, 8, .inl to9)), (bss, .inl (cI, 8, .inl sl)), (h0, .inr (7, [.int (nI (z)), .ref ab, .int (kd (bA by9 z) z (nf (bA by9 z) z u2_20)), .int (nI (nf (bA by9 z) z u2_20)), .int (nI (nx (bA by9 z) z u2_20)), .int (nI (cv (bA by9 z) z (nf (bA by9 z) z u2_20) (nx (bA by9 z) z u2_20))), .int t2_21])), (ab, .inl (cI, 120, .inl by9))] := hD
    rcases hw_r_19 with ⟨rfl, h_26, h_27, h_28⟩ | ⟨rfl, h_29, h_30, h_31⟩
    · skip
      subst h_27
      subst h_28
      have hm_h_26 : cv (bA by9 z) z (nf (bA by9 z) z (nx (bA by9 z) z u9)) (nx (bA by9 z) z (nx (bA by9 z) z u9)) < P := okNu_lt hP0 h_26
      refine lv_if_ne (tgt := 31) hx hb dX7_takeWalk_26 (by decide) (fun c_32 => ?_) (fun c_32 => absurd c_32 (by decide))
      refine lv_aload_n hx hb dX7_takeWalk_31 rfl (lv_at hl 1 rfl) ?_
      refine lv_aload_n hx hb dX7_takeWalk_32 rfl (lv_at hl 0 rfl) ?_
      refine xg hF kf_X7_31 hK hP 6 rfl rfl dX7_takeWalk_33 ?_
      refine lv_iconst (v := 0) hx hb dX7_takeWalk_36 (by decide) ?_
      refine lv_iconst (v := 0) hx hb dX7_takeWalk_37 (by decide) ?_
      refine xc_Vi (wr := [(h0, .inr (7, [.int (nI (z)), .ref ab, .int (kd (bA by9 z) z (nf (bA by9 z) z (nx (bA by9 z) z (nx (bA by9 z) z u9)))), .int (nI (nf (bA by9 z) z (nx (bA by9 z) z (nx (bA by9 z) z u9)))), .int (nI (nx (bA by9 z) z (nx (bA by9 z) z (nx (bA by9 z) z u9)))), .int (nI (cv (bA by9 z) z (nf (bA by9 z) z (nx (bA by9 z) z (nx (bA by9 z) z u9))) (nx (bA by9 z) z (nx (bA by9 z) z (nx (bA by9 z) z u9))))), .int (nI (cv (bA by9 z) z (nf (bA by9 z) z (nx (bA by9 z) z u9)) (nx (bA by9 z) z (nx (bA by9 z) z u9))))])), (ab, .inl (cI, 120, .inl by9))]) hF (c_X1_addWalk l D cI cJ cZ cS ta sa sv H.size q1 be bl bu bo br bk bw btt bss P bWn bWp cn (cv (bA by9 z) z (nf (bA by9 z) z (nx (bA by9 z) z u9)) (nx (bA by9 z) z (nx (bA by9 z) z u9))) ln sp to9 sl 0 0 (by omega) (by omega) hln hsp) kv_X7_104 ⟨rfl, rfl, Nat.le_of_ble_eq_true rfl, Nat.le_of_ble_eq_true rfl⟩ ⟨Nat.le_of_ble_eq_true rfl, Nat.le_of_ble_eq_true rfl⟩ hK hN hZ hP hD hS hA [0, 1, 2, 3, 4, 5] [6, 7] rfl rfl (by decide +kernel) rfl (by decide +kernel) 0 rfl rfl rfl rfl hl.1 rfl (Nat.le_of_ble_eq_true rfl) dX7_takeWalk_38 (fun r_33 u_r_33 H locs hw_r_33 hP hD hS => ?_)
      obtain ⟨l2_34, s2_35, t2_36, z2_37⟩ := u_r_33
      try dsimp only at hw_r_33
      obtain ⟨hw_r_33, i_38, i_39, i_40, i_41, i_42, i_43⟩ := hw_r_33
      have hP : va_P D vwCl [(h0, .inr (7, [.int (nI (z)), .ref ab, .int (kd (bA by9 z) z (nf (bA by9 z) z (nx (bA by9 z) z (nx (bA by9 z) z u9)))), .int (nI (nf (bA by9 z) z (nx (bA by9 z) z (nx (bA by9 z) z u9)))), .int (nI (nx (bA by9 z) z (nx (bA by9 z) z (nx (bA by9 z) z u9)))), .int (nI (cv (bA by9 z) z (nf (bA by9 z) z (nx (bA by9 z) z (nx (bA by9 z) z u9))) (nx (bA by9 z) z (nx (bA by9 z) z (nx (bA by9 z) z u9))))), .int (nI (cv (bA by9 z) z (nf (bA by9 z) z (nx (bA by9 z) z u9)) (nx (bA by9 z) z (nx (bA by9 z) z u9))))])), (ab, .inl (cI, 120, .inl by9)), (q1, .inr (1, [.int (nI (P)), .ref be, .ref bl, .ref bu, .ref bo, .ref br, .ref bk, .ref bw, .ref btt, .ref bss])), (bw, .inr (3, [.int (nI (cn + 1)), .ref bWn, .ref bWp])), (bWn, .inl (cI, 8, .inl l2_34)), (bWp, .inl (cI, 48, .inl s2_35)), (btt, .inl (cI, 8, .inl t2_36)), (bss, .inl (cI, 8, .inl z2_37))] H := hP
      have hD : va_D A [(h0, .inr (7, [.int (nI (z)), .ref ab, .int (kd (bA by9 z) z (nf (bA by9 z) z (nx (bA by9 z) z (nx (bA by9 z) z u9)))), .int (nI (nf (bA by9 z) z (nx (bA by9 z) z (nx (bA by9 z) z u9)))), .int (nI (nx (bA by9 z) z (nx (bA by9 z) z (nx (bA by9 z) z u9)))), .int (nI (cv (bA by9 z) z (nf (bA by9 z) z (nx (bA by9 z) z (nx (bA by9 z) z u9))) (nx (bA by9 z) z (nx (bA by9 z) z (nx (bA by9 z) z u9))))), .int (nI (cv (bA by9 z) z (nf (bA by9 z) z (nx (bA by9 z) z u9)) (nx (bA by9 z) z (nx (bA by9 z) z u9))))])), (ab, .inl (cI, 120, .inl by9)), (q1, .inr (1, [.int (nI (P)), .ref be, .ref bl, .ref bu, .ref bo, .ref br, .ref bk, .ref bw, .ref btt, .ref bss])), (bw, .inr (3, [.int (nI (cn + 1)), .ref bWn, .ref bWp])), (bWn, .inl (cI, 8, .inl l2_34)), (bWp, .inl (cI, 48, .inl s2_35)), (btt, .inl (cI, 8, .inl t2_36)), (bss, .inl (cI, 8, .inl z2_37))] := hD
      subst hw_r_33
      refine lv_istore_n (lv' := [(2, .int (nI (cn))), (0, .ref h0), (1, .ref q1)]) hx hb dX7_takeWalk_41 rfl hl (by decide) rfl (fun ls hl => ?_)
      refine lv_iconst (v := 1) hx hb dX7_takeWalk_42 (by decide) ?_
      refine lv_istore_n (lv' := [(3, .int 1), (2, .int (nI (cn))), (0, .ref h0), (1, .ref q1)]) hx hb dX7_takeWalk_43 rfl hl (by decide) rfl (fun ls hl => ?_)
      suffices loop_44 : ∀ (n_44 : Nat) (i : Nat) (u8 : Nat) (v8 : Nat) (t8 : Int32) (ln8 : Nat → Int32) (sp8 : Nat → Int32) (H : Heap) (locs : List Loc) (ls : Array Slot), 6 - i < n_44 → (1 ≤ i) → (i ≤ 6) → (u8 ≤ z) → (u9 ≤ u8) → (nx (bA by9 z) z u8 ≤ z) → (cv (bA by9 z) z (nf (bA by9 z) z u8) (nx (bA by9 z) z u8) ≤ 10000) → (v8 < 10) → (ln8 cn = nI i) → (LL (cn + 1) ln8) → (sp8 (cn * 6 + (i - 1)) = nI v8) → (spWalk (bA by9 z) z u9 P cn = spSt (bA by9 z) z P (6 - i) u8 v8 i) → (BA 8 7 ln8) → (BA 48 10 sp8) → va_P D vwCl [(h0, .inr (7, [.int (nI (z)), .ref ab, .int (kd (bA by9 z) z (nf (bA by9 z) z u8)), .int (nI (nf (bA by9 z) z u8)), .int (nI (nx (bA by9 z) z u8)), .int (nI (cv (bA by9 z) z (nf (bA by9 z) z u8) (nx (bA by9 z) z u8))), .int t8])), (ab, .inl (cI, 120, .inl by9)), (q1, .inr (1, [.int (nI (P)), .ref be, .ref bl, .ref bu, .ref bo, .ref br, .ref bk, .ref bw, .ref btt, .ref bss])), (bw, .inr (3, [.int (nI (cn + 1)), .ref bWn, .ref bWp])), (bWn, .inl (cI, 8, .inl ln8)), (bWp, .inl (cI, 48, .inl sp8)), (btt, .inl (cI, 8, .inl t2_36)), (bss, .inl (cI, 8, .inl z2_37))] H → va_D A [(h0, .inr (7, [.int (nI (z)), .ref ab, .int (kd (bA by9 z) z (nf (bA by9 z) z u8)), .int (nI (nf (bA by9 z) z u8)), .int (nI (nx (bA by9 z) z u8)), .int (nI (cv (bA by9 z) z (nf (bA by9 z) z u8) (nx (bA by9 z) z u8))), .int t8])), (ab, .inl (cI, 120, .inl by9)), (q1, .inr (1, [.int (nI (P)), .ref be, .ref bl, .ref bu, .ref bo, .ref br, .ref bk, .ref bw, .ref btt, .ref bss])), (bw, .inr (3, [.int (nI (cn + 1)), .ref bWn, .ref bWp])), (bWn, .inl (cI, 8, .inl ln8)), (bWp, .inl (cI, 48, .inl sp8)), (btt, .inl (cI, 8, .inl t2_36)), (bss, .inl (cI, 8, .inl z2_37))] → va_S A s.heap H locs → lv_has ls 4 [(3, .int (nI (i))), (2, .int (nI (cn))), (0, .ref h0), (1, .ref q1)] → W p l e ({ frames := 6, cells := 0, slots := 0, locals := 128 }) s m ([.ref h0, .ref q1] : List Value).toArray below meth c H locs 0 0 (MQ below (XQi (fun (r : Int32) (u : Nat × Int32 × Nat × (Nat → Int32) × (Nat → Int32) × (Nat → Int32) × (Nat → Int32)) => match u with | (u2, t2, cn2, l2, p2, t3, z3) => ((r = 1 ∧ (spWalk (bA by9 z) z u9 P cn = Sum.inr u2) ∧ (cn2 = cn + 1)) ∨ (r = 0 ∧ (spWalk (bA by9 z) z u9 P cn = Sum.inl u2))) ∧ (u2 ≤ z) ∧ (u9 ≤ u2) ∧ (cv (bA by9 z) z (nf (bA by9 z) z u2) (nx (bA by9 z) z u2) ≤ 10000) ∧ (nx (bA by9 z) z u2 ≤ z) ∧ (cn2 ≤ 8) ∧ (LL cn2 l2) ∧ (BA 8 7 l2) ∧ (BA 48 10 p2)) D (fun (u : Nat × Int32 × Nat × (Nat → Int32) × (Nat → Int32) × (Nat → Int32) × (Nat → Int32)) => match u with | (u2, t2, cn2, l2, p2, t3, z3) => [(h0, .inr (7, [.int (nI (z)), .ref ab, .int (kd (bA by9 z) z (nf (bA by9 z) z u2)), .int (nI (nf (bA by9 z) z u2)), .int (nI (nx (bA by9 z) z u2)), .int (nI (cv (bA by9 z) z (nf (bA by9 z) z u2) (nx (bA by9 z) z u2))), .int t2])), (ab, .inl (cI, 120, .inl by9)), (q1, .inr (1, [.int (nI (P)), .ref be, .ref bl, .ref bu, .ref bo, .ref br, .ref bk, .ref bw, .ref btt, .ref bss])), (bw, .inr (3, [.int (nI (cn2)), .ref bWn, .ref bWp])), (bWn, .inl (cI, 8, .inl l2)), (bWp, .inl (cI, 48, .inl p2)), (btt, .inl (cI, 8, .inl t3)), (bss, .inl (cI, 8, .inl z3))]) A) ([.ref h0, .ref q1] : List Value).toArray s 0 0 A) (F0 m 44 ls []) by
        exact loop_44 _ 1 (nx (bA by9 z) z (nx (bA by9 z) z u9)) (cv (bA by9 z) z (nf (bA by9 z) z (nx (bA by9 z) z u9)) (nx (bA by9 z) z (nx (bA by9 z) z u9))) (nI (cv (bA by9 z) z (nf (bA by9 z) z (nx (bA by9 z) z u9)) (nx (bA by9 z) z (nx (bA by9 z) z u9)))) l2_34 s2_35 _ _ _ (Nat.lt_succ_self _) (by omega) (by omega) (by omega) (by omega) (nx_le (by omega)) cv_le (by omega) (by rw [i_40]; exact pk_us) (by rw [i_40]; exact LL.new hLL) (by rw [i_41]; exact pk_us) ((cif_pos (show cn < 8 by omega)).trans (cif_pos h_26)) i_38 i_39 hP hD hS (lv_sub hl [0, 1, 2, 3] rfl)
      intro n_44
      induction n_44 with
      | zero =>
        intro i u8 v8 t8 ln8 sp8 H locs ls hm_44
        exact absurd hm_44 (Nat.not_lt_zero _)
      | succ n_44 ih_44 =>
        intro i u8 v8 t8 ln8 sp8 H locs ls hm_44 hi1 hi2 hu8 hj8 hnx8 hcv8 hvb he8 hLL8 hv8 hL8 hln8 hsp8 hP hD hS hl
        refine lv_iload_n hx hb dX7_takeWalk_44 rfl (lv_at hl 0 rfl) ?_
        refine lv_bipush (v := 6) hx hb dX7_takeWalk_45 (by decide) ?_
        refine lv_icmp_ge (tgt := 107) hx hb dX7_takeWalk_47 (by decide) (fun c_44 => ?_) (fun c_44 => ?_)
        · skip
          have nc_44 : 6 ≤ i := xn_le (a := 6) (b := i) (by omega) (by omega) c_44
          refine lv_aload_n hx hb dX7_takeWalk_107 rfl (lv_at hl 3 rfl) ?_
          refine xg hF kf_X7_94 hK hP 2 rfl rfl dX7_takeWalk_108 ?_
          refine xg hF kf_X7_115 hK hP 3 rfl rfl dX7_takeWalk_111 ?_
          refine lv_iload_n hx hb dX7_takeWalk_114 rfl (lv_at hl 1 rfl) ?_
          refine va_iald hx hb hK hP 4 0 rfl rfl (vp_in_nI (show cn < 8 by omega) (by decide)) dX7_takeWalk_115 ?_
          refine xl_i (y := ln8 cn) (congrArg ln8 (nI_clamp (show cn < 2 ^ 31 by omega))) ?_
          refine xl_i (y := nI (i)) he8 ?_
          refine lv_iconst (v := 2) hx hb dX7_takeWalk_116 (by decide) ?_
          refine lv_icmp_lt (tgt := 142) hx hb dX7_takeWalk_117 (by decide) (fun c_45 => ?_) (fun c_45 => ?_)
          · skip
            have nc_45 : i < 2 := xn_lt (a := i) (b := 2) (by omega) (by omega) c_45
            refine lv_iconst (v := 0) hx hb dX7_takeWalk_142 (by decide) ?_
            exact W.zret (v := 0) hx hb hr rfl (fun t ht hW => ⟨⟨0, (u8, t8, cn + 1, ln8, sp8, t2_36, z2_37), rfl, ⟨Or.inr ⟨rfl, hL8.trans ((spSt_six (by omega)).trans (cif_neg (show ¬ 2 ≤ i by omega)))⟩, (by first | assumption | omega), (by first | assumption | omega), cv_le, (nx_le (by omega)), (by first | assumption | omega), (by first | assumption | omega), hln8, hsp8⟩, by rw [ht]; exact hP.sub [0, 1, 2, 3, 4, 5, 6, 7] rfl, hD.sub [0, 1, 2, 3, 4, 5, 6, 7] (by decide +kernel) rfl⟩, hS.F ht⟩) hS.2.2 dX7_takeWalk_143 hlk
          · skip
            have nc_45 : 2 ≤ i := xn_nlt (a := i) (b := 2) (by omega) (by omega) c_45
            refine lv_aload_n hx hb dX7_takeWalk_120 rfl (lv_at hl 2 rfl) ?_
            refine va_ldcS (tx := "all") (q := sa 6) hx hb hown (hN.2.2 (118, "all", 6) (by decide)) dX7_takeWalk_121 ?_
            refine xc_Vi (wr := [(q1, .inr (1, [.int (nI (P)), .ref be, .ref bl, .ref bu, .ref bo, .ref br, .ref bk, .ref bw, .ref btt, .ref bss])), (bw, .inr (3, [.int (nI (cn + 1)), .ref bWn, .ref bWp])), (bWn, .inl (cI, 8, .inl ln8)), (bWp, .inl (cI, 48, .inl sp8)), (btt, .inl (cI, 8, .inl t2_36)), (bss, .inl (cI, 8, .inl z2_37))]) hF (c_X7_takeWord l D cI cJ cZ cS ta sa sv H.size h0 ab z u8 t8 by9 6 (by omega) (by omega) (by omega)) kv_X7_67 ⟨rfl, rfl, Nat.le_of_ble_eq_true rfl, Nat.le_of_ble_eq_true rfl⟩ ⟨Nat.le_of_ble_eq_true rfl, Nat.le_of_ble_eq_true rfl⟩ hK hN hZ hP hD hS hA [0, 1] [2, 3, 4, 5, 6, 7] rfl rfl rfl (by decide +kernel) (by decide +kernel) 0 rfl rfl rfl rfl hl.1 rfl (Nat.le_of_ble_eq_true rfl) dX7_takeWalk_123 (fun r_46 u_r_46 H locs hw_r_46 hP hD hS => ?_)
            obtain ⟨u2_47, t2_48⟩ := u_r_46
            try dsimp only at hw_r_46
            obtain ⟨hw_r_46, i_49, i_50, i_51, i_52⟩ := hw_r_46
            have hP : va_P D vwCl [(q1, .inr (1, [.int (nI (P)), .ref be, .ref bl, .ref bu, .ref bo, .ref br, .ref bk, .ref bw, .ref btt, .ref bss])), (bw, .inr (3, [.int (nI (cn + 1)), .ref bWn, .ref bWp])), (bWn, .inl (cI, 8, .inl ln8)), (bWp, .inl (cI, 48, .inl sp8)), (btt, .inl (cI, 8, .inl t2_36)), (bss, .inl (cI, 8, .inl z2_37)), (h0, .inr (7, [.int (nI (z)), .ref ab, .int (kd (bA by9 z) z (nf (bA by9 z) z u2_47)), .int (nI (nf (bA by9 z) z u2_47)), .int (nI (nx (bA by9 z) z u2_47)), .int (nI (cv (bA by9 z) z (nf (bA by9 z) z u2_47) (nx (bA by9 z) z u2_47))), .int t2_48])), (ab, .inl (cI, 120, .inl by9))] H := hP
            have hD : va_D A [(q1, .inr (1, [.int (nI (P)), .ref be, .ref bl, .ref bu, .ref bo, .ref br, .ref bk, .ref bw, .ref btt, .ref bss])), (bw, .inr (3, [.int (nI (cn + 1)), .ref bWn, .ref bWp])), (bWn, .inl (cI, 8, .inl ln8)), (bWp, .inl (cI, 48, .inl sp8)), (btt, .inl (cI, 8, .inl t2_36)), (bss, .inl (cI, 8, .inl z2_37)), (h0, .inr (7, [.int (nI (z)), .ref ab, .int (kd (bA by9 z) z (nf (bA by9 z) z u2_47)), .int (nI (nf (bA by9 z) z u2_47)), .int (nI (nx (bA by9 z) z u2_47)), .int (nI (cv (bA by9 z) z (nf (bA by9 z) z u2_47) (nx (bA by9 z) z u2_47))), .int t2_48])), (ab, .inl (cI, 120, .inl by9))] := hD
            rcases hw_r_46 with ⟨rfl, h_53, h_54, h_55⟩ | ⟨rfl, h_56, h_57, h_58⟩
            · skip
              subst h_54
              replace h_55 := h_55.symm; subst h_55
              refine lv_if_eq (tgt := 142) hx hb dX7_takeWalk_126 (by decide) (fun c_59 => absurd c_59 (by decide)) (fun c_59 => ?_)
              refine lv_aload_n hx hb dX7_takeWalk_129 rfl (lv_at hl 2 rfl) ?_
              refine lv_sipush (v := (-9999)) hx hb dX7_takeWalk_130 (by decide) ?_
              refine lv_sipush (v := 9999) hx hb dX7_takeWalk_133 (by decide) ?_
              refine xc_Vi (wr := [(q1, .inr (1, [.int (nI (P)), .ref be, .ref bl, .ref bu, .ref bo, .ref br, .ref bk, .ref bw, .ref btt, .ref bss])), (bw, .inr (3, [.int (nI (cn + 1)), .ref bWn, .ref bWp])), (bWn, .inl (cI, 8, .inl ln8)), (bWp, .inl (cI, 48, .inl sp8)), (btt, .inl (cI, 8, .inl t2_36)), (bss, .inl (cI, 8, .inl z2_37))]) hF (c_X7_takeMile l D cI cJ cZ cS ta sa sv H.size h0 ab z (nx (bA by9 z) z u8) t8 by9 (-9999) 9999 (by omega) (by omega)) kv_X7_78 ⟨rfl, rfl, Nat.le_of_ble_eq_true rfl, Nat.le_of_ble_eq_true rfl⟩ ⟨Nat.le_of_ble_eq_true rfl, Nat.le_of_ble_eq_true rfl⟩ hK hN hZ hP hD hS hA [6, 7] [0, 1, 2, 3, 4, 5] rfl rfl rfl (by decide +kernel) (by decide +kernel) 0 rfl rfl rfl rfl hl.1 rfl (Nat.le_of_ble_eq_true rfl) dX7_takeWalk_136 (fun r_60 u_r_60 H locs hw_r_60 hP hD hS => ?_)
              obtain ⟨u2_61, t2_62⟩ := u_r_60
              try dsimp only at hw_r_60
              obtain ⟨hw_r_60, i_63, i_64, i_65, i_66⟩ := hw_r_60
              have hP : va_P D vwCl [(q1, .inr (1, [.int (nI (P)), .ref be, .ref bl, .ref bu, .ref bo, .ref br, .ref bk, .ref bw, .ref btt, .ref bss])), (bw, .inr (3, [.int (nI (cn + 1)), .ref bWn, .ref bWp])), (bWn, .inl (cI, 8, .inl ln8)), (bWp, .inl (cI, 48, .inl sp8)), (btt, .inl (cI, 8, .inl t2_36)), (bss, .inl (cI, 8, .inl z2_37)), (h0, .inr (7, [.int (nI (z)), .ref ab, .int (kd (bA by9 z) z (nf (bA by9 z) z u2_61)), .int (nI (nf (bA by9 z) z u2_61)), .int (nI (nx (bA by9 z) z u2_61)), .int (nI (cv (bA by9 z) z (nf (bA by9 z) z u2_61) (nx (bA by9 z) z u2_61))), .int t2_62])), (ab, .inl (cI, 120, .inl by9))] H := hP
              have hD : va_D A [(q1, .inr (1, [.int (nI (P)), .ref be, .ref bl, .ref bu, .ref bo, .ref br, .ref bk, .ref bw, .ref btt, .ref bss])), (bw, .inr (3, [.int (nI (cn + 1)), .ref bWn, .ref bWp])), (bWn, .inl (cI, 8, .inl ln8)), (bWp, .inl (cI, 48, .inl sp8)), (btt, .inl (cI, 8, .inl t2_36)), (bss, .inl (cI, 8, .inl z2_37)), (h0, .inr (7, [.int (nI (z)), .ref ab, .int (kd (bA by9 z) z (nf (bA by9 z) z u2_61)), .int (nI (nf (bA by9 z) z u2_61)), .int (nI (nx (bA by9 z) z u2_61)), .int (nI (cv (bA by9 z) z (nf (bA by9 z) z u2_61) (nx (bA by9 z) z u2_61))), .int t2_62])), (ab, .inl (cI, 120, .inl by9))] := hD
              rcases hw_r_60 with ⟨rfl, h_67, h_68, h_69⟩ | ⟨rfl, h_70, h_71, h_72⟩
              · skip
                subst h_68
                subst h_69
                refine lv_if_ne (tgt := 144) hx hb dX7_takeWalk_139 (by decide) (fun c_73 => ?_) (fun c_73 => absurd c_73 (by decide))
                refine lv_aload_n hx hb dX7_takeWalk_144 rfl (lv_at hl 3 rfl) ?_
                refine xg hF kf_X7_120 hK hP 0 rfl rfl dX7_takeWalk_145 ?_
                refine lv_iload_n hx hb dX7_takeWalk_148 rfl (lv_at hl 1 rfl) ?_
                refine lv_aload_n hx hb dX7_takeWalk_149 rfl (lv_at hl 2 rfl) ?_
                refine xg hF kf_X7_31 hK hP 6 rfl rfl dX7_takeWalk_150 ?_
                refine va_iast hx hb hK hP hD hS 4 0 rfl rfl (vp_in_nI (show cn < 8 by omega) (by decide)) dX7_takeWalk_153 (fun H locs hP hD hS => ?_)
                rw [nI_clamp (show cn < 2 ^ 31 by omega)] at hP hD
                obtain ⟨f_74, ef_74⟩ : ∃ g, g = upd t2_36 cn (mV (bA by9 z) z (nx (bA by9 z) z u8)) := ⟨_, rfl⟩
                rw [← ef_74] at hP hD
                have hP : va_P D vwCl [(q1, .inr (1, [.int (nI (P)), .ref be, .ref bl, .ref bu, .ref bo, .ref br, .ref bk, .ref bw, .ref btt, .ref bss])), (bw, .inr (3, [.int (nI (cn + 1)), .ref bWn, .ref bWp])), (bWn, .inl (cI, 8, .inl ln8)), (bWp, .inl (cI, 48, .inl sp8)), (btt, .inl (cI, 8, .inl f_74)), (bss, .inl (cI, 8, .inl z2_37)), (h0, .inr (7, [.int (nI (z)), .ref ab, .int (kd (bA by9 z) z (nf (bA by9 z) z (nx (bA by9 z) z (mSt (bA by9 z) z (nx (bA by9 z) z u8))))), .int (nI (nf (bA by9 z) z (nx (bA by9 z) z (mSt (bA by9 z) z (nx (bA by9 z) z u8))))), .int (nI (nx (bA by9 z) z (nx (bA by9 z) z (mSt (bA by9 z) z (nx (bA by9 z) z u8))))), .int (nI (cv (bA by9 z) z (nf (bA by9 z) z (nx (bA by9 z) z (mSt (bA by9 z) z (nx (bA by9 z) z u8)))) (nx (bA by9 z) z (nx (bA by9 z) z (mSt (bA by9 z) z (nx (bA by9 z) z u8)))))), .int (mV (bA by9 z) z (nx (bA by9 z) z u8))])), (ab, .inl (cI, 120, .inl by9))] H := hP
                have hD : va_D A [(q1, .inr (1, [.int (nI (P)), .ref be, .ref bl, .ref bu, .ref bo, .ref br, .ref bk, .ref bw, .ref btt, .ref bss])), (bw, .inr (3, [.int (nI (cn + 1)), .ref bWn, .ref bWp])), (bWn, .inl (cI, 8, .inl ln8)), (bWp, .inl (cI, 48, .inl sp8)), (btt, .inl (cI, 8, .inl f_74)), (bss, .inl (cI, 8, .inl z2_37)), (h0, .inr (7, [.int (nI (z)), .ref ab, .int (kd (bA by9 z) z (nf (bA by9 z) z (nx (bA by9 z) z (mSt (bA by9 z) z (nx (bA by9 z) z u8))))), .int (nI (nf (bA by9 z) z (nx (bA by9 z) z (mSt (bA by9 z) z (nx (bA by9 z) z u8))))), .int (nI (nx (bA by9 z) z (nx (bA by9 z) z (mSt (bA by9 z) z (nx (bA by9 z) z u8))))), .int (nI (cv (bA by9 z) z (nf (bA by9 z) z (nx (bA by9 z) z (mSt (bA by9 z) z (nx (bA by9 z) z u8)))) (nx (bA by9 z) z (nx (bA by9 z) z (mSt (bA by9 z) z (nx (bA by9 z) z u8)))))), .int (mV (bA by9 z) z (nx (bA by9 z) z u8))])), (ab, .inl (cI, 120, .inl by9))] := hD
                refine lv_aload_n hx hb dX7_takeWalk_154 rfl (lv_at hl 2 rfl) ?_
                refine va_ldcS (tx := "slack") (q := sa 7) hx hb hown (hN.2.2 (123, "slack", 7) (by decide)) dX7_takeWalk_155 ?_
                refine xc_Vi (wr := [(q1, .inr (1, [.int (nI (P)), .ref be, .ref bl, .ref bu, .ref bo, .ref br, .ref bk, .ref bw, .ref btt, .ref bss])), (bw, .inr (3, [.int (nI (cn + 1)), .ref bWn, .ref bWp])), (bWn, .inl (cI, 8, .inl ln8)), (bWp, .inl (cI, 48, .inl sp8)), (btt, .inl (cI, 8, .inl f_74)), (bss, .inl (cI, 8, .inl z2_37))]) hF (c_X7_takeWord l D cI cJ cZ cS ta sa sv H.size h0 ab z (nx (bA by9 z) z (mSt (bA by9 z) z (nx (bA by9 z) z u8))) (mV (bA by9 z) z (nx (bA by9 z) z u8)) by9 7 (by omega) (by omega) (by omega)) kv_X7_67 ⟨rfl, rfl, Nat.le_of_ble_eq_true rfl, Nat.le_of_ble_eq_true rfl⟩ ⟨Nat.le_of_ble_eq_true rfl, Nat.le_of_ble_eq_true rfl⟩ hK hN hZ hP hD hS hA [6, 7] [0, 1, 2, 3, 4, 5] rfl rfl rfl (by decide +kernel) (by decide +kernel) 0 rfl rfl rfl rfl hl.1 rfl (Nat.le_of_ble_eq_true rfl) dX7_takeWalk_157 (fun r_75 u_r_75 H locs hw_r_75 hP hD hS => ?_)
                obtain ⟨u2_76, t2_77⟩ := u_r_75
                try dsimp only at hw_r_75
                obtain ⟨hw_r_75, i_78, i_79, i_80, i_81⟩ := hw_r_75
                have hP : va_P D vwCl [(q1, .inr (1, [.int (nI (P)), .ref be, .ref bl, .ref bu, .ref bo, .ref br, .ref bk, .ref bw, .ref btt, .ref bss])), (bw, .inr (3, [.int (nI (cn + 1)), .ref bWn, .ref bWp])), (bWn, .inl (cI, 8, .inl ln8)), (bWp, .inl (cI, 48, .inl sp8)), (btt, .inl (cI, 8, .inl f_74)), (bss, .inl (cI, 8, .inl z2_37)), (h0, .inr (7, [.int (nI (z)), .ref ab, .int (kd (bA by9 z) z (nf (bA by9 z) z u2_76)), .int (nI (nf (bA by9 z) z u2_76)), .int (nI (nx (bA by9 z) z u2_76)), .int (nI (cv (bA by9 z) z (nf (bA by9 z) z u2_76) (nx (bA by9 z) z u2_76))), .int t2_77])), (ab, .inl (cI, 120, .inl by9))] H := hP
                have hD : va_D A [(q1, .inr (1, [.int (nI (P)), .ref be, .ref bl, .ref bu, .ref bo, .ref br, .ref bk, .ref bw, .ref btt, .ref bss])), (bw, .inr (3, [.int (nI (cn + 1)), .ref bWn, .ref bWp])), (bWn, .inl (cI, 8, .inl ln8)), (bWp, .inl (cI, 48, .inl sp8)), (btt, .inl (cI, 8, .inl f_74)), (bss, .inl (cI, 8, .inl z2_37)), (h0, .inr (7, [.int (nI (z)), .ref ab, .int (kd (bA by9 z) z (nf (bA by9 z) z u2_76)), .int (nI (nf (bA by9 z) z u2_76)), .int (nI (nx (bA by9 z) z u2_76)), .int (nI (cv (bA by9 z) z (nf (bA by9 z) z u2_76) (nx (bA by9 z) z u2_76))), .int t2_77])), (ab, .inl (cI, 120, .inl by9))] := hD
                rcases hw_r_75 with ⟨rfl, h_82, h_83, h_84⟩ | ⟨rfl, h_85, h_86, h_87⟩
                · skip
                  subst h_83
                  subst h_84
                  refine lv_if_eq (tgt := 172) hx hb dX7_takeWalk_160 (by decide) (fun c_88 => absurd c_88 (by decide)) (fun c_88 => ?_)
                  refine lv_aload_n hx hb dX7_takeWalk_163 rfl (lv_at hl 2 rfl) ?_
                  refine lv_aload_n hx hb dX7_takeWalk_164 rfl (lv_at hl 3 rfl) ?_
                  refine lv_iload_n hx hb dX7_takeWalk_165 rfl (lv_at hl 1 rfl) ?_
                  refine xc_Vi (wr := [(bw, .inr (3, [.int (nI (cn + 1)), .ref bWn, .ref bWp])), (bWn, .inl (cI, 8, .inl ln8)), (bWp, .inl (cI, 48, .inl sp8)), (btt, .inl (cI, 8, .inl f_74))]) hF (c_X7_takeSlack l D cI cJ cZ cS ta sa sv H.size h0 ab z (nx (bA by9 z) z (nx (bA by9 z) z (mSt (bA by9 z) z (nx (bA by9 z) z u8)))) (mV (bA by9 z) z (nx (bA by9 z) z u8)) by9 q1 be bl bu bo br bk bw btt bss P z2_37 cn (by omega) (by omega) (by omega)) kv_X7_125 ⟨rfl, rfl, Nat.le_of_ble_eq_true rfl, Nat.le_of_ble_eq_true rfl⟩ ⟨Nat.le_of_ble_eq_true rfl, Nat.le_of_ble_eq_true rfl⟩ hK hN hZ hP hD hS hA [6, 7, 0, 5] [1, 2, 3, 4] rfl rfl (by decide +kernel) (by decide +kernel) (by decide +kernel) 0 rfl rfl rfl rfl hl.1 rfl (Nat.le_of_ble_eq_true rfl) dX7_takeWalk_166 (fun r_89 u_r_89 H locs hw_r_89 hP hD hS => ?_)
                  obtain ⟨u2_90, t2_91, z2_92⟩ := u_r_89
                  try dsimp only at hw_r_89
                  obtain ⟨hw_r_89, i_93, i_94, i_95, i_96⟩ := hw_r_89
                  have hP : va_P D vwCl [(bw, .inr (3, [.int (nI (cn + 1)), .ref bWn, .ref bWp])), (bWn, .inl (cI, 8, .inl ln8)), (bWp, .inl (cI, 48, .inl sp8)), (btt, .inl (cI, 8, .inl f_74)), (h0, .inr (7, [.int (nI (z)), .ref ab, .int (kd (bA by9 z) z (nf (bA by9 z) z u2_90)), .int (nI (nf (bA by9 z) z u2_90)), .int (nI (nx (bA by9 z) z u2_90)), .int (nI (cv (bA by9 z) z (nf (bA by9 z) z u2_90) (nx (bA by9 z) z u2_90))), .int t2_91])), (ab, .inl (cI, 120, .inl by9)), (q1, .inr (1, [.int (nI (P)), .ref be, .ref bl, .ref bu, .ref bo, .ref br, .ref bk, .ref bw, .ref btt, .ref bss])), (bss, .inl (cI, 8, .inl z2_92))] H := hP
                  have hD : va_D A [(bw, .inr (3, [.int (nI (cn + 1)), .ref bWn, .ref bWp])), (bWn, .inl (cI, 8, .inl ln8)), (bWp, .inl (cI, 48, .inl sp8)), (btt, .inl (cI, 8, .inl f_74)), (h0, .inr (7, [.int (nI (z)), .ref ab, .int (kd (bA by9 z) z (nf (bA by9 z) z u2_90)), .int (nI (nf (bA by9 z) z u2_90)), .int (nI (nx (bA by9 z) z u2_90)), .int (nI (cv (bA by9 z) z (nf (bA by9 z) z u2_90) (nx (bA by9 z) z u2_90))), .int t2_91])), (ab, .inl (cI, 120, .inl by9)), (q1, .inr (1, [.int (nI (P)), .ref be, .ref bl, .ref bu, .ref bo, .ref br, .ref bk, .ref bw, .ref btt, .ref bss])), (bss, .inl (cI, 8, .inl z2_92))] := hD
                  rcases hw_r_89 with ⟨rfl, h_97⟩ | ⟨rfl, h_98⟩
                  · skip
                    refine lv_if_eq (tgt := 176) hx hb dX7_takeWalk_169 (by decide) (fun c_99 => absurd c_99 (by decide)) (fun c_99 => ?_)
                    refine lv_iconst (v := 1) hx hb dX7_takeWalk_172 (by decide) ?_
                    refine lv_goto (tgt := 177) hx hb dX7_takeWalk_173 (by decide) ?_
                    exact W.zret (v := 1) hx hb hr rfl (fun t ht hW => ⟨⟨1, (u2_90, t2_91, cn + 1, ln8, sp8, f_74, z2_92), rfl, ⟨Or.inl ⟨rfl, hL8.trans ((spSt_six (by omega)).trans ((cif_pos (show 2 ≤ i by omega)).trans ((cif_pos (h_53)).trans ((cif_pos (h_67)).trans ((cif_pos (h_82)).trans (h_97)))))), rfl⟩, (by first | assumption | omega), (by first | assumption | omega), cv_le, (nx_le (by omega)), (by first | assumption | omega), (by first | assumption | omega), hln8, hsp8⟩, by rw [ht]; exact hP.sub [4, 5, 6, 0, 1, 2, 3, 7] rfl, hD.sub [4, 5, 6, 0, 1, 2, 3, 7] (by decide +kernel) rfl⟩, hS.F ht⟩) hS.2.2 dX7_takeWalk_177 hlk
                  · skip
                    refine lv_if_eq (tgt := 176) hx hb dX7_takeWalk_169 (by decide) (fun c_100 => ?_) (fun c_100 => absurd (by decide) c_100)
                    refine lv_iconst (v := 0) hx hb dX7_takeWalk_176 (by decide) ?_
                    exact W.zret (v := 0) hx hb hr rfl (fun t ht hW => ⟨⟨0, (u2_90, t2_91, cn + 1, ln8, sp8, f_74, z2_92), rfl, ⟨Or.inr ⟨rfl, hL8.trans ((spSt_six (by omega)).trans ((cif_pos (show 2 ≤ i by omega)).trans ((cif_pos (h_53)).trans ((cif_pos (h_67)).trans ((cif_pos (h_82)).trans (h_98))))))⟩, (by first | assumption | omega), (by first | assumption | omega), cv_le, (nx_le (by omega)), (by first | assumption | omega), (by first | assumption | omega), hln8, hsp8⟩, by rw [ht]; exact hP.sub [4, 5, 6, 0, 1, 2, 3, 7] rfl, hD.sub [4, 5, 6, 0, 1, 2, 3, 7] (by decide +kernel) rfl⟩, hS.F ht⟩) hS.2.2 dX7_takeWalk_177 hlk
                · skip
                  subst h_86
                  subst h_87
                  refine lv_if_eq (tgt := 172) hx hb dX7_takeWalk_160 (by decide) (fun c_101 => ?_) (fun c_101 => absurd (by decide) c_101)
                  refine lv_iconst (v := 1) hx hb dX7_takeWalk_172 (by decide) ?_
                  refine lv_goto (tgt := 177) hx hb dX7_takeWalk_173 (by decide) ?_
                  exact W.zret (v := 1) hx hb hr rfl (fun t ht hW => ⟨⟨1, (nx (bA by9 z) z (mSt (bA by9 z) z (nx (bA by9 z) z u8)), (mV (bA by9 z) z (nx (bA by9 z) z u8)), cn + 1, ln8, sp8, f_74, z2_37), rfl, ⟨Or.inl ⟨rfl, hL8.trans ((spSt_six (by omega)).trans ((cif_pos (show 2 ≤ i by omega)).trans ((cif_pos (h_53)).trans ((cif_pos (h_67)).trans (cif_neg (h_85)))))), rfl⟩, (by first | assumption | omega), (by first | assumption | omega), cv_le, (nx_le (by omega)), (by first | assumption | omega), (by first | assumption | omega), hln8, hsp8⟩, by rw [ht]; exact hP.sub [6, 7, 0, 1, 2, 3, 4, 5] rfl, hD.sub [6, 7, 0, 1, 2, 3, 4, 5] (by decide +kernel) rfl⟩, hS.F ht⟩) hS.2.2 dX7_takeWalk_177 hlk
              · skip
                subst h_71
                replace h_72 := h_72.symm; subst h_72
                refine lv_if_ne (tgt := 144) hx hb dX7_takeWalk_139 (by decide) (fun c_102 => absurd (by decide) c_102) (fun c_102 => ?_)
                refine lv_iconst (v := 0) hx hb dX7_takeWalk_142 (by decide) ?_
                exact W.zret (v := 0) hx hb hr rfl (fun t ht hW => ⟨⟨0, (mSt (bA by9 z) z (nx (bA by9 z) z u8), t8, cn + 1, ln8, sp8, t2_36, z2_37), rfl, ⟨Or.inr ⟨rfl, hL8.trans ((spSt_six (by omega)).trans ((cif_pos (show 2 ≤ i by omega)).trans ((cif_pos (h_53)).trans (cif_neg (h_70)))))⟩, (by first | assumption | omega), (by first | assumption | omega), cv_le, (nx_le (by omega)), (by first | assumption | omega), (by first | assumption | omega), hln8, hsp8⟩, by rw [ht]; exact hP.sub [6, 7, 0, 1, 2, 3, 4, 5] rfl, hD.sub [6, 7, 0, 1, 2, 3, 4, 5] (by decide +kernel) rfl⟩, hS.F ht⟩) hS.2.2 dX7_takeWalk_143 hlk
            · skip
              replace h_57 := h_57.symm; subst h_57
              replace h_58 := h_58.symm; subst h_58
              refine lv_if_eq (tgt := 142) hx hb dX7_takeWalk_126 (by decide) (fun c_103 => ?_) (fun c_103 => absurd (by decide) c_103)
              refine lv_iconst (v := 0) hx hb dX7_takeWalk_142 (by decide) ?_
              exact W.zret (v := 0) hx hb hr rfl (fun t ht hW => ⟨⟨0, (u8, t8, cn + 1, ln8, sp8, t2_36, z2_37), rfl, ⟨Or.inr ⟨rfl, hL8.trans ((spSt_six (by omega)).trans ((cif_pos (show 2 ≤ i by omega)).trans (cif_neg (h_56))))⟩, (by first | assumption | omega), (by first | assumption | omega), cv_le, (nx_le (by omega)), (by first | assumption | omega), (by first | assumption | omega), hln8, hsp8⟩, by rw [ht]; exact hP.sub [6, 7, 0, 1, 2, 3, 4, 5] rfl, hD.sub [6, 7, 0, 1, 2, 3, 4, 5] (by decide +kernel) rfl⟩, hS.F ht⟩) hS.2.2 dX7_takeWalk_143 hlk
        · skip
          have nc_44 : i < 6 := xn_nle (a := 6) (b := i) (by omega) (by omega) c_44
          refine lv_aload_n hx hb dX7_takeWalk_50 rfl (lv_at hl 2 rfl) ?_
          refine xg hF kf_X7_19 hK hP 0 rfl rfl dX7_takeWalk_51 ?_
          refine lv_iconst (v := 2) hx hb dX7_takeWalk_54 (by decide) ?_
          refine lv_icmp_ne (tgt := 107) hx hb dX7_takeWalk_55 (by decide) (fun c_104 => ?_) (fun c_104 => ?_)
          · skip
            refine lv_aload_n hx hb dX7_takeWalk_107 rfl (lv_at hl 3 rfl) ?_
            refine xg hF kf_X7_94 hK hP 2 rfl rfl dX7_takeWalk_108 ?_
            refine xg hF kf_X7_115 hK hP 3 rfl rfl dX7_takeWalk_111 ?_
            refine lv_iload_n hx hb dX7_takeWalk_114 rfl (lv_at hl 1 rfl) ?_
            refine va_iald hx hb hK hP 4 0 rfl rfl (vp_in_nI (show cn < 8 by omega) (by decide)) dX7_takeWalk_115 ?_
            refine xl_i (y := ln8 cn) (congrArg ln8 (nI_clamp (show cn < 2 ^ 31 by omega))) ?_
            refine xl_i (y := nI (i)) he8 ?_
            refine lv_iconst (v := 2) hx hb dX7_takeWalk_116 (by decide) ?_
            refine lv_icmp_lt (tgt := 142) hx hb dX7_takeWalk_117 (by decide) (fun c_105 => ?_) (fun c_105 => ?_)
            · skip
              have nc_105 : i < 2 := xn_lt (a := i) (b := 2) (by omega) (by omega) c_105
              refine lv_iconst (v := 0) hx hb dX7_takeWalk_142 (by decide) ?_
              exact W.zret (v := 0) hx hb hr rfl (fun t ht hW => ⟨⟨0, (u8, t8, cn + 1, ln8, sp8, t2_36, z2_37), rfl, ⟨Or.inr ⟨rfl, hL8.trans ((spSt_end (by omega) c_104).trans (cif_neg (show ¬ 2 ≤ i by omega)))⟩, (by first | assumption | omega), (by first | assumption | omega), cv_le, (nx_le (by omega)), (by first | assumption | omega), (by first | assumption | omega), hln8, hsp8⟩, by rw [ht]; exact hP.sub [0, 1, 2, 3, 4, 5, 6, 7] rfl, hD.sub [0, 1, 2, 3, 4, 5, 6, 7] (by decide +kernel) rfl⟩, hS.F ht⟩) hS.2.2 dX7_takeWalk_143 hlk
            · skip
              have nc_105 : 2 ≤ i := xn_nlt (a := i) (b := 2) (by omega) (by omega) c_105
              refine lv_aload_n hx hb dX7_takeWalk_120 rfl (lv_at hl 2 rfl) ?_
              refine va_ldcS (tx := "all") (q := sa 6) hx hb hown (hN.2.2 (118, "all", 6) (by decide)) dX7_takeWalk_121 ?_
              refine xc_Vi (wr := [(q1, .inr (1, [.int (nI (P)), .ref be, .ref bl, .ref bu, .ref bo, .ref br, .ref bk, .ref bw, .ref btt, .ref bss])), (bw, .inr (3, [.int (nI (cn + 1)), .ref bWn, .ref bWp])), (bWn, .inl (cI, 8, .inl ln8)), (bWp, .inl (cI, 48, .inl sp8)), (btt, .inl (cI, 8, .inl t2_36)), (bss, .inl (cI, 8, .inl z2_37))]) hF (c_X7_takeWord l D cI cJ cZ cS ta sa sv H.size h0 ab z u8 t8 by9 6 (by omega) (by omega) (by omega)) kv_X7_67 ⟨rfl, rfl, Nat.le_of_ble_eq_true rfl, Nat.le_of_ble_eq_true rfl⟩ ⟨Nat.le_of_ble_eq_true rfl, Nat.le_of_ble_eq_true rfl⟩ hK hN hZ hP hD hS hA [0, 1] [2, 3, 4, 5, 6, 7] rfl rfl rfl (by decide +kernel) (by decide +kernel) 0 rfl rfl rfl rfl hl.1 rfl (Nat.le_of_ble_eq_true rfl) dX7_takeWalk_123 (fun r_106 u_r_106 H locs hw_r_106 hP hD hS => ?_)
              obtain ⟨u2_107, t2_108⟩ := u_r_106
              try dsimp only at hw_r_106
              obtain ⟨hw_r_106, i_109, i_110, i_111, i_112⟩ := hw_r_106
              have hP : va_P D vwCl [(q1, .inr (1, [.int (nI (P)), .ref be, .ref bl, .ref bu, .ref bo, .ref br, .ref bk, .ref bw, .ref btt, .ref bss])), (bw, .inr (3, [.int (nI (cn + 1)), .ref bWn, .ref bWp])), (bWn, .inl (cI, 8, .inl ln8)), (bWp, .inl (cI, 48, .inl sp8)), (btt, .inl (cI, 8, .inl t2_36)), (bss, .inl (cI, 8, .inl z2_37)), (h0, .inr (7, [.int (nI (z)), .ref ab, .int (kd (bA by9 z) z (nf (bA by9 z) z u2_107)), .int (nI (nf (bA by9 z) z u2_107)), .int (nI (nx (bA by9 z) z u2_107)), .int (nI (cv (bA by9 z) z (nf (bA by9 z) z u2_107) (nx (bA by9 z) z u2_107))), .int t2_108])), (ab, .inl (cI, 120, .inl by9))] H := hP
              have hD : va_D A [(q1, .inr (1, [.int (nI (P)), .ref be, .ref bl, .ref bu, .ref bo, .ref br, .ref bk, .ref bw, .ref btt, .ref bss])), (bw, .inr (3, [.int (nI (cn + 1)), .ref bWn, .ref bWp])), (bWn, .inl (cI, 8, .inl ln8)), (bWp, .inl (cI, 48, .inl sp8)), (btt, .inl (cI, 8, .inl t2_36)), (bss, .inl (cI, 8, .inl z2_37)), (h0, .inr (7, [.int (nI (z)), .ref ab, .int (kd (bA by9 z) z (nf (bA by9 z) z u2_107)), .int (nI (nf (bA by9 z) z u2_107)), .int (nI (nx (bA by9 z) z u2_107)), .int (nI (cv (bA by9 z) z (nf (bA by9 z) z u2_107) (nx (bA by9 z) z u2_107))), .int t2_108])), (ab, .inl (cI, 120, .inl by9))] := hD
              rcases hw_r_106 with ⟨rfl, h_113, h_114, h_115⟩ | ⟨rfl, h_116, h_117, h_118⟩
              · skip
                subst h_114
                replace h_115 := h_115.symm; subst h_115
                refine lv_if_eq (tgt := 142) hx hb dX7_takeWalk_126 (by decide) (fun c_119 => absurd c_119 (by decide)) (fun c_119 => ?_)
                refine lv_aload_n hx hb dX7_takeWalk_129 rfl (lv_at hl 2 rfl) ?_
                refine lv_sipush (v := (-9999)) hx hb dX7_takeWalk_130 (by decide) ?_
                refine lv_sipush (v := 9999) hx hb dX7_takeWalk_133 (by decide) ?_
                refine xc_Vi (wr := [(q1, .inr (1, [.int (nI (P)), .ref be, .ref bl, .ref bu, .ref bo, .ref br, .ref bk, .ref bw, .ref btt, .ref bss])), (bw, .inr (3, [.int (nI (cn + 1)), .ref bWn, .ref bWp])), (bWn, .inl (cI, 8, .inl ln8)), (bWp, .inl (cI, 48, .inl sp8)), (btt, .inl (cI, 8, .inl t2_36)), (bss, .inl (cI, 8, .inl z2_37))]) hF (c_X7_takeMile l D cI cJ cZ cS ta sa sv H.size h0 ab z (nx (bA by9 z) z u8) t8 by9 (-9999) 9999 (by omega) (by omega)) kv_X7_78 ⟨rfl, rfl, Nat.le_of_ble_eq_true rfl, Nat.le_of_ble_eq_true rfl⟩ ⟨Nat.le_of_ble_eq_true rfl, Nat.le_of_ble_eq_true rfl⟩ hK hN hZ hP hD hS hA [6, 7] [0, 1, 2, 3, 4, 5] rfl rfl rfl (by decide +kernel) (by decide +kernel) 0 rfl rfl rfl rfl hl.1 rfl (Nat.le_of_ble_eq_true rfl) dX7_takeWalk_136 (fun r_120 u_r_120 H locs hw_r_120 hP hD hS => ?_)
                obtain ⟨u2_121, t2_122⟩ := u_r_120
                try dsimp only at hw_r_120
                obtain ⟨hw_r_120, i_123, i_124, i_125, i_126⟩ := hw_r_120
                have hP : va_P D vwCl [(q1, .inr (1, [.int (nI (P)), .ref be, .ref bl, .ref bu, .ref bo, .ref br, .ref bk, .ref bw, .ref btt, .ref bss])), (bw, .inr (3, [.int (nI (cn + 1)), .ref bWn, .ref bWp])), (bWn, .inl (cI, 8, .inl ln8)), (bWp, .inl (cI, 48, .inl sp8)), (btt, .inl (cI, 8, .inl t2_36)), (bss, .inl (cI, 8, .inl z2_37)), (h0, .inr (7, [.int (nI (z)), .ref ab, .int (kd (bA by9 z) z (nf (bA by9 z) z u2_121)), .int (nI (nf (bA by9 z) z u2_121)), .int (nI (nx (bA by9 z) z u2_121)), .int (nI (cv (bA by9 z) z (nf (bA by9 z) z u2_121) (nx (bA by9 z) z u2_121))), .int t2_122])), (ab, .inl (cI, 120, .inl by9))] H := hP
                have hD : va_D A [(q1, .inr (1, [.int (nI (P)), .ref be, .ref bl, .ref bu, .ref bo, .ref br, .ref bk, .ref bw, .ref btt, .ref bss])), (bw, .inr (3, [.int (nI (cn + 1)), .ref bWn, .ref bWp])), (bWn, .inl (cI, 8, .inl ln8)), (bWp, .inl (cI, 48, .inl sp8)), (btt, .inl (cI, 8, .inl t2_36)), (bss, .inl (cI, 8, .inl z2_37)), (h0, .inr (7, [.int (nI (z)), .ref ab, .int (kd (bA by9 z) z (nf (bA by9 z) z u2_121)), .int (nI (nf (bA by9 z) z u2_121)), .int (nI (nx (bA by9 z) z u2_121)), .int (nI (cv (bA by9 z) z (nf (bA by9 z) z u2_121) (nx (bA by9 z) z u2_121))), .int t2_122])), (ab, .inl (cI, 120, .inl by9))] := hD
                rcases hw_r_120 with ⟨rfl, h_127, h_128, h_129⟩ | ⟨rfl, h_130, h_131, h_132⟩
                · skip
                  subst h_128
                  subst h_129
                  refine lv_if_ne (tgt := 144) hx hb dX7_takeWalk_139 (by decide) (fun c_133 => ?_) (fun c_133 => absurd c_133 (by decide))
                  refine lv_aload_n hx hb dX7_takeWalk_144 rfl (lv_at hl 3 rfl) ?_
                  refine xg hF kf_X7_120 hK hP 0 rfl rfl dX7_takeWalk_145 ?_
                  refine lv_iload_n hx hb dX7_takeWalk_148 rfl (lv_at hl 1 rfl) ?_
                  refine lv_aload_n hx hb dX7_takeWalk_149 rfl (lv_at hl 2 rfl) ?_
                  refine xg hF kf_X7_31 hK hP 6 rfl rfl dX7_takeWalk_150 ?_
                  refine va_iast hx hb hK hP hD hS 4 0 rfl rfl (vp_in_nI (show cn < 8 by omega) (by decide)) dX7_takeWalk_153 (fun H locs hP hD hS => ?_)
                  rw [nI_clamp (show cn < 2 ^ 31 by omega)] at hP hD
                  obtain ⟨f_134, ef_134⟩ : ∃ g, g = upd t2_36 cn (mV (bA by9 z) z (nx (bA by9 z) z u8)) := ⟨_, rfl⟩
                  rw [← ef_134] at hP hD
                  have hP : va_P D vwCl [(q1, .inr (1, [.int (nI (P)), .ref be, .ref bl, .ref bu, .ref bo, .ref br, .ref bk, .ref bw, .ref btt, .ref bss])), (bw, .inr (3, [.int (nI (cn + 1)), .ref bWn, .ref bWp])), (bWn, .inl (cI, 8, .inl ln8)), (bWp, .inl (cI, 48, .inl sp8)), (btt, .inl (cI, 8, .inl f_134)), (bss, .inl (cI, 8, .inl z2_37)), (h0, .inr (7, [.int (nI (z)), .ref ab, .int (kd (bA by9 z) z (nf (bA by9 z) z (nx (bA by9 z) z (mSt (bA by9 z) z (nx (bA by9 z) z u8))))), .int (nI (nf (bA by9 z) z (nx (bA by9 z) z (mSt (bA by9 z) z (nx (bA by9 z) z u8))))), .int (nI (nx (bA by9 z) z (nx (bA by9 z) z (mSt (bA by9 z) z (nx (bA by9 z) z u8))))), .int (nI (cv (bA by9 z) z (nf (bA by9 z) z (nx (bA by9 z) z (mSt (bA by9 z) z (nx (bA by9 z) z u8)))) (nx (bA by9 z) z (nx (bA by9 z) z (mSt (bA by9 z) z (nx (bA by9 z) z u8)))))), .int (mV (bA by9 z) z (nx (bA by9 z) z u8))])), (ab, .inl (cI, 120, .inl by9))] H := hP
                  have hD : va_D A [(q1, .inr (1, [.int (nI (P)), .ref be, .ref bl, .ref bu, .ref bo, .ref br, .ref bk, .ref bw, .ref btt, .ref bss])), (bw, .inr (3, [.int (nI (cn + 1)), .ref bWn, .ref bWp])), (bWn, .inl (cI, 8, .inl ln8)), (bWp, .inl (cI, 48, .inl sp8)), (btt, .inl (cI, 8, .inl f_134)), (bss, .inl (cI, 8, .inl z2_37)), (h0, .inr (7, [.int (nI (z)), .ref ab, .int (kd (bA by9 z) z (nf (bA by9 z) z (nx (bA by9 z) z (mSt (bA by9 z) z (nx (bA by9 z) z u8))))), .int (nI (nf (bA by9 z) z (nx (bA by9 z) z (mSt (bA by9 z) z (nx (bA by9 z) z u8))))), .int (nI (nx (bA by9 z) z (nx (bA by9 z) z (mSt (bA by9 z) z (nx (bA by9 z) z u8))))), .int (nI (cv (bA by9 z) z (nf (bA by9 z) z (nx (bA by9 z) z (mSt (bA by9 z) z (nx (bA by9 z) z u8)))) (nx (bA by9 z) z (nx (bA by9 z) z (mSt (bA by9 z) z (nx (bA by9 z) z u8)))))), .int (mV (bA by9 z) z (nx (bA by9 z) z u8))])), (ab, .inl (cI, 120, .inl by9))] := hD
                  refine lv_aload_n hx hb dX7_takeWalk_154 rfl (lv_at hl 2 rfl) ?_
                  refine va_ldcS (tx := "slack") (q := sa 7) hx hb hown (hN.2.2 (123, "slack", 7) (by decide)) dX7_takeWalk_155 ?_
                  refine xc_Vi (wr := [(q1, .inr (1, [.int (nI (P)), .ref be, .ref bl, .ref bu, .ref bo, .ref br, .ref bk, .ref bw, .ref btt, .ref bss])), (bw, .inr (3, [.int (nI (cn + 1)), .ref bWn, .ref bWp])), (bWn, .inl (cI, 8, .inl ln8)), (bWp, .inl (cI, 48, .inl sp8)), (btt, .inl (cI, 8, .inl f_134)), (bss, .inl (cI, 8, .inl z2_37))]) hF (c_X7_takeWord l D cI cJ cZ cS ta sa sv H.size h0 ab z (nx (bA by9 z) z (mSt (bA by9 z) z (nx (bA by9 z) z u8))) (mV (bA by9 z) z (nx (bA by9 z) z u8)) by9 7 (by omega) (by omega) (by omega)) kv_X7_67 ⟨rfl, rfl, Nat.le_of_ble_eq_true rfl, Nat.le_of_ble_eq_true rfl⟩ ⟨Nat.le_of_ble_eq_true rfl, Nat.le_of_ble_eq_true rfl⟩ hK hN hZ hP hD hS hA [6, 7] [0, 1, 2, 3, 4, 5] rfl rfl rfl (by decide +kernel) (by decide +kernel) 0 rfl rfl rfl rfl hl.1 rfl (Nat.le_of_ble_eq_true rfl) dX7_takeWalk_157 (fun r_135 u_r_135 H locs hw_r_135 hP hD hS => ?_)
                  obtain ⟨u2_136, t2_137⟩ := u_r_135
                  try dsimp only at hw_r_135
                  obtain ⟨hw_r_135, i_138, i_139, i_140, i_141⟩ := hw_r_135
                  have hP : va_P D vwCl [(q1, .inr (1, [.int (nI (P)), .ref be, .ref bl, .ref bu, .ref bo, .ref br, .ref bk, .ref bw, .ref btt, .ref bss])), (bw, .inr (3, [.int (nI (cn + 1)), .ref bWn, .ref bWp])), (bWn, .inl (cI, 8, .inl ln8)), (bWp, .inl (cI, 48, .inl sp8)), (btt, .inl (cI, 8, .inl f_134)), (bss, .inl (cI, 8, .inl z2_37)), (h0, .inr (7, [.int (nI (z)), .ref ab, .int (kd (bA by9 z) z (nf (bA by9 z) z u2_136)), .int (nI (nf (bA by9 z) z u2_136)), .int (nI (nx (bA by9 z) z u2_136)), .int (nI (cv (bA by9 z) z (nf (bA by9 z) z u2_136) (nx (bA by9 z) z u2_136))), .int t2_137])), (ab, .inl (cI, 120, .inl by9))] H := hP
                  have hD : va_D A [(q1, .inr (1, [.int (nI (P)), .ref be, .ref bl, .ref bu, .ref bo, .ref br, .ref bk, .ref bw, .ref btt, .ref bss])), (bw, .inr (3, [.int (nI (cn + 1)), .ref bWn, .ref bWp])), (bWn, .inl (cI, 8, .inl ln8)), (bWp, .inl (cI, 48, .inl sp8)), (btt, .inl (cI, 8, .inl f_134)), (bss, .inl (cI, 8, .inl z2_37)), (h0, .inr (7, [.int (nI (z)), .ref ab, .int (kd (bA by9 z) z (nf (bA by9 z) z u2_136)), .int (nI (nf (bA by9 z) z u2_136)), .int (nI (nx (bA by9 z) z u2_136)), .int (nI (cv (bA by9 z) z (nf (bA by9 z) z u2_136) (nx (bA by9 z) z u2_136))), .int t2_137])), (ab, .inl (cI, 120, .inl by9))] := hD
                  rcases hw_r_135 with ⟨rfl, h_142, h_143, h_144⟩ | ⟨rfl, h_145, h_146, h_147⟩
                  · skip
                    subst h_143
                    subst h_144
                    refine lv_if_eq (tgt := 172) hx hb dX7_takeWalk_160 (by decide) (fun c_148 => absurd c_148 (by decide)) (fun c_148 => ?_)
                    refine lv_aload_n hx hb dX7_takeWalk_163 rfl (lv_at hl 2 rfl) ?_
                    refine lv_aload_n hx hb dX7_takeWalk_164 rfl (lv_at hl 3 rfl) ?_
                    refine lv_iload_n hx hb dX7_takeWalk_165 rfl (lv_at hl 1 rfl) ?_
                    refine xc_Vi (wr := [(bw, .inr (3, [.int (nI (cn + 1)), .ref bWn, .ref bWp])), (bWn, .inl (cI, 8, .inl ln8)), (bWp, .inl (cI, 48, .inl sp8)), (btt, .inl (cI, 8, .inl f_134))]) hF (c_X7_takeSlack l D cI cJ cZ cS ta sa sv H.size h0 ab z (nx (bA by9 z) z (nx (bA by9 z) z (mSt (bA by9 z) z (nx (bA by9 z) z u8)))) (mV (bA by9 z) z (nx (bA by9 z) z u8)) by9 q1 be bl bu bo br bk bw btt bss P z2_37 cn (by omega) (by omega) (by omega)) kv_X7_125 ⟨rfl, rfl, Nat.le_of_ble_eq_true rfl, Nat.le_of_ble_eq_true rfl⟩ ⟨Nat.le_of_ble_eq_true rfl, Nat.le_of_ble_eq_true rfl⟩ hK hN hZ hP hD hS hA [6, 7, 0, 5] [1, 2, 3, 4] rfl rfl (by decide +kernel) (by decide +kernel) (by decide +kernel) 0 rfl rfl rfl rfl hl.1 rfl (Nat.le_of_ble_eq_true rfl) dX7_takeWalk_166 (fun r_149 u_r_149 H locs hw_r_149 hP hD hS => ?_)
                    obtain ⟨u2_150, t2_151, z2_152⟩ := u_r_149
                    try dsimp only at hw_r_149
                    obtain ⟨hw_r_149, i_153, i_154, i_155, i_156⟩ := hw_r_149
                    have hP : va_P D vwCl [(bw, .inr (3, [.int (nI (cn + 1)), .ref bWn, .ref bWp])), (bWn, .inl (cI, 8, .inl ln8)), (bWp, .inl (cI, 48, .inl sp8)), (btt, .inl (cI, 8, .inl f_134)), (h0, .inr (7, [.int (nI (z)), .ref ab, .int (kd (bA by9 z) z (nf (bA by9 z) z u2_150)), .int (nI (nf (bA by9 z) z u2_150)), .int (nI (nx (bA by9 z) z u2_150)), .int (nI (cv (bA by9 z) z (nf (bA by9 z) z u2_150) (nx (bA by9 z) z u2_150))), .int t2_151])), (ab, .inl (cI, 120, .inl by9)), (q1, .inr (1, [.int (nI (P)), .ref be, .ref bl, .ref bu, .ref bo, .ref br, .ref bk, .ref bw, .ref btt, .ref bss])), (bss, .inl (cI, 8, .inl z2_152))] H := hP
                    have hD : va_D A [(bw, .inr (3, [.int (nI (cn + 1)), .ref bWn, .ref bWp])), (bWn, .inl (cI, 8, .inl ln8)), (bWp, .inl (cI, 48, .inl sp8)), (btt, .inl (cI, 8, .inl f_134)), (h0, .inr (7, [.int (nI (z)), .ref ab, .int (kd (bA by9 z) z (nf (bA by9 z) z u2_150)), .int (nI (nf (bA by9 z) z u2_150)), .int (nI (nx (bA by9 z) z u2_150)), .int (nI (cv (bA by9 z) z (nf (bA by9 z) z u2_150) (nx (bA by9 z) z u2_150))), .int t2_151])), (ab, .inl (cI, 120, .inl by9)), (q1, .inr (1, [.int (nI (P)), .ref be, .ref bl, .ref bu, .ref bo, .ref br, .ref bk, .ref bw, .ref btt, .ref bss])), (bss, .inl (cI, 8, .inl z2_152))] := hD
                    rcases hw_r_149 with ⟨rfl, h_157⟩ | ⟨rfl, h_158⟩
                    · skip
                      refine lv_if_eq (tgt := 176) hx hb dX7_takeWalk_169 (by decide) (fun c_159 => absurd c_159 (by decide)) (fun c_159 => ?_)
                      refine lv_iconst (v := 1) hx hb dX7_takeWalk_172 (by decide) ?_
                      refine lv_goto (tgt := 177) hx hb dX7_takeWalk_173 (by decide) ?_
                      exact W.zret (v := 1) hx hb hr rfl (fun t ht hW => ⟨⟨1, (u2_150, t2_151, cn + 1, ln8, sp8, f_134, z2_152), rfl, ⟨Or.inl ⟨rfl, hL8.trans ((spSt_end (by omega) c_104).trans ((cif_pos (show 2 ≤ i by omega)).trans ((cif_pos (h_113)).trans ((cif_pos (h_127)).trans ((cif_pos (h_142)).trans (h_157)))))), rfl⟩, (by first | assumption | omega), (by first | assumption | omega), cv_le, (nx_le (by omega)), (by first | assumption | omega), (by first | assumption | omega), hln8, hsp8⟩, by rw [ht]; exact hP.sub [4, 5, 6, 0, 1, 2, 3, 7] rfl, hD.sub [4, 5, 6, 0, 1, 2, 3, 7] (by decide +kernel) rfl⟩, hS.F ht⟩) hS.2.2 dX7_takeWalk_177 hlk
                    · skip
                      refine lv_if_eq (tgt := 176) hx hb dX7_takeWalk_169 (by decide) (fun c_160 => ?_) (fun c_160 => absurd (by decide) c_160)
                      refine lv_iconst (v := 0) hx hb dX7_takeWalk_176 (by decide) ?_
                      exact W.zret (v := 0) hx hb hr rfl (fun t ht hW => ⟨⟨0, (u2_150, t2_151, cn + 1, ln8, sp8, f_134, z2_152), rfl, ⟨Or.inr ⟨rfl, hL8.trans ((spSt_end (by omega) c_104).trans ((cif_pos (show 2 ≤ i by omega)).trans ((cif_pos (h_113)).trans ((cif_pos (h_127)).trans ((cif_pos (h_142)).trans (h_158))))))⟩, (by first | assumption | omega), (by first | assumption | omega), cv_le, (nx_le (by omega)), (by first | assumption | omega), (by first | assumption | omega), hln8, hsp8⟩, by rw [ht]; exact hP.sub [4, 5, 6, 0, 1, 2, 3, 7] rfl, hD.sub [4, 5, 6, 0, 1, 2, 3, 7] (by decide +kernel) rfl⟩, hS.F ht⟩) hS.2.2 dX7_takeWalk_177 hlk
                  · skip
                    subst h_146
                    subst h_147
                    refine lv_if_eq (tgt := 172) hx hb dX7_takeWalk_160 (by decide) (fun c_161 => ?_) (fun c_161 => absurd (by decide) c_161)
                    refine lv_iconst (v := 1) hx hb dX7_takeWalk_172 (by decide) ?_
                    refine lv_goto (tgt := 177) hx hb dX7_takeWalk_173 (by decide) ?_
                    exact W.zret (v := 1) hx hb hr rfl (fun t ht hW => ⟨⟨1, (nx (bA by9 z) z (mSt (bA by9 z) z (nx (bA by9 z) z u8)), (mV (bA by9 z) z (nx (bA by9 z) z u8)), cn + 1, ln8, sp8, f_134, z2_37), rfl, ⟨Or.inl ⟨rfl, hL8.trans ((spSt_end (by omega) c_104).trans ((cif_pos (show 2 ≤ i by omega)).trans ((cif_pos (h_113)).trans ((cif_pos (h_127)).trans (cif_neg (h_145)))))), rfl⟩, (by first | assumption | omega), (by first | assumption | omega), cv_le, (nx_le (by omega)), (by first | assumption | omega), (by first | assumption | omega), hln8, hsp8⟩, by rw [ht]; exact hP.sub [6, 7, 0, 1, 2, 3, 4, 5] rfl, hD.sub [6, 7, 0, 1, 2, 3, 4, 5] (by decide +kernel) rfl⟩, hS.F ht⟩) hS.2.2 dX7_takeWalk_177 hlk
                · skip
                  subst h_131
                  replace h_132 := h_132.symm; subst h_132
                  refine lv_if_ne (tgt := 144) hx hb dX7_takeWalk_139 (by decide) (fun c_162 => absurd (by decide) c_162) (fun c_162 => ?_)
                  refine lv_iconst (v := 0) hx hb dX7_takeWalk_142 (by decide) ?_
                  exact W.zret (v := 0) hx hb hr rfl (fun t ht hW => ⟨⟨0, (mSt (bA by9 z) z (nx (bA by9 z) z u8), t8, cn + 1, ln8, sp8, t2_36, z2_37), rfl, ⟨Or.inr ⟨rfl, hL8.trans ((spSt_end (by omega) c_104).trans ((cif_pos (show 2 ≤ i by omega)).trans ((cif_pos (h_113)).trans (cif_neg (h_130)))))⟩, (by first | assumption | omega), (by first | assumption | omega), cv_le, (nx_le (by omega)), (by first | assumption | omega), (by first | assumption | omega), hln8, hsp8⟩, by rw [ht]; exact hP.sub [6, 7, 0, 1, 2, 3, 4, 5] rfl, hD.sub [6, 7, 0, 1, 2, 3, 4, 5] (by decide +kernel) rfl⟩, hS.F ht⟩) hS.2.2 dX7_takeWalk_143 hlk
              · skip
                replace h_117 := h_117.symm; subst h_117
                replace h_118 := h_118.symm; subst h_118
                refine lv_if_eq (tgt := 142) hx hb dX7_takeWalk_126 (by decide) (fun c_163 => ?_) (fun c_163 => absurd (by decide) c_163)
                refine lv_iconst (v := 0) hx hb dX7_takeWalk_142 (by decide) ?_
                exact W.zret (v := 0) hx hb hr rfl (fun t ht hW => ⟨⟨0, (u8, t8, cn + 1, ln8, sp8, t2_36, z2_37), rfl, ⟨Or.inr ⟨rfl, hL8.trans ((spSt_end (by omega) c_104).trans ((cif_pos (show 2 ≤ i by omega)).trans (cif_neg (h_116))))⟩, (by first | assumption | omega), (by first | assumption | omega), cv_le, (nx_le (by omega)), (by first | assumption | omega), (by first | assumption | omega), hln8, hsp8⟩, by rw [ht]; exact hP.sub [6, 7, 0, 1, 2, 3, 4, 5] rfl, hD.sub [6, 7, 0, 1, 2, 3, 4, 5] (by decide +kernel) rfl⟩, hS.F ht⟩) hS.2.2 dX7_takeWalk_143 hlk
          · skip
            refine lv_aload_n hx hb dX7_takeWalk_58 rfl (lv_at hl 2 rfl) ?_
            refine xg hF kf_X7_28 hK hP 0 rfl rfl dX7_takeWalk_59 ?_
            refine lv_aload_n hx hb dX7_takeWalk_62 rfl (lv_at hl 3 rfl) ?_
            refine xg hF kf_X7_94 hK hP 2 rfl rfl dX7_takeWalk_63 ?_
            refine lv_iload_n hx hb dX7_takeWalk_66 rfl (lv_at hl 1 rfl) ?_
            refine xc_Vr hF (c_X3_lastStop l D cI cJ cZ cS ta sa sv H.size bw bWn bWp (cn + 1) cn i ln8 sp8 (by omega) (by omega) (by omega) he8 hsp8) kv_X7_108 ⟨rfl, rfl, Nat.le_of_ble_eq_true rfl, Nat.le_of_ble_eq_true rfl⟩ ⟨Nat.le_of_ble_eq_true rfl, Nat.le_of_ble_eq_true rfl⟩ hK hN hZ hP hD hS hA [3, 4, 5] rfl rfl 0 rfl rfl rfl rfl hl.1 rfl (Nat.le_of_ble_eq_true rfl) dX7_takeWalk_67 (fun r_164 hw_r_164 => ?_)
            obtain ⟨y_165, rfl, h_166, h_167⟩ := hw_r_164
            refine lv_icmp_eq (tgt := 86) hx hb dX7_takeWalk_70 (by decide) (fun c_168 => ?_) (fun c_168 => ?_)
            · skip
              have nc_168 : cv (bA by9 z) z (nf (bA by9 z) z u8) (nx (bA by9 z) z u8) = y_165 := xn_eq (a := (cv (bA by9 z) z (nf (bA by9 z) z u8) (nx (bA by9 z) z u8))) (b := y_165) (by omega) (by omega) c_168
              refine lv_iconst (v := 0) hx hb dX7_takeWalk_86 (by decide) ?_
              exact W.zret (v := 0) hx hb hr rfl (fun t ht hW => ⟨⟨0, (u8, t8, cn + 1, ln8, sp8, t2_36, z2_37), rfl, ⟨Or.inr ⟨rfl, hL8.trans (spSt_no (by omega) c_104 (fun h => h.2 (xnn cv_le (by omega) (c_168.trans (h_167.symm.trans hv8)))))⟩, (by first | assumption | omega), (by first | assumption | omega), cv_le, (nx_le (by omega)), (by first | assumption | omega), (by first | assumption | omega), hln8, hsp8⟩, by rw [ht]; exact hP.sub [0, 1, 2, 3, 4, 5, 6, 7] rfl, hD.sub [0, 1, 2, 3, 4, 5, 6, 7] (by decide +kernel) rfl⟩, hS.F ht⟩) hS.2.2 dX7_takeWalk_87 hlk
            · skip
              have nc_168 : cv (bA by9 z) z (nf (bA by9 z) z u8) (nx (bA by9 z) z u8) ≠ y_165 := xn_ne (a := (cv (bA by9 z) z (nf (bA by9 z) z u8) (nx (bA by9 z) z u8))) (b := y_165) (by omega) (by omega) c_168
              refine lv_aload_n hx hb dX7_takeWalk_73 rfl (lv_at hl 2 rfl) ?_
              refine lv_aload_n hx hb dX7_takeWalk_74 rfl (lv_at hl 3 rfl) ?_
              refine xg hF kf_X7_60 hK hP 2 rfl rfl dX7_takeWalk_75 ?_
              refine lv_iconst (v := 1) hx hb dX7_takeWalk_78 (by decide) ?_
              refine lv_isub hx hb dX7_takeWalk_79 ?_
              refine xc_Vi (wr := [(q1, .inr (1, [.int (nI (P)), .ref be, .ref bl, .ref bu, .ref bo, .ref br, .ref bk, .ref bw, .ref btt, .ref bss])), (bw, .inr (3, [.int (nI (cn + 1)), .ref bWn, .ref bWp])), (bWn, .inl (cI, 8, .inl ln8)), (bWp, .inl (cI, 48, .inl sp8)), (btt, .inl (cI, 8, .inl t2_36)), (bss, .inl (cI, 8, .inl z2_37))]) hF (c_X7_takeNumber l D cI cJ cZ cS ta sa sv H.size h0 ab z u8 t8 by9 ((nI (P)) - 1) (by omega) (by omega)) kv_X7_70 ⟨rfl, rfl, Nat.le_of_ble_eq_true rfl, Nat.le_of_ble_eq_true rfl⟩ ⟨Nat.le_of_ble_eq_true rfl, Nat.le_of_ble_eq_true rfl⟩ hK hN hZ hP hD hS hA [0, 1] [2, 3, 4, 5, 6, 7] rfl rfl rfl (by decide +kernel) (by decide +kernel) 0 rfl rfl rfl rfl hl.1 rfl (Nat.le_of_ble_eq_true rfl) dX7_takeWalk_80 (fun r_169 u_r_169 H locs hw_r_169 hP hD hS => ?_)
              obtain ⟨u2_170, t2_171⟩ := u_r_169
              try dsimp only at hw_r_169
              obtain ⟨hw_r_169, i_172, i_173, i_174, i_175⟩ := hw_r_169
              have hP : va_P D vwCl [(q1, .inr (1, [.int (nI (P)), .ref be, .ref bl, .ref bu, .ref bo, .ref br, .ref bk, .ref bw, .ref btt, .ref bss])), (bw, .inr (3, [.int (nI (cn + 1)), .ref bWn, .ref bWp])), (bWn, .inl (cI, 8, .inl ln8)), (bWp, .inl (cI, 48, .inl sp8)), (btt, .inl (cI, 8, .inl t2_36)), (bss, .inl (cI, 8, .inl z2_37)), (h0, .inr (7, [.int (nI (z)), .ref ab, .int (kd (bA by9 z) z (nf (bA by9 z) z u2_170)), .int (nI (nf (bA by9 z) z u2_170)), .int (nI (nx (bA by9 z) z u2_170)), .int (nI (cv (bA by9 z) z (nf (bA by9 z) z u2_170) (nx (bA by9 z) z u2_170))), .int t2_171])), (ab, .inl (cI, 120, .inl by9))] H := hP
              have hD : va_D A [(q1, .inr (1, [.int (nI (P)), .ref be, .ref bl, .ref bu, .ref bo, .ref br, .ref bk, .ref bw, .ref btt, .ref bss])), (bw, .inr (3, [.int (nI (cn + 1)), .ref bWn, .ref bWp])), (bWn, .inl (cI, 8, .inl ln8)), (bWp, .inl (cI, 48, .inl sp8)), (btt, .inl (cI, 8, .inl t2_36)), (bss, .inl (cI, 8, .inl z2_37)), (h0, .inr (7, [.int (nI (z)), .ref ab, .int (kd (bA by9 z) z (nf (bA by9 z) z u2_170)), .int (nI (nf (bA by9 z) z u2_170)), .int (nI (nx (bA by9 z) z u2_170)), .int (nI (cv (bA by9 z) z (nf (bA by9 z) z u2_170) (nx (bA by9 z) z u2_170))), .int t2_171])), (ab, .inl (cI, 120, .inl by9))] := hD
              rcases hw_r_169 with ⟨rfl, h_176, h_177, h_178⟩ | ⟨rfl, h_179, h_180, h_181⟩
              · skip
                subst h_177
                subst h_178
                have hm_h_176 : cv (bA by9 z) z (nf (bA by9 z) z u8) (nx (bA by9 z) z u8) < P := okNu_lt hP0 h_176
                refine lv_if_ne (tgt := 88) hx hb dX7_takeWalk_83 (by decide) (fun c_182 => ?_) (fun c_182 => absurd c_182 (by decide))
                refine lv_aload_n hx hb dX7_takeWalk_88 rfl (lv_at hl 3 rfl) ?_
                refine xg hF kf_X7_94 hK hP 0 rfl rfl dX7_takeWalk_89 ?_
                refine lv_iload_n hx hb dX7_takeWalk_92 rfl (lv_at hl 1 rfl) ?_
                refine lv_aload_n hx hb dX7_takeWalk_93 rfl (lv_at hl 2 rfl) ?_
                refine xg hF kf_X7_31 hK hP 6 rfl rfl dX7_takeWalk_94 ?_
                refine xc_Vi (wr := [(q1, .inr (1, [.int (nI (P)), .ref be, .ref bl, .ref bu, .ref bo, .ref br, .ref bk, .ref bw, .ref btt, .ref bss])), (btt, .inl (cI, 8, .inl t2_36)), (bss, .inl (cI, 8, .inl z2_37)), (h0, .inr (7, [.int (nI (z)), .ref ab, .int (kd (bA by9 z) z (nf (bA by9 z) z (nx (bA by9 z) z u8))), .int (nI (nf (bA by9 z) z (nx (bA by9 z) z u8))), .int (nI (nx (bA by9 z) z (nx (bA by9 z) z u8))), .int (nI (cv (bA by9 z) z (nf (bA by9 z) z (nx (bA by9 z) z u8)) (nx (bA by9 z) z (nx (bA by9 z) z u8)))), .int (nI (cv (bA by9 z) z (nf (bA by9 z) z u8) (nx (bA by9 z) z u8)))])), (ab, .inl (cI, 120, .inl by9))]) hF (c_X3_append l D cI cJ cZ cS ta sa sv H.size bw bWn bWp (cn + 1) cn (cv (bA by9 z) z (nf (bA by9 z) z u8) (nx (bA by9 z) z u8)) i ln8 sp8 (by omega) (by omega) (by omega) he8 hln8 hsp8) kv_X7_111 ⟨rfl, rfl, Nat.le_of_ble_eq_true rfl, Nat.le_of_ble_eq_true rfl⟩ ⟨Nat.le_of_ble_eq_true rfl, Nat.le_of_ble_eq_true rfl⟩ hK hN hZ hP hD hS hA [1, 2, 3] [0, 4, 5, 6, 7] rfl rfl rfl (by decide +kernel) (by decide +kernel) 0 rfl rfl rfl rfl hl.1 rfl (Nat.le_of_ble_eq_true rfl) dX7_takeWalk_97 (fun r_183 u_r_183 H locs hw_r_183 hP hD hS => ?_)
                obtain ⟨l2_184, s2_185⟩ := u_r_183
                try dsimp only at hw_r_183
                obtain ⟨hw_r_183, i_186, i_187, i_188, i_189⟩ := hw_r_183
                have hP : va_P D vwCl [(q1, .inr (1, [.int (nI (P)), .ref be, .ref bl, .ref bu, .ref bo, .ref br, .ref bk, .ref bw, .ref btt, .ref bss])), (btt, .inl (cI, 8, .inl t2_36)), (bss, .inl (cI, 8, .inl z2_37)), (h0, .inr (7, [.int (nI (z)), .ref ab, .int (kd (bA by9 z) z (nf (bA by9 z) z (nx (bA by9 z) z u8))), .int (nI (nf (bA by9 z) z (nx (bA by9 z) z u8))), .int (nI (nx (bA by9 z) z (nx (bA by9 z) z u8))), .int (nI (cv (bA by9 z) z (nf (bA by9 z) z (nx (bA by9 z) z u8)) (nx (bA by9 z) z (nx (bA by9 z) z u8)))), .int (nI (cv (bA by9 z) z (nf (bA by9 z) z u8) (nx (bA by9 z) z u8)))])), (ab, .inl (cI, 120, .inl by9)), (bw, .inr (3, [.int (nI ((cn + 1))), .ref bWn, .ref bWp])), (bWn, .inl (cI, 8, .inl l2_184)), (bWp, .inl (cI, 48, .inl s2_185))] H := hP
                have hD : va_D A [(q1, .inr (1, [.int (nI (P)), .ref be, .ref bl, .ref bu, .ref bo, .ref br, .ref bk, .ref bw, .ref btt, .ref bss])), (btt, .inl (cI, 8, .inl t2_36)), (bss, .inl (cI, 8, .inl z2_37)), (h0, .inr (7, [.int (nI (z)), .ref ab, .int (kd (bA by9 z) z (nf (bA by9 z) z (nx (bA by9 z) z u8))), .int (nI (nf (bA by9 z) z (nx (bA by9 z) z u8))), .int (nI (nx (bA by9 z) z (nx (bA by9 z) z u8))), .int (nI (cv (bA by9 z) z (nf (bA by9 z) z (nx (bA by9 z) z u8)) (nx (bA by9 z) z (nx (bA by9 z) z u8)))), .int (nI (cv (bA by9 z) z (nf (bA by9 z) z u8) (nx (bA by9 z) z u8)))])), (ab, .inl (cI, 120, .inl by9)), (bw, .inr (3, [.int (nI ((cn + 1))), .ref bWn, .ref bWp])), (bWn, .inl (cI, 8, .inl l2_184)), (bWp, .inl (cI, 48, .inl s2_185))] := hD
                subst hw_r_183
                refine lv_pop hx hb dX7_takeWalk_100 rfl ?_
                refine lv_iinc (v := nI (i + 1)) (lv' := [(3, .int (nI (i + 1))), (2, .int (nI (cn))), (0, .ref h0), (1, .ref q1)]) hx hb dX7_takeWalk_101 hl (k := 0) rfl (nI_1 (i)) (by decide) rfl (fun ls hl => ?_)
                refine lv_goto (tgt := 44) hx hb dX7_takeWalk_104 (by decide) ?_
                exact ih_44 (i + 1) (nx (bA by9 z) z u8) (cv (bA by9 z) z (nf (bA by9 z) z u8) (nx (bA by9 z) z u8)) (nI (cv (bA by9 z) z (nf (bA by9 z) z u8) (nx (bA by9 z) z u8))) l2_184 s2_185 _ _ _ (by omega) (by omega) (by omega) (by omega) (by omega) (nx_le (by omega)) cv_le (by omega) (by rw [i_188]; exact pk_us) (by rw [i_188]; exact LL.put hLL8 (by omega) (by omega)) (by rw [i_189, show i + 1 - 1 = i by omega]; exact pk_us) (hL8.trans (spSt_go (by omega) c_104 ⟨h_176, fun h => c_168 ((congrArg nI h).trans (hv8.symm.trans h_167))⟩)) i_186 i_187 (hP.sub [3, 4, 0, 5, 6, 7, 1, 2] rfl) (hD.sub [3, 4, 0, 5, 6, 7, 1, 2] (by decide +kernel) rfl) hS (lv_sub hl [0, 1, 2, 3] rfl)
              · skip
                replace h_180 := h_180.symm; subst h_180
                replace h_181 := h_181.symm; subst h_181
                refine lv_if_ne (tgt := 88) hx hb dX7_takeWalk_83 (by decide) (fun c_190 => absurd (by decide) c_190) (fun c_190 => ?_)
                refine lv_iconst (v := 0) hx hb dX7_takeWalk_86 (by decide) ?_
                exact W.zret (v := 0) hx hb hr rfl (fun t ht hW => ⟨⟨0, (u8, t8, cn + 1, ln8, sp8, t2_36, z2_37), rfl, ⟨Or.inr ⟨rfl, hL8.trans (spSt_no (by omega) c_104 (fun h => h_179 h.1))⟩, (by first | assumption | omega), (by first | assumption | omega), cv_le, (nx_le (by omega)), (by first | assumption | omega), (by first | assumption | omega), hln8, hsp8⟩, by rw [ht]; exact hP.sub [6, 7, 0, 1, 2, 3, 4, 5] rfl, hD.sub [6, 7, 0, 1, 2, 3, 4, 5] (by decide +kernel) rfl⟩, hS.F ht⟩) hS.2.2 dX7_takeWalk_87 hlk
    · skip
      subst h_30
      replace h_31 := h_31.symm; subst h_31
      refine lv_if_ne (tgt := 31) hx hb dX7_takeWalk_26 (by decide) (fun c_191 => absurd (by decide) c_191) (fun c_191 => ?_)
      refine lv_iconst (v := 0) hx hb dX7_takeWalk_29 (by decide) ?_
      exact W.zret (v := 0) hx hb hr rfl (fun t ht hW => ⟨⟨0, (nx (bA by9 z) z u9, t9, cn, ln, sp, to9, sl), rfl, ⟨Or.inr ⟨rfl, (cif_pos (show cn < 8 by omega)).trans (cif_neg (h_29))⟩, (by first | assumption | omega), (by first | assumption | omega), cv_le, (nx_le (by omega)), (by first | assumption | omega), (by first | assumption | omega), hln, hsp⟩, by rw [ht]; exact hP.sub [6, 7, 0, 1, 2, 3, 4, 5] rfl, hD.sub [6, 7, 0, 1, 2, 3, 4, 5] (by decide +kernel) rfl⟩, hS.F ht⟩) hS.2.2 dX7_takeWalk_30 hlk
set_option maxHeartbeats 4000000 in
set_option maxRecDepth 100000 in
theorem c_X7_takeItem (l : Launch) (D : va_G) (cI cJ cZ cS : ClassId) (ta : Nat) (sa sv : Nat → Nat) (sz : Nat) (h0 : Nat) (ab : Nat) (z : Nat) (u9 : Nat) (t9 : Int32) (by9 : Nat → Int32) (q1 : Nat) (be : Nat) (bl : Nat) (bu : Nat) (bo : Nat) (br : Nat) (bk : Nat) (bw : Nat) (btt : Nat) (bss : Nat) (P : Nat) (bWn : Nat) (bWp : Nat) (cn : Nat) (er : Nat → Int32) (lo : Nat → Int32) (hg : Nat → Int32) (d : Nat → Int32) (ln : Nat → Int32) (sp : Nat → Int32) (to9 : Nat → Int32) (sl : Nat → Int32) (hz : z ≤ 120) (hu9 : u9 ≤ z) (hP0 : P ≤ 10) (hc : cn ≤ 8) (hLL : LL cn ln) (hln : BA 8 7 ln) (hsp : BA 48 10 sp) : Met l yX7_takeItem (Cond.code yX7_takeItem cX7_takeItem 2 (some .boolean) :: wsU) ({ frames := 7, cells := 0, slots := 0, locals := 153 }) (va_Pc [.ref h0, .ref q1] (XW D (xT cI cJ cZ cS) ta sa sv [(h0, .inr (7, [.int (nI (z)), .ref ab, .int (kd (bA by9 z) z (nf (bA by9 z) z u9)), .int (nI (nf (bA by9 z) z u9)), .int (nI (nx (bA by9 z) z u9)), .int (nI (cv (bA by9 z) z (nf (bA by9 z) z u9) (nx (bA by9 z) z u9))), .int t9])), (ab, .inl (cI, 120, .inl by9)), (q1, .inr (1, [.int (nI (P)), .ref be, .ref bl, .ref bu, .ref bo, .ref br, .ref bk, .ref bw, .ref btt, .ref bss])), (be, .inl (cI, 10, .inl er)), (bl, .inl (cI, 100, .inl lo)), (bu, .inl (cI, 100, .inl hg)), (bo, .inl (cI, 100, .inl d)), (bw, .inr (3, [.int (nI (cn)), .ref bWn, .ref bWp])), (bWn, .inl (cI, 8, .inl ln)), (bWp, .inl (cI, 48, .inl sp)), (btt, .inl (cI, 8, .inl to9)), (bss, .inl (cI, 8, .inl sl))] sz)) (XQi (fun (r : Int32) (u : Nat × Int32 × Nat × Nat × (Nat → Int32) × (Nat → Int32) × (Nat → Int32) × (Nat → Int32) × (Nat → Int32) × (Nat → Int32) × (Nat → Int32) × (Nat → Int32)) => match u with | (u2, t2, P2, cn2, e2, l2, u3, d2, n2, p2, t3, z3) => ((r = 1 ∧ (spItem (bA by9 z) z u9 P cn = Sum.inr u2) ∧ (P2 = spP (bA by9 z) z u9 P) ∧ (cn2 = spW (bA by9 z) z u9 cn)) ∨ (r = 0 ∧ (spItem (bA by9 z) z u9 P cn = Sum.inl u2))) ∧ (u2 ≤ z) ∧ (u9 ≤ u2) ∧ (nx (bA by9 z) z u2 ≤ z) ∧ (P2 ≤ 10) ∧ (cn2 ≤ 8) ∧ (LL cn2 n2) ∧ (BA 8 7 n2) ∧ (BA 48 10 p2)) D (fun (u : Nat × Int32 × Nat × Nat × (Nat → Int32) × (Nat → Int32) × (Nat → Int32) × (Nat → Int32) × (Nat → Int32) × (Nat → Int32) × (Nat → Int32) × (Nat → Int32)) => match u with | (u2, t2, P2, cn2, e2, l2, u3, d2, n2, p2, t3, z3) => [(h0, .inr (7, [.int (nI (z)), .ref ab, .int (kd (bA by9 z) z (nf (bA by9 z) z u2)), .int (nI (nf (bA by9 z) z u2)), .int (nI (nx (bA by9 z) z u2)), .int (nI (cv (bA by9 z) z (nf (bA by9 z) z u2) (nx (bA by9 z) z u2))), .int t2])), (ab, .inl (cI, 120, .inl by9)), (q1, .inr (1, [.int (nI (P2)), .ref be, .ref bl, .ref bu, .ref bo, .ref br, .ref bk, .ref bw, .ref btt, .ref bss])), (be, .inl (cI, 10, .inl e2)), (bl, .inl (cI, 100, .inl l2)), (bu, .inl (cI, 100, .inl u3)), (bo, .inl (cI, 100, .inl d2)), (bw, .inr (3, [.int (nI (cn2)), .ref bWn, .ref bWp])), (bWn, .inl (cI, 8, .inl n2)), (bWp, .inl (cI, 48, .inl p2)), (btt, .inl (cI, 8, .inl t3)), (bss, .inl (cI, 8, .inl z3))]) (va_A [(h0, .inr (7, [.int (nI (z)), .ref ab, .int (kd (bA by9 z) z (nf (bA by9 z) z u9)), .int (nI (nf (bA by9 z) z u9)), .int (nI (nx (bA by9 z) z u9)), .int (nI (cv (bA by9 z) z (nf (bA by9 z) z u9) (nx (bA by9 z) z u9))), .int t9])), (ab, .inl (cI, 120, .inl by9)), (q1, .inr (1, [.int (nI (P)), .ref be, .ref bl, .ref bu, .ref bo, .ref br, .ref bk, .ref bw, .ref btt, .ref bss])), (be, .inl (cI, 10, .inl er)), (bl, .inl (cI, 100, .inl lo)), (bu, .inl (cI, 100, .inl hg)), (bo, .inl (cI, 100, .inl d)), (bw, .inr (3, [.int (nI (cn)), .ref bWn, .ref bWp])), (bWn, .inl (cI, 8, .inl ln)), (bWp, .inl (cI, 48, .inl sp)), (btt, .inl (cI, 8, .inl to9)), (bss, .inl (cI, 8, .inl sl))] sz)) 0 0 (va_A [(h0, .inr (7, [.int (nI (z)), .ref ab, .int (kd (bA by9 z) z (nf (bA by9 z) z u9)), .int (nI (nf (bA by9 z) z u9)), .int (nI (nx (bA by9 z) z u9)), .int (nI (cv (bA by9 z) z (nf (bA by9 z) z u9) (nx (bA by9 z) z u9))), .int t9])), (ab, .inl (cI, 120, .inl by9)), (q1, .inr (1, [.int (nI (P)), .ref be, .ref bl, .ref bu, .ref bo, .ref br, .ref bk, .ref bw, .ref btt, .ref bss])), (be, .inl (cI, 10, .inl er)), (bl, .inl (cI, 100, .inl lo)), (bu, .inl (cI, 100, .inl hg)), (bo, .inl (cI, 100, .inl d)), (bw, .inr (3, [.int (nI (cn)), .ref bWn, .ref bWp])), (bWn, .inl (cI, 8, .inl ln)), (bWp, .inl (cI, 48, .inl sp)), (btt, .inl (cI, 8, .inl to9)), (bss, .inl (cI, 8, .inl sl))] sz) := by
  refine xh (QA := fun A => XQi (fun (r : Int32) (u : Nat × Int32 × Nat × Nat × (Nat → Int32) × (Nat → Int32) × (Nat → Int32) × (Nat → Int32) × (Nat → Int32) × (Nat → Int32) × (Nat → Int32) × (Nat → Int32)) => match u with | (u2, t2, P2, cn2, e2, l2, u3, d2, n2, p2, t3, z3) => ((r = 1 ∧ (spItem (bA by9 z) z u9 P cn = Sum.inr u2) ∧ (P2 = spP (bA by9 z) z u9 P) ∧ (cn2 = spW (bA by9 z) z u9 cn)) ∨ (r = 0 ∧ (spItem (bA by9 z) z u9 P cn = Sum.inl u2))) ∧ (u2 ≤ z) ∧ (u9 ≤ u2) ∧ (nx (bA by9 z) z u2 ≤ z) ∧ (P2 ≤ 10) ∧ (cn2 ≤ 8) ∧ (LL cn2 n2) ∧ (BA 8 7 n2) ∧ (BA 48 10 p2)) D (fun (u : Nat × Int32 × Nat × Nat × (Nat → Int32) × (Nat → Int32) × (Nat → Int32) × (Nat → Int32) × (Nat → Int32) × (Nat → Int32) × (Nat → Int32) × (Nat → Int32)) => match u with | (u2, t2, P2, cn2, e2, l2, u3, d2, n2, p2, t3, z3) => [(h0, .inr (7, [.int (nI (z)), .ref ab, .int (kd (bA by9 z) z (nf (bA by9 z) z u2)), .int (nI (nf (bA by9 z) z u2)), .int (nI (nx (bA by9 z) z u2)), .int (nI (cv (bA by9 z) z (nf (bA by9 z) z u2) (nx (bA by9 z) z u2))), .int t2])), (ab, .inl (cI, 120, .inl by9)), (q1, .inr (1, [.int (nI (P2)), .ref be, .ref bl, .ref bu, .ref bo, .ref br, .ref bk, .ref bw, .ref btt, .ref bss])), (be, .inl (cI, 10, .inl e2)), (bl, .inl (cI, 100, .inl l2)), (bu, .inl (cI, 100, .inl u3)), (bo, .inl (cI, 100, .inl d2)), (bw, .inr (3, [.int (nI (cn2)), .ref bWn, .ref bWp])), (bWn, .inl (cI, 8, .inl n2)), (bWp, .inl (cI, 48, .inl p2)), (btt, .inl (cI, 8, .inl t3)), (bss, .inl (cI, 8, .inl z3))]) A) (fr := fun A => A) (by decide) (Nat.le_of_ble_eq_true rfl) ?_
  intro p e s m below meth c ls A hF hr hlk hin hsz hP hK hD hN hZ hA hS hl
  have hF : CallFix p m c cX7_takeItem 2 s _ _ RX7 := hF
  have hx := hF.1
  have hb := hF.2.1
  have hml := hF.2.2.1
  have hown := hF.2.2.2.1
  have hu : ∀ w ∈ wsU, w.before _ s = true := fun w h => hF.2.2.2.2 w (List.mem_cons_of_mem _ h)
  have hl : lv_has ls 2 [(0, .ref h0), (1, .ref q1)] := hl
  have htk := tk_le (b := (bA by9 z)) hu9
  refine lv_aload_n hx hb dX7_takeItem_0 rfl (lv_at hl 0 rfl) ?_
  refine va_ldcS (tx := "place") (q := sa 0) hx hb hown (hN.2.2 (41, "place", 0) (by decide)) dX7_takeItem_1 ?_
  refine xc_Vr hF (c_X7_isWord l D cI cJ cZ cS ta sa sv s.heap.size h0 ab z (nf (bA by9 z) z u9) (nx (bA by9 z) z u9) t9 by9 0 (by decide) (by omega) (by omega) (by omega)) kv_X7_43 ⟨rfl, rfl, Nat.le_of_ble_eq_true rfl, Nat.le_of_ble_eq_true rfl⟩ ⟨Nat.le_of_ble_eq_true rfl, Nat.le_of_ble_eq_true rfl⟩ hK hN hZ hP hD hS hA [0, 1] rfl rfl 0 rfl rfl rfl rfl hl.1 rfl (Nat.le_of_ble_eq_true rfl) dX7_takeItem_3 (fun r_1 hw_r_1 => ?_)
  rcases hw_r_1 with ⟨rfl, h_2⟩ | ⟨rfl, h_3⟩
  · skip
    refine lv_if_eq (tgt := 15) hx hb dX7_takeItem_6 (by decide) (fun c_4 => absurd c_4 (by decide)) (fun c_4 => ?_)
    refine lv_aload_n hx hb dX7_takeItem_9 rfl (lv_at hl 0 rfl) ?_
    refine lv_aload_n hx hb dX7_takeItem_10 rfl (lv_at hl 1 rfl) ?_
    refine xc_Vi (wr := [(bl, .inl (cI, 100, .inl lo)), (bu, .inl (cI, 100, .inl hg)), (bo, .inl (cI, 100, .inl d)), (bw, .inr (3, [.int (nI (cn)), .ref bWn, .ref bWp])), (bWn, .inl (cI, 8, .inl ln)), (bWp, .inl (cI, 48, .inl sp)), (btt, .inl (cI, 8, .inl to9)), (bss, .inl (cI, 8, .inl sl))]) hF (c_X7_takePlace l D cI cJ cZ cS ta sa sv s.heap.size h0 ab z u9 t9 by9 q1 be bl bu bo br bk bw btt bss P er (by omega) (by omega) (by omega)) kv_X7_47 ⟨rfl, rfl, Nat.le_of_ble_eq_true rfl, Nat.le_of_ble_eq_true rfl⟩ ⟨Nat.le_of_ble_eq_true rfl, Nat.le_of_ble_eq_true rfl⟩ hK hN hZ hP hD hS hA [0, 1, 2, 3] [4, 5, 6, 7, 8, 9, 10, 11] rfl rfl (by decide +kernel) (by decide +kernel) (by decide +kernel) 0 rfl rfl rfl rfl hl.1 rfl (Nat.le_of_ble_eq_true rfl) dX7_takeItem_11 (fun r_5 u_r_5 H locs hw_r_5 hP hD hS => ?_)
    obtain ⟨u2_6, t2_7, P2_8, e2_9⟩ := u_r_5
    try dsimp only at hw_r_5
    obtain ⟨hw_r_5, i_10, i_11, i_12, i_13, i_14⟩ := hw_r_5
    have hP : va_P D vwCl [(bl, .inl (cI, 100, .inl lo)), (bu, .inl (cI, 100, .inl hg)), (bo, .inl (cI, 100, .inl d)), (bw, .inr (3, [.int (nI (cn)), .ref bWn, .ref bWp])), (bWn, .inl (cI, 8, .inl ln)), (bWp, .inl (cI, 48, .inl sp)), (btt, .inl (cI, 8, .inl to9)), (bss, .inl (cI, 8, .inl sl)), (h0, .inr (7, [.int (nI (z)), .ref ab, .int (kd (bA by9 z) z (nf (bA by9 z) z u2_6)), .int (nI (nf (bA by9 z) z u2_6)), .int (nI (nx (bA by9 z) z u2_6)), .int (nI (cv (bA by9 z) z (nf (bA by9 z) z u2_6) (nx (bA by9 z) z u2_6))), .int t2_7])), (ab, .inl (cI, 120, .inl by9)), (q1, .inr (1, [.int (nI (P2_8)), .ref be, .ref bl, .ref bu, .ref bo, .ref br, .ref bk, .ref bw, .ref btt, .ref bss])), (be, .inl (cI, 10, .inl e2_9))] H := hP
    have hD : va_D A [(bl, .inl (cI, 100, .inl lo)), (bu, .inl (cI, 100, .inl hg)), (bo, .inl (cI, 100, .inl d)), (bw, .inr (3, [.int (nI (cn)), .ref bWn, .ref bWp])), (bWn, .inl (cI, 8, .inl ln)), (bWp, .inl (cI, 48, .inl sp)), (btt, .inl (cI, 8, .inl to9)), (bss, .inl (cI, 8, .inl sl)), (h0, .inr (7, [.int (nI (z)), .ref ab, .int (kd (bA by9 z) z (nf (bA by9 z) z u2_6)), .int (nI (nf (bA by9 z) z u2_6)), .int (nI (nx (bA by9 z) z u2_6)), .int (nI (cv (bA by9 z) z (nf (bA by9 z) z u2_6) (nx (bA by9 z) z u2_6))), .int t2_7])), (ab, .inl (cI, 120, .inl by9)), (q1, .inr (1, [.int (nI (P2_8)), .ref be, .ref bl, .ref bu, .ref bo, .ref br, .ref bk, .ref bw, .ref btt, .ref bss])), (be, .inl (cI, 10, .inl e2_9))] := hD
    rcases hw_r_5 with ⟨rfl, h_15, h_16⟩ | ⟨rfl, h_17⟩
    · skip
      subst h_16
      exact W.zret (v := 1) hx hb hr rfl (fun t ht hW => ⟨⟨1, (u2_6, t2_7, (P + 1), cn, e2_9, lo, hg, d, ln, sp, to9, sl), rfl, ⟨Or.inl ⟨rfl, (cif_pos (h_2)).trans (h_15), (cif_pos h_2).symm, (cif_neg (tW_ne h_2 (show xLen.getD 0 0 ≠ xLen.getD 2 0 by decide))).symm⟩, (by first | assumption | omega), (by first | assumption | omega), (nx_le (by omega)), (by first | assumption | omega), (by first | assumption | omega), (by first | assumption | omega), hln, hsp⟩, by rw [ht]; exact hP.sub [8, 9, 10, 11, 0, 1, 2, 3, 4, 5, 6, 7] rfl, hD.sub [8, 9, 10, 11, 0, 1, 2, 3, 4, 5, 6, 7] (by decide +kernel) rfl⟩, hS.F ht⟩) hS.2.2 dX7_takeItem_14 hlk
    · skip
      exact W.zret (v := 0) hx hb hr rfl (fun t ht hW => ⟨⟨0, (u2_6, t2_7, P2_8, cn, e2_9, lo, hg, d, ln, sp, to9, sl), rfl, ⟨Or.inr ⟨rfl, (cif_pos (h_2)).trans (h_17)⟩, (by first | assumption | omega), (by first | assumption | omega), (nx_le (by omega)), (by first | assumption | omega), (by first | assumption | omega), (by first | assumption | omega), hln, hsp⟩, by rw [ht]; exact hP.sub [8, 9, 10, 11, 0, 1, 2, 3, 4, 5, 6, 7] rfl, hD.sub [8, 9, 10, 11, 0, 1, 2, 3, 4, 5, 6, 7] (by decide +kernel) rfl⟩, hS.F ht⟩) hS.2.2 dX7_takeItem_14 hlk
  · skip
    refine lv_if_eq (tgt := 15) hx hb dX7_takeItem_6 (by decide) (fun c_18 => ?_) (fun c_18 => absurd (by decide) c_18)
    refine lv_aload_n hx hb dX7_takeItem_15 rfl (lv_at hl 0 rfl) ?_
    refine va_ldcS (tx := "way") (q := sa 1) hx hb hown (hN.2.2 (50, "way", 1) (by decide)) dX7_takeItem_16 ?_
    refine xc_Vr hF (c_X7_isWord l D cI cJ cZ cS ta sa sv s.heap.size h0 ab z (nf (bA by9 z) z u9) (nx (bA by9 z) z u9) t9 by9 1 (by decide) (by omega) (by omega) (by omega)) kv_X7_43 ⟨rfl, rfl, Nat.le_of_ble_eq_true rfl, Nat.le_of_ble_eq_true rfl⟩ ⟨Nat.le_of_ble_eq_true rfl, Nat.le_of_ble_eq_true rfl⟩ hK hN hZ hP hD hS hA [0, 1] rfl rfl 0 rfl rfl rfl rfl hl.1 rfl (Nat.le_of_ble_eq_true rfl) dX7_takeItem_18 (fun r_19 hw_r_19 => ?_)
    rcases hw_r_19 with ⟨rfl, h_20⟩ | ⟨rfl, h_21⟩
    · skip
      refine lv_if_eq (tgt := 30) hx hb dX7_takeItem_21 (by decide) (fun c_22 => absurd c_22 (by decide)) (fun c_22 => ?_)
      refine lv_aload_n hx hb dX7_takeItem_24 rfl (lv_at hl 0 rfl) ?_
      refine lv_aload_n hx hb dX7_takeItem_25 rfl (lv_at hl 1 rfl) ?_
      refine xc_Vi (wr := [(be, .inl (cI, 10, .inl er)), (bw, .inr (3, [.int (nI (cn)), .ref bWn, .ref bWp])), (bWn, .inl (cI, 8, .inl ln)), (bWp, .inl (cI, 48, .inl sp)), (btt, .inl (cI, 8, .inl to9)), (bss, .inl (cI, 8, .inl sl))]) hF (c_X7_takeWay l D cI cJ cZ cS ta sa sv s.heap.size h0 ab z u9 t9 by9 q1 be bl bu bo br bk bw btt bss P lo hg d (by omega) (by omega) (by omega)) kv_X7_52 ⟨rfl, rfl, Nat.le_of_ble_eq_true rfl, Nat.le_of_ble_eq_true rfl⟩ ⟨Nat.le_of_ble_eq_true rfl, Nat.le_of_ble_eq_true rfl⟩ hK hN hZ hP hD hS hA [0, 1, 2, 4, 5, 6] [3, 7, 8, 9, 10, 11] rfl rfl (by decide +kernel) (by decide +kernel) (by decide +kernel) 0 rfl rfl rfl rfl hl.1 rfl (Nat.le_of_ble_eq_true rfl) dX7_takeItem_26 (fun r_23 u_r_23 H locs hw_r_23 hP hD hS => ?_)
      obtain ⟨u2_24, t2_25, l2_26, u3_27, d2_28⟩ := u_r_23
      try dsimp only at hw_r_23
      obtain ⟨hw_r_23, i_29, i_30, i_31, i_32⟩ := hw_r_23
      have hP : va_P D vwCl [(be, .inl (cI, 10, .inl er)), (bw, .inr (3, [.int (nI (cn)), .ref bWn, .ref bWp])), (bWn, .inl (cI, 8, .inl ln)), (bWp, .inl (cI, 48, .inl sp)), (btt, .inl (cI, 8, .inl to9)), (bss, .inl (cI, 8, .inl sl)), (h0, .inr (7, [.int (nI (z)), .ref ab, .int (kd (bA by9 z) z (nf (bA by9 z) z u2_24)), .int (nI (nf (bA by9 z) z u2_24)), .int (nI (nx (bA by9 z) z u2_24)), .int (nI (cv (bA by9 z) z (nf (bA by9 z) z u2_24) (nx (bA by9 z) z u2_24))), .int t2_25])), (ab, .inl (cI, 120, .inl by9)), (q1, .inr (1, [.int (nI (P)), .ref be, .ref bl, .ref bu, .ref bo, .ref br, .ref bk, .ref bw, .ref btt, .ref bss])), (bl, .inl (cI, 100, .inl l2_26)), (bu, .inl (cI, 100, .inl u3_27)), (bo, .inl (cI, 100, .inl d2_28))] H := hP
      have hD : va_D A [(be, .inl (cI, 10, .inl er)), (bw, .inr (3, [.int (nI (cn)), .ref bWn, .ref bWp])), (bWn, .inl (cI, 8, .inl ln)), (bWp, .inl (cI, 48, .inl sp)), (btt, .inl (cI, 8, .inl to9)), (bss, .inl (cI, 8, .inl sl)), (h0, .inr (7, [.int (nI (z)), .ref ab, .int (kd (bA by9 z) z (nf (bA by9 z) z u2_24)), .int (nI (nf (bA by9 z) z u2_24)), .int (nI (nx (bA by9 z) z u2_24)), .int (nI (cv (bA by9 z) z (nf (bA by9 z) z u2_24) (nx (bA by9 z) z u2_24))), .int t2_25])), (ab, .inl (cI, 120, .inl by9)), (q1, .inr (1, [.int (nI (P)), .ref be, .ref bl, .ref bu, .ref bo, .ref br, .ref bk, .ref bw, .ref btt, .ref bss])), (bl, .inl (cI, 100, .inl l2_26)), (bu, .inl (cI, 100, .inl u3_27)), (bo, .inl (cI, 100, .inl d2_28))] := hD
      rcases hw_r_23 with ⟨rfl, h_33⟩ | ⟨rfl, h_34⟩
      · skip
        exact W.zret (v := 1) hx hb hr rfl (fun t ht hW => ⟨⟨1, (u2_24, t2_25, P, cn, er, l2_26, u3_27, d2_28, ln, sp, to9, sl), rfl, ⟨Or.inl ⟨rfl, (cif_neg (h_3)).trans ((cif_pos (h_20)).trans (h_33)), (cif_neg h_3).symm, (cif_neg (tW_ne h_20 (show xLen.getD 1 0 ≠ xLen.getD 2 0 by decide))).symm⟩, (by first | assumption | omega), (by first | assumption | omega), (nx_le (by omega)), (by first | assumption | omega), (by first | assumption | omega), (by first | assumption | omega), hln, hsp⟩, by rw [ht]; exact hP.sub [6, 7, 8, 0, 9, 10, 11, 1, 2, 3, 4, 5] rfl, hD.sub [6, 7, 8, 0, 9, 10, 11, 1, 2, 3, 4, 5] (by decide +kernel) rfl⟩, hS.F ht⟩) hS.2.2 dX7_takeItem_29 hlk
      · skip
        exact W.zret (v := 0) hx hb hr rfl (fun t ht hW => ⟨⟨0, (u2_24, t2_25, P, cn, er, l2_26, u3_27, d2_28, ln, sp, to9, sl), rfl, ⟨Or.inr ⟨rfl, (cif_neg (h_3)).trans ((cif_pos (h_20)).trans (h_34))⟩, (by first | assumption | omega), (by first | assumption | omega), (nx_le (by omega)), (by first | assumption | omega), (by first | assumption | omega), (by first | assumption | omega), hln, hsp⟩, by rw [ht]; exact hP.sub [6, 7, 8, 0, 9, 10, 11, 1, 2, 3, 4, 5] rfl, hD.sub [6, 7, 8, 0, 9, 10, 11, 1, 2, 3, 4, 5] (by decide +kernel) rfl⟩, hS.F ht⟩) hS.2.2 dX7_takeItem_29 hlk
    · skip
      refine lv_if_eq (tgt := 30) hx hb dX7_takeItem_21 (by decide) (fun c_35 => ?_) (fun c_35 => absurd (by decide) c_35)
      refine lv_aload_n hx hb dX7_takeItem_30 rfl (lv_at hl 0 rfl) ?_
      refine va_ldcS (tx := "walk") (q := sa 2) hx hb hown (hN.2.2 (55, "walk", 2) (by decide)) dX7_takeItem_31 ?_
      refine xc_Vr hF (c_X7_isWord l D cI cJ cZ cS ta sa sv s.heap.size h0 ab z (nf (bA by9 z) z u9) (nx (bA by9 z) z u9) t9 by9 2 (by decide) (by omega) (by omega) (by omega)) kv_X7_43 ⟨rfl, rfl, Nat.le_of_ble_eq_true rfl, Nat.le_of_ble_eq_true rfl⟩ ⟨Nat.le_of_ble_eq_true rfl, Nat.le_of_ble_eq_true rfl⟩ hK hN hZ hP hD hS hA [0, 1] rfl rfl 0 rfl rfl rfl rfl hl.1 rfl (Nat.le_of_ble_eq_true rfl) dX7_takeItem_33 (fun r_36 hw_r_36 => ?_)
      rcases hw_r_36 with ⟨rfl, h_37⟩ | ⟨rfl, h_38⟩
      · skip
        refine lv_if_eq (tgt := 51) hx hb dX7_takeItem_36 (by decide) (fun c_39 => absurd c_39 (by decide)) (fun c_39 => ?_)
        refine lv_aload_n hx hb dX7_takeItem_39 rfl (lv_at hl 0 rfl) ?_
        refine lv_aload_n hx hb dX7_takeItem_40 rfl (lv_at hl 1 rfl) ?_
        refine xc_Vi (wr := [(be, .inl (cI, 10, .inl er)), (bl, .inl (cI, 100, .inl lo)), (bu, .inl (cI, 100, .inl hg)), (bo, .inl (cI, 100, .inl d))]) hF (c_X7_takeWalk l D cI cJ cZ cS ta sa sv s.heap.size h0 ab z u9 t9 by9 q1 be bl bu bo br bk bw btt bss P bWn bWp cn ln sp to9 sl (by omega) (by omega) (by omega) (by omega) (by omega) hln hsp) kv_X7_57 ⟨rfl, rfl, Nat.le_of_ble_eq_true rfl, Nat.le_of_ble_eq_true rfl⟩ ⟨Nat.le_of_ble_eq_true rfl, Nat.le_of_ble_eq_true rfl⟩ hK hN hZ hP hD hS hA [0, 1, 2, 7, 8, 9, 10, 11] [3, 4, 5, 6] rfl rfl (by decide +kernel) (by decide +kernel) (by decide +kernel) 0 rfl rfl rfl rfl hl.1 rfl (Nat.le_of_ble_eq_true rfl) dX7_takeItem_41 (fun r_40 u_r_40 H locs hw_r_40 hP hD hS => ?_)
        obtain ⟨u2_41, t2_42, cn2_43, l2_44, p2_45, t3_46, z3_47⟩ := u_r_40
        try dsimp only at hw_r_40
        obtain ⟨hw_r_40, i_48, i_49, i_50, i_51, i_52, i_53, i_54, i_55⟩ := hw_r_40
        have hP : va_P D vwCl [(be, .inl (cI, 10, .inl er)), (bl, .inl (cI, 100, .inl lo)), (bu, .inl (cI, 100, .inl hg)), (bo, .inl (cI, 100, .inl d)), (h0, .inr (7, [.int (nI (z)), .ref ab, .int (kd (bA by9 z) z (nf (bA by9 z) z u2_41)), .int (nI (nf (bA by9 z) z u2_41)), .int (nI (nx (bA by9 z) z u2_41)), .int (nI (cv (bA by9 z) z (nf (bA by9 z) z u2_41) (nx (bA by9 z) z u2_41))), .int t2_42])), (ab, .inl (cI, 120, .inl by9)), (q1, .inr (1, [.int (nI (P)), .ref be, .ref bl, .ref bu, .ref bo, .ref br, .ref bk, .ref bw, .ref btt, .ref bss])), (bw, .inr (3, [.int (nI (cn2_43)), .ref bWn, .ref bWp])), (bWn, .inl (cI, 8, .inl l2_44)), (bWp, .inl (cI, 48, .inl p2_45)), (btt, .inl (cI, 8, .inl t3_46)), (bss, .inl (cI, 8, .inl z3_47))] H := hP
        have hD : va_D A [(be, .inl (cI, 10, .inl er)), (bl, .inl (cI, 100, .inl lo)), (bu, .inl (cI, 100, .inl hg)), (bo, .inl (cI, 100, .inl d)), (h0, .inr (7, [.int (nI (z)), .ref ab, .int (kd (bA by9 z) z (nf (bA by9 z) z u2_41)), .int (nI (nf (bA by9 z) z u2_41)), .int (nI (nx (bA by9 z) z u2_41)), .int (nI (cv (bA by9 z) z (nf (bA by9 z) z u2_41) (nx (bA by9 z) z u2_41))), .int t2_42])), (ab, .inl (cI, 120, .inl by9)), (q1, .inr (1, [.int (nI (P)), .ref be, .ref bl, .ref bu, .ref bo, .ref br, .ref bk, .ref bw, .ref btt, .ref bss])), (bw, .inr (3, [.int (nI (cn2_43)), .ref bWn, .ref bWp])), (bWn, .inl (cI, 8, .inl l2_44)), (bWp, .inl (cI, 48, .inl p2_45)), (btt, .inl (cI, 8, .inl t3_46)), (bss, .inl (cI, 8, .inl z3_47))] := hD
        rcases hw_r_40 with ⟨rfl, h_56, h_57⟩ | ⟨rfl, h_58⟩
        · skip
          subst h_57
          refine lv_if_eq (tgt := 51) hx hb dX7_takeItem_44 (by decide) (fun c_59 => absurd c_59 (by decide)) (fun c_59 => ?_)
          refine lv_iconst (v := 1) hx hb dX7_takeItem_47 (by decide) ?_
          refine lv_goto (tgt := 52) hx hb dX7_takeItem_48 (by decide) ?_
          exact W.zret (v := 1) hx hb hr rfl (fun t ht hW => ⟨⟨1, (u2_41, t2_42, P, (cn + 1), er, lo, hg, d, l2_44, p2_45, t3_46, z3_47), rfl, ⟨Or.inl ⟨rfl, (cif_neg (h_3)).trans ((cif_neg (h_21)).trans ((cif_pos (h_37)).trans (h_56))), (cif_neg h_3).symm, (cif_pos h_37).symm⟩, (by first | assumption | omega), (by first | assumption | omega), (nx_le (by omega)), (by first | assumption | omega), (by first | assumption | omega), (by first | assumption | omega), i_54, i_55⟩, by rw [ht]; exact hP.sub [4, 5, 6, 0, 1, 2, 3, 7, 8, 9, 10, 11] rfl, hD.sub [4, 5, 6, 0, 1, 2, 3, 7, 8, 9, 10, 11] (by decide +kernel) rfl⟩, hS.F ht⟩) hS.2.2 dX7_takeItem_52 hlk
        · skip
          refine lv_if_eq (tgt := 51) hx hb dX7_takeItem_44 (by decide) (fun c_60 => ?_) (fun c_60 => absurd (by decide) c_60)
          refine lv_iconst (v := 0) hx hb dX7_takeItem_51 (by decide) ?_
          exact W.zret (v := 0) hx hb hr rfl (fun t ht hW => ⟨⟨0, (u2_41, t2_42, P, cn2_43, er, lo, hg, d, l2_44, p2_45, t3_46, z3_47), rfl, ⟨Or.inr ⟨rfl, (cif_neg (h_3)).trans ((cif_neg (h_21)).trans ((cif_pos (h_37)).trans (h_58)))⟩, (by first | assumption | omega), (by first | assumption | omega), (nx_le (by omega)), (by first | assumption | omega), (by first | assumption | omega), (by first | assumption | omega), i_54, i_55⟩, by rw [ht]; exact hP.sub [4, 5, 6, 0, 1, 2, 3, 7, 8, 9, 10, 11] rfl, hD.sub [4, 5, 6, 0, 1, 2, 3, 7, 8, 9, 10, 11] (by decide +kernel) rfl⟩, hS.F ht⟩) hS.2.2 dX7_takeItem_52 hlk
      · skip
        refine lv_if_eq (tgt := 51) hx hb dX7_takeItem_36 (by decide) (fun c_61 => ?_) (fun c_61 => absurd (by decide) c_61)
        refine lv_iconst (v := 0) hx hb dX7_takeItem_51 (by decide) ?_
        exact W.zret (v := 0) hx hb hr rfl (fun t ht hW => ⟨⟨0, (u9, t9, P, cn, er, lo, hg, d, ln, sp, to9, sl), rfl, ⟨Or.inr ⟨rfl, (cif_neg (h_3)).trans ((cif_neg (h_21)).trans (cif_neg (h_38)))⟩, (by first | assumption | omega), (by first | assumption | omega), (nx_le (by omega)), (by first | assumption | omega), (by first | assumption | omega), (by first | assumption | omega), hln, hsp⟩, by rw [ht]; exact hP.sub [0, 1, 2, 3, 4, 5, 6, 7, 8, 9, 10, 11] rfl, hD.sub [0, 1, 2, 3, 4, 5, 6, 7, 8, 9, 10, 11] (by decide +kernel) rfl⟩, hS.F ht⟩) hS.2.2 dX7_takeItem_52 hlk
set_option maxHeartbeats 4000000 in
set_option maxRecDepth 100000 in
theorem c_X7_tellTo (l : Launch) (D : va_G) (cI cJ cZ cS : ClassId) (ta : Nat) (sa sv : Nat → Nat) (sz : Nat) (h0 : Nat) (ab : Nat) (z : Nat) (s9 : Nat) (x9 : Nat) (v9 : Nat) (tk : Int32) (t9 : Int32) (by9 : Nat → Int32) (q1 : Nat) (be : Nat) (bl : Nat) (bu : Nat) (bo : Nat) (br : Nat) (bk : Nat) (bw : Nat) (btt : Nat) (bss : Nat) (P : Nat) (bWn : Nat) (bWp : Nat) (cn : Nat) (er : Nat → Int32) (lo : Nat → Int32) (hg : Nat → Int32) (d : Nat → Int32) (ln : Nat → Int32) (sp : Nat → Int32) (to9 : Nat → Int32) (sl : Nat → Int32) (hz : z ≤ 120) (hP0 : P ≤ 10) (hc : cn ≤ 8) (hLL : LL cn ln) (hln : BA 8 7 ln) (hsp : BA 48 10 sp) : Met l yX7_tellTo (Cond.code yX7_tellTo cX7_tellTo 3 (some .int) :: wsU) ({ frames := 8, cells := 0, slots := 0, locals := 174 }) (va_Pc [.ref h0, .ref q1] (XW D (xT cI cJ cZ cS) ta sa sv [(h0, .inr (7, [.int (nI (z)), .ref ab, .int tk, .int (nI (s9)), .int (nI (x9)), .int (nI (v9)), .int t9])), (ab, .inl (cI, 120, .inl by9)), (q1, .inr (1, [.int (nI (P)), .ref be, .ref bl, .ref bu, .ref bo, .ref br, .ref bk, .ref bw, .ref btt, .ref bss])), (be, .inl (cI, 10, .inl er)), (bl, .inl (cI, 100, .inl lo)), (bu, .inl (cI, 100, .inl hg)), (bo, .inl (cI, 100, .inl d)), (bw, .inr (3, [.int (nI (cn)), .ref bWn, .ref bWp])), (bWn, .inl (cI, 8, .inl ln)), (bWp, .inl (cI, 48, .inl sp)), (btt, .inl (cI, 8, .inl to9)), (bss, .inl (cI, 8, .inl sl))] sz)) (XQi (fun (r : Int32) (u : Nat × Int32 × Nat × Nat × (Nat → Int32) × (Nat → Int32) × (Nat → Int32) × (Nat → Int32) × (Nat → Int32) × (Nat → Int32) × (Nat → Int32) × (Nat → Int32)) => match u with | (u2, t2, P2, cn2, e2, l2, u3, d2, n2, p2, t3, z3) => ((∃ (n : Nat), r = nI (n) ∧ (spLand (bA by9 z) z 120 0 P cn 1 = Sum.inr (n, P2, cn2)) ∧ (n ≤ 121)) ∨ (∃ (k : Nat), r = -1 - nI (nf (bA by9 z) z k) ∧ (spLand (bA by9 z) z 120 0 P cn 1 = Sum.inl k) ∧ (k ≤ z))) ∧ (P2 ≤ 10) ∧ (cn2 ≤ 8) ∧ (LL cn2 n2) ∧ (BA 8 7 n2) ∧ (BA 48 10 p2) ∧ (u2 ≤ z)) D (fun (u : Nat × Int32 × Nat × Nat × (Nat → Int32) × (Nat → Int32) × (Nat → Int32) × (Nat → Int32) × (Nat → Int32) × (Nat → Int32) × (Nat → Int32) × (Nat → Int32)) => match u with | (u2, t2, P2, cn2, e2, l2, u3, d2, n2, p2, t3, z3) => [(h0, .inr (7, [.int (nI (z)), .ref ab, .int (kd (bA by9 z) z (nf (bA by9 z) z u2)), .int (nI (nf (bA by9 z) z u2)), .int (nI (nx (bA by9 z) z u2)), .int (nI (cv (bA by9 z) z (nf (bA by9 z) z u2) (nx (bA by9 z) z u2))), .int t2])), (ab, .inl (cI, 120, .inl by9)), (q1, .inr (1, [.int (nI (P2)), .ref be, .ref bl, .ref bu, .ref bo, .ref br, .ref bk, .ref bw, .ref btt, .ref bss])), (be, .inl (cI, 10, .inl e2)), (bl, .inl (cI, 100, .inl l2)), (bu, .inl (cI, 100, .inl u3)), (bo, .inl (cI, 100, .inl d2)), (bw, .inr (3, [.int (nI (cn2)), .ref bWn, .ref bWp])), (bWn, .inl (cI, 8, .inl n2)), (bWp, .inl (cI, 48, .inl p2)), (btt, .inl (cI, 8, .inl t3)), (bss, .inl (cI, 8, .inl z3))]) (va_A [(h0, .inr (7, [.int (nI (z)), .ref ab, .int tk, .int (nI (s9)), .int (nI (x9)), .int (nI (v9)), .int t9])), (ab, .inl (cI, 120, .inl by9)), (q1, .inr (1, [.int (nI (P)), .ref be, .ref bl, .ref bu, .ref bo, .ref br, .ref bk, .ref bw, .ref btt, .ref bss])), (be, .inl (cI, 10, .inl er)), (bl, .inl (cI, 100, .inl lo)), (bu, .inl (cI, 100, .inl hg)), (bo, .inl (cI, 100, .inl d)), (bw, .inr (3, [.int (nI (cn)), .ref bWn, .ref bWp])), (bWn, .inl (cI, 8, .inl ln)), (bWp, .inl (cI, 48, .inl sp)), (btt, .inl (cI, 8, .inl to9)), (bss, .inl (cI, 8, .inl sl))] sz)) 0 0 (va_A [(h0, .inr (7, [.int (nI (z)), .ref ab, .int tk, .int (nI (s9)), .int (nI (x9)), .int (nI (v9)), .int t9])), (ab, .inl (cI, 120, .inl by9)), (q1, .inr (1, [.int (nI (P)), .ref be, .ref bl, .ref bu, .ref bo, .ref br, .ref bk, .ref bw, .ref btt, .ref bss])), (be, .inl (cI, 10, .inl er)), (bl, .inl (cI, 100, .inl lo)), (bu, .inl (cI, 100, .inl hg)), (bo, .inl (cI, 100, .inl d)), (bw, .inr (3, [.int (nI (cn)), .ref bWn, .ref bWp])), (bWn, .inl (cI, 8, .inl ln)), (bWp, .inl (cI, 48, .inl sp)), (btt, .inl (cI, 8, .inl to9)), (bss, .inl (cI, 8, .inl sl))] sz) := by
  refine xh (QA := fun A => XQi (fun (r : Int32) (u : Nat × Int32 × Nat × Nat × (Nat → Int32) × (Nat → Int32) × (Nat → Int32) × (Nat → Int32) × (Nat → Int32) × (Nat → Int32) × (Nat → Int32) × (Nat → Int32)) => match u with | (u2, t2, P2, cn2, e2, l2, u3, d2, n2, p2, t3, z3) => ((∃ (n : Nat), r = nI (n) ∧ (spLand (bA by9 z) z 120 0 P cn 1 = Sum.inr (n, P2, cn2)) ∧ (n ≤ 121)) ∨ (∃ (k : Nat), r = -1 - nI (nf (bA by9 z) z k) ∧ (spLand (bA by9 z) z 120 0 P cn 1 = Sum.inl k) ∧ (k ≤ z))) ∧ (P2 ≤ 10) ∧ (cn2 ≤ 8) ∧ (LL cn2 n2) ∧ (BA 8 7 n2) ∧ (BA 48 10 p2) ∧ (u2 ≤ z)) D (fun (u : Nat × Int32 × Nat × Nat × (Nat → Int32) × (Nat → Int32) × (Nat → Int32) × (Nat → Int32) × (Nat → Int32) × (Nat → Int32) × (Nat → Int32) × (Nat → Int32)) => match u with | (u2, t2, P2, cn2, e2, l2, u3, d2, n2, p2, t3, z3) => [(h0, .inr (7, [.int (nI (z)), .ref ab, .int (kd (bA by9 z) z (nf (bA by9 z) z u2)), .int (nI (nf (bA by9 z) z u2)), .int (nI (nx (bA by9 z) z u2)), .int (nI (cv (bA by9 z) z (nf (bA by9 z) z u2) (nx (bA by9 z) z u2))), .int t2])), (ab, .inl (cI, 120, .inl by9)), (q1, .inr (1, [.int (nI (P2)), .ref be, .ref bl, .ref bu, .ref bo, .ref br, .ref bk, .ref bw, .ref btt, .ref bss])), (be, .inl (cI, 10, .inl e2)), (bl, .inl (cI, 100, .inl l2)), (bu, .inl (cI, 100, .inl u3)), (bo, .inl (cI, 100, .inl d2)), (bw, .inr (3, [.int (nI (cn2)), .ref bWn, .ref bWp])), (bWn, .inl (cI, 8, .inl n2)), (bWp, .inl (cI, 48, .inl p2)), (btt, .inl (cI, 8, .inl t3)), (bss, .inl (cI, 8, .inl z3))]) A) (fr := fun A => A) (by decide) (Nat.le_of_ble_eq_true rfl) ?_
  intro p e s m below meth c ls A hF hr hlk hin hsz hP hK hD hN hZ hA hS hl
  have hF : CallFix p m c cX7_tellTo 3 s _ _ RX7 := hF
  have hx := hF.1
  have hb := hF.2.1
  have hml := hF.2.2.1
  have hown := hF.2.2.2.1
  have hu : ∀ w ∈ wsU, w.before _ s = true := fun w h => hF.2.2.2.2 w (List.mem_cons_of_mem _ h)
  have hl : lv_has ls 3 [(0, .ref h0), (1, .ref q1)] := hl
  have h0z := Nat.zero_le z
  refine lv_aload_n hx hb dX7_tellTo_0 rfl (lv_at hl 0 rfl) ?_
  refine lv_iconst (v := 0) hx hb dX7_tellTo_1 (by decide) ?_
  refine xp hF kf_X7_25 tyX7_ok nmX7 hK hP hD hS 0 rfl rfl rfl rfl (Nat.le_of_ble_eq_true rfl) dX7_tellTo_2 (fun H locs hP hD hS => ?_)
  have hP : va_P D vwCl [(h0, .inr (7, [.int (nI (z)), .ref ab, .int tk, .int (nI (s9)), .int 0, .int (nI (v9)), .int t9])), (ab, .inl (cI, 120, .inl by9)), (q1, .inr (1, [.int (nI (P)), .ref be, .ref bl, .ref bu, .ref bo, .ref br, .ref bk, .ref bw, .ref btt, .ref bss])), (be, .inl (cI, 10, .inl er)), (bl, .inl (cI, 100, .inl lo)), (bu, .inl (cI, 100, .inl hg)), (bo, .inl (cI, 100, .inl d)), (bw, .inr (3, [.int (nI (cn)), .ref bWn, .ref bWp])), (bWn, .inl (cI, 8, .inl ln)), (bWp, .inl (cI, 48, .inl sp)), (btt, .inl (cI, 8, .inl to9)), (bss, .inl (cI, 8, .inl sl))] H := hP
  have hD : va_D A [(h0, .inr (7, [.int (nI (z)), .ref ab, .int tk, .int (nI (s9)), .int 0, .int (nI (v9)), .int t9])), (ab, .inl (cI, 120, .inl by9)), (q1, .inr (1, [.int (nI (P)), .ref be, .ref bl, .ref bu, .ref bo, .ref br, .ref bk, .ref bw, .ref btt, .ref bss])), (be, .inl (cI, 10, .inl er)), (bl, .inl (cI, 100, .inl lo)), (bu, .inl (cI, 100, .inl hg)), (bo, .inl (cI, 100, .inl d)), (bw, .inr (3, [.int (nI (cn)), .ref bWn, .ref bWp])), (bWn, .inl (cI, 8, .inl ln)), (bWp, .inl (cI, 48, .inl sp)), (btt, .inl (cI, 8, .inl to9)), (bss, .inl (cI, 8, .inl sl))] := hD
  refine lv_aload_n hx hb dX7_tellTo_5 rfl (lv_at hl 0 rfl) ?_
  refine xc_Vv (wr := [(q1, .inr (1, [.int (nI (P)), .ref be, .ref bl, .ref bu, .ref bo, .ref br, .ref bk, .ref bw, .ref btt, .ref bss])), (be, .inl (cI, 10, .inl er)), (bl, .inl (cI, 100, .inl lo)), (bu, .inl (cI, 100, .inl hg)), (bo, .inl (cI, 100, .inl d)), (bw, .inr (3, [.int (nI (cn)), .ref bWn, .ref bWp])), (bWn, .inl (cI, 8, .inl ln)), (bWp, .inl (cI, 48, .inl sp)), (btt, .inl (cI, 8, .inl to9)), (bss, .inl (cI, 8, .inl sl))]) hF (c_X7_step l D cI cJ cZ cS ta sa sv H.size h0 ab z s9 0 v9 tk t9 by9 (by omega) (by omega)) kv_X7_34 ⟨rfl, rfl, Nat.le_of_ble_eq_true rfl, Nat.le_of_ble_eq_true rfl⟩ ⟨Nat.le_of_ble_eq_true rfl, Nat.le_of_ble_eq_true rfl⟩ hK hN hZ hP hD hS hA [0, 1] [2, 3, 4, 5, 6, 7, 8, 9, 10, 11] rfl rfl rfl (by decide +kernel) (by decide +kernel) 0 rfl rfl rfl rfl hl.1 rfl (Nat.le_of_ble_eq_true rfl) dX7_tellTo_6 (fun u_r_1 H locs hw_r_1 hP hD hS => ?_)
  obtain ⟨s2_2, x2_3, v2_4, tk2_5⟩ := u_r_1
  try dsimp only at hw_r_1
  obtain ⟨i_6, i_7, i_8, i_9, i_10, i_11, i_12, i_13⟩ := hw_r_1
  subst i_6
  subst i_7
  subst i_8
  subst i_9
  have hP : va_P D vwCl [(q1, .inr (1, [.int (nI (P)), .ref be, .ref bl, .ref bu, .ref bo, .ref br, .ref bk, .ref bw, .ref btt, .ref bss])), (be, .inl (cI, 10, .inl er)), (bl, .inl (cI, 100, .inl lo)), (bu, .inl (cI, 100, .inl hg)), (bo, .inl (cI, 100, .inl d)), (bw, .inr (3, [.int (nI (cn)), .ref bWn, .ref bWp])), (bWn, .inl (cI, 8, .inl ln)), (bWp, .inl (cI, 48, .inl sp)), (btt, .inl (cI, 8, .inl to9)), (bss, .inl (cI, 8, .inl sl)), (h0, .inr (7, [.int (nI (z)), .ref ab, .int (kd (bA by9 z) z (nf (bA by9 z) z 0)), .int (nI ((nf (bA by9 z) z 0))), .int (nI ((nx (bA by9 z) z 0))), .int (nI ((cv (bA by9 z) z (nf (bA by9 z) z 0) (nx (bA by9 z) z 0)))), .int t9])), (ab, .inl (cI, 120, .inl by9))] H := hP
  have hD : va_D A [(q1, .inr (1, [.int (nI (P)), .ref be, .ref bl, .ref bu, .ref bo, .ref br, .ref bk, .ref bw, .ref btt, .ref bss])), (be, .inl (cI, 10, .inl er)), (bl, .inl (cI, 100, .inl lo)), (bu, .inl (cI, 100, .inl hg)), (bo, .inl (cI, 100, .inl d)), (bw, .inr (3, [.int (nI (cn)), .ref bWn, .ref bWp])), (bWn, .inl (cI, 8, .inl ln)), (bWp, .inl (cI, 48, .inl sp)), (btt, .inl (cI, 8, .inl to9)), (bss, .inl (cI, 8, .inl sl)), (h0, .inr (7, [.int (nI (z)), .ref ab, .int (kd (bA by9 z) z (nf (bA by9 z) z 0)), .int (nI ((nf (bA by9 z) z 0))), .int (nI ((nx (bA by9 z) z 0))), .int (nI ((cv (bA by9 z) z (nf (bA by9 z) z 0) (nx (bA by9 z) z 0)))), .int t9])), (ab, .inl (cI, 120, .inl by9))] := hD
  refine lv_iconst (v := 1) hx hb dX7_tellTo_9 (by decide) ?_
  refine lv_istore_n (lv' := [(2, .int 1), (0, .ref h0), (1, .ref q1)]) hx hb dX7_tellTo_10 rfl hl (by decide) rfl (fun ls hl => ?_)
  suffices loop_11 : ∀ (n_11 : Nat) (i : Nat) (u8 : Nat) (t8 : Int32) (P8 : Nat) (cn8 : Nat) (e8 : Nat → Int32) (l8 : Nat → Int32) (w8 : Nat → Int32) (d8 : Nat → Int32) (ln8 : Nat → Int32) (sp8 : Nat → Int32) (to8 : Nat → Int32) (sl8 : Nat → Int32) (H : Heap) (locs : List Loc) (ls : Array Slot), 121 - i < n_11 → (1 ≤ i) → (i ≤ 121) → (u8 ≤ z) → (nx (bA by9 z) z u8 ≤ z) → (P8 ≤ 10) → (cn8 ≤ 8) → (LL cn8 ln8) → (spLand (bA by9 z) z 120 0 P cn 1 = spLand (bA by9 z) z (121 - i) u8 P8 cn8 i) → (BA 8 7 ln8) → (BA 48 10 sp8) → va_P D vwCl [(q1, .inr (1, [.int (nI (P8)), .ref be, .ref bl, .ref bu, .ref bo, .ref br, .ref bk, .ref bw, .ref btt, .ref bss])), (be, .inl (cI, 10, .inl e8)), (bl, .inl (cI, 100, .inl l8)), (bu, .inl (cI, 100, .inl w8)), (bo, .inl (cI, 100, .inl d8)), (bw, .inr (3, [.int (nI (cn8)), .ref bWn, .ref bWp])), (bWn, .inl (cI, 8, .inl ln8)), (bWp, .inl (cI, 48, .inl sp8)), (btt, .inl (cI, 8, .inl to8)), (bss, .inl (cI, 8, .inl sl8)), (h0, .inr (7, [.int (nI (z)), .ref ab, .int (kd (bA by9 z) z (nf (bA by9 z) z u8)), .int (nI (nf (bA by9 z) z u8)), .int (nI (nx (bA by9 z) z u8)), .int (nI (cv (bA by9 z) z (nf (bA by9 z) z u8) (nx (bA by9 z) z u8))), .int t8])), (ab, .inl (cI, 120, .inl by9))] H → va_D A [(q1, .inr (1, [.int (nI (P8)), .ref be, .ref bl, .ref bu, .ref bo, .ref br, .ref bk, .ref bw, .ref btt, .ref bss])), (be, .inl (cI, 10, .inl e8)), (bl, .inl (cI, 100, .inl l8)), (bu, .inl (cI, 100, .inl w8)), (bo, .inl (cI, 100, .inl d8)), (bw, .inr (3, [.int (nI (cn8)), .ref bWn, .ref bWp])), (bWn, .inl (cI, 8, .inl ln8)), (bWp, .inl (cI, 48, .inl sp8)), (btt, .inl (cI, 8, .inl to8)), (bss, .inl (cI, 8, .inl sl8)), (h0, .inr (7, [.int (nI (z)), .ref ab, .int (kd (bA by9 z) z (nf (bA by9 z) z u8)), .int (nI (nf (bA by9 z) z u8)), .int (nI (nx (bA by9 z) z u8)), .int (nI (cv (bA by9 z) z (nf (bA by9 z) z u8) (nx (bA by9 z) z u8))), .int t8])), (ab, .inl (cI, 120, .inl by9))] → va_S A s.heap H locs → lv_has ls 3 [(2, .int (nI (i))), (0, .ref h0), (1, .ref q1)] → W p l e ({ frames := 8, cells := 0, slots := 0, locals := 174 }) s m ([.ref h0, .ref q1] : List Value).toArray below meth c H locs 0 0 (MQ below (XQi (fun (r : Int32) (u : Nat × Int32 × Nat × Nat × (Nat → Int32) × (Nat → Int32) × (Nat → Int32) × (Nat → Int32) × (Nat → Int32) × (Nat → Int32) × (Nat → Int32) × (Nat → Int32)) => match u with | (u2, t2, P2, cn2, e2, l2, u3, d2, n2, p2, t3, z3) => ((∃ (n : Nat), r = nI (n) ∧ (spLand (bA by9 z) z 120 0 P cn 1 = Sum.inr (n, P2, cn2)) ∧ (n ≤ 121)) ∨ (∃ (k : Nat), r = -1 - nI (nf (bA by9 z) z k) ∧ (spLand (bA by9 z) z 120 0 P cn 1 = Sum.inl k) ∧ (k ≤ z))) ∧ (P2 ≤ 10) ∧ (cn2 ≤ 8) ∧ (LL cn2 n2) ∧ (BA 8 7 n2) ∧ (BA 48 10 p2) ∧ (u2 ≤ z)) D (fun (u : Nat × Int32 × Nat × Nat × (Nat → Int32) × (Nat → Int32) × (Nat → Int32) × (Nat → Int32) × (Nat → Int32) × (Nat → Int32) × (Nat → Int32) × (Nat → Int32)) => match u with | (u2, t2, P2, cn2, e2, l2, u3, d2, n2, p2, t3, z3) => [(h0, .inr (7, [.int (nI (z)), .ref ab, .int (kd (bA by9 z) z (nf (bA by9 z) z u2)), .int (nI (nf (bA by9 z) z u2)), .int (nI (nx (bA by9 z) z u2)), .int (nI (cv (bA by9 z) z (nf (bA by9 z) z u2) (nx (bA by9 z) z u2))), .int t2])), (ab, .inl (cI, 120, .inl by9)), (q1, .inr (1, [.int (nI (P2)), .ref be, .ref bl, .ref bu, .ref bo, .ref br, .ref bk, .ref bw, .ref btt, .ref bss])), (be, .inl (cI, 10, .inl e2)), (bl, .inl (cI, 100, .inl l2)), (bu, .inl (cI, 100, .inl u3)), (bo, .inl (cI, 100, .inl d2)), (bw, .inr (3, [.int (nI (cn2)), .ref bWn, .ref bWp])), (bWn, .inl (cI, 8, .inl n2)), (bWp, .inl (cI, 48, .inl p2)), (btt, .inl (cI, 8, .inl t3)), (bss, .inl (cI, 8, .inl z3))]) A) ([.ref h0, .ref q1] : List Value).toArray s 0 0 A) (F0 m 11 ls []) by
    exact loop_11 _ 1 0 t9 P cn er lo hg d ln sp to9 sl _ _ _ (Nat.lt_succ_self _) (by omega) (by omega) (by omega) (nx_le (by omega)) (by omega) (by omega) hLL rfl hln hsp hP hD hS (lv_sub hl [0, 1, 2] rfl)
  intro n_11
  induction n_11 with
  | zero =>
    intro i u8 t8 P8 cn8 e8 l8 w8 d8 ln8 sp8 to8 sl8 H locs ls hm_11
    exact absurd hm_11 (Nat.not_lt_zero _)
  | succ n_11 ih_11 =>
    intro i u8 t8 P8 cn8 e8 l8 w8 d8 ln8 sp8 to8 sl8 H locs ls hm_11 hi1 hi2 hu8 hnx8 h84 h85 hLL8 hL8 hln8 hsp8 hP hD hS hl
    refine lv_iload_n hx hb dX7_tellTo_11 rfl (lv_at hl 0 rfl) ?_
    refine lv_bipush (v := 120) hx hb dX7_tellTo_12 (by decide) ?_
    refine lv_icmp_gt (tgt := 66) hx hb dX7_tellTo_14 (by decide) (fun c_14 => ?_) (fun c_14 => ?_)
    · skip
      have nc_14 : 120 < i := xn_lt (a := 120) (b := i) (by omega) (by omega) c_14
      refine lv_iconst (v := (-1)) hx hb dX7_tellTo_66 (by decide) ?_
      refine lv_aload_n hx hb dX7_tellTo_67 rfl (lv_at hl 1 rfl) ?_
      refine xg hF kf_X7_22 hK hP 10 rfl rfl dX7_tellTo_68 ?_
      refine lv_isub hx hb dX7_tellTo_71 ?_
      exact W.iret (v := (-1) - (nI (nf (bA by9 z) z u8))) hx hb hr (fun t ht hW => ⟨⟨(-1) - (nI (nf (bA by9 z) z u8)), (u8, t8, P8, cn8, e8, l8, w8, d8, ln8, sp8, to8, sl8), rfl, ⟨Or.inr ⟨u8, rfl, hL8.trans (spLand_out (by omega)), by omega⟩, (by first | assumption | omega), (by first | assumption | omega), (by first | assumption | omega), hln8, hsp8, (by first | assumption | omega)⟩, by rw [ht]; exact hP.sub [10, 11, 0, 1, 2, 3, 4, 5, 6, 7, 8, 9] rfl, hD.sub [10, 11, 0, 1, 2, 3, 4, 5, 6, 7, 8, 9] (by decide +kernel) rfl⟩, hS.F ht⟩) hS.2.2 dX7_tellTo_72 hlk
    · skip
      have nc_14 : i ≤ 120 := xn_nlt (a := 120) (b := i) (by omega) (by omega) c_14
      refine lv_aload_n hx hb dX7_tellTo_17 rfl (lv_at hl 1 rfl) ?_
      refine lv_aload_n hx hb dX7_tellTo_18 rfl (lv_at hl 2 rfl) ?_
      refine xc_Vi (wr := []) hF (c_X7_takeItem l D cI cJ cZ cS ta sa sv H.size h0 ab z u8 t8 by9 q1 be bl bu bo br bk bw btt bss P8 bWn bWp cn8 e8 l8 w8 d8 ln8 sp8 to8 sl8 (by omega) (by omega) (by omega) (by omega) (by omega) hln8 hsp8) kv_X7_37 ⟨rfl, rfl, Nat.le_of_ble_eq_true rfl, Nat.le_of_ble_eq_true rfl⟩ ⟨Nat.le_of_ble_eq_true rfl, Nat.le_of_ble_eq_true rfl⟩ hK hN hZ hP hD hS hA [10, 11, 0, 1, 2, 3, 4, 5, 6, 7, 8, 9] [] rfl rfl (by decide +kernel) rfl (by decide +kernel) 0 rfl rfl rfl rfl hl.1 rfl (Nat.le_of_ble_eq_true rfl) dX7_tellTo_19 (fun r_15 u_r_15 H locs hw_r_15 hP hD hS => ?_)
      obtain ⟨u2_16, t2_17, P2_18, cn2_19, e2_20, l2_21, u3_22, d2_23, n2_24, p2_25, t3_26, z3_27⟩ := u_r_15
      try dsimp only at hw_r_15
      obtain ⟨hw_r_15, i_28, i_29, i_30, i_31, i_32, i_33, i_34, i_35⟩ := hw_r_15
      have hP : va_P D vwCl [(h0, .inr (7, [.int (nI (z)), .ref ab, .int (kd (bA by9 z) z (nf (bA by9 z) z u2_16)), .int (nI (nf (bA by9 z) z u2_16)), .int (nI (nx (bA by9 z) z u2_16)), .int (nI (cv (bA by9 z) z (nf (bA by9 z) z u2_16) (nx (bA by9 z) z u2_16))), .int t2_17])), (ab, .inl (cI, 120, .inl by9)), (q1, .inr (1, [.int (nI (P2_18)), .ref be, .ref bl, .ref bu, .ref bo, .ref br, .ref bk, .ref bw, .ref btt, .ref bss])), (be, .inl (cI, 10, .inl e2_20)), (bl, .inl (cI, 100, .inl l2_21)), (bu, .inl (cI, 100, .inl u3_22)), (bo, .inl (cI, 100, .inl d2_23)), (bw, .inr (3, [.int (nI (cn2_19)), .ref bWn, .ref bWp])), (bWn, .inl (cI, 8, .inl n2_24)), (bWp, .inl (cI, 48, .inl p2_25)), (btt, .inl (cI, 8, .inl t3_26)), (bss, .inl (cI, 8, .inl z3_27))] H := hP
      have hD : va_D A [(h0, .inr (7, [.int (nI (z)), .ref ab, .int (kd (bA by9 z) z (nf (bA by9 z) z u2_16)), .int (nI (nf (bA by9 z) z u2_16)), .int (nI (nx (bA by9 z) z u2_16)), .int (nI (cv (bA by9 z) z (nf (bA by9 z) z u2_16) (nx (bA by9 z) z u2_16))), .int t2_17])), (ab, .inl (cI, 120, .inl by9)), (q1, .inr (1, [.int (nI (P2_18)), .ref be, .ref bl, .ref bu, .ref bo, .ref br, .ref bk, .ref bw, .ref btt, .ref bss])), (be, .inl (cI, 10, .inl e2_20)), (bl, .inl (cI, 100, .inl l2_21)), (bu, .inl (cI, 100, .inl u3_22)), (bo, .inl (cI, 100, .inl d2_23)), (bw, .inr (3, [.int (nI (cn2_19)), .ref bWn, .ref bWp])), (bWn, .inl (cI, 8, .inl n2_24)), (bWp, .inl (cI, 48, .inl p2_25)), (btt, .inl (cI, 8, .inl t3_26)), (bss, .inl (cI, 8, .inl z3_27))] := hD
      rcases hw_r_15 with ⟨rfl, h_36, h_37, h_38⟩ | ⟨rfl, h_39⟩
      · skip
        subst h_37
        subst h_38
        refine lv_if_ne (tgt := 32) hx hb dX7_tellTo_22 (by decide) (fun c_40 => ?_) (fun c_40 => absurd c_40 (by decide))
        refine lv_aload_n hx hb dX7_tellTo_32 rfl (lv_at hl 1 rfl) ?_
        refine xg hF kf_X7_19 hK hP 0 rfl rfl dX7_tellTo_33 ?_
        refine lv_if_ne (tgt := 41) hx hb dX7_tellTo_36 (by decide) (fun c_41 => ?_) (fun c_41 => ?_)
        · skip
          refine lv_aload_n hx hb dX7_tellTo_41 rfl (lv_at hl 1 rfl) ?_
          refine xg hF kf_X7_19 hK hP 0 rfl rfl dX7_tellTo_42 ?_
          refine lv_iconst (v := 3) hx hb dX7_tellTo_45 (by decide) ?_
          refine lv_icmp_eq (tgt := 56) hx hb dX7_tellTo_46 (by decide) (fun c_42 => ?_) (fun c_42 => ?_)
          · skip
            refine lv_aload_n hx hb dX7_tellTo_56 rfl (lv_at hl 1 rfl) ?_
            refine xc_Vv (wr := [(q1, .inr (1, [.int (nI ((spP (bA by9 z) z u8 P8))), .ref be, .ref bl, .ref bu, .ref bo, .ref br, .ref bk, .ref bw, .ref btt, .ref bss])), (be, .inl (cI, 10, .inl e2_20)), (bl, .inl (cI, 100, .inl l2_21)), (bu, .inl (cI, 100, .inl u3_22)), (bo, .inl (cI, 100, .inl d2_23)), (bw, .inr (3, [.int (nI ((spW (bA by9 z) z u8 cn8))), .ref bWn, .ref bWp])), (bWn, .inl (cI, 8, .inl n2_24)), (bWp, .inl (cI, 48, .inl p2_25)), (btt, .inl (cI, 8, .inl t3_26)), (bss, .inl (cI, 8, .inl z3_27))]) hF (c_X7_step l D cI cJ cZ cS ta sa sv H.size h0 ab z (nf (bA by9 z) z u2_16) (nx (bA by9 z) z u2_16) (cv (bA by9 z) z (nf (bA by9 z) z u2_16) (nx (bA by9 z) z u2_16)) (kd (bA by9 z) z (nf (bA by9 z) z u2_16)) t2_17 by9 (by omega) (by omega)) kv_X7_34 ⟨rfl, rfl, Nat.le_of_ble_eq_true rfl, Nat.le_of_ble_eq_true rfl⟩ ⟨Nat.le_of_ble_eq_true rfl, Nat.le_of_ble_eq_true rfl⟩ hK hN hZ hP hD hS hA [0, 1] [2, 3, 4, 5, 6, 7, 8, 9, 10, 11] rfl rfl rfl (by decide +kernel) (by decide +kernel) 0 rfl rfl rfl rfl hl.1 rfl (Nat.le_of_ble_eq_true rfl) dX7_tellTo_57 (fun u_r_43 H locs hw_r_43 hP hD hS => ?_)
            obtain ⟨s2_44, x2_45, v2_46, tk2_47⟩ := u_r_43
            try dsimp only at hw_r_43
            obtain ⟨i_48, i_49, i_50, i_51, i_52, i_53, i_54, i_55⟩ := hw_r_43
            subst i_48
            subst i_49
            subst i_50
            subst i_51
            have hP : va_P D vwCl [(q1, .inr (1, [.int (nI ((spP (bA by9 z) z u8 P8))), .ref be, .ref bl, .ref bu, .ref bo, .ref br, .ref bk, .ref bw, .ref btt, .ref bss])), (be, .inl (cI, 10, .inl e2_20)), (bl, .inl (cI, 100, .inl l2_21)), (bu, .inl (cI, 100, .inl u3_22)), (bo, .inl (cI, 100, .inl d2_23)), (bw, .inr (3, [.int (nI ((spW (bA by9 z) z u8 cn8))), .ref bWn, .ref bWp])), (bWn, .inl (cI, 8, .inl n2_24)), (bWp, .inl (cI, 48, .inl p2_25)), (btt, .inl (cI, 8, .inl t3_26)), (bss, .inl (cI, 8, .inl z3_27)), (h0, .inr (7, [.int (nI (z)), .ref ab, .int (kd (bA by9 z) z (nf (bA by9 z) z (nx (bA by9 z) z u2_16))), .int (nI ((nf (bA by9 z) z (nx (bA by9 z) z u2_16)))), .int (nI ((nx (bA by9 z) z (nx (bA by9 z) z u2_16)))), .int (nI ((cv (bA by9 z) z (nf (bA by9 z) z (nx (bA by9 z) z u2_16)) (nx (bA by9 z) z (nx (bA by9 z) z u2_16))))), .int t2_17])), (ab, .inl (cI, 120, .inl by9))] H := hP
            have hD : va_D A [(q1, .inr (1, [.int (nI ((spP (bA by9 z) z u8 P8))), .ref be, .ref bl, .ref bu, .ref bo, .ref br, .ref bk, .ref bw, .ref btt, .ref bss])), (be, .inl (cI, 10, .inl e2_20)), (bl, .inl (cI, 100, .inl l2_21)), (bu, .inl (cI, 100, .inl u3_22)), (bo, .inl (cI, 100, .inl d2_23)), (bw, .inr (3, [.int (nI ((spW (bA by9 z) z u8 cn8))), .ref bWn, .ref bWp])), (bWn, .inl (cI, 8, .inl n2_24)), (bWp, .inl (cI, 48, .inl p2_25)), (btt, .inl (cI, 8, .inl t3_26)), (bss, .inl (cI, 8, .inl z3_27)), (h0, .inr (7, [.int (nI (z)), .ref ab, .int (kd (bA by9 z) z (nf (bA by9 z) z (nx (bA by9 z) z u2_16))), .int (nI ((nf (bA by9 z) z (nx (bA by9 z) z u2_16)))), .int (nI ((nx (bA by9 z) z (nx (bA by9 z) z u2_16)))), .int (nI ((cv (bA by9 z) z (nf (bA by9 z) z (nx (bA by9 z) z u2_16)) (nx (bA by9 z) z (nx (bA by9 z) z u2_16))))), .int t2_17])), (ab, .inl (cI, 120, .inl by9))] := hD
            refine lv_iinc (v := nI (i + 1)) (lv' := [(2, .int (nI (i + 1))), (0, .ref h0), (1, .ref q1)]) hx hb dX7_tellTo_60 hl (k := 0) rfl (nI_1 (i)) (by decide) rfl (fun ls hl => ?_)
            refine lv_goto (tgt := 11) hx hb dX7_tellTo_63 (by decide) ?_
            exact ih_11 (i + 1) (nx (bA by9 z) z u2_16) t2_17 (spP (bA by9 z) z u8 P8) (spW (bA by9 z) z u8 cn8) e2_20 l2_21 u3_22 d2_23 n2_24 p2_25 t3_26 z3_27 _ _ _ (by omega) (by omega) (by omega) (by omega) (nx_le (by omega)) (by omega) (by omega) i_33 (hL8.trans (spLand_go (by omega) h_36 c_41 c_42)) i_34 i_35 (hP.sub [0, 1, 2, 3, 4, 5, 6, 7, 8, 9, 10, 11] rfl) (hD.sub [0, 1, 2, 3, 4, 5, 6, 7, 8, 9, 10, 11] (by decide +kernel) rfl) hS (lv_sub hl [0, 1, 2] rfl)
          · skip
            refine lv_iconst (v := (-1)) hx hb dX7_tellTo_49 (by decide) ?_
            refine lv_aload_n hx hb dX7_tellTo_50 rfl (lv_at hl 1 rfl) ?_
            refine xg hF kf_X7_22 hK hP 0 rfl rfl dX7_tellTo_51 ?_
            refine lv_isub hx hb dX7_tellTo_54 ?_
            exact W.iret (v := (-1) - (nI (nf (bA by9 z) z u2_16))) hx hb hr (fun t ht hW => ⟨⟨(-1) - (nI (nf (bA by9 z) z u2_16)), (u2_16, t2_17, (spP (bA by9 z) z u8 P8), (spW (bA by9 z) z u8 cn8), e2_20, l2_21, u3_22, d2_23, n2_24, p2_25, t3_26, z3_27), rfl, ⟨Or.inr ⟨u2_16, rfl, hL8.trans (spLand_bad (by omega) h_36 c_41 c_42), by omega⟩, (by first | assumption | omega), (by first | assumption | omega), (by first | assumption | omega), i_34, i_35, (by first | assumption | omega)⟩, by rw [ht]; exact hP.sub [0, 1, 2, 3, 4, 5, 6, 7, 8, 9, 10, 11] rfl, hD.sub [0, 1, 2, 3, 4, 5, 6, 7, 8, 9, 10, 11] (by decide +kernel) rfl⟩, hS.F ht⟩) hS.2.2 dX7_tellTo_55 hlk
        · skip
          refine lv_iload_n hx hb dX7_tellTo_39 rfl (lv_at hl 0 rfl) ?_
          exact W.iret (v := nI (i)) hx hb hr (fun t ht hW => ⟨⟨nI (i), (u2_16, t2_17, (spP (bA by9 z) z u8 P8), (spW (bA by9 z) z u8 cn8), e2_20, l2_21, u3_22, d2_23, n2_24, p2_25, t3_26, z3_27), rfl, ⟨Or.inl ⟨i, rfl, hL8.trans (spLand_end (by omega) h_36 c_41), by omega⟩, (by first | assumption | omega), (by first | assumption | omega), (by first | assumption | omega), i_34, i_35, (by first | assumption | omega)⟩, by rw [ht]; exact hP.sub [0, 1, 2, 3, 4, 5, 6, 7, 8, 9, 10, 11] rfl, hD.sub [0, 1, 2, 3, 4, 5, 6, 7, 8, 9, 10, 11] (by decide +kernel) rfl⟩, hS.F ht⟩) hS.2.2 dX7_tellTo_40 hlk
      · skip
        refine lv_if_ne (tgt := 32) hx hb dX7_tellTo_22 (by decide) (fun c_56 => absurd (by decide) c_56) (fun c_56 => ?_)
        refine lv_iconst (v := (-1)) hx hb dX7_tellTo_25 (by decide) ?_
        refine lv_aload_n hx hb dX7_tellTo_26 rfl (lv_at hl 1 rfl) ?_
        refine xg hF kf_X7_22 hK hP 0 rfl rfl dX7_tellTo_27 ?_
        refine lv_isub hx hb dX7_tellTo_30 ?_
        exact W.iret (v := (-1) - (nI (nf (bA by9 z) z u2_16))) hx hb hr (fun t ht hW => ⟨⟨(-1) - (nI (nf (bA by9 z) z u2_16)), (u2_16, t2_17, P2_18, cn2_19, e2_20, l2_21, u3_22, d2_23, n2_24, p2_25, t3_26, z3_27), rfl, ⟨Or.inr ⟨u2_16, rfl, hL8.trans (spLand_no (by omega) h_39), by omega⟩, (by first | assumption | omega), (by first | assumption | omega), (by first | assumption | omega), i_34, i_35, (by first | assumption | omega)⟩, by rw [ht]; exact hP.sub [0, 1, 2, 3, 4, 5, 6, 7, 8, 9, 10, 11] rfl, hD.sub [0, 1, 2, 3, 4, 5, 6, 7, 8, 9, 10, 11] (by decide +kernel) rfl⟩, hS.F ht⟩) hS.2.2 dX7_tellTo_31 hlk
