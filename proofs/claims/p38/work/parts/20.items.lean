def LRX7_takePlace_4 : List UInt8 := []
def LBX7_takePlace_3 : List UInt8 := [0x04, 0xac]
def LRX7_takePlace_3 : List UInt8 := LBX7_takePlace_3 ++ LRX7_takePlace_4
def LBX7_takePlace_2 : List UInt8 := [0x9a, 0x00, 0x05, 0x03, 0xac, 0x2a, 0xb4, 0x00, 0x1f, 0x3d, 0x2b, 0x1c, 0xb6, 0x00, 0x4a, 0x57]
def LRX7_takePlace_2 : List UInt8 := LBX7_takePlace_2 ++ LRX7_takePlace_3
def LBX7_takePlace_1 : List UInt8 := [0x3d, 0x2a, 0x12, 0x41, 0xb6, 0x00, 0x43, 0x99, 0x00, 0x13, 0x2a, 0x10, 0x63, 0xb6, 0x00, 0x46]
def LRX7_takePlace_1 : List UInt8 := LBX7_takePlace_1 ++ LRX7_takePlace_2
def LBX7_takePlace_0 : List UInt8 := [0x2b, 0xb4, 0x00, 0x3c, 0x10, 0x0a, 0xa1, 0x00, 0x05, 0x03, 0xac, 0x2a, 0xb6, 0x00, 0x22, 0x03]
def LRX7_takePlace_0 : List UInt8 := LBX7_takePlace_0 ++ LRX7_takePlace_1
set_option maxRecDepth 100000 in
theorem LBX7_takePlace_eq : cX7_takePlace.data.toList = LRX7_takePlace_0 := by decide +kernel
theorem LBX7_takePlacer_0 (k : Nat) : cX7_takePlace.data.toList[0 + k]? = LRX7_takePlace_0[k]? := by rw [LBX7_takePlace_eq, Nat.zero_add]
theorem LBX7_takePlacer_1 (k : Nat) : cX7_takePlace.data.toList[16 + k]? = LRX7_takePlace_1[k]? := by
  have h := LBX7_takePlacer_0 (16 + k)
  rw [show 0 + (16 + k) = 16 + k by omega] at h
  rw [h]
  exact (List.getElem?_append_right (l₁ := LBX7_takePlace_0) (l₂ := LRX7_takePlace_1) (show 16 ≤ 16 + k by omega)).trans (congrArg (fun i => LRX7_takePlace_1[i]?) (show 16 + k - 16 = k by omega))
theorem LBX7_takePlacer_2 (k : Nat) : cX7_takePlace.data.toList[32 + k]? = LRX7_takePlace_2[k]? := by
  have h := LBX7_takePlacer_1 (16 + k)
  rw [show 16 + (16 + k) = 32 + k by omega] at h
  rw [h]
  exact (List.getElem?_append_right (l₁ := LBX7_takePlace_1) (l₂ := LRX7_takePlace_2) (show 16 ≤ 16 + k by omega)).trans (congrArg (fun i => LRX7_takePlace_2[i]?) (show 16 + k - 16 = k by omega))
theorem LBX7_takePlacer_3 (k : Nat) : cX7_takePlace.data.toList[48 + k]? = LRX7_takePlace_3[k]? := by
  have h := LBX7_takePlacer_2 (16 + k)
  rw [show 32 + (16 + k) = 48 + k by omega] at h
  rw [h]
  exact (List.getElem?_append_right (l₁ := LBX7_takePlace_2) (l₂ := LRX7_takePlace_3) (show 16 ≤ 16 + k by omega)).trans (congrArg (fun i => LRX7_takePlace_3[i]?) (show 16 + k - 16 = k by omega))
theorem dX7_takePlace_0 : decode cX7_takePlace 0 = .ok (.aload_n 1, 1) := dk_43_ (show cX7_takePlace.data.toList[0]? = some 0x2b from (LBX7_takePlacer_0 0).trans (by decide +kernel))
theorem dX7_takePlace_1 : decode cX7_takePlace 1 = .ok (.getfield 60, 3) := dk_180_ (show cX7_takePlace.data.toList[1]? = some 0xb4 from (LBX7_takePlacer_0 1).trans (by decide +kernel)) (show cX7_takePlace.data.toList[2]? = some 0x00 from (LBX7_takePlacer_0 2).trans (by decide +kernel)) (show cX7_takePlace.data.toList[3]? = some 0x3c from (LBX7_takePlacer_0 3).trans (by decide +kernel)) (by decide)
theorem dX7_takePlace_4 : decode cX7_takePlace 4 = .ok (.bipush 10, 2) := dk_16_ (show cX7_takePlace.data.toList[4]? = some 0x10 from (LBX7_takePlacer_0 4).trans (by decide +kernel)) (show cX7_takePlace.data.toList[5]? = some 0x0a from (LBX7_takePlacer_0 5).trans (by decide +kernel)) (by decide)
theorem dX7_takePlace_6 : decode cX7_takePlace 6 = .ok (.if_icmp .lt 5, 3) := dk_161_ (show cX7_takePlace.data.toList[6]? = some 0xa1 from (LBX7_takePlacer_0 6).trans (by decide +kernel)) (show cX7_takePlace.data.toList[7]? = some 0x00 from (LBX7_takePlacer_0 7).trans (by decide +kernel)) (show cX7_takePlace.data.toList[8]? = some 0x05 from (LBX7_takePlacer_0 8).trans (by decide +kernel)) (by decide)
theorem dX7_takePlace_9 : decode cX7_takePlace 9 = .ok (.iconst 0, 1) := dk_3_ (show cX7_takePlace.data.toList[9]? = some 0x03 from (LBX7_takePlacer_0 9).trans (by decide +kernel))
theorem dX7_takePlace_10 : decode cX7_takePlace 10 = .ok (.ireturn, 1) := dk_172_ (show cX7_takePlace.data.toList[10]? = some 0xac from (LBX7_takePlacer_0 10).trans (by decide +kernel))
theorem dX7_takePlace_11 : decode cX7_takePlace 11 = .ok (.aload_n 0, 1) := dk_42_ (show cX7_takePlace.data.toList[11]? = some 0x2a from (LBX7_takePlacer_0 11).trans (by decide +kernel))
theorem dX7_takePlace_12 : decode cX7_takePlace 12 = .ok (.invokevirtual 34, 3) := dk_182_ (show cX7_takePlace.data.toList[12]? = some 0xb6 from (LBX7_takePlacer_0 12).trans (by decide +kernel)) (show cX7_takePlace.data.toList[13]? = some 0x00 from (LBX7_takePlacer_0 13).trans (by decide +kernel)) (show cX7_takePlace.data.toList[14]? = some 0x22 from (LBX7_takePlacer_0 14).trans (by decide +kernel)) (by decide)
theorem dX7_takePlace_15 : decode cX7_takePlace 15 = .ok (.iconst 0, 1) := dk_3_ (show cX7_takePlace.data.toList[15]? = some 0x03 from (LBX7_takePlacer_0 15).trans (by decide +kernel))
theorem dX7_takePlace_16 : decode cX7_takePlace 16 = .ok (.istore_n 2, 1) := dk_61_ (show cX7_takePlace.data.toList[16]? = some 0x3d from (LBX7_takePlacer_1 0).trans (by decide +kernel))
theorem dX7_takePlace_17 : decode cX7_takePlace 17 = .ok (.aload_n 0, 1) := dk_42_ (show cX7_takePlace.data.toList[17]? = some 0x2a from (LBX7_takePlacer_1 1).trans (by decide +kernel))
theorem dX7_takePlace_18 : decode cX7_takePlace 18 = .ok (.ldc 65, 2) := dk_18_ (show cX7_takePlace.data.toList[18]? = some 0x12 from (LBX7_takePlacer_1 2).trans (by decide +kernel)) (show cX7_takePlace.data.toList[19]? = some 0x41 from (LBX7_takePlacer_1 3).trans (by decide +kernel)) (by decide)
theorem dX7_takePlace_20 : decode cX7_takePlace 20 = .ok (.invokevirtual 67, 3) := dk_182_ (show cX7_takePlace.data.toList[20]? = some 0xb6 from (LBX7_takePlacer_1 4).trans (by decide +kernel)) (show cX7_takePlace.data.toList[21]? = some 0x00 from (LBX7_takePlacer_1 5).trans (by decide +kernel)) (show cX7_takePlace.data.toList[22]? = some 0x43 from (LBX7_takePlacer_1 6).trans (by decide +kernel)) (by decide)
theorem dX7_takePlace_23 : decode cX7_takePlace 23 = .ok (.ifCond .eq 19, 3) := dk_153_ (show cX7_takePlace.data.toList[23]? = some 0x99 from (LBX7_takePlacer_1 7).trans (by decide +kernel)) (show cX7_takePlace.data.toList[24]? = some 0x00 from (LBX7_takePlacer_1 8).trans (by decide +kernel)) (show cX7_takePlace.data.toList[25]? = some 0x13 from (LBX7_takePlacer_1 9).trans (by decide +kernel)) (by decide)
theorem dX7_takePlace_26 : decode cX7_takePlace 26 = .ok (.aload_n 0, 1) := dk_42_ (show cX7_takePlace.data.toList[26]? = some 0x2a from (LBX7_takePlacer_1 10).trans (by decide +kernel))
theorem dX7_takePlace_27 : decode cX7_takePlace 27 = .ok (.bipush 99, 2) := dk_16_ (show cX7_takePlace.data.toList[27]? = some 0x10 from (LBX7_takePlacer_1 11).trans (by decide +kernel)) (show cX7_takePlace.data.toList[28]? = some 0x63 from (LBX7_takePlacer_1 12).trans (by decide +kernel)) (by decide)
theorem dX7_takePlace_29 : decode cX7_takePlace 29 = .ok (.invokevirtual 70, 3) := dk_182_ (show cX7_takePlace.data.toList[29]? = some 0xb6 from (LBX7_takePlacer_1 13).trans (by decide +kernel)) (show cX7_takePlace.data.toList[30]? = some 0x00 from (LBX7_takePlacer_1 14).trans (by decide +kernel)) (show cX7_takePlace.data.toList[31]? = some 0x46 from (LBX7_takePlacer_1 15).trans (by decide +kernel)) (by decide)
theorem dX7_takePlace_32 : decode cX7_takePlace 32 = .ok (.ifCond .ne 5, 3) := dk_154_ (show cX7_takePlace.data.toList[32]? = some 0x9a from (LBX7_takePlacer_2 0).trans (by decide +kernel)) (show cX7_takePlace.data.toList[33]? = some 0x00 from (LBX7_takePlacer_2 1).trans (by decide +kernel)) (show cX7_takePlace.data.toList[34]? = some 0x05 from (LBX7_takePlacer_2 2).trans (by decide +kernel)) (by decide)
theorem dX7_takePlace_35 : decode cX7_takePlace 35 = .ok (.iconst 0, 1) := dk_3_ (show cX7_takePlace.data.toList[35]? = some 0x03 from (LBX7_takePlacer_2 3).trans (by decide +kernel))
theorem dX7_takePlace_36 : decode cX7_takePlace 36 = .ok (.ireturn, 1) := dk_172_ (show cX7_takePlace.data.toList[36]? = some 0xac from (LBX7_takePlacer_2 4).trans (by decide +kernel))
theorem dX7_takePlace_37 : decode cX7_takePlace 37 = .ok (.aload_n 0, 1) := dk_42_ (show cX7_takePlace.data.toList[37]? = some 0x2a from (LBX7_takePlacer_2 5).trans (by decide +kernel))
theorem dX7_takePlace_38 : decode cX7_takePlace 38 = .ok (.getfield 31, 3) := dk_180_ (show cX7_takePlace.data.toList[38]? = some 0xb4 from (LBX7_takePlacer_2 6).trans (by decide +kernel)) (show cX7_takePlace.data.toList[39]? = some 0x00 from (LBX7_takePlacer_2 7).trans (by decide +kernel)) (show cX7_takePlace.data.toList[40]? = some 0x1f from (LBX7_takePlacer_2 8).trans (by decide +kernel)) (by decide)
theorem dX7_takePlace_41 : decode cX7_takePlace 41 = .ok (.istore_n 2, 1) := dk_61_ (show cX7_takePlace.data.toList[41]? = some 0x3d from (LBX7_takePlacer_2 9).trans (by decide +kernel))
theorem dX7_takePlace_42 : decode cX7_takePlace 42 = .ok (.aload_n 1, 1) := dk_43_ (show cX7_takePlace.data.toList[42]? = some 0x2b from (LBX7_takePlacer_2 10).trans (by decide +kernel))
theorem dX7_takePlace_43 : decode cX7_takePlace 43 = .ok (.iload_n 2, 1) := dk_28_ (show cX7_takePlace.data.toList[43]? = some 0x1c from (LBX7_takePlacer_2 11).trans (by decide +kernel))
theorem dX7_takePlace_44 : decode cX7_takePlace 44 = .ok (.invokevirtual 74, 3) := dk_182_ (show cX7_takePlace.data.toList[44]? = some 0xb6 from (LBX7_takePlacer_2 12).trans (by decide +kernel)) (show cX7_takePlace.data.toList[45]? = some 0x00 from (LBX7_takePlacer_2 13).trans (by decide +kernel)) (show cX7_takePlace.data.toList[46]? = some 0x4a from (LBX7_takePlacer_2 14).trans (by decide +kernel)) (by decide)
theorem dX7_takePlace_47 : decode cX7_takePlace 47 = .ok (.pop, 1) := dk_87_ (show cX7_takePlace.data.toList[47]? = some 0x57 from (LBX7_takePlacer_2 15).trans (by decide +kernel))
theorem dX7_takePlace_48 : decode cX7_takePlace 48 = .ok (.iconst 1, 1) := dk_4_ (show cX7_takePlace.data.toList[48]? = some 0x04 from (LBX7_takePlacer_3 0).trans (by decide +kernel))
theorem dX7_takePlace_49 : decode cX7_takePlace 49 = .ok (.ireturn, 1) := dk_172_ (show cX7_takePlace.data.toList[49]? = some 0xac from (LBX7_takePlacer_3 1).trans (by decide +kernel))
def LRX7_takeWayBack_2 : List UInt8 := []
def LBX7_takeWayBack_1 : List UInt8 := [0x1d, 0x2a, 0xb4, 0x00, 0x1f, 0x2a, 0xb4, 0x00, 0x1f, 0xb6, 0x00, 0x54, 0x04, 0xac]
def LRX7_takeWayBack_1 : List UInt8 := LBX7_takeWayBack_1 ++ LRX7_takeWayBack_2
def LBX7_takeWayBack_0 : List UInt8 := [0x2a, 0x10, 0x9d, 0x11, 0x03, 0xe7, 0xb6, 0x00, 0x4e, 0x9a, 0x00, 0x05, 0x03, 0xac, 0x2b, 0x1c]
def LRX7_takeWayBack_0 : List UInt8 := LBX7_takeWayBack_0 ++ LRX7_takeWayBack_1
set_option maxRecDepth 100000 in
theorem LBX7_takeWayBack_eq : cX7_takeWayBack.data.toList = LRX7_takeWayBack_0 := by decide +kernel
theorem LBX7_takeWayBackr_0 (k : Nat) : cX7_takeWayBack.data.toList[0 + k]? = LRX7_takeWayBack_0[k]? := by rw [LBX7_takeWayBack_eq, Nat.zero_add]
theorem LBX7_takeWayBackr_1 (k : Nat) : cX7_takeWayBack.data.toList[16 + k]? = LRX7_takeWayBack_1[k]? := by
  have h := LBX7_takeWayBackr_0 (16 + k)
  rw [show 0 + (16 + k) = 16 + k by omega] at h
  rw [h]
  exact (List.getElem?_append_right (l₁ := LBX7_takeWayBack_0) (l₂ := LRX7_takeWayBack_1) (show 16 ≤ 16 + k by omega)).trans (congrArg (fun i => LRX7_takeWayBack_1[i]?) (show 16 + k - 16 = k by omega))
theorem dX7_takeWayBack_0 : decode cX7_takeWayBack 0 = .ok (.aload_n 0, 1) := dk_42_ (show cX7_takeWayBack.data.toList[0]? = some 0x2a from (LBX7_takeWayBackr_0 0).trans (by decide +kernel))
theorem dX7_takeWayBack_1 : decode cX7_takeWayBack 1 = .ok (.bipush (-99), 2) := dk_16_ (show cX7_takeWayBack.data.toList[1]? = some 0x10 from (LBX7_takeWayBackr_0 1).trans (by decide +kernel)) (show cX7_takeWayBack.data.toList[2]? = some 0x9d from (LBX7_takeWayBackr_0 2).trans (by decide +kernel)) (by decide)
theorem dX7_takeWayBack_3 : decode cX7_takeWayBack 3 = .ok (.sipush 999, 3) := dk_17_ (show cX7_takeWayBack.data.toList[3]? = some 0x11 from (LBX7_takeWayBackr_0 3).trans (by decide +kernel)) (show cX7_takeWayBack.data.toList[4]? = some 0x03 from (LBX7_takeWayBackr_0 4).trans (by decide +kernel)) (show cX7_takeWayBack.data.toList[5]? = some 0xe7 from (LBX7_takeWayBackr_0 5).trans (by decide +kernel)) (by decide)
theorem dX7_takeWayBack_6 : decode cX7_takeWayBack 6 = .ok (.invokevirtual 78, 3) := dk_182_ (show cX7_takeWayBack.data.toList[6]? = some 0xb6 from (LBX7_takeWayBackr_0 6).trans (by decide +kernel)) (show cX7_takeWayBack.data.toList[7]? = some 0x00 from (LBX7_takeWayBackr_0 7).trans (by decide +kernel)) (show cX7_takeWayBack.data.toList[8]? = some 0x4e from (LBX7_takeWayBackr_0 8).trans (by decide +kernel)) (by decide)
theorem dX7_takeWayBack_9 : decode cX7_takeWayBack 9 = .ok (.ifCond .ne 5, 3) := dk_154_ (show cX7_takeWayBack.data.toList[9]? = some 0x9a from (LBX7_takeWayBackr_0 9).trans (by decide +kernel)) (show cX7_takeWayBack.data.toList[10]? = some 0x00 from (LBX7_takeWayBackr_0 10).trans (by decide +kernel)) (show cX7_takeWayBack.data.toList[11]? = some 0x05 from (LBX7_takeWayBackr_0 11).trans (by decide +kernel)) (by decide)
theorem dX7_takeWayBack_12 : decode cX7_takeWayBack 12 = .ok (.iconst 0, 1) := dk_3_ (show cX7_takeWayBack.data.toList[12]? = some 0x03 from (LBX7_takeWayBackr_0 12).trans (by decide +kernel))
theorem dX7_takeWayBack_13 : decode cX7_takeWayBack 13 = .ok (.ireturn, 1) := dk_172_ (show cX7_takeWayBack.data.toList[13]? = some 0xac from (LBX7_takeWayBackr_0 13).trans (by decide +kernel))
theorem dX7_takeWayBack_14 : decode cX7_takeWayBack 14 = .ok (.aload_n 1, 1) := dk_43_ (show cX7_takeWayBack.data.toList[14]? = some 0x2b from (LBX7_takeWayBackr_0 14).trans (by decide +kernel))
theorem dX7_takeWayBack_15 : decode cX7_takeWayBack 15 = .ok (.iload_n 2, 1) := dk_28_ (show cX7_takeWayBack.data.toList[15]? = some 0x1c from (LBX7_takeWayBackr_0 15).trans (by decide +kernel))
theorem dX7_takeWayBack_16 : decode cX7_takeWayBack 16 = .ok (.iload_n 3, 1) := dk_29_ (show cX7_takeWayBack.data.toList[16]? = some 0x1d from (LBX7_takeWayBackr_1 0).trans (by decide +kernel))
theorem dX7_takeWayBack_17 : decode cX7_takeWayBack 17 = .ok (.aload_n 0, 1) := dk_42_ (show cX7_takeWayBack.data.toList[17]? = some 0x2a from (LBX7_takeWayBackr_1 1).trans (by decide +kernel))
theorem dX7_takeWayBack_18 : decode cX7_takeWayBack 18 = .ok (.getfield 31, 3) := dk_180_ (show cX7_takeWayBack.data.toList[18]? = some 0xb4 from (LBX7_takeWayBackr_1 2).trans (by decide +kernel)) (show cX7_takeWayBack.data.toList[19]? = some 0x00 from (LBX7_takeWayBackr_1 3).trans (by decide +kernel)) (show cX7_takeWayBack.data.toList[20]? = some 0x1f from (LBX7_takeWayBackr_1 4).trans (by decide +kernel)) (by decide)
theorem dX7_takeWayBack_21 : decode cX7_takeWayBack 21 = .ok (.aload_n 0, 1) := dk_42_ (show cX7_takeWayBack.data.toList[21]? = some 0x2a from (LBX7_takeWayBackr_1 5).trans (by decide +kernel))
theorem dX7_takeWayBack_22 : decode cX7_takeWayBack 22 = .ok (.getfield 31, 3) := dk_180_ (show cX7_takeWayBack.data.toList[22]? = some 0xb4 from (LBX7_takeWayBackr_1 6).trans (by decide +kernel)) (show cX7_takeWayBack.data.toList[23]? = some 0x00 from (LBX7_takeWayBackr_1 7).trans (by decide +kernel)) (show cX7_takeWayBack.data.toList[24]? = some 0x1f from (LBX7_takeWayBackr_1 8).trans (by decide +kernel)) (by decide)
theorem dX7_takeWayBack_25 : decode cX7_takeWayBack 25 = .ok (.invokevirtual 84, 3) := dk_182_ (show cX7_takeWayBack.data.toList[25]? = some 0xb6 from (LBX7_takeWayBackr_1 9).trans (by decide +kernel)) (show cX7_takeWayBack.data.toList[26]? = some 0x00 from (LBX7_takeWayBackr_1 10).trans (by decide +kernel)) (show cX7_takeWayBack.data.toList[27]? = some 0x54 from (LBX7_takeWayBackr_1 11).trans (by decide +kernel)) (by decide)
theorem dX7_takeWayBack_28 : decode cX7_takeWayBack 28 = .ok (.iconst 1, 1) := dk_4_ (show cX7_takeWayBack.data.toList[28]? = some 0x04 from (LBX7_takeWayBackr_1 12).trans (by decide +kernel))
theorem dX7_takeWayBack_29 : decode cX7_takeWayBack 29 = .ok (.ireturn, 1) := dk_172_ (show cX7_takeWayBack.data.toList[29]? = some 0xac from (LBX7_takeWayBackr_1 13).trans (by decide +kernel))
def LRX7_takeWay_10 : List UInt8 := []
def LBX7_takeWay_9 : List UInt8 := [0x99, 0x00, 0x07, 0x04, 0xa7, 0x00, 0x04, 0x03, 0xac]
def LRX7_takeWay_9 : List UInt8 := LBX7_takeWay_9 ++ LRX7_takeWay_10
def LBX7_takeWay_8 : List UInt8 := [0x12, 0x58, 0xb6, 0x00, 0x43, 0x99, 0x00, 0x0e, 0x2a, 0x2b, 0x15, 0x04, 0x1c, 0xb6, 0x00, 0x5a]
def LRX7_takeWay_8 : List UInt8 := LBX7_takeWay_8 ++ LRX7_takeWay_9
def LBX7_takeWay_7 : List UInt8 := [0x03, 0xac, 0x2b, 0x1c, 0x15, 0x04, 0x15, 0x05, 0x2a, 0xb4, 0x00, 0x1f, 0xb6, 0x00, 0x54, 0x2a]
def LRX7_takeWay_7 : List UInt8 := LBX7_takeWay_7 ++ LRX7_takeWay_8
def LBX7_takeWay_6 : List UInt8 := [0x43, 0x99, 0x00, 0x11, 0x2a, 0x15, 0x05, 0x11, 0x03, 0xe7, 0xb6, 0x00, 0x4e, 0x9a, 0x00, 0x05]
def LRX7_takeWay_6 : List UInt8 := LBX7_takeWay_6 ++ LRX7_takeWay_7
def LBX7_takeWay_5 : List UInt8 := [0x9a, 0x00, 0x05, 0x03, 0xac, 0x2a, 0xb4, 0x00, 0x1f, 0x36, 0x05, 0x2a, 0x12, 0x52, 0xb6, 0x00]
def LRX7_takeWay_5 : List UInt8 := LBX7_takeWay_5 ++ LRX7_takeWay_6
def LBX7_takeWay_4 : List UInt8 := [0xac, 0x2a, 0xb4, 0x00, 0x1f, 0x36, 0x04, 0x2a, 0x10, 0x9d, 0x11, 0x03, 0xe7, 0xb6, 0x00, 0x4e]
def LRX7_takeWay_4 : List UInt8 := LBX7_takeWay_4 ++ LRX7_takeWay_5
def LBX7_takeWay_3 : List UInt8 := [0x00, 0x10, 0x2a, 0x2b, 0xb4, 0x00, 0x3c, 0x04, 0x64, 0xb6, 0x00, 0x46, 0x9a, 0x00, 0x05, 0x03]
def LRX7_takeWay_3 : List UInt8 := LBX7_takeWay_3 ++ LRX7_takeWay_4
def LBX7_takeWay_2 : List UInt8 := [0x2a, 0xb4, 0x00, 0x1c, 0x1c, 0xa0, 0x00, 0x07, 0x04, 0xa7, 0x00, 0x04, 0x03, 0x3e, 0x1d, 0x9a]
def LRX7_takeWay_2 : List UInt8 := LBX7_takeWay_2 ++ LRX7_takeWay_3
def LBX7_takeWay_1 : List UInt8 := [0x05, 0x03, 0xac, 0x2a, 0xb4, 0x00, 0x1f, 0x3d, 0x2a, 0xb4, 0x00, 0x13, 0x05, 0xa0, 0x00, 0x0f]
def LRX7_takeWay_1 : List UInt8 := LBX7_takeWay_1 ++ LRX7_takeWay_2
def LBX7_takeWay_0 : List UInt8 := [0x2a, 0xb6, 0x00, 0x22, 0x2a, 0x2b, 0xb4, 0x00, 0x3c, 0x04, 0x64, 0xb6, 0x00, 0x46, 0x9a, 0x00]
def LRX7_takeWay_0 : List UInt8 := LBX7_takeWay_0 ++ LRX7_takeWay_1
set_option maxRecDepth 100000 in
theorem LBX7_takeWay_eq : cX7_takeWay.data.toList = LRX7_takeWay_0 := by decide +kernel
theorem LBX7_takeWayr_0 (k : Nat) : cX7_takeWay.data.toList[0 + k]? = LRX7_takeWay_0[k]? := by rw [LBX7_takeWay_eq, Nat.zero_add]
theorem LBX7_takeWayr_1 (k : Nat) : cX7_takeWay.data.toList[16 + k]? = LRX7_takeWay_1[k]? := by
  have h := LBX7_takeWayr_0 (16 + k)
  rw [show 0 + (16 + k) = 16 + k by omega] at h
  rw [h]
  exact (List.getElem?_append_right (l₁ := LBX7_takeWay_0) (l₂ := LRX7_takeWay_1) (show 16 ≤ 16 + k by omega)).trans (congrArg (fun i => LRX7_takeWay_1[i]?) (show 16 + k - 16 = k by omega))
theorem LBX7_takeWayr_2 (k : Nat) : cX7_takeWay.data.toList[32 + k]? = LRX7_takeWay_2[k]? := by
  have h := LBX7_takeWayr_1 (16 + k)
  rw [show 16 + (16 + k) = 32 + k by omega] at h
  rw [h]
  exact (List.getElem?_append_right (l₁ := LBX7_takeWay_1) (l₂ := LRX7_takeWay_2) (show 16 ≤ 16 + k by omega)).trans (congrArg (fun i => LRX7_takeWay_2[i]?) (show 16 + k - 16 = k by omega))
theorem LBX7_takeWayr_3 (k : Nat) : cX7_takeWay.data.toList[48 + k]? = LRX7_takeWay_3[k]? := by
  have h := LBX7_takeWayr_2 (16 + k)
  rw [show 32 + (16 + k) = 48 + k by omega] at h
  rw [h]
  exact (List.getElem?_append_right (l₁ := LBX7_takeWay_2) (l₂ := LRX7_takeWay_3) (show 16 ≤ 16 + k by omega)).trans (congrArg (fun i => LRX7_takeWay_3[i]?) (show 16 + k - 16 = k by omega))
theorem LBX7_takeWayr_4 (k : Nat) : cX7_takeWay.data.toList[64 + k]? = LRX7_takeWay_4[k]? := by
  have h := LBX7_takeWayr_3 (16 + k)
  rw [show 48 + (16 + k) = 64 + k by omega] at h
  rw [h]
  exact (List.getElem?_append_right (l₁ := LBX7_takeWay_3) (l₂ := LRX7_takeWay_4) (show 16 ≤ 16 + k by omega)).trans (congrArg (fun i => LRX7_takeWay_4[i]?) (show 16 + k - 16 = k by omega))
theorem LBX7_takeWayr_5 (k : Nat) : cX7_takeWay.data.toList[80 + k]? = LRX7_takeWay_5[k]? := by
  have h := LBX7_takeWayr_4 (16 + k)
  rw [show 64 + (16 + k) = 80 + k by omega] at h
  rw [h]
  exact (List.getElem?_append_right (l₁ := LBX7_takeWay_4) (l₂ := LRX7_takeWay_5) (show 16 ≤ 16 + k by omega)).trans (congrArg (fun i => LRX7_takeWay_5[i]?) (show 16 + k - 16 = k by omega))
theorem LBX7_takeWayr_6 (k : Nat) : cX7_takeWay.data.toList[96 + k]? = LRX7_takeWay_6[k]? := by
  have h := LBX7_takeWayr_5 (16 + k)
  rw [show 80 + (16 + k) = 96 + k by omega] at h
  rw [h]
  exact (List.getElem?_append_right (l₁ := LBX7_takeWay_5) (l₂ := LRX7_takeWay_6) (show 16 ≤ 16 + k by omega)).trans (congrArg (fun i => LRX7_takeWay_6[i]?) (show 16 + k - 16 = k by omega))
theorem LBX7_takeWayr_7 (k : Nat) : cX7_takeWay.data.toList[112 + k]? = LRX7_takeWay_7[k]? := by
  have h := LBX7_takeWayr_6 (16 + k)
  rw [show 96 + (16 + k) = 112 + k by omega] at h
  rw [h]
  exact (List.getElem?_append_right (l₁ := LBX7_takeWay_6) (l₂ := LRX7_takeWay_7) (show 16 ≤ 16 + k by omega)).trans (congrArg (fun i => LRX7_takeWay_7[i]?) (show 16 + k - 16 = k by omega))
theorem LBX7_takeWayr_8 (k : Nat) : cX7_takeWay.data.toList[128 + k]? = LRX7_takeWay_8[k]? := by
  have h := LBX7_takeWayr_7 (16 + k)
  rw [show 112 + (16 + k) = 128 + k by omega] at h
  rw [h]
  exact (List.getElem?_append_right (l₁ := LBX7_takeWay_7) (l₂ := LRX7_takeWay_8) (show 16 ≤ 16 + k by omega)).trans (congrArg (fun i => LRX7_takeWay_8[i]?) (show 16 + k - 16 = k by omega))
theorem LBX7_takeWayr_9 (k : Nat) : cX7_takeWay.data.toList[144 + k]? = LRX7_takeWay_9[k]? := by
  have h := LBX7_takeWayr_8 (16 + k)
  rw [show 128 + (16 + k) = 144 + k by omega] at h
  rw [h]
  exact (List.getElem?_append_right (l₁ := LBX7_takeWay_8) (l₂ := LRX7_takeWay_9) (show 16 ≤ 16 + k by omega)).trans (congrArg (fun i => LRX7_takeWay_9[i]?) (show 16 + k - 16 = k by omega))
theorem dX7_takeWay_0 : decode cX7_takeWay 0 = .ok (.aload_n 0, 1) := dk_42_ (show cX7_takeWay.data.toList[0]? = some 0x2a from (LBX7_takeWayr_0 0).trans (by decide +kernel))
theorem dX7_takeWay_1 : decode cX7_takeWay 1 = .ok (.invokevirtual 34, 3) := dk_182_ (show cX7_takeWay.data.toList[1]? = some 0xb6 from (LBX7_takeWayr_0 1).trans (by decide +kernel)) (show cX7_takeWay.data.toList[2]? = some 0x00 from (LBX7_takeWayr_0 2).trans (by decide +kernel)) (show cX7_takeWay.data.toList[3]? = some 0x22 from (LBX7_takeWayr_0 3).trans (by decide +kernel)) (by decide)
theorem dX7_takeWay_4 : decode cX7_takeWay 4 = .ok (.aload_n 0, 1) := dk_42_ (show cX7_takeWay.data.toList[4]? = some 0x2a from (LBX7_takeWayr_0 4).trans (by decide +kernel))
theorem dX7_takeWay_5 : decode cX7_takeWay 5 = .ok (.aload_n 1, 1) := dk_43_ (show cX7_takeWay.data.toList[5]? = some 0x2b from (LBX7_takeWayr_0 5).trans (by decide +kernel))
theorem dX7_takeWay_6 : decode cX7_takeWay 6 = .ok (.getfield 60, 3) := dk_180_ (show cX7_takeWay.data.toList[6]? = some 0xb4 from (LBX7_takeWayr_0 6).trans (by decide +kernel)) (show cX7_takeWay.data.toList[7]? = some 0x00 from (LBX7_takeWayr_0 7).trans (by decide +kernel)) (show cX7_takeWay.data.toList[8]? = some 0x3c from (LBX7_takeWayr_0 8).trans (by decide +kernel)) (by decide)
theorem dX7_takeWay_9 : decode cX7_takeWay 9 = .ok (.iconst 1, 1) := dk_4_ (show cX7_takeWay.data.toList[9]? = some 0x04 from (LBX7_takeWayr_0 9).trans (by decide +kernel))
theorem dX7_takeWay_10 : decode cX7_takeWay 10 = .ok (.isub, 1) := dk_100_ (show cX7_takeWay.data.toList[10]? = some 0x64 from (LBX7_takeWayr_0 10).trans (by decide +kernel))
theorem dX7_takeWay_11 : decode cX7_takeWay 11 = .ok (.invokevirtual 70, 3) := dk_182_ (show cX7_takeWay.data.toList[11]? = some 0xb6 from (LBX7_takeWayr_0 11).trans (by decide +kernel)) (show cX7_takeWay.data.toList[12]? = some 0x00 from (LBX7_takeWayr_0 12).trans (by decide +kernel)) (show cX7_takeWay.data.toList[13]? = some 0x46 from (LBX7_takeWayr_0 13).trans (by decide +kernel)) (by decide)
theorem dX7_takeWay_14 : decode cX7_takeWay 14 = .ok (.ifCond .ne 5, 3) := dk_154_ (show cX7_takeWay.data.toList[14]? = some 0x9a from (LBX7_takeWayr_0 14).trans (by decide +kernel)) (show cX7_takeWay.data.toList[15]? = some 0x00 from (LBX7_takeWayr_0 15).trans (by decide +kernel)) (show cX7_takeWay.data.toList[16]? = some 0x05 from (LBX7_takeWayr_1 0).trans (by decide +kernel)) (by decide)
theorem dX7_takeWay_17 : decode cX7_takeWay 17 = .ok (.iconst 0, 1) := dk_3_ (show cX7_takeWay.data.toList[17]? = some 0x03 from (LBX7_takeWayr_1 1).trans (by decide +kernel))
theorem dX7_takeWay_18 : decode cX7_takeWay 18 = .ok (.ireturn, 1) := dk_172_ (show cX7_takeWay.data.toList[18]? = some 0xac from (LBX7_takeWayr_1 2).trans (by decide +kernel))
theorem dX7_takeWay_19 : decode cX7_takeWay 19 = .ok (.aload_n 0, 1) := dk_42_ (show cX7_takeWay.data.toList[19]? = some 0x2a from (LBX7_takeWayr_1 3).trans (by decide +kernel))
theorem dX7_takeWay_20 : decode cX7_takeWay 20 = .ok (.getfield 31, 3) := dk_180_ (show cX7_takeWay.data.toList[20]? = some 0xb4 from (LBX7_takeWayr_1 4).trans (by decide +kernel)) (show cX7_takeWay.data.toList[21]? = some 0x00 from (LBX7_takeWayr_1 5).trans (by decide +kernel)) (show cX7_takeWay.data.toList[22]? = some 0x1f from (LBX7_takeWayr_1 6).trans (by decide +kernel)) (by decide)
theorem dX7_takeWay_23 : decode cX7_takeWay 23 = .ok (.istore_n 2, 1) := dk_61_ (show cX7_takeWay.data.toList[23]? = some 0x3d from (LBX7_takeWayr_1 7).trans (by decide +kernel))
theorem dX7_takeWay_24 : decode cX7_takeWay 24 = .ok (.aload_n 0, 1) := dk_42_ (show cX7_takeWay.data.toList[24]? = some 0x2a from (LBX7_takeWayr_1 8).trans (by decide +kernel))
theorem dX7_takeWay_25 : decode cX7_takeWay 25 = .ok (.getfield 19, 3) := dk_180_ (show cX7_takeWay.data.toList[25]? = some 0xb4 from (LBX7_takeWayr_1 9).trans (by decide +kernel)) (show cX7_takeWay.data.toList[26]? = some 0x00 from (LBX7_takeWayr_1 10).trans (by decide +kernel)) (show cX7_takeWay.data.toList[27]? = some 0x13 from (LBX7_takeWayr_1 11).trans (by decide +kernel)) (by decide)
theorem dX7_takeWay_28 : decode cX7_takeWay 28 = .ok (.iconst 2, 1) := dk_5_ (show cX7_takeWay.data.toList[28]? = some 0x05 from (LBX7_takeWayr_1 12).trans (by decide +kernel))
theorem dX7_takeWay_29 : decode cX7_takeWay 29 = .ok (.if_icmp .ne 15, 3) := dk_160_ (show cX7_takeWay.data.toList[29]? = some 0xa0 from (LBX7_takeWayr_1 13).trans (by decide +kernel)) (show cX7_takeWay.data.toList[30]? = some 0x00 from (LBX7_takeWayr_1 14).trans (by decide +kernel)) (show cX7_takeWay.data.toList[31]? = some 0x0f from (LBX7_takeWayr_1 15).trans (by decide +kernel)) (by decide)
theorem dX7_takeWay_32 : decode cX7_takeWay 32 = .ok (.aload_n 0, 1) := dk_42_ (show cX7_takeWay.data.toList[32]? = some 0x2a from (LBX7_takeWayr_2 0).trans (by decide +kernel))
theorem dX7_takeWay_33 : decode cX7_takeWay 33 = .ok (.getfield 28, 3) := dk_180_ (show cX7_takeWay.data.toList[33]? = some 0xb4 from (LBX7_takeWayr_2 1).trans (by decide +kernel)) (show cX7_takeWay.data.toList[34]? = some 0x00 from (LBX7_takeWayr_2 2).trans (by decide +kernel)) (show cX7_takeWay.data.toList[35]? = some 0x1c from (LBX7_takeWayr_2 3).trans (by decide +kernel)) (by decide)
theorem dX7_takeWay_36 : decode cX7_takeWay 36 = .ok (.iload_n 2, 1) := dk_28_ (show cX7_takeWay.data.toList[36]? = some 0x1c from (LBX7_takeWayr_2 4).trans (by decide +kernel))
theorem dX7_takeWay_37 : decode cX7_takeWay 37 = .ok (.if_icmp .ne 7, 3) := dk_160_ (show cX7_takeWay.data.toList[37]? = some 0xa0 from (LBX7_takeWayr_2 5).trans (by decide +kernel)) (show cX7_takeWay.data.toList[38]? = some 0x00 from (LBX7_takeWayr_2 6).trans (by decide +kernel)) (show cX7_takeWay.data.toList[39]? = some 0x07 from (LBX7_takeWayr_2 7).trans (by decide +kernel)) (by decide)
theorem dX7_takeWay_40 : decode cX7_takeWay 40 = .ok (.iconst 1, 1) := dk_4_ (show cX7_takeWay.data.toList[40]? = some 0x04 from (LBX7_takeWayr_2 8).trans (by decide +kernel))
theorem dX7_takeWay_41 : decode cX7_takeWay 41 = .ok (.goto 4, 3) := dk_167_ (show cX7_takeWay.data.toList[41]? = some 0xa7 from (LBX7_takeWayr_2 9).trans (by decide +kernel)) (show cX7_takeWay.data.toList[42]? = some 0x00 from (LBX7_takeWayr_2 10).trans (by decide +kernel)) (show cX7_takeWay.data.toList[43]? = some 0x04 from (LBX7_takeWayr_2 11).trans (by decide +kernel)) (by decide)
theorem dX7_takeWay_44 : decode cX7_takeWay 44 = .ok (.iconst 0, 1) := dk_3_ (show cX7_takeWay.data.toList[44]? = some 0x03 from (LBX7_takeWayr_2 12).trans (by decide +kernel))
theorem dX7_takeWay_45 : decode cX7_takeWay 45 = .ok (.istore_n 3, 1) := dk_62_ (show cX7_takeWay.data.toList[45]? = some 0x3e from (LBX7_takeWayr_2 13).trans (by decide +kernel))
theorem dX7_takeWay_46 : decode cX7_takeWay 46 = .ok (.iload_n 3, 1) := dk_29_ (show cX7_takeWay.data.toList[46]? = some 0x1d from (LBX7_takeWayr_2 14).trans (by decide +kernel))
theorem dX7_takeWay_47 : decode cX7_takeWay 47 = .ok (.ifCond .ne 16, 3) := dk_154_ (show cX7_takeWay.data.toList[47]? = some 0x9a from (LBX7_takeWayr_2 15).trans (by decide +kernel)) (show cX7_takeWay.data.toList[48]? = some 0x00 from (LBX7_takeWayr_3 0).trans (by decide +kernel)) (show cX7_takeWay.data.toList[49]? = some 0x10 from (LBX7_takeWayr_3 1).trans (by decide +kernel)) (by decide)
theorem dX7_takeWay_50 : decode cX7_takeWay 50 = .ok (.aload_n 0, 1) := dk_42_ (show cX7_takeWay.data.toList[50]? = some 0x2a from (LBX7_takeWayr_3 2).trans (by decide +kernel))
theorem dX7_takeWay_51 : decode cX7_takeWay 51 = .ok (.aload_n 1, 1) := dk_43_ (show cX7_takeWay.data.toList[51]? = some 0x2b from (LBX7_takeWayr_3 3).trans (by decide +kernel))
theorem dX7_takeWay_52 : decode cX7_takeWay 52 = .ok (.getfield 60, 3) := dk_180_ (show cX7_takeWay.data.toList[52]? = some 0xb4 from (LBX7_takeWayr_3 4).trans (by decide +kernel)) (show cX7_takeWay.data.toList[53]? = some 0x00 from (LBX7_takeWayr_3 5).trans (by decide +kernel)) (show cX7_takeWay.data.toList[54]? = some 0x3c from (LBX7_takeWayr_3 6).trans (by decide +kernel)) (by decide)
theorem dX7_takeWay_55 : decode cX7_takeWay 55 = .ok (.iconst 1, 1) := dk_4_ (show cX7_takeWay.data.toList[55]? = some 0x04 from (LBX7_takeWayr_3 7).trans (by decide +kernel))
theorem dX7_takeWay_56 : decode cX7_takeWay 56 = .ok (.isub, 1) := dk_100_ (show cX7_takeWay.data.toList[56]? = some 0x64 from (LBX7_takeWayr_3 8).trans (by decide +kernel))
theorem dX7_takeWay_57 : decode cX7_takeWay 57 = .ok (.invokevirtual 70, 3) := dk_182_ (show cX7_takeWay.data.toList[57]? = some 0xb6 from (LBX7_takeWayr_3 9).trans (by decide +kernel)) (show cX7_takeWay.data.toList[58]? = some 0x00 from (LBX7_takeWayr_3 10).trans (by decide +kernel)) (show cX7_takeWay.data.toList[59]? = some 0x46 from (LBX7_takeWayr_3 11).trans (by decide +kernel)) (by decide)
theorem dX7_takeWay_60 : decode cX7_takeWay 60 = .ok (.ifCond .ne 5, 3) := dk_154_ (show cX7_takeWay.data.toList[60]? = some 0x9a from (LBX7_takeWayr_3 12).trans (by decide +kernel)) (show cX7_takeWay.data.toList[61]? = some 0x00 from (LBX7_takeWayr_3 13).trans (by decide +kernel)) (show cX7_takeWay.data.toList[62]? = some 0x05 from (LBX7_takeWayr_3 14).trans (by decide +kernel)) (by decide)
theorem dX7_takeWay_63 : decode cX7_takeWay 63 = .ok (.iconst 0, 1) := dk_3_ (show cX7_takeWay.data.toList[63]? = some 0x03 from (LBX7_takeWayr_3 15).trans (by decide +kernel))
theorem dX7_takeWay_64 : decode cX7_takeWay 64 = .ok (.ireturn, 1) := dk_172_ (show cX7_takeWay.data.toList[64]? = some 0xac from (LBX7_takeWayr_4 0).trans (by decide +kernel))
theorem dX7_takeWay_65 : decode cX7_takeWay 65 = .ok (.aload_n 0, 1) := dk_42_ (show cX7_takeWay.data.toList[65]? = some 0x2a from (LBX7_takeWayr_4 1).trans (by decide +kernel))
theorem dX7_takeWay_66 : decode cX7_takeWay 66 = .ok (.getfield 31, 3) := dk_180_ (show cX7_takeWay.data.toList[66]? = some 0xb4 from (LBX7_takeWayr_4 2).trans (by decide +kernel)) (show cX7_takeWay.data.toList[67]? = some 0x00 from (LBX7_takeWayr_4 3).trans (by decide +kernel)) (show cX7_takeWay.data.toList[68]? = some 0x1f from (LBX7_takeWayr_4 4).trans (by decide +kernel)) (by decide)
theorem dX7_takeWay_69 : decode cX7_takeWay 69 = .ok (.istore 4, 2) := dk_54_ (show cX7_takeWay.data.toList[69]? = some 0x36 from (LBX7_takeWayr_4 5).trans (by decide +kernel)) (show cX7_takeWay.data.toList[70]? = some 0x04 from (LBX7_takeWayr_4 6).trans (by decide +kernel)) (by decide)
theorem dX7_takeWay_71 : decode cX7_takeWay 71 = .ok (.aload_n 0, 1) := dk_42_ (show cX7_takeWay.data.toList[71]? = some 0x2a from (LBX7_takeWayr_4 7).trans (by decide +kernel))
theorem dX7_takeWay_72 : decode cX7_takeWay 72 = .ok (.bipush (-99), 2) := dk_16_ (show cX7_takeWay.data.toList[72]? = some 0x10 from (LBX7_takeWayr_4 8).trans (by decide +kernel)) (show cX7_takeWay.data.toList[73]? = some 0x9d from (LBX7_takeWayr_4 9).trans (by decide +kernel)) (by decide)
theorem dX7_takeWay_74 : decode cX7_takeWay 74 = .ok (.sipush 999, 3) := dk_17_ (show cX7_takeWay.data.toList[74]? = some 0x11 from (LBX7_takeWayr_4 10).trans (by decide +kernel)) (show cX7_takeWay.data.toList[75]? = some 0x03 from (LBX7_takeWayr_4 11).trans (by decide +kernel)) (show cX7_takeWay.data.toList[76]? = some 0xe7 from (LBX7_takeWayr_4 12).trans (by decide +kernel)) (by decide)
theorem dX7_takeWay_77 : decode cX7_takeWay 77 = .ok (.invokevirtual 78, 3) := dk_182_ (show cX7_takeWay.data.toList[77]? = some 0xb6 from (LBX7_takeWayr_4 13).trans (by decide +kernel)) (show cX7_takeWay.data.toList[78]? = some 0x00 from (LBX7_takeWayr_4 14).trans (by decide +kernel)) (show cX7_takeWay.data.toList[79]? = some 0x4e from (LBX7_takeWayr_4 15).trans (by decide +kernel)) (by decide)
theorem dX7_takeWay_80 : decode cX7_takeWay 80 = .ok (.ifCond .ne 5, 3) := dk_154_ (show cX7_takeWay.data.toList[80]? = some 0x9a from (LBX7_takeWayr_5 0).trans (by decide +kernel)) (show cX7_takeWay.data.toList[81]? = some 0x00 from (LBX7_takeWayr_5 1).trans (by decide +kernel)) (show cX7_takeWay.data.toList[82]? = some 0x05 from (LBX7_takeWayr_5 2).trans (by decide +kernel)) (by decide)
theorem dX7_takeWay_83 : decode cX7_takeWay 83 = .ok (.iconst 0, 1) := dk_3_ (show cX7_takeWay.data.toList[83]? = some 0x03 from (LBX7_takeWayr_5 3).trans (by decide +kernel))
theorem dX7_takeWay_84 : decode cX7_takeWay 84 = .ok (.ireturn, 1) := dk_172_ (show cX7_takeWay.data.toList[84]? = some 0xac from (LBX7_takeWayr_5 4).trans (by decide +kernel))
theorem dX7_takeWay_85 : decode cX7_takeWay 85 = .ok (.aload_n 0, 1) := dk_42_ (show cX7_takeWay.data.toList[85]? = some 0x2a from (LBX7_takeWayr_5 5).trans (by decide +kernel))
theorem dX7_takeWay_86 : decode cX7_takeWay 86 = .ok (.getfield 31, 3) := dk_180_ (show cX7_takeWay.data.toList[86]? = some 0xb4 from (LBX7_takeWayr_5 6).trans (by decide +kernel)) (show cX7_takeWay.data.toList[87]? = some 0x00 from (LBX7_takeWayr_5 7).trans (by decide +kernel)) (show cX7_takeWay.data.toList[88]? = some 0x1f from (LBX7_takeWayr_5 8).trans (by decide +kernel)) (by decide)
theorem dX7_takeWay_89 : decode cX7_takeWay 89 = .ok (.istore 5, 2) := dk_54_ (show cX7_takeWay.data.toList[89]? = some 0x36 from (LBX7_takeWayr_5 9).trans (by decide +kernel)) (show cX7_takeWay.data.toList[90]? = some 0x05 from (LBX7_takeWayr_5 10).trans (by decide +kernel)) (by decide)
theorem dX7_takeWay_91 : decode cX7_takeWay 91 = .ok (.aload_n 0, 1) := dk_42_ (show cX7_takeWay.data.toList[91]? = some 0x2a from (LBX7_takeWayr_5 11).trans (by decide +kernel))
theorem dX7_takeWay_92 : decode cX7_takeWay 92 = .ok (.ldc 82, 2) := dk_18_ (show cX7_takeWay.data.toList[92]? = some 0x12 from (LBX7_takeWayr_5 12).trans (by decide +kernel)) (show cX7_takeWay.data.toList[93]? = some 0x52 from (LBX7_takeWayr_5 13).trans (by decide +kernel)) (by decide)
theorem dX7_takeWay_94 : decode cX7_takeWay 94 = .ok (.invokevirtual 67, 3) := dk_182_ (show cX7_takeWay.data.toList[94]? = some 0xb6 from (LBX7_takeWayr_5 14).trans (by decide +kernel)) (show cX7_takeWay.data.toList[95]? = some 0x00 from (LBX7_takeWayr_5 15).trans (by decide +kernel)) (show cX7_takeWay.data.toList[96]? = some 0x43 from (LBX7_takeWayr_6 0).trans (by decide +kernel)) (by decide)
theorem dX7_takeWay_97 : decode cX7_takeWay 97 = .ok (.ifCond .eq 17, 3) := dk_153_ (show cX7_takeWay.data.toList[97]? = some 0x99 from (LBX7_takeWayr_6 1).trans (by decide +kernel)) (show cX7_takeWay.data.toList[98]? = some 0x00 from (LBX7_takeWayr_6 2).trans (by decide +kernel)) (show cX7_takeWay.data.toList[99]? = some 0x11 from (LBX7_takeWayr_6 3).trans (by decide +kernel)) (by decide)
theorem dX7_takeWay_100 : decode cX7_takeWay 100 = .ok (.aload_n 0, 1) := dk_42_ (show cX7_takeWay.data.toList[100]? = some 0x2a from (LBX7_takeWayr_6 4).trans (by decide +kernel))
theorem dX7_takeWay_101 : decode cX7_takeWay 101 = .ok (.iload 5, 2) := dk_21_ (show cX7_takeWay.data.toList[101]? = some 0x15 from (LBX7_takeWayr_6 5).trans (by decide +kernel)) (show cX7_takeWay.data.toList[102]? = some 0x05 from (LBX7_takeWayr_6 6).trans (by decide +kernel)) (by decide)
theorem dX7_takeWay_103 : decode cX7_takeWay 103 = .ok (.sipush 999, 3) := dk_17_ (show cX7_takeWay.data.toList[103]? = some 0x11 from (LBX7_takeWayr_6 7).trans (by decide +kernel)) (show cX7_takeWay.data.toList[104]? = some 0x03 from (LBX7_takeWayr_6 8).trans (by decide +kernel)) (show cX7_takeWay.data.toList[105]? = some 0xe7 from (LBX7_takeWayr_6 9).trans (by decide +kernel)) (by decide)
theorem dX7_takeWay_106 : decode cX7_takeWay 106 = .ok (.invokevirtual 78, 3) := dk_182_ (show cX7_takeWay.data.toList[106]? = some 0xb6 from (LBX7_takeWayr_6 10).trans (by decide +kernel)) (show cX7_takeWay.data.toList[107]? = some 0x00 from (LBX7_takeWayr_6 11).trans (by decide +kernel)) (show cX7_takeWay.data.toList[108]? = some 0x4e from (LBX7_takeWayr_6 12).trans (by decide +kernel)) (by decide)
theorem dX7_takeWay_109 : decode cX7_takeWay 109 = .ok (.ifCond .ne 5, 3) := dk_154_ (show cX7_takeWay.data.toList[109]? = some 0x9a from (LBX7_takeWayr_6 13).trans (by decide +kernel)) (show cX7_takeWay.data.toList[110]? = some 0x00 from (LBX7_takeWayr_6 14).trans (by decide +kernel)) (show cX7_takeWay.data.toList[111]? = some 0x05 from (LBX7_takeWayr_6 15).trans (by decide +kernel)) (by decide)
theorem dX7_takeWay_112 : decode cX7_takeWay 112 = .ok (.iconst 0, 1) := dk_3_ (show cX7_takeWay.data.toList[112]? = some 0x03 from (LBX7_takeWayr_7 0).trans (by decide +kernel))
theorem dX7_takeWay_113 : decode cX7_takeWay 113 = .ok (.ireturn, 1) := dk_172_ (show cX7_takeWay.data.toList[113]? = some 0xac from (LBX7_takeWayr_7 1).trans (by decide +kernel))
theorem dX7_takeWay_114 : decode cX7_takeWay 114 = .ok (.aload_n 1, 1) := dk_43_ (show cX7_takeWay.data.toList[114]? = some 0x2b from (LBX7_takeWayr_7 2).trans (by decide +kernel))
theorem dX7_takeWay_115 : decode cX7_takeWay 115 = .ok (.iload_n 2, 1) := dk_28_ (show cX7_takeWay.data.toList[115]? = some 0x1c from (LBX7_takeWayr_7 3).trans (by decide +kernel))
theorem dX7_takeWay_116 : decode cX7_takeWay 116 = .ok (.iload 4, 2) := dk_21_ (show cX7_takeWay.data.toList[116]? = some 0x15 from (LBX7_takeWayr_7 4).trans (by decide +kernel)) (show cX7_takeWay.data.toList[117]? = some 0x04 from (LBX7_takeWayr_7 5).trans (by decide +kernel)) (by decide)
theorem dX7_takeWay_118 : decode cX7_takeWay 118 = .ok (.iload 5, 2) := dk_21_ (show cX7_takeWay.data.toList[118]? = some 0x15 from (LBX7_takeWayr_7 6).trans (by decide +kernel)) (show cX7_takeWay.data.toList[119]? = some 0x05 from (LBX7_takeWayr_7 7).trans (by decide +kernel)) (by decide)
theorem dX7_takeWay_120 : decode cX7_takeWay 120 = .ok (.aload_n 0, 1) := dk_42_ (show cX7_takeWay.data.toList[120]? = some 0x2a from (LBX7_takeWayr_7 8).trans (by decide +kernel))
theorem dX7_takeWay_121 : decode cX7_takeWay 121 = .ok (.getfield 31, 3) := dk_180_ (show cX7_takeWay.data.toList[121]? = some 0xb4 from (LBX7_takeWayr_7 9).trans (by decide +kernel)) (show cX7_takeWay.data.toList[122]? = some 0x00 from (LBX7_takeWayr_7 10).trans (by decide +kernel)) (show cX7_takeWay.data.toList[123]? = some 0x1f from (LBX7_takeWayr_7 11).trans (by decide +kernel)) (by decide)
theorem dX7_takeWay_124 : decode cX7_takeWay 124 = .ok (.invokevirtual 84, 3) := dk_182_ (show cX7_takeWay.data.toList[124]? = some 0xb6 from (LBX7_takeWayr_7 12).trans (by decide +kernel)) (show cX7_takeWay.data.toList[125]? = some 0x00 from (LBX7_takeWayr_7 13).trans (by decide +kernel)) (show cX7_takeWay.data.toList[126]? = some 0x54 from (LBX7_takeWayr_7 14).trans (by decide +kernel)) (by decide)
theorem dX7_takeWay_127 : decode cX7_takeWay 127 = .ok (.aload_n 0, 1) := dk_42_ (show cX7_takeWay.data.toList[127]? = some 0x2a from (LBX7_takeWayr_7 15).trans (by decide +kernel))
theorem dX7_takeWay_128 : decode cX7_takeWay 128 = .ok (.ldc 88, 2) := dk_18_ (show cX7_takeWay.data.toList[128]? = some 0x12 from (LBX7_takeWayr_8 0).trans (by decide +kernel)) (show cX7_takeWay.data.toList[129]? = some 0x58 from (LBX7_takeWayr_8 1).trans (by decide +kernel)) (by decide)
theorem dX7_takeWay_130 : decode cX7_takeWay 130 = .ok (.invokevirtual 67, 3) := dk_182_ (show cX7_takeWay.data.toList[130]? = some 0xb6 from (LBX7_takeWayr_8 2).trans (by decide +kernel)) (show cX7_takeWay.data.toList[131]? = some 0x00 from (LBX7_takeWayr_8 3).trans (by decide +kernel)) (show cX7_takeWay.data.toList[132]? = some 0x43 from (LBX7_takeWayr_8 4).trans (by decide +kernel)) (by decide)
theorem dX7_takeWay_133 : decode cX7_takeWay 133 = .ok (.ifCond .eq 14, 3) := dk_153_ (show cX7_takeWay.data.toList[133]? = some 0x99 from (LBX7_takeWayr_8 5).trans (by decide +kernel)) (show cX7_takeWay.data.toList[134]? = some 0x00 from (LBX7_takeWayr_8 6).trans (by decide +kernel)) (show cX7_takeWay.data.toList[135]? = some 0x0e from (LBX7_takeWayr_8 7).trans (by decide +kernel)) (by decide)
theorem dX7_takeWay_136 : decode cX7_takeWay 136 = .ok (.aload_n 0, 1) := dk_42_ (show cX7_takeWay.data.toList[136]? = some 0x2a from (LBX7_takeWayr_8 8).trans (by decide +kernel))
theorem dX7_takeWay_137 : decode cX7_takeWay 137 = .ok (.aload_n 1, 1) := dk_43_ (show cX7_takeWay.data.toList[137]? = some 0x2b from (LBX7_takeWayr_8 9).trans (by decide +kernel))
theorem dX7_takeWay_138 : decode cX7_takeWay 138 = .ok (.iload 4, 2) := dk_21_ (show cX7_takeWay.data.toList[138]? = some 0x15 from (LBX7_takeWayr_8 10).trans (by decide +kernel)) (show cX7_takeWay.data.toList[139]? = some 0x04 from (LBX7_takeWayr_8 11).trans (by decide +kernel)) (by decide)
theorem dX7_takeWay_140 : decode cX7_takeWay 140 = .ok (.iload_n 2, 1) := dk_28_ (show cX7_takeWay.data.toList[140]? = some 0x1c from (LBX7_takeWayr_8 12).trans (by decide +kernel))
theorem dX7_takeWay_141 : decode cX7_takeWay 141 = .ok (.invokevirtual 90, 3) := dk_182_ (show cX7_takeWay.data.toList[141]? = some 0xb6 from (LBX7_takeWayr_8 13).trans (by decide +kernel)) (show cX7_takeWay.data.toList[142]? = some 0x00 from (LBX7_takeWayr_8 14).trans (by decide +kernel)) (show cX7_takeWay.data.toList[143]? = some 0x5a from (LBX7_takeWayr_8 15).trans (by decide +kernel)) (by decide)
theorem dX7_takeWay_144 : decode cX7_takeWay 144 = .ok (.ifCond .eq 7, 3) := dk_153_ (show cX7_takeWay.data.toList[144]? = some 0x99 from (LBX7_takeWayr_9 0).trans (by decide +kernel)) (show cX7_takeWay.data.toList[145]? = some 0x00 from (LBX7_takeWayr_9 1).trans (by decide +kernel)) (show cX7_takeWay.data.toList[146]? = some 0x07 from (LBX7_takeWayr_9 2).trans (by decide +kernel)) (by decide)
theorem dX7_takeWay_147 : decode cX7_takeWay 147 = .ok (.iconst 1, 1) := dk_4_ (show cX7_takeWay.data.toList[147]? = some 0x04 from (LBX7_takeWayr_9 3).trans (by decide +kernel))
theorem dX7_takeWay_148 : decode cX7_takeWay 148 = .ok (.goto 4, 3) := dk_167_ (show cX7_takeWay.data.toList[148]? = some 0xa7 from (LBX7_takeWayr_9 4).trans (by decide +kernel)) (show cX7_takeWay.data.toList[149]? = some 0x00 from (LBX7_takeWayr_9 5).trans (by decide +kernel)) (show cX7_takeWay.data.toList[150]? = some 0x04 from (LBX7_takeWayr_9 6).trans (by decide +kernel)) (by decide)
theorem dX7_takeWay_151 : decode cX7_takeWay 151 = .ok (.iconst 0, 1) := dk_3_ (show cX7_takeWay.data.toList[151]? = some 0x03 from (LBX7_takeWayr_9 7).trans (by decide +kernel))
theorem dX7_takeWay_152 : decode cX7_takeWay 152 = .ok (.ireturn, 1) := dk_172_ (show cX7_takeWay.data.toList[152]? = some 0xac from (LBX7_takeWayr_9 8).trans (by decide +kernel))
def LRX7_takeSlack_2 : List UInt8 := []
def LBX7_takeSlack_1 : List UInt8 := [0x2a, 0xb4, 0x00, 0x1f, 0x4f, 0x04, 0xac]
def LRX7_takeSlack_1 : List UInt8 := LBX7_takeSlack_1 ++ LRX7_takeSlack_2
def LBX7_takeSlack_0 : List UInt8 := [0x2a, 0x10, 0x63, 0xb6, 0x00, 0x46, 0x9a, 0x00, 0x05, 0x03, 0xac, 0x2b, 0xb4, 0x00, 0x81, 0x1c]
def LRX7_takeSlack_0 : List UInt8 := LBX7_takeSlack_0 ++ LRX7_takeSlack_1
set_option maxRecDepth 100000 in
theorem LBX7_takeSlack_eq : cX7_takeSlack.data.toList = LRX7_takeSlack_0 := by decide +kernel
theorem LBX7_takeSlackr_0 (k : Nat) : cX7_takeSlack.data.toList[0 + k]? = LRX7_takeSlack_0[k]? := by rw [LBX7_takeSlack_eq, Nat.zero_add]
theorem LBX7_takeSlackr_1 (k : Nat) : cX7_takeSlack.data.toList[16 + k]? = LRX7_takeSlack_1[k]? := by
  have h := LBX7_takeSlackr_0 (16 + k)
  rw [show 0 + (16 + k) = 16 + k by omega] at h
  rw [h]
  exact (List.getElem?_append_right (l₁ := LBX7_takeSlack_0) (l₂ := LRX7_takeSlack_1) (show 16 ≤ 16 + k by omega)).trans (congrArg (fun i => LRX7_takeSlack_1[i]?) (show 16 + k - 16 = k by omega))
theorem dX7_takeSlack_0 : decode cX7_takeSlack 0 = .ok (.aload_n 0, 1) := dk_42_ (show cX7_takeSlack.data.toList[0]? = some 0x2a from (LBX7_takeSlackr_0 0).trans (by decide +kernel))
theorem dX7_takeSlack_1 : decode cX7_takeSlack 1 = .ok (.bipush 99, 2) := dk_16_ (show cX7_takeSlack.data.toList[1]? = some 0x10 from (LBX7_takeSlackr_0 1).trans (by decide +kernel)) (show cX7_takeSlack.data.toList[2]? = some 0x63 from (LBX7_takeSlackr_0 2).trans (by decide +kernel)) (by decide)
theorem dX7_takeSlack_3 : decode cX7_takeSlack 3 = .ok (.invokevirtual 70, 3) := dk_182_ (show cX7_takeSlack.data.toList[3]? = some 0xb6 from (LBX7_takeSlackr_0 3).trans (by decide +kernel)) (show cX7_takeSlack.data.toList[4]? = some 0x00 from (LBX7_takeSlackr_0 4).trans (by decide +kernel)) (show cX7_takeSlack.data.toList[5]? = some 0x46 from (LBX7_takeSlackr_0 5).trans (by decide +kernel)) (by decide)
theorem dX7_takeSlack_6 : decode cX7_takeSlack 6 = .ok (.ifCond .ne 5, 3) := dk_154_ (show cX7_takeSlack.data.toList[6]? = some 0x9a from (LBX7_takeSlackr_0 6).trans (by decide +kernel)) (show cX7_takeSlack.data.toList[7]? = some 0x00 from (LBX7_takeSlackr_0 7).trans (by decide +kernel)) (show cX7_takeSlack.data.toList[8]? = some 0x05 from (LBX7_takeSlackr_0 8).trans (by decide +kernel)) (by decide)
theorem dX7_takeSlack_9 : decode cX7_takeSlack 9 = .ok (.iconst 0, 1) := dk_3_ (show cX7_takeSlack.data.toList[9]? = some 0x03 from (LBX7_takeSlackr_0 9).trans (by decide +kernel))
theorem dX7_takeSlack_10 : decode cX7_takeSlack 10 = .ok (.ireturn, 1) := dk_172_ (show cX7_takeSlack.data.toList[10]? = some 0xac from (LBX7_takeSlackr_0 10).trans (by decide +kernel))
theorem dX7_takeSlack_11 : decode cX7_takeSlack 11 = .ok (.aload_n 1, 1) := dk_43_ (show cX7_takeSlack.data.toList[11]? = some 0x2b from (LBX7_takeSlackr_0 11).trans (by decide +kernel))
theorem dX7_takeSlack_12 : decode cX7_takeSlack 12 = .ok (.getfield 129, 3) := dk_180_ (show cX7_takeSlack.data.toList[12]? = some 0xb4 from (LBX7_takeSlackr_0 12).trans (by decide +kernel)) (show cX7_takeSlack.data.toList[13]? = some 0x00 from (LBX7_takeSlackr_0 13).trans (by decide +kernel)) (show cX7_takeSlack.data.toList[14]? = some 0x81 from (LBX7_takeSlackr_0 14).trans (by decide +kernel)) (by decide)
theorem dX7_takeSlack_15 : decode cX7_takeSlack 15 = .ok (.iload_n 2, 1) := dk_28_ (show cX7_takeSlack.data.toList[15]? = some 0x1c from (LBX7_takeSlackr_0 15).trans (by decide +kernel))
theorem dX7_takeSlack_16 : decode cX7_takeSlack 16 = .ok (.aload_n 0, 1) := dk_42_ (show cX7_takeSlack.data.toList[16]? = some 0x2a from (LBX7_takeSlackr_1 0).trans (by decide +kernel))
theorem dX7_takeSlack_17 : decode cX7_takeSlack 17 = .ok (.getfield 31, 3) := dk_180_ (show cX7_takeSlack.data.toList[17]? = some 0xb4 from (LBX7_takeSlackr_1 1).trans (by decide +kernel)) (show cX7_takeSlack.data.toList[18]? = some 0x00 from (LBX7_takeSlackr_1 2).trans (by decide +kernel)) (show cX7_takeSlack.data.toList[19]? = some 0x1f from (LBX7_takeSlackr_1 3).trans (by decide +kernel)) (by decide)
theorem dX7_takeSlack_20 : decode cX7_takeSlack 20 = .ok (.iastore, 1) := dk_79_ (show cX7_takeSlack.data.toList[20]? = some 0x4f from (LBX7_takeSlackr_1 4).trans (by decide +kernel))
theorem dX7_takeSlack_21 : decode cX7_takeSlack 21 = .ok (.iconst 1, 1) := dk_4_ (show cX7_takeSlack.data.toList[21]? = some 0x04 from (LBX7_takeSlackr_1 5).trans (by decide +kernel))
theorem dX7_takeSlack_22 : decode cX7_takeSlack 22 = .ok (.ireturn, 1) := dk_172_ (show cX7_takeSlack.data.toList[22]? = some 0xac from (LBX7_takeSlackr_1 6).trans (by decide +kernel))
def LRX7_takeWalk_12 : List UInt8 := []
def LBX7_takeWalk_11 : List UInt8 := [0x03, 0xac]
def LRX7_takeWalk_11 : List UInt8 := LBX7_takeWalk_11 ++ LRX7_takeWalk_12
def LBX7_takeWalk_10 : List UInt8 := [0x99, 0x00, 0x0c, 0x2a, 0x2b, 0x1c, 0xb6, 0x00, 0x7d, 0x99, 0x00, 0x07, 0x04, 0xa7, 0x00, 0x04]
def LRX7_takeWalk_10 : List UInt8 := LBX7_takeWalk_10 ++ LRX7_takeWalk_11
def LBX7_takeWalk_9 : List UInt8 := [0x2b, 0xb4, 0x00, 0x78, 0x1c, 0x2a, 0xb4, 0x00, 0x1f, 0x4f, 0x2a, 0x12, 0x7b, 0xb6, 0x00, 0x43]
def LRX7_takeWalk_9 : List UInt8 := LBX7_takeWalk_9 ++ LRX7_takeWalk_10
def LBX7_takeWalk_8 : List UInt8 := [0x10, 0x2a, 0x11, 0xd8, 0xf1, 0x11, 0x27, 0x0f, 0xb6, 0x00, 0x4e, 0x9a, 0x00, 0x05, 0x03, 0xac]
def LRX7_takeWalk_8 : List UInt8 := LBX7_takeWalk_8 ++ LRX7_takeWalk_9
def LBX7_takeWalk_7 : List UInt8 := [0x00, 0x73, 0x1c, 0x2e, 0x05, 0xa1, 0x00, 0x19, 0x2a, 0x12, 0x76, 0xb6, 0x00, 0x43, 0x99, 0x00]
def LRX7_takeWalk_7 : List UInt8 := LBX7_takeWalk_7 ++ LRX7_takeWalk_8
def LBX7_takeWalk_6 : List UInt8 := [0x1f, 0xb6, 0x00, 0x6f, 0x57, 0x84, 0x03, 0x01, 0xa7, 0xff, 0xc4, 0x2b, 0xb4, 0x00, 0x5e, 0xb4]
def LRX7_takeWalk_6 : List UInt8 := LBX7_takeWalk_6 ++ LRX7_takeWalk_7
def LBX7_takeWalk_5 : List UInt8 := [0xb6, 0x00, 0x46, 0x9a, 0x00, 0x05, 0x03, 0xac, 0x2b, 0xb4, 0x00, 0x5e, 0x1c, 0x2a, 0xb4, 0x00]
def LRX7_takeWalk_5 : List UInt8 := LBX7_takeWalk_5 ++ LRX7_takeWalk_6
def LBX7_takeWalk_4 : List UInt8 := [0x00, 0x5e, 0x1c, 0xb6, 0x00, 0x6c, 0x9f, 0x00, 0x10, 0x2a, 0x2b, 0xb4, 0x00, 0x3c, 0x04, 0x64]
def LRX7_takeWalk_4 : List UInt8 := LBX7_takeWalk_4 ++ LRX7_takeWalk_5
def LBX7_takeWalk_3 : List UInt8 := [0x00, 0x3c, 0x2a, 0xb4, 0x00, 0x13, 0x05, 0xa0, 0x00, 0x34, 0x2a, 0xb4, 0x00, 0x1c, 0x2b, 0xb4]
def LRX7_takeWalk_3 : List UInt8 := LBX7_takeWalk_3 ++ LRX7_takeWalk_4
def LBX7_takeWalk_2 : List UInt8 := [0x2a, 0xb4, 0x00, 0x1f, 0x03, 0x03, 0xb6, 0x00, 0x68, 0x3d, 0x04, 0x3e, 0x1d, 0x10, 0x06, 0xa2]
def LRX7_takeWalk_2 : List UInt8 := LBX7_takeWalk_2 ++ LRX7_takeWalk_3
def LBX7_takeWalk_1 : List UInt8 := [0x2a, 0x2b, 0xb4, 0x00, 0x3c, 0x04, 0x64, 0xb6, 0x00, 0x46, 0x9a, 0x00, 0x05, 0x03, 0xac, 0x2b]
def LRX7_takeWalk_1 : List UInt8 := LBX7_takeWalk_1 ++ LRX7_takeWalk_2
def LBX7_takeWalk_0 : List UInt8 := [0x2b, 0xb4, 0x00, 0x5e, 0xb6, 0x00, 0x62, 0x99, 0x00, 0x05, 0x03, 0xac, 0x2a, 0xb6, 0x00, 0x22]
def LRX7_takeWalk_0 : List UInt8 := LBX7_takeWalk_0 ++ LRX7_takeWalk_1
set_option maxRecDepth 100000 in
theorem LBX7_takeWalk_eq : cX7_takeWalk.data.toList = LRX7_takeWalk_0 := by decide +kernel
theorem LBX7_takeWalkr_0 (k : Nat) : cX7_takeWalk.data.toList[0 + k]? = LRX7_takeWalk_0[k]? := by rw [LBX7_takeWalk_eq, Nat.zero_add]
theorem LBX7_takeWalkr_1 (k : Nat) : cX7_takeWalk.data.toList[16 + k]? = LRX7_takeWalk_1[k]? := by
  have h := LBX7_takeWalkr_0 (16 + k)
  rw [show 0 + (16 + k) = 16 + k by omega] at h
  rw [h]
  exact (List.getElem?_append_right (l₁ := LBX7_takeWalk_0) (l₂ := LRX7_takeWalk_1) (show 16 ≤ 16 + k by omega)).trans (congrArg (fun i => LRX7_takeWalk_1[i]?) (show 16 + k - 16 = k by omega))
theorem LBX7_takeWalkr_2 (k : Nat) : cX7_takeWalk.data.toList[32 + k]? = LRX7_takeWalk_2[k]? := by
  have h := LBX7_takeWalkr_1 (16 + k)
  rw [show 16 + (16 + k) = 32 + k by omega] at h
  rw [h]
  exact (List.getElem?_append_right (l₁ := LBX7_takeWalk_1) (l₂ := LRX7_takeWalk_2) (show 16 ≤ 16 + k by omega)).trans (congrArg (fun i => LRX7_takeWalk_2[i]?) (show 16 + k - 16 = k by omega))
theorem LBX7_takeWalkr_3 (k : Nat) : cX7_takeWalk.data.toList[48 + k]? = LRX7_takeWalk_3[k]? := by
  have h := LBX7_takeWalkr_2 (16 + k)
  rw [show 32 + (16 + k) = 48 + k by omega] at h
  rw [h]
  exact (List.getElem?_append_right (l₁ := LBX7_takeWalk_2) (l₂ := LRX7_takeWalk_3) (show 16 ≤ 16 + k by omega)).trans (congrArg (fun i => LRX7_takeWalk_3[i]?) (show 16 + k - 16 = k by omega))
theorem LBX7_takeWalkr_4 (k : Nat) : cX7_takeWalk.data.toList[64 + k]? = LRX7_takeWalk_4[k]? := by
  have h := LBX7_takeWalkr_3 (16 + k)
  rw [show 48 + (16 + k) = 64 + k by omega] at h
  rw [h]
  exact (List.getElem?_append_right (l₁ := LBX7_takeWalk_3) (l₂ := LRX7_takeWalk_4) (show 16 ≤ 16 + k by omega)).trans (congrArg (fun i => LRX7_takeWalk_4[i]?) (show 16 + k - 16 = k by omega))
theorem LBX7_takeWalkr_5 (k : Nat) : cX7_takeWalk.data.toList[80 + k]? = LRX7_takeWalk_5[k]? := by
  have h := LBX7_takeWalkr_4 (16 + k)
  rw [show 64 + (16 + k) = 80 + k by omega] at h
  rw [h]
  exact (List.getElem?_append_right (l₁ := LBX7_takeWalk_4) (l₂ := LRX7_takeWalk_5) (show 16 ≤ 16 + k by omega)).trans (congrArg (fun i => LRX7_takeWalk_5[i]?) (show 16 + k - 16 = k by omega))
theorem LBX7_takeWalkr_6 (k : Nat) : cX7_takeWalk.data.toList[96 + k]? = LRX7_takeWalk_6[k]? := by
  have h := LBX7_takeWalkr_5 (16 + k)
  rw [show 80 + (16 + k) = 96 + k by omega] at h
  rw [h]
  exact (List.getElem?_append_right (l₁ := LBX7_takeWalk_5) (l₂ := LRX7_takeWalk_6) (show 16 ≤ 16 + k by omega)).trans (congrArg (fun i => LRX7_takeWalk_6[i]?) (show 16 + k - 16 = k by omega))
theorem LBX7_takeWalkr_7 (k : Nat) : cX7_takeWalk.data.toList[112 + k]? = LRX7_takeWalk_7[k]? := by
  have h := LBX7_takeWalkr_6 (16 + k)
  rw [show 96 + (16 + k) = 112 + k by omega] at h
  rw [h]
  exact (List.getElem?_append_right (l₁ := LBX7_takeWalk_6) (l₂ := LRX7_takeWalk_7) (show 16 ≤ 16 + k by omega)).trans (congrArg (fun i => LRX7_takeWalk_7[i]?) (show 16 + k - 16 = k by omega))
theorem LBX7_takeWalkr_8 (k : Nat) : cX7_takeWalk.data.toList[128 + k]? = LRX7_takeWalk_8[k]? := by
  have h := LBX7_takeWalkr_7 (16 + k)
  rw [show 112 + (16 + k) = 128 + k by omega] at h
  rw [h]
  exact (List.getElem?_append_right (l₁ := LBX7_takeWalk_7) (l₂ := LRX7_takeWalk_8) (show 16 ≤ 16 + k by omega)).trans (congrArg (fun i => LRX7_takeWalk_8[i]?) (show 16 + k - 16 = k by omega))
theorem LBX7_takeWalkr_9 (k : Nat) : cX7_takeWalk.data.toList[144 + k]? = LRX7_takeWalk_9[k]? := by
  have h := LBX7_takeWalkr_8 (16 + k)
  rw [show 128 + (16 + k) = 144 + k by omega] at h
  rw [h]
  exact (List.getElem?_append_right (l₁ := LBX7_takeWalk_8) (l₂ := LRX7_takeWalk_9) (show 16 ≤ 16 + k by omega)).trans (congrArg (fun i => LRX7_takeWalk_9[i]?) (show 16 + k - 16 = k by omega))
theorem LBX7_takeWalkr_10 (k : Nat) : cX7_takeWalk.data.toList[160 + k]? = LRX7_takeWalk_10[k]? := by
  have h := LBX7_takeWalkr_9 (16 + k)
  rw [show 144 + (16 + k) = 160 + k by omega] at h
  rw [h]
  exact (List.getElem?_append_right (l₁ := LBX7_takeWalk_9) (l₂ := LRX7_takeWalk_10) (show 16 ≤ 16 + k by omega)).trans (congrArg (fun i => LRX7_takeWalk_10[i]?) (show 16 + k - 16 = k by omega))
theorem LBX7_takeWalkr_11 (k : Nat) : cX7_takeWalk.data.toList[176 + k]? = LRX7_takeWalk_11[k]? := by
  have h := LBX7_takeWalkr_10 (16 + k)
  rw [show 160 + (16 + k) = 176 + k by omega] at h
  rw [h]
  exact (List.getElem?_append_right (l₁ := LBX7_takeWalk_10) (l₂ := LRX7_takeWalk_11) (show 16 ≤ 16 + k by omega)).trans (congrArg (fun i => LRX7_takeWalk_11[i]?) (show 16 + k - 16 = k by omega))
theorem dX7_takeWalk_0 : decode cX7_takeWalk 0 = .ok (.aload_n 1, 1) := dk_43_ (show cX7_takeWalk.data.toList[0]? = some 0x2b from (LBX7_takeWalkr_0 0).trans (by decide +kernel))
theorem dX7_takeWalk_1 : decode cX7_takeWalk 1 = .ok (.getfield 94, 3) := dk_180_ (show cX7_takeWalk.data.toList[1]? = some 0xb4 from (LBX7_takeWalkr_0 1).trans (by decide +kernel)) (show cX7_takeWalk.data.toList[2]? = some 0x00 from (LBX7_takeWalkr_0 2).trans (by decide +kernel)) (show cX7_takeWalk.data.toList[3]? = some 0x5e from (LBX7_takeWalkr_0 3).trans (by decide +kernel)) (by decide)
theorem dX7_takeWalk_4 : decode cX7_takeWalk 4 = .ok (.invokevirtual 98, 3) := dk_182_ (show cX7_takeWalk.data.toList[4]? = some 0xb6 from (LBX7_takeWalkr_0 4).trans (by decide +kernel)) (show cX7_takeWalk.data.toList[5]? = some 0x00 from (LBX7_takeWalkr_0 5).trans (by decide +kernel)) (show cX7_takeWalk.data.toList[6]? = some 0x62 from (LBX7_takeWalkr_0 6).trans (by decide +kernel)) (by decide)
theorem dX7_takeWalk_7 : decode cX7_takeWalk 7 = .ok (.ifCond .eq 5, 3) := dk_153_ (show cX7_takeWalk.data.toList[7]? = some 0x99 from (LBX7_takeWalkr_0 7).trans (by decide +kernel)) (show cX7_takeWalk.data.toList[8]? = some 0x00 from (LBX7_takeWalkr_0 8).trans (by decide +kernel)) (show cX7_takeWalk.data.toList[9]? = some 0x05 from (LBX7_takeWalkr_0 9).trans (by decide +kernel)) (by decide)
theorem dX7_takeWalk_10 : decode cX7_takeWalk 10 = .ok (.iconst 0, 1) := dk_3_ (show cX7_takeWalk.data.toList[10]? = some 0x03 from (LBX7_takeWalkr_0 10).trans (by decide +kernel))
theorem dX7_takeWalk_11 : decode cX7_takeWalk 11 = .ok (.ireturn, 1) := dk_172_ (show cX7_takeWalk.data.toList[11]? = some 0xac from (LBX7_takeWalkr_0 11).trans (by decide +kernel))
theorem dX7_takeWalk_12 : decode cX7_takeWalk 12 = .ok (.aload_n 0, 1) := dk_42_ (show cX7_takeWalk.data.toList[12]? = some 0x2a from (LBX7_takeWalkr_0 12).trans (by decide +kernel))
theorem dX7_takeWalk_13 : decode cX7_takeWalk 13 = .ok (.invokevirtual 34, 3) := dk_182_ (show cX7_takeWalk.data.toList[13]? = some 0xb6 from (LBX7_takeWalkr_0 13).trans (by decide +kernel)) (show cX7_takeWalk.data.toList[14]? = some 0x00 from (LBX7_takeWalkr_0 14).trans (by decide +kernel)) (show cX7_takeWalk.data.toList[15]? = some 0x22 from (LBX7_takeWalkr_0 15).trans (by decide +kernel)) (by decide)
theorem dX7_takeWalk_16 : decode cX7_takeWalk 16 = .ok (.aload_n 0, 1) := dk_42_ (show cX7_takeWalk.data.toList[16]? = some 0x2a from (LBX7_takeWalkr_1 0).trans (by decide +kernel))
theorem dX7_takeWalk_17 : decode cX7_takeWalk 17 = .ok (.aload_n 1, 1) := dk_43_ (show cX7_takeWalk.data.toList[17]? = some 0x2b from (LBX7_takeWalkr_1 1).trans (by decide +kernel))
theorem dX7_takeWalk_18 : decode cX7_takeWalk 18 = .ok (.getfield 60, 3) := dk_180_ (show cX7_takeWalk.data.toList[18]? = some 0xb4 from (LBX7_takeWalkr_1 2).trans (by decide +kernel)) (show cX7_takeWalk.data.toList[19]? = some 0x00 from (LBX7_takeWalkr_1 3).trans (by decide +kernel)) (show cX7_takeWalk.data.toList[20]? = some 0x3c from (LBX7_takeWalkr_1 4).trans (by decide +kernel)) (by decide)
theorem dX7_takeWalk_21 : decode cX7_takeWalk 21 = .ok (.iconst 1, 1) := dk_4_ (show cX7_takeWalk.data.toList[21]? = some 0x04 from (LBX7_takeWalkr_1 5).trans (by decide +kernel))
theorem dX7_takeWalk_22 : decode cX7_takeWalk 22 = .ok (.isub, 1) := dk_100_ (show cX7_takeWalk.data.toList[22]? = some 0x64 from (LBX7_takeWalkr_1 6).trans (by decide +kernel))
theorem dX7_takeWalk_23 : decode cX7_takeWalk 23 = .ok (.invokevirtual 70, 3) := dk_182_ (show cX7_takeWalk.data.toList[23]? = some 0xb6 from (LBX7_takeWalkr_1 7).trans (by decide +kernel)) (show cX7_takeWalk.data.toList[24]? = some 0x00 from (LBX7_takeWalkr_1 8).trans (by decide +kernel)) (show cX7_takeWalk.data.toList[25]? = some 0x46 from (LBX7_takeWalkr_1 9).trans (by decide +kernel)) (by decide)
theorem dX7_takeWalk_26 : decode cX7_takeWalk 26 = .ok (.ifCond .ne 5, 3) := dk_154_ (show cX7_takeWalk.data.toList[26]? = some 0x9a from (LBX7_takeWalkr_1 10).trans (by decide +kernel)) (show cX7_takeWalk.data.toList[27]? = some 0x00 from (LBX7_takeWalkr_1 11).trans (by decide +kernel)) (show cX7_takeWalk.data.toList[28]? = some 0x05 from (LBX7_takeWalkr_1 12).trans (by decide +kernel)) (by decide)
theorem dX7_takeWalk_29 : decode cX7_takeWalk 29 = .ok (.iconst 0, 1) := dk_3_ (show cX7_takeWalk.data.toList[29]? = some 0x03 from (LBX7_takeWalkr_1 13).trans (by decide +kernel))
theorem dX7_takeWalk_30 : decode cX7_takeWalk 30 = .ok (.ireturn, 1) := dk_172_ (show cX7_takeWalk.data.toList[30]? = some 0xac from (LBX7_takeWalkr_1 14).trans (by decide +kernel))
theorem dX7_takeWalk_31 : decode cX7_takeWalk 31 = .ok (.aload_n 1, 1) := dk_43_ (show cX7_takeWalk.data.toList[31]? = some 0x2b from (LBX7_takeWalkr_1 15).trans (by decide +kernel))
theorem dX7_takeWalk_32 : decode cX7_takeWalk 32 = .ok (.aload_n 0, 1) := dk_42_ (show cX7_takeWalk.data.toList[32]? = some 0x2a from (LBX7_takeWalkr_2 0).trans (by decide +kernel))
theorem dX7_takeWalk_33 : decode cX7_takeWalk 33 = .ok (.getfield 31, 3) := dk_180_ (show cX7_takeWalk.data.toList[33]? = some 0xb4 from (LBX7_takeWalkr_2 1).trans (by decide +kernel)) (show cX7_takeWalk.data.toList[34]? = some 0x00 from (LBX7_takeWalkr_2 2).trans (by decide +kernel)) (show cX7_takeWalk.data.toList[35]? = some 0x1f from (LBX7_takeWalkr_2 3).trans (by decide +kernel)) (by decide)
theorem dX7_takeWalk_36 : decode cX7_takeWalk 36 = .ok (.iconst 0, 1) := dk_3_ (show cX7_takeWalk.data.toList[36]? = some 0x03 from (LBX7_takeWalkr_2 4).trans (by decide +kernel))
theorem dX7_takeWalk_37 : decode cX7_takeWalk 37 = .ok (.iconst 0, 1) := dk_3_ (show cX7_takeWalk.data.toList[37]? = some 0x03 from (LBX7_takeWalkr_2 5).trans (by decide +kernel))
theorem dX7_takeWalk_38 : decode cX7_takeWalk 38 = .ok (.invokevirtual 104, 3) := dk_182_ (show cX7_takeWalk.data.toList[38]? = some 0xb6 from (LBX7_takeWalkr_2 6).trans (by decide +kernel)) (show cX7_takeWalk.data.toList[39]? = some 0x00 from (LBX7_takeWalkr_2 7).trans (by decide +kernel)) (show cX7_takeWalk.data.toList[40]? = some 0x68 from (LBX7_takeWalkr_2 8).trans (by decide +kernel)) (by decide)
theorem dX7_takeWalk_41 : decode cX7_takeWalk 41 = .ok (.istore_n 2, 1) := dk_61_ (show cX7_takeWalk.data.toList[41]? = some 0x3d from (LBX7_takeWalkr_2 9).trans (by decide +kernel))
theorem dX7_takeWalk_42 : decode cX7_takeWalk 42 = .ok (.iconst 1, 1) := dk_4_ (show cX7_takeWalk.data.toList[42]? = some 0x04 from (LBX7_takeWalkr_2 10).trans (by decide +kernel))
theorem dX7_takeWalk_43 : decode cX7_takeWalk 43 = .ok (.istore_n 3, 1) := dk_62_ (show cX7_takeWalk.data.toList[43]? = some 0x3e from (LBX7_takeWalkr_2 11).trans (by decide +kernel))
theorem dX7_takeWalk_44 : decode cX7_takeWalk 44 = .ok (.iload_n 3, 1) := dk_29_ (show cX7_takeWalk.data.toList[44]? = some 0x1d from (LBX7_takeWalkr_2 12).trans (by decide +kernel))
theorem dX7_takeWalk_45 : decode cX7_takeWalk 45 = .ok (.bipush 6, 2) := dk_16_ (show cX7_takeWalk.data.toList[45]? = some 0x10 from (LBX7_takeWalkr_2 13).trans (by decide +kernel)) (show cX7_takeWalk.data.toList[46]? = some 0x06 from (LBX7_takeWalkr_2 14).trans (by decide +kernel)) (by decide)
theorem dX7_takeWalk_47 : decode cX7_takeWalk 47 = .ok (.if_icmp .ge 60, 3) := dk_162_ (show cX7_takeWalk.data.toList[47]? = some 0xa2 from (LBX7_takeWalkr_2 15).trans (by decide +kernel)) (show cX7_takeWalk.data.toList[48]? = some 0x00 from (LBX7_takeWalkr_3 0).trans (by decide +kernel)) (show cX7_takeWalk.data.toList[49]? = some 0x3c from (LBX7_takeWalkr_3 1).trans (by decide +kernel)) (by decide)
theorem dX7_takeWalk_50 : decode cX7_takeWalk 50 = .ok (.aload_n 0, 1) := dk_42_ (show cX7_takeWalk.data.toList[50]? = some 0x2a from (LBX7_takeWalkr_3 2).trans (by decide +kernel))
theorem dX7_takeWalk_51 : decode cX7_takeWalk 51 = .ok (.getfield 19, 3) := dk_180_ (show cX7_takeWalk.data.toList[51]? = some 0xb4 from (LBX7_takeWalkr_3 3).trans (by decide +kernel)) (show cX7_takeWalk.data.toList[52]? = some 0x00 from (LBX7_takeWalkr_3 4).trans (by decide +kernel)) (show cX7_takeWalk.data.toList[53]? = some 0x13 from (LBX7_takeWalkr_3 5).trans (by decide +kernel)) (by decide)
theorem dX7_takeWalk_54 : decode cX7_takeWalk 54 = .ok (.iconst 2, 1) := dk_5_ (show cX7_takeWalk.data.toList[54]? = some 0x05 from (LBX7_takeWalkr_3 6).trans (by decide +kernel))
theorem dX7_takeWalk_55 : decode cX7_takeWalk 55 = .ok (.if_icmp .ne 52, 3) := dk_160_ (show cX7_takeWalk.data.toList[55]? = some 0xa0 from (LBX7_takeWalkr_3 7).trans (by decide +kernel)) (show cX7_takeWalk.data.toList[56]? = some 0x00 from (LBX7_takeWalkr_3 8).trans (by decide +kernel)) (show cX7_takeWalk.data.toList[57]? = some 0x34 from (LBX7_takeWalkr_3 9).trans (by decide +kernel)) (by decide)
theorem dX7_takeWalk_58 : decode cX7_takeWalk 58 = .ok (.aload_n 0, 1) := dk_42_ (show cX7_takeWalk.data.toList[58]? = some 0x2a from (LBX7_takeWalkr_3 10).trans (by decide +kernel))
theorem dX7_takeWalk_59 : decode cX7_takeWalk 59 = .ok (.getfield 28, 3) := dk_180_ (show cX7_takeWalk.data.toList[59]? = some 0xb4 from (LBX7_takeWalkr_3 11).trans (by decide +kernel)) (show cX7_takeWalk.data.toList[60]? = some 0x00 from (LBX7_takeWalkr_3 12).trans (by decide +kernel)) (show cX7_takeWalk.data.toList[61]? = some 0x1c from (LBX7_takeWalkr_3 13).trans (by decide +kernel)) (by decide)
theorem dX7_takeWalk_62 : decode cX7_takeWalk 62 = .ok (.aload_n 1, 1) := dk_43_ (show cX7_takeWalk.data.toList[62]? = some 0x2b from (LBX7_takeWalkr_3 14).trans (by decide +kernel))
theorem dX7_takeWalk_63 : decode cX7_takeWalk 63 = .ok (.getfield 94, 3) := dk_180_ (show cX7_takeWalk.data.toList[63]? = some 0xb4 from (LBX7_takeWalkr_3 15).trans (by decide +kernel)) (show cX7_takeWalk.data.toList[64]? = some 0x00 from (LBX7_takeWalkr_4 0).trans (by decide +kernel)) (show cX7_takeWalk.data.toList[65]? = some 0x5e from (LBX7_takeWalkr_4 1).trans (by decide +kernel)) (by decide)
theorem dX7_takeWalk_66 : decode cX7_takeWalk 66 = .ok (.iload_n 2, 1) := dk_28_ (show cX7_takeWalk.data.toList[66]? = some 0x1c from (LBX7_takeWalkr_4 2).trans (by decide +kernel))
theorem dX7_takeWalk_67 : decode cX7_takeWalk 67 = .ok (.invokevirtual 108, 3) := dk_182_ (show cX7_takeWalk.data.toList[67]? = some 0xb6 from (LBX7_takeWalkr_4 3).trans (by decide +kernel)) (show cX7_takeWalk.data.toList[68]? = some 0x00 from (LBX7_takeWalkr_4 4).trans (by decide +kernel)) (show cX7_takeWalk.data.toList[69]? = some 0x6c from (LBX7_takeWalkr_4 5).trans (by decide +kernel)) (by decide)
theorem dX7_takeWalk_70 : decode cX7_takeWalk 70 = .ok (.if_icmp .eq 16, 3) := dk_159_ (show cX7_takeWalk.data.toList[70]? = some 0x9f from (LBX7_takeWalkr_4 6).trans (by decide +kernel)) (show cX7_takeWalk.data.toList[71]? = some 0x00 from (LBX7_takeWalkr_4 7).trans (by decide +kernel)) (show cX7_takeWalk.data.toList[72]? = some 0x10 from (LBX7_takeWalkr_4 8).trans (by decide +kernel)) (by decide)
theorem dX7_takeWalk_73 : decode cX7_takeWalk 73 = .ok (.aload_n 0, 1) := dk_42_ (show cX7_takeWalk.data.toList[73]? = some 0x2a from (LBX7_takeWalkr_4 9).trans (by decide +kernel))
theorem dX7_takeWalk_74 : decode cX7_takeWalk 74 = .ok (.aload_n 1, 1) := dk_43_ (show cX7_takeWalk.data.toList[74]? = some 0x2b from (LBX7_takeWalkr_4 10).trans (by decide +kernel))
theorem dX7_takeWalk_75 : decode cX7_takeWalk 75 = .ok (.getfield 60, 3) := dk_180_ (show cX7_takeWalk.data.toList[75]? = some 0xb4 from (LBX7_takeWalkr_4 11).trans (by decide +kernel)) (show cX7_takeWalk.data.toList[76]? = some 0x00 from (LBX7_takeWalkr_4 12).trans (by decide +kernel)) (show cX7_takeWalk.data.toList[77]? = some 0x3c from (LBX7_takeWalkr_4 13).trans (by decide +kernel)) (by decide)
theorem dX7_takeWalk_78 : decode cX7_takeWalk 78 = .ok (.iconst 1, 1) := dk_4_ (show cX7_takeWalk.data.toList[78]? = some 0x04 from (LBX7_takeWalkr_4 14).trans (by decide +kernel))
theorem dX7_takeWalk_79 : decode cX7_takeWalk 79 = .ok (.isub, 1) := dk_100_ (show cX7_takeWalk.data.toList[79]? = some 0x64 from (LBX7_takeWalkr_4 15).trans (by decide +kernel))
theorem dX7_takeWalk_80 : decode cX7_takeWalk 80 = .ok (.invokevirtual 70, 3) := dk_182_ (show cX7_takeWalk.data.toList[80]? = some 0xb6 from (LBX7_takeWalkr_5 0).trans (by decide +kernel)) (show cX7_takeWalk.data.toList[81]? = some 0x00 from (LBX7_takeWalkr_5 1).trans (by decide +kernel)) (show cX7_takeWalk.data.toList[82]? = some 0x46 from (LBX7_takeWalkr_5 2).trans (by decide +kernel)) (by decide)
theorem dX7_takeWalk_83 : decode cX7_takeWalk 83 = .ok (.ifCond .ne 5, 3) := dk_154_ (show cX7_takeWalk.data.toList[83]? = some 0x9a from (LBX7_takeWalkr_5 3).trans (by decide +kernel)) (show cX7_takeWalk.data.toList[84]? = some 0x00 from (LBX7_takeWalkr_5 4).trans (by decide +kernel)) (show cX7_takeWalk.data.toList[85]? = some 0x05 from (LBX7_takeWalkr_5 5).trans (by decide +kernel)) (by decide)
theorem dX7_takeWalk_86 : decode cX7_takeWalk 86 = .ok (.iconst 0, 1) := dk_3_ (show cX7_takeWalk.data.toList[86]? = some 0x03 from (LBX7_takeWalkr_5 6).trans (by decide +kernel))
theorem dX7_takeWalk_87 : decode cX7_takeWalk 87 = .ok (.ireturn, 1) := dk_172_ (show cX7_takeWalk.data.toList[87]? = some 0xac from (LBX7_takeWalkr_5 7).trans (by decide +kernel))
theorem dX7_takeWalk_88 : decode cX7_takeWalk 88 = .ok (.aload_n 1, 1) := dk_43_ (show cX7_takeWalk.data.toList[88]? = some 0x2b from (LBX7_takeWalkr_5 8).trans (by decide +kernel))
theorem dX7_takeWalk_89 : decode cX7_takeWalk 89 = .ok (.getfield 94, 3) := dk_180_ (show cX7_takeWalk.data.toList[89]? = some 0xb4 from (LBX7_takeWalkr_5 9).trans (by decide +kernel)) (show cX7_takeWalk.data.toList[90]? = some 0x00 from (LBX7_takeWalkr_5 10).trans (by decide +kernel)) (show cX7_takeWalk.data.toList[91]? = some 0x5e from (LBX7_takeWalkr_5 11).trans (by decide +kernel)) (by decide)
theorem dX7_takeWalk_92 : decode cX7_takeWalk 92 = .ok (.iload_n 2, 1) := dk_28_ (show cX7_takeWalk.data.toList[92]? = some 0x1c from (LBX7_takeWalkr_5 12).trans (by decide +kernel))
theorem dX7_takeWalk_93 : decode cX7_takeWalk 93 = .ok (.aload_n 0, 1) := dk_42_ (show cX7_takeWalk.data.toList[93]? = some 0x2a from (LBX7_takeWalkr_5 13).trans (by decide +kernel))
theorem dX7_takeWalk_94 : decode cX7_takeWalk 94 = .ok (.getfield 31, 3) := dk_180_ (show cX7_takeWalk.data.toList[94]? = some 0xb4 from (LBX7_takeWalkr_5 14).trans (by decide +kernel)) (show cX7_takeWalk.data.toList[95]? = some 0x00 from (LBX7_takeWalkr_5 15).trans (by decide +kernel)) (show cX7_takeWalk.data.toList[96]? = some 0x1f from (LBX7_takeWalkr_6 0).trans (by decide +kernel)) (by decide)
theorem dX7_takeWalk_97 : decode cX7_takeWalk 97 = .ok (.invokevirtual 111, 3) := dk_182_ (show cX7_takeWalk.data.toList[97]? = some 0xb6 from (LBX7_takeWalkr_6 1).trans (by decide +kernel)) (show cX7_takeWalk.data.toList[98]? = some 0x00 from (LBX7_takeWalkr_6 2).trans (by decide +kernel)) (show cX7_takeWalk.data.toList[99]? = some 0x6f from (LBX7_takeWalkr_6 3).trans (by decide +kernel)) (by decide)
theorem dX7_takeWalk_100 : decode cX7_takeWalk 100 = .ok (.pop, 1) := dk_87_ (show cX7_takeWalk.data.toList[100]? = some 0x57 from (LBX7_takeWalkr_6 4).trans (by decide +kernel))
theorem dX7_takeWalk_101 : decode cX7_takeWalk 101 = .ok (.iinc 3 1, 3) := dk_132_ (show cX7_takeWalk.data.toList[101]? = some 0x84 from (LBX7_takeWalkr_6 5).trans (by decide +kernel)) (show cX7_takeWalk.data.toList[102]? = some 0x03 from (LBX7_takeWalkr_6 6).trans (by decide +kernel)) (show cX7_takeWalk.data.toList[103]? = some 0x01 from (LBX7_takeWalkr_6 7).trans (by decide +kernel)) (by decide) (by decide)
theorem dX7_takeWalk_104 : decode cX7_takeWalk 104 = .ok (.goto (-60), 3) := dk_167_ (show cX7_takeWalk.data.toList[104]? = some 0xa7 from (LBX7_takeWalkr_6 8).trans (by decide +kernel)) (show cX7_takeWalk.data.toList[105]? = some 0xff from (LBX7_takeWalkr_6 9).trans (by decide +kernel)) (show cX7_takeWalk.data.toList[106]? = some 0xc4 from (LBX7_takeWalkr_6 10).trans (by decide +kernel)) (by decide)
theorem dX7_takeWalk_107 : decode cX7_takeWalk 107 = .ok (.aload_n 1, 1) := dk_43_ (show cX7_takeWalk.data.toList[107]? = some 0x2b from (LBX7_takeWalkr_6 11).trans (by decide +kernel))
theorem dX7_takeWalk_108 : decode cX7_takeWalk 108 = .ok (.getfield 94, 3) := dk_180_ (show cX7_takeWalk.data.toList[108]? = some 0xb4 from (LBX7_takeWalkr_6 12).trans (by decide +kernel)) (show cX7_takeWalk.data.toList[109]? = some 0x00 from (LBX7_takeWalkr_6 13).trans (by decide +kernel)) (show cX7_takeWalk.data.toList[110]? = some 0x5e from (LBX7_takeWalkr_6 14).trans (by decide +kernel)) (by decide)
theorem dX7_takeWalk_111 : decode cX7_takeWalk 111 = .ok (.getfield 115, 3) := dk_180_ (show cX7_takeWalk.data.toList[111]? = some 0xb4 from (LBX7_takeWalkr_6 15).trans (by decide +kernel)) (show cX7_takeWalk.data.toList[112]? = some 0x00 from (LBX7_takeWalkr_7 0).trans (by decide +kernel)) (show cX7_takeWalk.data.toList[113]? = some 0x73 from (LBX7_takeWalkr_7 1).trans (by decide +kernel)) (by decide)
theorem dX7_takeWalk_114 : decode cX7_takeWalk 114 = .ok (.iload_n 2, 1) := dk_28_ (show cX7_takeWalk.data.toList[114]? = some 0x1c from (LBX7_takeWalkr_7 2).trans (by decide +kernel))
theorem dX7_takeWalk_115 : decode cX7_takeWalk 115 = .ok (.iaload, 1) := dk_46_ (show cX7_takeWalk.data.toList[115]? = some 0x2e from (LBX7_takeWalkr_7 3).trans (by decide +kernel))
theorem dX7_takeWalk_116 : decode cX7_takeWalk 116 = .ok (.iconst 2, 1) := dk_5_ (show cX7_takeWalk.data.toList[116]? = some 0x05 from (LBX7_takeWalkr_7 4).trans (by decide +kernel))
theorem dX7_takeWalk_117 : decode cX7_takeWalk 117 = .ok (.if_icmp .lt 25, 3) := dk_161_ (show cX7_takeWalk.data.toList[117]? = some 0xa1 from (LBX7_takeWalkr_7 5).trans (by decide +kernel)) (show cX7_takeWalk.data.toList[118]? = some 0x00 from (LBX7_takeWalkr_7 6).trans (by decide +kernel)) (show cX7_takeWalk.data.toList[119]? = some 0x19 from (LBX7_takeWalkr_7 7).trans (by decide +kernel)) (by decide)
theorem dX7_takeWalk_120 : decode cX7_takeWalk 120 = .ok (.aload_n 0, 1) := dk_42_ (show cX7_takeWalk.data.toList[120]? = some 0x2a from (LBX7_takeWalkr_7 8).trans (by decide +kernel))
theorem dX7_takeWalk_121 : decode cX7_takeWalk 121 = .ok (.ldc 118, 2) := dk_18_ (show cX7_takeWalk.data.toList[121]? = some 0x12 from (LBX7_takeWalkr_7 9).trans (by decide +kernel)) (show cX7_takeWalk.data.toList[122]? = some 0x76 from (LBX7_takeWalkr_7 10).trans (by decide +kernel)) (by decide)
theorem dX7_takeWalk_123 : decode cX7_takeWalk 123 = .ok (.invokevirtual 67, 3) := dk_182_ (show cX7_takeWalk.data.toList[123]? = some 0xb6 from (LBX7_takeWalkr_7 11).trans (by decide +kernel)) (show cX7_takeWalk.data.toList[124]? = some 0x00 from (LBX7_takeWalkr_7 12).trans (by decide +kernel)) (show cX7_takeWalk.data.toList[125]? = some 0x43 from (LBX7_takeWalkr_7 13).trans (by decide +kernel)) (by decide)
theorem dX7_takeWalk_126 : decode cX7_takeWalk 126 = .ok (.ifCond .eq 16, 3) := dk_153_ (show cX7_takeWalk.data.toList[126]? = some 0x99 from (LBX7_takeWalkr_7 14).trans (by decide +kernel)) (show cX7_takeWalk.data.toList[127]? = some 0x00 from (LBX7_takeWalkr_7 15).trans (by decide +kernel)) (show cX7_takeWalk.data.toList[128]? = some 0x10 from (LBX7_takeWalkr_8 0).trans (by decide +kernel)) (by decide)
theorem dX7_takeWalk_129 : decode cX7_takeWalk 129 = .ok (.aload_n 0, 1) := dk_42_ (show cX7_takeWalk.data.toList[129]? = some 0x2a from (LBX7_takeWalkr_8 1).trans (by decide +kernel))
theorem dX7_takeWalk_130 : decode cX7_takeWalk 130 = .ok (.sipush (-9999), 3) := dk_17_ (show cX7_takeWalk.data.toList[130]? = some 0x11 from (LBX7_takeWalkr_8 2).trans (by decide +kernel)) (show cX7_takeWalk.data.toList[131]? = some 0xd8 from (LBX7_takeWalkr_8 3).trans (by decide +kernel)) (show cX7_takeWalk.data.toList[132]? = some 0xf1 from (LBX7_takeWalkr_8 4).trans (by decide +kernel)) (by decide)
theorem dX7_takeWalk_133 : decode cX7_takeWalk 133 = .ok (.sipush 9999, 3) := dk_17_ (show cX7_takeWalk.data.toList[133]? = some 0x11 from (LBX7_takeWalkr_8 5).trans (by decide +kernel)) (show cX7_takeWalk.data.toList[134]? = some 0x27 from (LBX7_takeWalkr_8 6).trans (by decide +kernel)) (show cX7_takeWalk.data.toList[135]? = some 0x0f from (LBX7_takeWalkr_8 7).trans (by decide +kernel)) (by decide)
theorem dX7_takeWalk_136 : decode cX7_takeWalk 136 = .ok (.invokevirtual 78, 3) := dk_182_ (show cX7_takeWalk.data.toList[136]? = some 0xb6 from (LBX7_takeWalkr_8 8).trans (by decide +kernel)) (show cX7_takeWalk.data.toList[137]? = some 0x00 from (LBX7_takeWalkr_8 9).trans (by decide +kernel)) (show cX7_takeWalk.data.toList[138]? = some 0x4e from (LBX7_takeWalkr_8 10).trans (by decide +kernel)) (by decide)
theorem dX7_takeWalk_139 : decode cX7_takeWalk 139 = .ok (.ifCond .ne 5, 3) := dk_154_ (show cX7_takeWalk.data.toList[139]? = some 0x9a from (LBX7_takeWalkr_8 11).trans (by decide +kernel)) (show cX7_takeWalk.data.toList[140]? = some 0x00 from (LBX7_takeWalkr_8 12).trans (by decide +kernel)) (show cX7_takeWalk.data.toList[141]? = some 0x05 from (LBX7_takeWalkr_8 13).trans (by decide +kernel)) (by decide)
theorem dX7_takeWalk_142 : decode cX7_takeWalk 142 = .ok (.iconst 0, 1) := dk_3_ (show cX7_takeWalk.data.toList[142]? = some 0x03 from (LBX7_takeWalkr_8 14).trans (by decide +kernel))
theorem dX7_takeWalk_143 : decode cX7_takeWalk 143 = .ok (.ireturn, 1) := dk_172_ (show cX7_takeWalk.data.toList[143]? = some 0xac from (LBX7_takeWalkr_8 15).trans (by decide +kernel))
theorem dX7_takeWalk_144 : decode cX7_takeWalk 144 = .ok (.aload_n 1, 1) := dk_43_ (show cX7_takeWalk.data.toList[144]? = some 0x2b from (LBX7_takeWalkr_9 0).trans (by decide +kernel))
theorem dX7_takeWalk_145 : decode cX7_takeWalk 145 = .ok (.getfield 120, 3) := dk_180_ (show cX7_takeWalk.data.toList[145]? = some 0xb4 from (LBX7_takeWalkr_9 1).trans (by decide +kernel)) (show cX7_takeWalk.data.toList[146]? = some 0x00 from (LBX7_takeWalkr_9 2).trans (by decide +kernel)) (show cX7_takeWalk.data.toList[147]? = some 0x78 from (LBX7_takeWalkr_9 3).trans (by decide +kernel)) (by decide)
theorem dX7_takeWalk_148 : decode cX7_takeWalk 148 = .ok (.iload_n 2, 1) := dk_28_ (show cX7_takeWalk.data.toList[148]? = some 0x1c from (LBX7_takeWalkr_9 4).trans (by decide +kernel))
theorem dX7_takeWalk_149 : decode cX7_takeWalk 149 = .ok (.aload_n 0, 1) := dk_42_ (show cX7_takeWalk.data.toList[149]? = some 0x2a from (LBX7_takeWalkr_9 5).trans (by decide +kernel))
theorem dX7_takeWalk_150 : decode cX7_takeWalk 150 = .ok (.getfield 31, 3) := dk_180_ (show cX7_takeWalk.data.toList[150]? = some 0xb4 from (LBX7_takeWalkr_9 6).trans (by decide +kernel)) (show cX7_takeWalk.data.toList[151]? = some 0x00 from (LBX7_takeWalkr_9 7).trans (by decide +kernel)) (show cX7_takeWalk.data.toList[152]? = some 0x1f from (LBX7_takeWalkr_9 8).trans (by decide +kernel)) (by decide)
theorem dX7_takeWalk_153 : decode cX7_takeWalk 153 = .ok (.iastore, 1) := dk_79_ (show cX7_takeWalk.data.toList[153]? = some 0x4f from (LBX7_takeWalkr_9 9).trans (by decide +kernel))
theorem dX7_takeWalk_154 : decode cX7_takeWalk 154 = .ok (.aload_n 0, 1) := dk_42_ (show cX7_takeWalk.data.toList[154]? = some 0x2a from (LBX7_takeWalkr_9 10).trans (by decide +kernel))
theorem dX7_takeWalk_155 : decode cX7_takeWalk 155 = .ok (.ldc 123, 2) := dk_18_ (show cX7_takeWalk.data.toList[155]? = some 0x12 from (LBX7_takeWalkr_9 11).trans (by decide +kernel)) (show cX7_takeWalk.data.toList[156]? = some 0x7b from (LBX7_takeWalkr_9 12).trans (by decide +kernel)) (by decide)
theorem dX7_takeWalk_157 : decode cX7_takeWalk 157 = .ok (.invokevirtual 67, 3) := dk_182_ (show cX7_takeWalk.data.toList[157]? = some 0xb6 from (LBX7_takeWalkr_9 13).trans (by decide +kernel)) (show cX7_takeWalk.data.toList[158]? = some 0x00 from (LBX7_takeWalkr_9 14).trans (by decide +kernel)) (show cX7_takeWalk.data.toList[159]? = some 0x43 from (LBX7_takeWalkr_9 15).trans (by decide +kernel)) (by decide)
theorem dX7_takeWalk_160 : decode cX7_takeWalk 160 = .ok (.ifCond .eq 12, 3) := dk_153_ (show cX7_takeWalk.data.toList[160]? = some 0x99 from (LBX7_takeWalkr_10 0).trans (by decide +kernel)) (show cX7_takeWalk.data.toList[161]? = some 0x00 from (LBX7_takeWalkr_10 1).trans (by decide +kernel)) (show cX7_takeWalk.data.toList[162]? = some 0x0c from (LBX7_takeWalkr_10 2).trans (by decide +kernel)) (by decide)
theorem dX7_takeWalk_163 : decode cX7_takeWalk 163 = .ok (.aload_n 0, 1) := dk_42_ (show cX7_takeWalk.data.toList[163]? = some 0x2a from (LBX7_takeWalkr_10 3).trans (by decide +kernel))
theorem dX7_takeWalk_164 : decode cX7_takeWalk 164 = .ok (.aload_n 1, 1) := dk_43_ (show cX7_takeWalk.data.toList[164]? = some 0x2b from (LBX7_takeWalkr_10 4).trans (by decide +kernel))
theorem dX7_takeWalk_165 : decode cX7_takeWalk 165 = .ok (.iload_n 2, 1) := dk_28_ (show cX7_takeWalk.data.toList[165]? = some 0x1c from (LBX7_takeWalkr_10 5).trans (by decide +kernel))
theorem dX7_takeWalk_166 : decode cX7_takeWalk 166 = .ok (.invokevirtual 125, 3) := dk_182_ (show cX7_takeWalk.data.toList[166]? = some 0xb6 from (LBX7_takeWalkr_10 6).trans (by decide +kernel)) (show cX7_takeWalk.data.toList[167]? = some 0x00 from (LBX7_takeWalkr_10 7).trans (by decide +kernel)) (show cX7_takeWalk.data.toList[168]? = some 0x7d from (LBX7_takeWalkr_10 8).trans (by decide +kernel)) (by decide)
theorem dX7_takeWalk_169 : decode cX7_takeWalk 169 = .ok (.ifCond .eq 7, 3) := dk_153_ (show cX7_takeWalk.data.toList[169]? = some 0x99 from (LBX7_takeWalkr_10 9).trans (by decide +kernel)) (show cX7_takeWalk.data.toList[170]? = some 0x00 from (LBX7_takeWalkr_10 10).trans (by decide +kernel)) (show cX7_takeWalk.data.toList[171]? = some 0x07 from (LBX7_takeWalkr_10 11).trans (by decide +kernel)) (by decide)
theorem dX7_takeWalk_172 : decode cX7_takeWalk 172 = .ok (.iconst 1, 1) := dk_4_ (show cX7_takeWalk.data.toList[172]? = some 0x04 from (LBX7_takeWalkr_10 12).trans (by decide +kernel))
theorem dX7_takeWalk_173 : decode cX7_takeWalk 173 = .ok (.goto 4, 3) := dk_167_ (show cX7_takeWalk.data.toList[173]? = some 0xa7 from (LBX7_takeWalkr_10 13).trans (by decide +kernel)) (show cX7_takeWalk.data.toList[174]? = some 0x00 from (LBX7_takeWalkr_10 14).trans (by decide +kernel)) (show cX7_takeWalk.data.toList[175]? = some 0x04 from (LBX7_takeWalkr_10 15).trans (by decide +kernel)) (by decide)
theorem dX7_takeWalk_176 : decode cX7_takeWalk 176 = .ok (.iconst 0, 1) := dk_3_ (show cX7_takeWalk.data.toList[176]? = some 0x03 from (LBX7_takeWalkr_11 0).trans (by decide +kernel))
theorem dX7_takeWalk_177 : decode cX7_takeWalk 177 = .ok (.ireturn, 1) := dk_172_ (show cX7_takeWalk.data.toList[177]? = some 0xac from (LBX7_takeWalkr_11 1).trans (by decide +kernel))
def LRX7_takeItem_4 : List UInt8 := []
def LBX7_takeItem_3 : List UInt8 := [0xa7, 0x00, 0x04, 0x03, 0xac]
def LRX7_takeItem_3 : List UInt8 := LBX7_takeItem_3 ++ LRX7_takeItem_4
def LBX7_takeItem_2 : List UInt8 := [0x37, 0xb6, 0x00, 0x2b, 0x99, 0x00, 0x0f, 0x2a, 0x2b, 0xb6, 0x00, 0x39, 0x99, 0x00, 0x07, 0x04]
def LRX7_takeItem_2 : List UInt8 := LBX7_takeItem_2 ++ LRX7_takeItem_3
def LBX7_takeItem_1 : List UInt8 := [0x12, 0x32, 0xb6, 0x00, 0x2b, 0x99, 0x00, 0x09, 0x2a, 0x2b, 0xb6, 0x00, 0x34, 0xac, 0x2a, 0x12]
def LRX7_takeItem_1 : List UInt8 := LBX7_takeItem_1 ++ LRX7_takeItem_2
def LBX7_takeItem_0 : List UInt8 := [0x2a, 0x12, 0x29, 0xb6, 0x00, 0x2b, 0x99, 0x00, 0x09, 0x2a, 0x2b, 0xb6, 0x00, 0x2f, 0xac, 0x2a]
def LRX7_takeItem_0 : List UInt8 := LBX7_takeItem_0 ++ LRX7_takeItem_1
set_option maxRecDepth 100000 in
theorem LBX7_takeItem_eq : cX7_takeItem.data.toList = LRX7_takeItem_0 := by decide +kernel
theorem LBX7_takeItemr_0 (k : Nat) : cX7_takeItem.data.toList[0 + k]? = LRX7_takeItem_0[k]? := by rw [LBX7_takeItem_eq, Nat.zero_add]
theorem LBX7_takeItemr_1 (k : Nat) : cX7_takeItem.data.toList[16 + k]? = LRX7_takeItem_1[k]? := by
  have h := LBX7_takeItemr_0 (16 + k)
  rw [show 0 + (16 + k) = 16 + k by omega] at h
  rw [h]
  exact (List.getElem?_append_right (l₁ := LBX7_takeItem_0) (l₂ := LRX7_takeItem_1) (show 16 ≤ 16 + k by omega)).trans (congrArg (fun i => LRX7_takeItem_1[i]?) (show 16 + k - 16 = k by omega))
theorem LBX7_takeItemr_2 (k : Nat) : cX7_takeItem.data.toList[32 + k]? = LRX7_takeItem_2[k]? := by
  have h := LBX7_takeItemr_1 (16 + k)
  rw [show 16 + (16 + k) = 32 + k by omega] at h
  rw [h]
  exact (List.getElem?_append_right (l₁ := LBX7_takeItem_1) (l₂ := LRX7_takeItem_2) (show 16 ≤ 16 + k by omega)).trans (congrArg (fun i => LRX7_takeItem_2[i]?) (show 16 + k - 16 = k by omega))
theorem LBX7_takeItemr_3 (k : Nat) : cX7_takeItem.data.toList[48 + k]? = LRX7_takeItem_3[k]? := by
  have h := LBX7_takeItemr_2 (16 + k)
  rw [show 32 + (16 + k) = 48 + k by omega] at h
  rw [h]
  exact (List.getElem?_append_right (l₁ := LBX7_takeItem_2) (l₂ := LRX7_takeItem_3) (show 16 ≤ 16 + k by omega)).trans (congrArg (fun i => LRX7_takeItem_3[i]?) (show 16 + k - 16 = k by omega))
theorem dX7_takeItem_0 : decode cX7_takeItem 0 = .ok (.aload_n 0, 1) := dk_42_ (show cX7_takeItem.data.toList[0]? = some 0x2a from (LBX7_takeItemr_0 0).trans (by decide +kernel))
theorem dX7_takeItem_1 : decode cX7_takeItem 1 = .ok (.ldc 41, 2) := dk_18_ (show cX7_takeItem.data.toList[1]? = some 0x12 from (LBX7_takeItemr_0 1).trans (by decide +kernel)) (show cX7_takeItem.data.toList[2]? = some 0x29 from (LBX7_takeItemr_0 2).trans (by decide +kernel)) (by decide)
theorem dX7_takeItem_3 : decode cX7_takeItem 3 = .ok (.invokevirtual 43, 3) := dk_182_ (show cX7_takeItem.data.toList[3]? = some 0xb6 from (LBX7_takeItemr_0 3).trans (by decide +kernel)) (show cX7_takeItem.data.toList[4]? = some 0x00 from (LBX7_takeItemr_0 4).trans (by decide +kernel)) (show cX7_takeItem.data.toList[5]? = some 0x2b from (LBX7_takeItemr_0 5).trans (by decide +kernel)) (by decide)
theorem dX7_takeItem_6 : decode cX7_takeItem 6 = .ok (.ifCond .eq 9, 3) := dk_153_ (show cX7_takeItem.data.toList[6]? = some 0x99 from (LBX7_takeItemr_0 6).trans (by decide +kernel)) (show cX7_takeItem.data.toList[7]? = some 0x00 from (LBX7_takeItemr_0 7).trans (by decide +kernel)) (show cX7_takeItem.data.toList[8]? = some 0x09 from (LBX7_takeItemr_0 8).trans (by decide +kernel)) (by decide)
theorem dX7_takeItem_9 : decode cX7_takeItem 9 = .ok (.aload_n 0, 1) := dk_42_ (show cX7_takeItem.data.toList[9]? = some 0x2a from (LBX7_takeItemr_0 9).trans (by decide +kernel))
theorem dX7_takeItem_10 : decode cX7_takeItem 10 = .ok (.aload_n 1, 1) := dk_43_ (show cX7_takeItem.data.toList[10]? = some 0x2b from (LBX7_takeItemr_0 10).trans (by decide +kernel))
theorem dX7_takeItem_11 : decode cX7_takeItem 11 = .ok (.invokevirtual 47, 3) := dk_182_ (show cX7_takeItem.data.toList[11]? = some 0xb6 from (LBX7_takeItemr_0 11).trans (by decide +kernel)) (show cX7_takeItem.data.toList[12]? = some 0x00 from (LBX7_takeItemr_0 12).trans (by decide +kernel)) (show cX7_takeItem.data.toList[13]? = some 0x2f from (LBX7_takeItemr_0 13).trans (by decide +kernel)) (by decide)
theorem dX7_takeItem_14 : decode cX7_takeItem 14 = .ok (.ireturn, 1) := dk_172_ (show cX7_takeItem.data.toList[14]? = some 0xac from (LBX7_takeItemr_0 14).trans (by decide +kernel))
theorem dX7_takeItem_15 : decode cX7_takeItem 15 = .ok (.aload_n 0, 1) := dk_42_ (show cX7_takeItem.data.toList[15]? = some 0x2a from (LBX7_takeItemr_0 15).trans (by decide +kernel))
theorem dX7_takeItem_16 : decode cX7_takeItem 16 = .ok (.ldc 50, 2) := dk_18_ (show cX7_takeItem.data.toList[16]? = some 0x12 from (LBX7_takeItemr_1 0).trans (by decide +kernel)) (show cX7_takeItem.data.toList[17]? = some 0x32 from (LBX7_takeItemr_1 1).trans (by decide +kernel)) (by decide)
theorem dX7_takeItem_18 : decode cX7_takeItem 18 = .ok (.invokevirtual 43, 3) := dk_182_ (show cX7_takeItem.data.toList[18]? = some 0xb6 from (LBX7_takeItemr_1 2).trans (by decide +kernel)) (show cX7_takeItem.data.toList[19]? = some 0x00 from (LBX7_takeItemr_1 3).trans (by decide +kernel)) (show cX7_takeItem.data.toList[20]? = some 0x2b from (LBX7_takeItemr_1 4).trans (by decide +kernel)) (by decide)
theorem dX7_takeItem_21 : decode cX7_takeItem 21 = .ok (.ifCond .eq 9, 3) := dk_153_ (show cX7_takeItem.data.toList[21]? = some 0x99 from (LBX7_takeItemr_1 5).trans (by decide +kernel)) (show cX7_takeItem.data.toList[22]? = some 0x00 from (LBX7_takeItemr_1 6).trans (by decide +kernel)) (show cX7_takeItem.data.toList[23]? = some 0x09 from (LBX7_takeItemr_1 7).trans (by decide +kernel)) (by decide)
theorem dX7_takeItem_24 : decode cX7_takeItem 24 = .ok (.aload_n 0, 1) := dk_42_ (show cX7_takeItem.data.toList[24]? = some 0x2a from (LBX7_takeItemr_1 8).trans (by decide +kernel))
theorem dX7_takeItem_25 : decode cX7_takeItem 25 = .ok (.aload_n 1, 1) := dk_43_ (show cX7_takeItem.data.toList[25]? = some 0x2b from (LBX7_takeItemr_1 9).trans (by decide +kernel))
theorem dX7_takeItem_26 : decode cX7_takeItem 26 = .ok (.invokevirtual 52, 3) := dk_182_ (show cX7_takeItem.data.toList[26]? = some 0xb6 from (LBX7_takeItemr_1 10).trans (by decide +kernel)) (show cX7_takeItem.data.toList[27]? = some 0x00 from (LBX7_takeItemr_1 11).trans (by decide +kernel)) (show cX7_takeItem.data.toList[28]? = some 0x34 from (LBX7_takeItemr_1 12).trans (by decide +kernel)) (by decide)
theorem dX7_takeItem_29 : decode cX7_takeItem 29 = .ok (.ireturn, 1) := dk_172_ (show cX7_takeItem.data.toList[29]? = some 0xac from (LBX7_takeItemr_1 13).trans (by decide +kernel))
theorem dX7_takeItem_30 : decode cX7_takeItem 30 = .ok (.aload_n 0, 1) := dk_42_ (show cX7_takeItem.data.toList[30]? = some 0x2a from (LBX7_takeItemr_1 14).trans (by decide +kernel))
theorem dX7_takeItem_31 : decode cX7_takeItem 31 = .ok (.ldc 55, 2) := dk_18_ (show cX7_takeItem.data.toList[31]? = some 0x12 from (LBX7_takeItemr_1 15).trans (by decide +kernel)) (show cX7_takeItem.data.toList[32]? = some 0x37 from (LBX7_takeItemr_2 0).trans (by decide +kernel)) (by decide)
theorem dX7_takeItem_33 : decode cX7_takeItem 33 = .ok (.invokevirtual 43, 3) := dk_182_ (show cX7_takeItem.data.toList[33]? = some 0xb6 from (LBX7_takeItemr_2 1).trans (by decide +kernel)) (show cX7_takeItem.data.toList[34]? = some 0x00 from (LBX7_takeItemr_2 2).trans (by decide +kernel)) (show cX7_takeItem.data.toList[35]? = some 0x2b from (LBX7_takeItemr_2 3).trans (by decide +kernel)) (by decide)
theorem dX7_takeItem_36 : decode cX7_takeItem 36 = .ok (.ifCond .eq 15, 3) := dk_153_ (show cX7_takeItem.data.toList[36]? = some 0x99 from (LBX7_takeItemr_2 4).trans (by decide +kernel)) (show cX7_takeItem.data.toList[37]? = some 0x00 from (LBX7_takeItemr_2 5).trans (by decide +kernel)) (show cX7_takeItem.data.toList[38]? = some 0x0f from (LBX7_takeItemr_2 6).trans (by decide +kernel)) (by decide)
theorem dX7_takeItem_39 : decode cX7_takeItem 39 = .ok (.aload_n 0, 1) := dk_42_ (show cX7_takeItem.data.toList[39]? = some 0x2a from (LBX7_takeItemr_2 7).trans (by decide +kernel))
theorem dX7_takeItem_40 : decode cX7_takeItem 40 = .ok (.aload_n 1, 1) := dk_43_ (show cX7_takeItem.data.toList[40]? = some 0x2b from (LBX7_takeItemr_2 8).trans (by decide +kernel))
theorem dX7_takeItem_41 : decode cX7_takeItem 41 = .ok (.invokevirtual 57, 3) := dk_182_ (show cX7_takeItem.data.toList[41]? = some 0xb6 from (LBX7_takeItemr_2 9).trans (by decide +kernel)) (show cX7_takeItem.data.toList[42]? = some 0x00 from (LBX7_takeItemr_2 10).trans (by decide +kernel)) (show cX7_takeItem.data.toList[43]? = some 0x39 from (LBX7_takeItemr_2 11).trans (by decide +kernel)) (by decide)
theorem dX7_takeItem_44 : decode cX7_takeItem 44 = .ok (.ifCond .eq 7, 3) := dk_153_ (show cX7_takeItem.data.toList[44]? = some 0x99 from (LBX7_takeItemr_2 12).trans (by decide +kernel)) (show cX7_takeItem.data.toList[45]? = some 0x00 from (LBX7_takeItemr_2 13).trans (by decide +kernel)) (show cX7_takeItem.data.toList[46]? = some 0x07 from (LBX7_takeItemr_2 14).trans (by decide +kernel)) (by decide)
theorem dX7_takeItem_47 : decode cX7_takeItem 47 = .ok (.iconst 1, 1) := dk_4_ (show cX7_takeItem.data.toList[47]? = some 0x04 from (LBX7_takeItemr_2 15).trans (by decide +kernel))
theorem dX7_takeItem_48 : decode cX7_takeItem 48 = .ok (.goto 4, 3) := dk_167_ (show cX7_takeItem.data.toList[48]? = some 0xa7 from (LBX7_takeItemr_3 0).trans (by decide +kernel)) (show cX7_takeItem.data.toList[49]? = some 0x00 from (LBX7_takeItemr_3 1).trans (by decide +kernel)) (show cX7_takeItem.data.toList[50]? = some 0x04 from (LBX7_takeItemr_3 2).trans (by decide +kernel)) (by decide)
theorem dX7_takeItem_51 : decode cX7_takeItem 51 = .ok (.iconst 0, 1) := dk_3_ (show cX7_takeItem.data.toList[51]? = some 0x03 from (LBX7_takeItemr_3 3).trans (by decide +kernel))
theorem dX7_takeItem_52 : decode cX7_takeItem 52 = .ok (.ireturn, 1) := dk_172_ (show cX7_takeItem.data.toList[52]? = some 0xac from (LBX7_takeItemr_3 4).trans (by decide +kernel))
def LRX7_tellTo_5 : List UInt8 := []
def LBX7_tellTo_4 : List UInt8 := [0xff, 0xcc, 0x02, 0x2a, 0xb4, 0x00, 0x16, 0x64, 0xac]
def LRX7_tellTo_4 : List UInt8 := LBX7_tellTo_4 ++ LRX7_tellTo_5
def LBX7_tellTo_3 : List UInt8 := [0x0a, 0x02, 0x2a, 0xb4, 0x00, 0x16, 0x64, 0xac, 0x2a, 0xb6, 0x00, 0x22, 0x84, 0x02, 0x01, 0xa7]
def LRX7_tellTo_3 : List UInt8 := LBX7_tellTo_3 ++ LRX7_tellTo_4
def LBX7_tellTo_2 : List UInt8 := [0x2a, 0xb4, 0x00, 0x13, 0x9a, 0x00, 0x05, 0x1c, 0xac, 0x2a, 0xb4, 0x00, 0x13, 0x06, 0x9f, 0x00]
def LRX7_tellTo_2 : List UInt8 := LBX7_tellTo_2 ++ LRX7_tellTo_3
def LBX7_tellTo_1 : List UInt8 := [0x34, 0x2a, 0x2b, 0xb6, 0x00, 0x25, 0x9a, 0x00, 0x0a, 0x02, 0x2a, 0xb4, 0x00, 0x16, 0x64, 0xac]
def LRX7_tellTo_1 : List UInt8 := LBX7_tellTo_1 ++ LRX7_tellTo_2
def LBX7_tellTo_0 : List UInt8 := [0x2a, 0x03, 0xb5, 0x00, 0x19, 0x2a, 0xb6, 0x00, 0x22, 0x04, 0x3d, 0x1c, 0x10, 0x78, 0xa3, 0x00]
def LRX7_tellTo_0 : List UInt8 := LBX7_tellTo_0 ++ LRX7_tellTo_1
set_option maxRecDepth 100000 in
theorem LBX7_tellTo_eq : cX7_tellTo.data.toList = LRX7_tellTo_0 := by decide +kernel
theorem LBX7_tellTor_0 (k : Nat) : cX7_tellTo.data.toList[0 + k]? = LRX7_tellTo_0[k]? := by rw [LBX7_tellTo_eq, Nat.zero_add]
theorem LBX7_tellTor_1 (k : Nat) : cX7_tellTo.data.toList[16 + k]? = LRX7_tellTo_1[k]? := by
  have h := LBX7_tellTor_0 (16 + k)
  rw [show 0 + (16 + k) = 16 + k by omega] at h
  rw [h]
  exact (List.getElem?_append_right (l₁ := LBX7_tellTo_0) (l₂ := LRX7_tellTo_1) (show 16 ≤ 16 + k by omega)).trans (congrArg (fun i => LRX7_tellTo_1[i]?) (show 16 + k - 16 = k by omega))
theorem LBX7_tellTor_2 (k : Nat) : cX7_tellTo.data.toList[32 + k]? = LRX7_tellTo_2[k]? := by
  have h := LBX7_tellTor_1 (16 + k)
  rw [show 16 + (16 + k) = 32 + k by omega] at h
  rw [h]
  exact (List.getElem?_append_right (l₁ := LBX7_tellTo_1) (l₂ := LRX7_tellTo_2) (show 16 ≤ 16 + k by omega)).trans (congrArg (fun i => LRX7_tellTo_2[i]?) (show 16 + k - 16 = k by omega))
theorem LBX7_tellTor_3 (k : Nat) : cX7_tellTo.data.toList[48 + k]? = LRX7_tellTo_3[k]? := by
  have h := LBX7_tellTor_2 (16 + k)
  rw [show 32 + (16 + k) = 48 + k by omega] at h
  rw [h]
  exact (List.getElem?_append_right (l₁ := LBX7_tellTo_2) (l₂ := LRX7_tellTo_3) (show 16 ≤ 16 + k by omega)).trans (congrArg (fun i => LRX7_tellTo_3[i]?) (show 16 + k - 16 = k by omega))
theorem LBX7_tellTor_4 (k : Nat) : cX7_tellTo.data.toList[64 + k]? = LRX7_tellTo_4[k]? := by
  have h := LBX7_tellTor_3 (16 + k)
  rw [show 48 + (16 + k) = 64 + k by omega] at h
  rw [h]
  exact (List.getElem?_append_right (l₁ := LBX7_tellTo_3) (l₂ := LRX7_tellTo_4) (show 16 ≤ 16 + k by omega)).trans (congrArg (fun i => LRX7_tellTo_4[i]?) (show 16 + k - 16 = k by omega))
theorem dX7_tellTo_0 : decode cX7_tellTo 0 = .ok (.aload_n 0, 1) := dk_42_ (show cX7_tellTo.data.toList[0]? = some 0x2a from (LBX7_tellTor_0 0).trans (by decide +kernel))
theorem dX7_tellTo_1 : decode cX7_tellTo 1 = .ok (.iconst 0, 1) := dk_3_ (show cX7_tellTo.data.toList[1]? = some 0x03 from (LBX7_tellTor_0 1).trans (by decide +kernel))
theorem dX7_tellTo_2 : decode cX7_tellTo 2 = .ok (.putfield 25, 3) := dk_181_ (show cX7_tellTo.data.toList[2]? = some 0xb5 from (LBX7_tellTor_0 2).trans (by decide +kernel)) (show cX7_tellTo.data.toList[3]? = some 0x00 from (LBX7_tellTor_0 3).trans (by decide +kernel)) (show cX7_tellTo.data.toList[4]? = some 0x19 from (LBX7_tellTor_0 4).trans (by decide +kernel)) (by decide)
theorem dX7_tellTo_5 : decode cX7_tellTo 5 = .ok (.aload_n 0, 1) := dk_42_ (show cX7_tellTo.data.toList[5]? = some 0x2a from (LBX7_tellTor_0 5).trans (by decide +kernel))
theorem dX7_tellTo_6 : decode cX7_tellTo 6 = .ok (.invokevirtual 34, 3) := dk_182_ (show cX7_tellTo.data.toList[6]? = some 0xb6 from (LBX7_tellTor_0 6).trans (by decide +kernel)) (show cX7_tellTo.data.toList[7]? = some 0x00 from (LBX7_tellTor_0 7).trans (by decide +kernel)) (show cX7_tellTo.data.toList[8]? = some 0x22 from (LBX7_tellTor_0 8).trans (by decide +kernel)) (by decide)
theorem dX7_tellTo_9 : decode cX7_tellTo 9 = .ok (.iconst 1, 1) := dk_4_ (show cX7_tellTo.data.toList[9]? = some 0x04 from (LBX7_tellTor_0 9).trans (by decide +kernel))
theorem dX7_tellTo_10 : decode cX7_tellTo 10 = .ok (.istore_n 2, 1) := dk_61_ (show cX7_tellTo.data.toList[10]? = some 0x3d from (LBX7_tellTor_0 10).trans (by decide +kernel))
theorem dX7_tellTo_11 : decode cX7_tellTo 11 = .ok (.iload_n 2, 1) := dk_28_ (show cX7_tellTo.data.toList[11]? = some 0x1c from (LBX7_tellTor_0 11).trans (by decide +kernel))
theorem dX7_tellTo_12 : decode cX7_tellTo 12 = .ok (.bipush 120, 2) := dk_16_ (show cX7_tellTo.data.toList[12]? = some 0x10 from (LBX7_tellTor_0 12).trans (by decide +kernel)) (show cX7_tellTo.data.toList[13]? = some 0x78 from (LBX7_tellTor_0 13).trans (by decide +kernel)) (by decide)
theorem dX7_tellTo_14 : decode cX7_tellTo 14 = .ok (.if_icmp .gt 52, 3) := dk_163_ (show cX7_tellTo.data.toList[14]? = some 0xa3 from (LBX7_tellTor_0 14).trans (by decide +kernel)) (show cX7_tellTo.data.toList[15]? = some 0x00 from (LBX7_tellTor_0 15).trans (by decide +kernel)) (show cX7_tellTo.data.toList[16]? = some 0x34 from (LBX7_tellTor_1 0).trans (by decide +kernel)) (by decide)
theorem dX7_tellTo_17 : decode cX7_tellTo 17 = .ok (.aload_n 0, 1) := dk_42_ (show cX7_tellTo.data.toList[17]? = some 0x2a from (LBX7_tellTor_1 1).trans (by decide +kernel))
theorem dX7_tellTo_18 : decode cX7_tellTo 18 = .ok (.aload_n 1, 1) := dk_43_ (show cX7_tellTo.data.toList[18]? = some 0x2b from (LBX7_tellTor_1 2).trans (by decide +kernel))
theorem dX7_tellTo_19 : decode cX7_tellTo 19 = .ok (.invokevirtual 37, 3) := dk_182_ (show cX7_tellTo.data.toList[19]? = some 0xb6 from (LBX7_tellTor_1 3).trans (by decide +kernel)) (show cX7_tellTo.data.toList[20]? = some 0x00 from (LBX7_tellTor_1 4).trans (by decide +kernel)) (show cX7_tellTo.data.toList[21]? = some 0x25 from (LBX7_tellTor_1 5).trans (by decide +kernel)) (by decide)
theorem dX7_tellTo_22 : decode cX7_tellTo 22 = .ok (.ifCond .ne 10, 3) := dk_154_ (show cX7_tellTo.data.toList[22]? = some 0x9a from (LBX7_tellTor_1 6).trans (by decide +kernel)) (show cX7_tellTo.data.toList[23]? = some 0x00 from (LBX7_tellTor_1 7).trans (by decide +kernel)) (show cX7_tellTo.data.toList[24]? = some 0x0a from (LBX7_tellTor_1 8).trans (by decide +kernel)) (by decide)
theorem dX7_tellTo_25 : decode cX7_tellTo 25 = .ok (.iconst (-1), 1) := dk_2_ (show cX7_tellTo.data.toList[25]? = some 0x02 from (LBX7_tellTor_1 9).trans (by decide +kernel))
theorem dX7_tellTo_26 : decode cX7_tellTo 26 = .ok (.aload_n 0, 1) := dk_42_ (show cX7_tellTo.data.toList[26]? = some 0x2a from (LBX7_tellTor_1 10).trans (by decide +kernel))
theorem dX7_tellTo_27 : decode cX7_tellTo 27 = .ok (.getfield 22, 3) := dk_180_ (show cX7_tellTo.data.toList[27]? = some 0xb4 from (LBX7_tellTor_1 11).trans (by decide +kernel)) (show cX7_tellTo.data.toList[28]? = some 0x00 from (LBX7_tellTor_1 12).trans (by decide +kernel)) (show cX7_tellTo.data.toList[29]? = some 0x16 from (LBX7_tellTor_1 13).trans (by decide +kernel)) (by decide)
theorem dX7_tellTo_30 : decode cX7_tellTo 30 = .ok (.isub, 1) := dk_100_ (show cX7_tellTo.data.toList[30]? = some 0x64 from (LBX7_tellTor_1 14).trans (by decide +kernel))
theorem dX7_tellTo_31 : decode cX7_tellTo 31 = .ok (.ireturn, 1) := dk_172_ (show cX7_tellTo.data.toList[31]? = some 0xac from (LBX7_tellTor_1 15).trans (by decide +kernel))
theorem dX7_tellTo_32 : decode cX7_tellTo 32 = .ok (.aload_n 0, 1) := dk_42_ (show cX7_tellTo.data.toList[32]? = some 0x2a from (LBX7_tellTor_2 0).trans (by decide +kernel))
theorem dX7_tellTo_33 : decode cX7_tellTo 33 = .ok (.getfield 19, 3) := dk_180_ (show cX7_tellTo.data.toList[33]? = some 0xb4 from (LBX7_tellTor_2 1).trans (by decide +kernel)) (show cX7_tellTo.data.toList[34]? = some 0x00 from (LBX7_tellTor_2 2).trans (by decide +kernel)) (show cX7_tellTo.data.toList[35]? = some 0x13 from (LBX7_tellTor_2 3).trans (by decide +kernel)) (by decide)
theorem dX7_tellTo_36 : decode cX7_tellTo 36 = .ok (.ifCond .ne 5, 3) := dk_154_ (show cX7_tellTo.data.toList[36]? = some 0x9a from (LBX7_tellTor_2 4).trans (by decide +kernel)) (show cX7_tellTo.data.toList[37]? = some 0x00 from (LBX7_tellTor_2 5).trans (by decide +kernel)) (show cX7_tellTo.data.toList[38]? = some 0x05 from (LBX7_tellTor_2 6).trans (by decide +kernel)) (by decide)
theorem dX7_tellTo_39 : decode cX7_tellTo 39 = .ok (.iload_n 2, 1) := dk_28_ (show cX7_tellTo.data.toList[39]? = some 0x1c from (LBX7_tellTor_2 7).trans (by decide +kernel))
theorem dX7_tellTo_40 : decode cX7_tellTo 40 = .ok (.ireturn, 1) := dk_172_ (show cX7_tellTo.data.toList[40]? = some 0xac from (LBX7_tellTor_2 8).trans (by decide +kernel))
theorem dX7_tellTo_41 : decode cX7_tellTo 41 = .ok (.aload_n 0, 1) := dk_42_ (show cX7_tellTo.data.toList[41]? = some 0x2a from (LBX7_tellTor_2 9).trans (by decide +kernel))
theorem dX7_tellTo_42 : decode cX7_tellTo 42 = .ok (.getfield 19, 3) := dk_180_ (show cX7_tellTo.data.toList[42]? = some 0xb4 from (LBX7_tellTor_2 10).trans (by decide +kernel)) (show cX7_tellTo.data.toList[43]? = some 0x00 from (LBX7_tellTor_2 11).trans (by decide +kernel)) (show cX7_tellTo.data.toList[44]? = some 0x13 from (LBX7_tellTor_2 12).trans (by decide +kernel)) (by decide)
theorem dX7_tellTo_45 : decode cX7_tellTo 45 = .ok (.iconst 3, 1) := dk_6_ (show cX7_tellTo.data.toList[45]? = some 0x06 from (LBX7_tellTor_2 13).trans (by decide +kernel))
theorem dX7_tellTo_46 : decode cX7_tellTo 46 = .ok (.if_icmp .eq 10, 3) := dk_159_ (show cX7_tellTo.data.toList[46]? = some 0x9f from (LBX7_tellTor_2 14).trans (by decide +kernel)) (show cX7_tellTo.data.toList[47]? = some 0x00 from (LBX7_tellTor_2 15).trans (by decide +kernel)) (show cX7_tellTo.data.toList[48]? = some 0x0a from (LBX7_tellTor_3 0).trans (by decide +kernel)) (by decide)
theorem dX7_tellTo_49 : decode cX7_tellTo 49 = .ok (.iconst (-1), 1) := dk_2_ (show cX7_tellTo.data.toList[49]? = some 0x02 from (LBX7_tellTor_3 1).trans (by decide +kernel))
theorem dX7_tellTo_50 : decode cX7_tellTo 50 = .ok (.aload_n 0, 1) := dk_42_ (show cX7_tellTo.data.toList[50]? = some 0x2a from (LBX7_tellTor_3 2).trans (by decide +kernel))
theorem dX7_tellTo_51 : decode cX7_tellTo 51 = .ok (.getfield 22, 3) := dk_180_ (show cX7_tellTo.data.toList[51]? = some 0xb4 from (LBX7_tellTor_3 3).trans (by decide +kernel)) (show cX7_tellTo.data.toList[52]? = some 0x00 from (LBX7_tellTor_3 4).trans (by decide +kernel)) (show cX7_tellTo.data.toList[53]? = some 0x16 from (LBX7_tellTor_3 5).trans (by decide +kernel)) (by decide)
theorem dX7_tellTo_54 : decode cX7_tellTo 54 = .ok (.isub, 1) := dk_100_ (show cX7_tellTo.data.toList[54]? = some 0x64 from (LBX7_tellTor_3 6).trans (by decide +kernel))
theorem dX7_tellTo_55 : decode cX7_tellTo 55 = .ok (.ireturn, 1) := dk_172_ (show cX7_tellTo.data.toList[55]? = some 0xac from (LBX7_tellTor_3 7).trans (by decide +kernel))
theorem dX7_tellTo_56 : decode cX7_tellTo 56 = .ok (.aload_n 0, 1) := dk_42_ (show cX7_tellTo.data.toList[56]? = some 0x2a from (LBX7_tellTor_3 8).trans (by decide +kernel))
theorem dX7_tellTo_57 : decode cX7_tellTo 57 = .ok (.invokevirtual 34, 3) := dk_182_ (show cX7_tellTo.data.toList[57]? = some 0xb6 from (LBX7_tellTor_3 9).trans (by decide +kernel)) (show cX7_tellTo.data.toList[58]? = some 0x00 from (LBX7_tellTor_3 10).trans (by decide +kernel)) (show cX7_tellTo.data.toList[59]? = some 0x22 from (LBX7_tellTor_3 11).trans (by decide +kernel)) (by decide)
theorem dX7_tellTo_60 : decode cX7_tellTo 60 = .ok (.iinc 2 1, 3) := dk_132_ (show cX7_tellTo.data.toList[60]? = some 0x84 from (LBX7_tellTor_3 12).trans (by decide +kernel)) (show cX7_tellTo.data.toList[61]? = some 0x02 from (LBX7_tellTor_3 13).trans (by decide +kernel)) (show cX7_tellTo.data.toList[62]? = some 0x01 from (LBX7_tellTor_3 14).trans (by decide +kernel)) (by decide) (by decide)
theorem dX7_tellTo_63 : decode cX7_tellTo 63 = .ok (.goto (-52), 3) := dk_167_ (show cX7_tellTo.data.toList[63]? = some 0xa7 from (LBX7_tellTor_3 15).trans (by decide +kernel)) (show cX7_tellTo.data.toList[64]? = some 0xff from (LBX7_tellTor_4 0).trans (by decide +kernel)) (show cX7_tellTo.data.toList[65]? = some 0xcc from (LBX7_tellTor_4 1).trans (by decide +kernel)) (by decide)
theorem dX7_tellTo_66 : decode cX7_tellTo 66 = .ok (.iconst (-1), 1) := dk_2_ (show cX7_tellTo.data.toList[66]? = some 0x02 from (LBX7_tellTor_4 2).trans (by decide +kernel))
theorem dX7_tellTo_67 : decode cX7_tellTo 67 = .ok (.aload_n 0, 1) := dk_42_ (show cX7_tellTo.data.toList[67]? = some 0x2a from (LBX7_tellTor_4 3).trans (by decide +kernel))
theorem dX7_tellTo_68 : decode cX7_tellTo 68 = .ok (.getfield 22, 3) := dk_180_ (show cX7_tellTo.data.toList[68]? = some 0xb4 from (LBX7_tellTor_4 4).trans (by decide +kernel)) (show cX7_tellTo.data.toList[69]? = some 0x00 from (LBX7_tellTor_4 5).trans (by decide +kernel)) (show cX7_tellTo.data.toList[70]? = some 0x16 from (LBX7_tellTor_4 6).trans (by decide +kernel)) (by decide)
theorem dX7_tellTo_71 : decode cX7_tellTo 71 = .ok (.isub, 1) := dk_100_ (show cX7_tellTo.data.toList[71]? = some 0x64 from (LBX7_tellTor_4 7).trans (by decide +kernel))
theorem dX7_tellTo_72 : decode cX7_tellTo 72 = .ok (.ireturn, 1) := dk_172_ (show cX7_tellTo.data.toList[72]? = some 0xac from (LBX7_tellTor_4 8).trans (by decide +kernel))
theorem uw321 : Cond.fieldLink RX7 60 "LongerBack$Land" "places" "I" ∈ wsU := ut1 (List.mem_of_getElem? (i := 58) rfl) rfl
theorem uw322 : Cond.methodLink RX7 67 yX7_takeWord ∈ wsU := ut4 (List.mem_of_getElem? (i := 85) rfl) rfl
theorem uw323 : Cond.instanceMethod yX7_takeWord ∈ wsU := ut4 (List.mem_of_getElem? (i := 87) rfl) rfl
theorem uw324 : Cond.selects RX7 yX7_takeWord yX7_takeWord ∈ wsU := us_sel (q := (yX7_takeWord, 7)) (List.mem_of_getElem? (i := 20) (by decide +kernel)) rfl
theorem uw325 : Cond.code yX7_takeWord cX7_takeWord 2 (some .boolean) ∈ wsU := ut4 (List.mem_of_getElem? (i := 88) rfl) rfl
theorem uw326 : Cond.methodLink RX7 70 yX7_takeNumber ∈ wsU := ut4 (List.mem_of_getElem? (i := 89) rfl) rfl
theorem uw327 : Cond.instanceMethod yX7_takeNumber ∈ wsU := ut4 (List.mem_of_getElem? (i := 91) rfl) rfl
theorem uw328 : Cond.selects RX7 yX7_takeNumber yX7_takeNumber ∈ wsU := us_sel (q := (yX7_takeNumber, 7)) (List.mem_of_getElem? (i := 21) (by decide +kernel)) rfl
theorem uw329 : Cond.code yX7_takeNumber cX7_takeNumber 2 (some .boolean) ∈ wsU := ut4 (List.mem_of_getElem? (i := 92) rfl) rfl
theorem uw330 : Cond.methodLink RX7 74 yX1_addPlace ∈ wsU := ut4 (List.mem_of_getElem? (i := 93) rfl) rfl
theorem uw331 : Cond.instanceMethod yX1_addPlace ∈ wsU := ut2 (List.mem_of_getElem? (i := 17) rfl) rfl
theorem uw332 : Cond.selects RX1 yX1_addPlace yX1_addPlace ∈ wsU := ut2 (List.mem_of_getElem? (i := 18) rfl) rfl
theorem uw333 : Cond.code yX1_addPlace cX1_addPlace 3 (some .int) ∈ wsU := ut2 (List.mem_of_getElem? (i := 19) rfl) rfl
theorem uw334 : Cond.methodLink RX7 78 yX7_takeMile ∈ wsU := ut4 (List.mem_of_getElem? (i := 99) rfl) rfl
theorem uw335 : Cond.instanceMethod yX7_takeMile ∈ wsU := ut4 (List.mem_of_getElem? (i := 101) rfl) rfl
theorem uw336 : Cond.selects RX7 yX7_takeMile yX7_takeMile ∈ wsU := us_sel (q := (yX7_takeMile, 7)) (List.mem_of_getElem? (i := 23) (by decide +kernel)) rfl
theorem uw337 : Cond.code yX7_takeMile cX7_takeMile 5 (some .boolean) ∈ wsU := ut4 (List.mem_of_getElem? (i := 102) rfl) rfl
theorem uw338 : Cond.methodLink RX7 84 yX1_setWay ∈ wsU := ut4 (List.mem_of_getElem? (i := 104) rfl) rfl
theorem uw339 : Cond.instanceMethod yX1_setWay ∈ wsU := ut2 (List.mem_of_getElem? (i := 51) rfl) rfl
theorem uw340 : Cond.selects RX1 yX1_setWay yX1_setWay ∈ wsU := ut2 (List.mem_of_getElem? (i := 52) rfl) rfl
theorem uw341 : Cond.code yX1_setWay cX1_setWay 6 none ∈ wsU := ut2 (List.mem_of_getElem? (i := 53) rfl) rfl
theorem uw342 : Cond.methodLink RX7 90 yX7_takeWayBack ∈ wsU := ut4 (List.mem_of_getElem? (i := 106) rfl) rfl
theorem uw343 : Cond.instanceMethod yX7_takeWayBack ∈ wsU := ut4 (List.mem_of_getElem? (i := 108) rfl) rfl
theorem uw344 : Cond.selects RX7 yX7_takeWayBack yX7_takeWayBack ∈ wsU := us_sel (q := (yX7_takeWayBack, 7)) (List.mem_of_getElem? (i := 24) (by decide +kernel)) rfl
theorem uw345 : Cond.code yX7_takeWayBack cX7_takeWayBack 4 (some .boolean) ∈ wsU := ut4 (List.mem_of_getElem? (i := 109) rfl) rfl
theorem uw346 : Cond.fieldLink RX7 129 "LongerBack$Land" "slacks" "[I" ∈ wsU := ut1 (List.mem_of_getElem? (i := 82) rfl) rfl
theorem uw347 : Cond.fieldLink RX7 94 "LongerBack$Land" "walks" "LLongerBack$Rows;" ∈ wsU := ut1 (List.mem_of_getElem? (i := 75) rfl) rfl
theorem uw348 : Cond.methodLink RX7 98 yX3_isFull ∈ wsU := ut4 (List.mem_of_getElem? (i := 115) rfl) rfl
theorem uw349 : Cond.instanceMethod yX3_isFull ∈ wsU := ut2 (List.mem_of_getElem? (i := 172) rfl) rfl
theorem uw350 : Cond.selects RX3 yX3_isFull yX3_isFull ∈ wsU := ut2 (List.mem_of_getElem? (i := 173) rfl) rfl
theorem uw351 : Cond.code yX3_isFull cX3_isFull 1 (some .boolean) ∈ wsU := ut2 (List.mem_of_getElem? (i := 174) rfl) rfl
theorem uw352 : Cond.methodLink RX7 104 yX1_addWalk ∈ wsU := ut4 (List.mem_of_getElem? (i := 116) rfl) rfl
theorem uw353 : Cond.instanceMethod yX1_addWalk ∈ wsU := ut3 (List.mem_of_getElem? (i := 116) rfl) rfl
theorem uw354 : Cond.selects RX1 yX1_addWalk yX1_addWalk ∈ wsU := ut3 (List.mem_of_getElem? (i := 117) rfl) rfl
theorem uw355 : Cond.code yX1_addWalk cX1_addWalk 5 (some .int) ∈ wsU := ut3 (List.mem_of_getElem? (i := 118) rfl) rfl
theorem uw356 : Cond.fieldLink RX7 115 "LongerBack$Rows" "lengths" "[I" ∈ wsU := ut1 (List.mem_of_getElem? (i := 43) rfl) rfl
theorem uw357 : Cond.fieldLink RX7 120 "LongerBack$Land" "totals" "[I" ∈ wsU := ut1 (List.mem_of_getElem? (i := 79) rfl) rfl
theorem uw358 : Cond.methodLink RX7 125 yX7_takeSlack ∈ wsU := ut4 (List.mem_of_getElem? (i := 121) rfl) rfl
theorem uw359 : Cond.instanceMethod yX7_takeSlack ∈ wsU := ut4 (List.mem_of_getElem? (i := 123) rfl) rfl
theorem uw360 : Cond.selects RX7 yX7_takeSlack yX7_takeSlack ∈ wsU := us_sel (q := (yX7_takeSlack, 7)) (List.mem_of_getElem? (i := 26) (by decide +kernel)) rfl
theorem uw361 : Cond.code yX7_takeSlack cX7_takeSlack 3 (some .boolean) ∈ wsU := ut4 (List.mem_of_getElem? (i := 124) rfl) rfl
theorem uw362 : Cond.methodLink RX7 108 yX3_lastStop ∈ wsU := ut4 (List.mem_of_getElem? (i := 117) rfl) rfl
theorem uw363 : Cond.methodLink RX7 111 yX3_append ∈ wsU := ut4 (List.mem_of_getElem? (i := 118) rfl) rfl
theorem uw364 : Cond.methodLink RX7 47 yX7_takePlace ∈ wsU := ut4 (List.mem_of_getElem? (i := 80) rfl) rfl
theorem uw365 : Cond.instanceMethod yX7_takePlace ∈ wsU := ut4 (List.mem_of_getElem? (i := 82) rfl) rfl
theorem uw366 : Cond.selects RX7 yX7_takePlace yX7_takePlace ∈ wsU := us_sel (q := (yX7_takePlace, 7)) (List.mem_of_getElem? (i := 19) (by decide +kernel)) rfl
theorem uw367 : Cond.code yX7_takePlace cX7_takePlace 3 (some .boolean) ∈ wsU := ut4 (List.mem_of_getElem? (i := 83) rfl) rfl
theorem uw368 : Cond.methodLink RX7 52 yX7_takeWay ∈ wsU := ut4 (List.mem_of_getElem? (i := 95) rfl) rfl
theorem uw369 : Cond.instanceMethod yX7_takeWay ∈ wsU := ut4 (List.mem_of_getElem? (i := 97) rfl) rfl
theorem uw370 : Cond.selects RX7 yX7_takeWay yX7_takeWay ∈ wsU := us_sel (q := (yX7_takeWay, 7)) (List.mem_of_getElem? (i := 22) (by decide +kernel)) rfl
theorem uw371 : Cond.code yX7_takeWay cX7_takeWay 6 (some .boolean) ∈ wsU := ut4 (List.mem_of_getElem? (i := 98) rfl) rfl
theorem uw372 : Cond.methodLink RX7 57 yX7_takeWalk ∈ wsU := ut4 (List.mem_of_getElem? (i := 111) rfl) rfl
theorem uw373 : Cond.instanceMethod yX7_takeWalk ∈ wsU := ut4 (List.mem_of_getElem? (i := 113) rfl) rfl
theorem uw374 : Cond.selects RX7 yX7_takeWalk yX7_takeWalk ∈ wsU := us_sel (q := (yX7_takeWalk, 7)) (List.mem_of_getElem? (i := 25) (by decide +kernel)) rfl
theorem uw375 : Cond.code yX7_takeWalk cX7_takeWalk 4 (some .boolean) ∈ wsU := ut4 (List.mem_of_getElem? (i := 114) rfl) rfl
theorem uw376 : Cond.methodLink RX7 37 yX7_takeItem ∈ wsU := ut4 (List.mem_of_getElem? (i := 23) rfl) rfl
theorem uw377 : Cond.instanceMethod yX7_takeItem ∈ wsU := ut4 (List.mem_of_getElem? (i := 25) rfl) rfl
theorem uw378 : Cond.selects RX7 yX7_takeItem yX7_takeItem ∈ wsU := us_sel (q := (yX7_takeItem, 7)) (List.mem_of_getElem? (i := 17) (by decide +kernel)) rfl
theorem uw379 : Cond.code yX7_takeItem cX7_takeItem 2 (some .boolean) ∈ wsU := ut4 (List.mem_of_getElem? (i := 26) rfl) rfl
theorem kf_X7_60 : xWF RX7 60 1 0 RX1 TX1 10 := ⟨inUX1, rfl, by decide, uw321⟩
theorem kv_X7_67 : xWV RX7 67 RX7 yX7_takeWord cX7_takeWord 2 (some .boolean) 1 := ⟨⟨uw322, uw323, uw324, uw299, uw325⟩, by decide +kernel⟩
theorem kv_X7_70 : xWV RX7 70 RX7 yX7_takeNumber cX7_takeNumber 2 (some .boolean) 1 := ⟨⟨uw326, uw327, uw328, uw299, uw329⟩, by decide +kernel⟩
theorem kv_X7_74 : xWV RX7 74 RX1 yX1_addPlace cX1_addPlace 3 (some .int) 1 := ⟨⟨uw330, uw331, uw332, uw19, uw333⟩, by decide +kernel⟩
theorem kv_X7_78 : xWV RX7 78 RX7 yX7_takeMile cX7_takeMile 5 (some .boolean) 2 := ⟨⟨uw334, uw335, uw336, uw299, uw337⟩, by decide +kernel⟩
theorem kv_X7_84 : xWV RX7 84 RX1 yX1_setWay cX1_setWay 6 none 4 := ⟨⟨uw338, uw339, uw340, uw19, uw341⟩, by decide +kernel⟩
theorem kv_X7_90 : xWV RX7 90 RX7 yX7_takeWayBack cX7_takeWayBack 4 (some .boolean) 3 := ⟨⟨uw342, uw343, uw344, uw299, uw345⟩, by decide +kernel⟩
theorem kf_X7_129 : xWF RX7 129 1 9 RX1 TX1 10 := ⟨inUX1, rfl, by decide, uw346⟩
theorem kf_X7_94 : xWF RX7 94 1 7 RX1 TX1 10 := ⟨inUX1, rfl, by decide, uw347⟩
theorem kv_X7_98 : xWV RX7 98 RX3 yX3_isFull cX3_isFull 1 (some .boolean) 0 := ⟨⟨uw348, uw349, uw350, uw42, uw351⟩, by decide +kernel⟩
theorem kv_X7_104 : xWV RX7 104 RX1 yX1_addWalk cX1_addWalk 5 (some .int) 3 := ⟨⟨uw352, uw353, uw354, uw19, uw355⟩, by decide +kernel⟩
theorem kf_X7_115 : xWF RX7 115 3 1 RX3 TX3 3 := ⟨inUX3, rfl, by decide, uw356⟩
theorem kf_X7_120 : xWF RX7 120 1 8 RX1 TX1 10 := ⟨inUX1, rfl, by decide, uw357⟩
theorem kv_X7_125 : xWV RX7 125 RX7 yX7_takeSlack cX7_takeSlack 3 (some .boolean) 2 := ⟨⟨uw358, uw359, uw360, uw299, uw361⟩, by decide +kernel⟩
theorem kv_X7_108 : xWV RX7 108 RX3 yX3_lastStop cX3_lastStop 2 (some .int) 1 := ⟨⟨uw362, uw155, uw156, uw42, uw157⟩, by decide +kernel⟩
theorem kv_X7_111 : xWV RX7 111 RX3 yX3_append cX3_append 3 (some .int) 2 := ⟨⟨uw363, uw40, uw41, uw42, uw43⟩, by decide +kernel⟩
theorem kv_X7_47 : xWV RX7 47 RX7 yX7_takePlace cX7_takePlace 3 (some .boolean) 1 := ⟨⟨uw364, uw365, uw366, uw299, uw367⟩, by decide +kernel⟩
theorem kv_X7_52 : xWV RX7 52 RX7 yX7_takeWay cX7_takeWay 6 (some .boolean) 1 := ⟨⟨uw368, uw369, uw370, uw299, uw371⟩, by decide +kernel⟩
theorem kv_X7_57 : xWV RX7 57 RX7 yX7_takeWalk cX7_takeWalk 4 (some .boolean) 1 := ⟨⟨uw372, uw373, uw374, uw299, uw375⟩, by decide +kernel⟩
theorem kv_X7_37 : xWV RX7 37 RX7 yX7_takeItem cX7_takeItem 2 (some .boolean) 1 := ⟨⟨uw376, uw377, uw378, uw299, uw379⟩, by decide +kernel⟩
set_option maxHeartbeats 4000000 in
set_option maxRecDepth 100000 in
theorem c_X7_takePlace (l : Launch) (D : va_G) (cI cJ cZ cS : ClassId) (ta : Nat) (sa sv : Nat → Nat) (sz : Nat) (h0 : Nat) (ab : Nat) (z : Nat) (s9 : Nat) (x9 : Nat) (v9 : Nat) (tk : Int32) (t9 : Int32) (by9 : Nat → Int32) (q1 : Nat) (be : Nat) (bl : Nat) (bu : Nat) (bo : Nat) (br : Nat) (bk : Nat) (bw : Nat) (btt : Nat) (bss : Nat) (P : Nat) (er : Nat → Int32) (hz : z ≤ 120) (ht1 : s9 ≤ x9) (ht2 : x9 ≤ z) (ht3 : v9 ≤ 10000) (hP0 : P ≤ 10) : Met l yX7_takePlace (Cond.code yX7_takePlace cX7_takePlace 3 (some .boolean) :: wsU) ({ frames := 6, cells := 0, slots := 0, locals := 128 }) (va_Pc [.ref h0, .ref q1] (XW D (xT cI cJ cZ cS) ta sa sv [(h0, .inr (7, [.int (nI (z)), .ref ab, .int tk, .int (nI (s9)), .int (nI (x9)), .int (nI (v9)), .int t9])), (ab, .inl (cI, 120, .inl by9)), (q1, .inr (1, [.int (nI (P)), .ref be, .ref bl, .ref bu, .ref bo, .ref br, .ref bk, .ref bw, .ref btt, .ref bss])), (be, .inl (cI, 10, .inl er))] sz)) (XQi (fun (r : Int32) (u : Nat × Nat × Nat × Int32 × Int32 × Nat × (Nat → Int32)) => match u with | (s2, x2, v2, tk2, t2, P2, e2) => ((r = 1) ∨ (r = 0)) ∧ (s2 ≤ x2) ∧ (x2 ≤ z) ∧ (v2 ≤ 10000) ∧ (P2 ≤ 10)) D (fun (u : Nat × Nat × Nat × Int32 × Int32 × Nat × (Nat → Int32)) => match u with | (s2, x2, v2, tk2, t2, P2, e2) => [(h0, .inr (7, [.int (nI (z)), .ref ab, .int tk2, .int (nI (s2)), .int (nI (x2)), .int (nI (v2)), .int t2])), (ab, .inl (cI, 120, .inl by9)), (q1, .inr (1, [.int (nI (P2)), .ref be, .ref bl, .ref bu, .ref bo, .ref br, .ref bk, .ref bw, .ref btt, .ref bss])), (be, .inl (cI, 10, .inl e2))]) (va_A [(h0, .inr (7, [.int (nI (z)), .ref ab, .int tk, .int (nI (s9)), .int (nI (x9)), .int (nI (v9)), .int t9])), (ab, .inl (cI, 120, .inl by9)), (q1, .inr (1, [.int (nI (P)), .ref be, .ref bl, .ref bu, .ref bo, .ref br, .ref bk, .ref bw, .ref btt, .ref bss])), (be, .inl (cI, 10, .inl er))] sz)) 0 0 (va_A [(h0, .inr (7, [.int (nI (z)), .ref ab, .int tk, .int (nI (s9)), .int (nI (x9)), .int (nI (v9)), .int t9])), (ab, .inl (cI, 120, .inl by9)), (q1, .inr (1, [.int (nI (P)), .ref be, .ref bl, .ref bu, .ref bo, .ref br, .ref bk, .ref bw, .ref btt, .ref bss])), (be, .inl (cI, 10, .inl er))] sz) := by
  refine xh (QA := fun A => XQi (fun (r : Int32) (u : Nat × Nat × Nat × Int32 × Int32 × Nat × (Nat → Int32)) => match u with | (s2, x2, v2, tk2, t2, P2, e2) => ((r = 1) ∨ (r = 0)) ∧ (s2 ≤ x2) ∧ (x2 ≤ z) ∧ (v2 ≤ 10000) ∧ (P2 ≤ 10)) D (fun (u : Nat × Nat × Nat × Int32 × Int32 × Nat × (Nat → Int32)) => match u with | (s2, x2, v2, tk2, t2, P2, e2) => [(h0, .inr (7, [.int (nI (z)), .ref ab, .int tk2, .int (nI (s2)), .int (nI (x2)), .int (nI (v2)), .int t2])), (ab, .inl (cI, 120, .inl by9)), (q1, .inr (1, [.int (nI (P2)), .ref be, .ref bl, .ref bu, .ref bo, .ref br, .ref bk, .ref bw, .ref btt, .ref bss])), (be, .inl (cI, 10, .inl e2))]) A) (fr := fun A => A) (by decide) (Nat.le_of_ble_eq_true rfl) ?_
  intro p e s m below meth c ls A hF hr hlk hin hsz hP hK hD hN hZ hA hS hl
  have hF : CallFix p m c cX7_takePlace 3 s _ _ RX7 := hF
  have hx := hF.1
  have hb := hF.2.1
  have hml := hF.2.2.1
  have hown := hF.2.2.2.1
  have hu : ∀ w ∈ wsU, w.before _ s = true := fun w h => hF.2.2.2.2 w (List.mem_cons_of_mem _ h)
  have hl : lv_has ls 3 [(0, .ref h0), (1, .ref q1)] := hl
  refine lv_aload_n hx hb dX7_takePlace_0 rfl (lv_at hl 1 rfl) ?_
  refine xg hF kf_X7_60 hK hP 2 rfl rfl dX7_takePlace_1 ?_
  refine lv_bipush (v := 10) hx hb dX7_takePlace_4 (by decide) ?_
  refine lv_icmp_lt (tgt := 11) hx hb dX7_takePlace_6 (by decide) (fun c_1 => ?_) (fun c_1 => ?_)
  · skip
    have nc_1 : P < 10 := xn_lt (a := P) (b := 10) (by omega) (by omega) c_1
    refine lv_aload_n hx hb dX7_takePlace_11 rfl (lv_at hl 0 rfl) ?_
    refine xc_Vv (wr := [(q1, .inr (1, [.int (nI (P)), .ref be, .ref bl, .ref bu, .ref bo, .ref br, .ref bk, .ref bw, .ref btt, .ref bss])), (be, .inl (cI, 10, .inl er))]) hF (c_X7_step l D cI cJ cZ cS ta sa sv s.heap.size h0 ab z s9 x9 v9 tk t9 by9 (by omega) (by omega)) kv_X7_34 ⟨rfl, rfl, Nat.le_of_ble_eq_true rfl, Nat.le_of_ble_eq_true rfl⟩ ⟨Nat.le_of_ble_eq_true rfl, Nat.le_of_ble_eq_true rfl⟩ hK hN hZ hP hD hS hA [0, 1] [2, 3] rfl rfl rfl rfl (by decide) 0 rfl rfl rfl rfl hl.1 rfl (Nat.le_of_ble_eq_true rfl) dX7_takePlace_12 (fun u_r_2 H locs hw_r_2 hP hD hS => ?_)
    obtain ⟨s2_3, x2_4, v2_5, tk2_6⟩ := u_r_2
    try dsimp only at hw_r_2
    obtain ⟨i_7, i_8, i_9⟩ := hw_r_2
    have hP : va_P D vwCl [(q1, .inr (1, [.int (nI (P)), .ref be, .ref bl, .ref bu, .ref bo, .ref br, .ref bk, .ref bw, .ref btt, .ref bss])), (be, .inl (cI, 10, .inl er)), (h0, .inr (7, [.int (nI (z)), .ref ab, .int tk2_6, .int (nI (s2_3)), .int (nI (x2_4)), .int (nI (v2_5)), .int t9])), (ab, .inl (cI, 120, .inl by9))] H := hP
    have hD : va_D A [(q1, .inr (1, [.int (nI (P)), .ref be, .ref bl, .ref bu, .ref bo, .ref br, .ref bk, .ref bw, .ref btt, .ref bss])), (be, .inl (cI, 10, .inl er)), (h0, .inr (7, [.int (nI (z)), .ref ab, .int tk2_6, .int (nI (s2_3)), .int (nI (x2_4)), .int (nI (v2_5)), .int t9])), (ab, .inl (cI, 120, .inl by9))] := hD
    refine lv_iconst (v := 0) hx hb dX7_takePlace_15 (by decide) ?_
    refine lv_istore_n (lv' := [(2, .int 0), (0, .ref h0), (1, .ref q1)]) hx hb dX7_takePlace_16 rfl hl (by decide) rfl (fun ls hl => ?_)
    refine lv_aload_n hx hb dX7_takePlace_17 rfl (lv_at hl 1 rfl) ?_
    refine va_ldcS (tx := "errands") (q := sa 3) hx hb hown (hN.2.2 (65, "errands", 3) (by decide)) dX7_takePlace_18 ?_
    refine xc_Vi (wr := [(q1, .inr (1, [.int (nI (P)), .ref be, .ref bl, .ref bu, .ref bo, .ref br, .ref bk, .ref bw, .ref btt, .ref bss])), (be, .inl (cI, 10, .inl er))]) hF (c_X7_takeWord l D cI cJ cZ cS ta sa sv H.size h0 ab z s2_3 x2_4 v2_5 tk2_6 t9 by9 3 (by omega) (by omega) (by omega) (by omega) (by omega)) kv_X7_67 ⟨rfl, rfl, Nat.le_of_ble_eq_true rfl, Nat.le_of_ble_eq_true rfl⟩ ⟨Nat.le_of_ble_eq_true rfl, Nat.le_of_ble_eq_true rfl⟩ hK hN hZ hP hD hS hA [2, 3] [0, 1] rfl rfl rfl rfl (by decide) 0 rfl rfl rfl rfl hl.1 rfl (Nat.le_of_ble_eq_true rfl) dX7_takePlace_20 (fun r_10 u_r_10 H locs hw_r_10 hP hD hS => ?_)
    obtain ⟨s2_11, x2_12, v2_13, tk2_14, t2_15⟩ := u_r_10
    try dsimp only at hw_r_10
    obtain ⟨hw_r_10, i_16, i_17, i_18⟩ := hw_r_10
    have hP : va_P D vwCl [(q1, .inr (1, [.int (nI (P)), .ref be, .ref bl, .ref bu, .ref bo, .ref br, .ref bk, .ref bw, .ref btt, .ref bss])), (be, .inl (cI, 10, .inl er)), (h0, .inr (7, [.int (nI (z)), .ref ab, .int tk2_14, .int (nI (s2_11)), .int (nI (x2_12)), .int (nI (v2_13)), .int t2_15])), (ab, .inl (cI, 120, .inl by9))] H := hP
    have hD : va_D A [(q1, .inr (1, [.int (nI (P)), .ref be, .ref bl, .ref bu, .ref bo, .ref br, .ref bk, .ref bw, .ref btt, .ref bss])), (be, .inl (cI, 10, .inl er)), (h0, .inr (7, [.int (nI (z)), .ref ab, .int tk2_14, .int (nI (s2_11)), .int (nI (x2_12)), .int (nI (v2_13)), .int t2_15])), (ab, .inl (cI, 120, .inl by9))] := hD
    rcases hw_r_10 with rfl | rfl
    · skip
      refine lv_if_eq (tgt := 42) hx hb dX7_takePlace_23 (by decide) (fun c_19 => absurd c_19 (by decide)) (fun c_19 => ?_)
      refine lv_aload_n hx hb dX7_takePlace_26 rfl (lv_at hl 1 rfl) ?_
      refine lv_bipush (v := 99) hx hb dX7_takePlace_27 (by decide) ?_
      refine xc_Vi (wr := [(q1, .inr (1, [.int (nI (P)), .ref be, .ref bl, .ref bu, .ref bo, .ref br, .ref bk, .ref bw, .ref btt, .ref bss])), (be, .inl (cI, 10, .inl er))]) hF (c_X7_takeNumber l D cI cJ cZ cS ta sa sv H.size h0 ab z s2_11 x2_12 v2_13 tk2_14 t2_15 by9 99 (by omega) (by omega) (by omega) (by omega)) kv_X7_70 ⟨rfl, rfl, Nat.le_of_ble_eq_true rfl, Nat.le_of_ble_eq_true rfl⟩ ⟨Nat.le_of_ble_eq_true rfl, Nat.le_of_ble_eq_true rfl⟩ hK hN hZ hP hD hS hA [2, 3] [0, 1] rfl rfl rfl rfl (by decide) 0 rfl rfl rfl rfl hl.1 rfl (Nat.le_of_ble_eq_true rfl) dX7_takePlace_29 (fun r_20 u_r_20 H locs hw_r_20 hP hD hS => ?_)
      obtain ⟨s2_21, x2_22, v2_23, tk2_24, t2_25⟩ := u_r_20
      try dsimp only at hw_r_20
      obtain ⟨hw_r_20, i_26, i_27, i_28⟩ := hw_r_20
      have hP : va_P D vwCl [(q1, .inr (1, [.int (nI (P)), .ref be, .ref bl, .ref bu, .ref bo, .ref br, .ref bk, .ref bw, .ref btt, .ref bss])), (be, .inl (cI, 10, .inl er)), (h0, .inr (7, [.int (nI (z)), .ref ab, .int tk2_24, .int (nI (s2_21)), .int (nI (x2_22)), .int (nI (v2_23)), .int t2_25])), (ab, .inl (cI, 120, .inl by9))] H := hP
      have hD : va_D A [(q1, .inr (1, [.int (nI (P)), .ref be, .ref bl, .ref bu, .ref bo, .ref br, .ref bk, .ref bw, .ref btt, .ref bss])), (be, .inl (cI, 10, .inl er)), (h0, .inr (7, [.int (nI (z)), .ref ab, .int tk2_24, .int (nI (s2_21)), .int (nI (x2_22)), .int (nI (v2_23)), .int t2_25])), (ab, .inl (cI, 120, .inl by9))] := hD
      rcases hw_r_20 with ⟨w_29, rfl, rfl, h_31, h_32⟩ | rfl
      · skip
        refine lv_if_ne (tgt := 37) hx hb dX7_takePlace_32 (by decide) (fun c_33 => ?_) (fun c_33 => absurd c_33 (by decide))
        refine lv_aload_n hx hb dX7_takePlace_37 rfl (lv_at hl 1 rfl) ?_
        refine xg hF kf_X7_31 hK hP 2 rfl rfl dX7_takePlace_38 ?_
        refine lv_istore_n (lv' := [(2, .int (nI (w_29))), (0, .ref h0), (1, .ref q1)]) hx hb dX7_takePlace_41 rfl hl (by decide) rfl (fun ls hl => ?_)
        refine lv_aload_n hx hb dX7_takePlace_42 rfl (lv_at hl 2 rfl) ?_
        refine lv_iload_n hx hb dX7_takePlace_43 rfl (lv_at hl 0 rfl) ?_
        refine xc_Vi (wr := [(h0, .inr (7, [.int (nI (z)), .ref ab, .int tk2_24, .int (nI (s2_21)), .int (nI (x2_22)), .int (nI (v2_23)), .int (nI (w_29))])), (ab, .inl (cI, 120, .inl by9))]) hF (c_X1_addPlace l D cI cJ cZ cS ta sa sv H.size q1 be bl bu bo br bk bw btt bss P er (nI (w_29)) (by omega)) kv_X7_74 ⟨rfl, rfl, Nat.le_of_ble_eq_true rfl, Nat.le_of_ble_eq_true rfl⟩ ⟨Nat.le_of_ble_eq_true rfl, Nat.le_of_ble_eq_true rfl⟩ hK hN hZ hP hD hS hA [0, 1] [2, 3] rfl rfl rfl rfl (by decide) 0 rfl rfl rfl rfl hl.1 rfl (Nat.le_of_ble_eq_true rfl) dX7_takePlace_44 (fun r_34 u_r_34 H locs hw_r_34 hP hD hS => ?_)
        obtain ⟨e2_35, rfl⟩ : ∃ z, z = u_r_34 := ⟨_, rfl⟩
        try dsimp only at hw_r_34
        obtain ⟨hw_r_34, i_36⟩ := hw_r_34
        have hP : va_P D vwCl [(h0, .inr (7, [.int (nI (z)), .ref ab, .int tk2_24, .int (nI (s2_21)), .int (nI (x2_22)), .int (nI (v2_23)), .int (nI (w_29))])), (ab, .inl (cI, 120, .inl by9)), (q1, .inr (1, [.int (nI (P + 1)), .ref be, .ref bl, .ref bu, .ref bo, .ref br, .ref bk, .ref bw, .ref btt, .ref bss])), (be, .inl (cI, 10, .inl e2_35))] H := hP
        have hD : va_D A [(h0, .inr (7, [.int (nI (z)), .ref ab, .int tk2_24, .int (nI (s2_21)), .int (nI (x2_22)), .int (nI (v2_23)), .int (nI (w_29))])), (ab, .inl (cI, 120, .inl by9)), (q1, .inr (1, [.int (nI (P + 1)), .ref be, .ref bl, .ref bu, .ref bo, .ref br, .ref bk, .ref bw, .ref btt, .ref bss])), (be, .inl (cI, 10, .inl e2_35))] := hD
        subst hw_r_34
        refine lv_pop hx hb dX7_takePlace_47 rfl ?_
        refine lv_iconst (v := 1) hx hb dX7_takePlace_48 (by decide) ?_
        exact W.zret (v := 1) hx hb hr rfl (fun t ht hW => ⟨⟨1, (s2_21, x2_22, v2_23, tk2_24, nI (w_29), P + 1, e2_35), rfl, ⟨(by first | exact Or.inl rfl), (by first | assumption | omega), (by first | assumption | omega), (by first | assumption | omega), (by first | assumption | omega)⟩, by rw [ht]; exact hP.sub [0, 1, 2, 3] rfl, hD.sub [0, 1, 2, 3] (by decide) rfl⟩, hS.F ht⟩) hS.2.2 dX7_takePlace_49 hlk
      · skip
        refine lv_if_ne (tgt := 37) hx hb dX7_takePlace_32 (by decide) (fun c_37 => absurd (by decide) c_37) (fun c_37 => ?_)
        refine lv_iconst (v := 0) hx hb dX7_takePlace_35 (by decide) ?_
        exact W.zret (v := 0) hx hb hr rfl (fun t ht hW => ⟨⟨0, (s2_21, x2_22, v2_23, tk2_24, t2_25, P, er), rfl, ⟨(by first | exact Or.inr (rfl)), (by first | assumption | omega), (by first | assumption | omega), (by first | assumption | omega), (by first | assumption | omega)⟩, by rw [ht]; exact hP.sub [2, 3, 0, 1] rfl, hD.sub [2, 3, 0, 1] (by decide) rfl⟩, hS.F ht⟩) hS.2.2 dX7_takePlace_36 hlk
    · skip
      refine lv_if_eq (tgt := 42) hx hb dX7_takePlace_23 (by decide) (fun c_38 => ?_) (fun c_38 => absurd (by decide) c_38)
      refine lv_aload_n hx hb dX7_takePlace_42 rfl (lv_at hl 2 rfl) ?_
      refine lv_iload_n hx hb dX7_takePlace_43 rfl (lv_at hl 0 rfl) ?_
      refine xc_Vi (wr := [(h0, .inr (7, [.int (nI (z)), .ref ab, .int tk2_14, .int (nI (s2_11)), .int (nI (x2_12)), .int (nI (v2_13)), .int t2_15])), (ab, .inl (cI, 120, .inl by9))]) hF (c_X1_addPlace l D cI cJ cZ cS ta sa sv H.size q1 be bl bu bo br bk bw btt bss P er 0 (by omega)) kv_X7_74 ⟨rfl, rfl, Nat.le_of_ble_eq_true rfl, Nat.le_of_ble_eq_true rfl⟩ ⟨Nat.le_of_ble_eq_true rfl, Nat.le_of_ble_eq_true rfl⟩ hK hN hZ hP hD hS hA [0, 1] [2, 3] rfl rfl rfl rfl (by decide) 0 rfl rfl rfl rfl hl.1 rfl (Nat.le_of_ble_eq_true rfl) dX7_takePlace_44 (fun r_39 u_r_39 H locs hw_r_39 hP hD hS => ?_)
      obtain ⟨e2_40, rfl⟩ : ∃ z, z = u_r_39 := ⟨_, rfl⟩
      try dsimp only at hw_r_39
      obtain ⟨hw_r_39, i_41⟩ := hw_r_39
      have hP : va_P D vwCl [(h0, .inr (7, [.int (nI (z)), .ref ab, .int tk2_14, .int (nI (s2_11)), .int (nI (x2_12)), .int (nI (v2_13)), .int t2_15])), (ab, .inl (cI, 120, .inl by9)), (q1, .inr (1, [.int (nI (P + 1)), .ref be, .ref bl, .ref bu, .ref bo, .ref br, .ref bk, .ref bw, .ref btt, .ref bss])), (be, .inl (cI, 10, .inl e2_40))] H := hP
      have hD : va_D A [(h0, .inr (7, [.int (nI (z)), .ref ab, .int tk2_14, .int (nI (s2_11)), .int (nI (x2_12)), .int (nI (v2_13)), .int t2_15])), (ab, .inl (cI, 120, .inl by9)), (q1, .inr (1, [.int (nI (P + 1)), .ref be, .ref bl, .ref bu, .ref bo, .ref br, .ref bk, .ref bw, .ref btt, .ref bss])), (be, .inl (cI, 10, .inl e2_40))] := hD
      subst hw_r_39
      refine lv_pop hx hb dX7_takePlace_47 rfl ?_
      refine lv_iconst (v := 1) hx hb dX7_takePlace_48 (by decide) ?_
      exact W.zret (v := 1) hx hb hr rfl (fun t ht hW => ⟨⟨1, (s2_11, x2_12, v2_13, tk2_14, t2_15, P + 1, e2_40), rfl, ⟨(by first | exact Or.inl rfl), (by first | assumption | omega), (by first | assumption | omega), (by first | assumption | omega), (by first | assumption | omega)⟩, by rw [ht]; exact hP.sub [0, 1, 2, 3] rfl, hD.sub [0, 1, 2, 3] (by decide) rfl⟩, hS.F ht⟩) hS.2.2 dX7_takePlace_49 hlk
  · skip
    have nc_1 : 10 ≤ P := xn_nlt (a := P) (b := 10) (by omega) (by omega) c_1
    refine lv_iconst (v := 0) hx hb dX7_takePlace_9 (by decide) ?_
    exact W.zret (v := 0) hx hb hr rfl (fun t ht hW => ⟨⟨0, (s9, x9, v9, tk, t9, P, er), rfl, ⟨(by first | exact Or.inr (rfl)), (by first | assumption | omega), (by first | assumption | omega), (by first | assumption | omega), (by first | assumption | omega)⟩, by rw [ht]; exact hP.sub [0, 1, 2, 3] rfl, hD.sub [0, 1, 2, 3] (by decide) rfl⟩, hS.F ht⟩) hS.2.2 dX7_takePlace_10 hlk
set_option maxHeartbeats 4000000 in
set_option maxRecDepth 100000 in
theorem c_X7_takeWayBack (l : Launch) (D : va_G) (cI cJ cZ cS : ClassId) (ta : Nat) (sa sv : Nat → Nat) (sz : Nat) (h0 : Nat) (ab : Nat) (z : Nat) (s9 : Nat) (x9 : Nat) (v9 : Nat) (tk : Int32) (t9 : Int32) (by9 : Nat → Int32) (q1 : Nat) (be : Nat) (bl : Nat) (bu : Nat) (bo : Nat) (br : Nat) (bk : Nat) (bw : Nat) (btt : Nat) (bss : Nat) (P : Nat) (lo : Nat → Int32) (hg : Nat → Int32) (d : Nat → Int32) (j : Nat) (k : Nat) (hz : z ≤ 120) (ht1 : s9 ≤ x9) (ht2 : x9 ≤ z) (ht3 : v9 ≤ 10000) (hj : j < 10) (hk : k < 10) : Met l yX7_takeWayBack (Cond.code yX7_takeWayBack cX7_takeWayBack 4 (some .boolean) :: wsU) ({ frames := 3, cells := 0, slots := 0, locals := 86 }) (va_Pc [.ref h0, .ref q1, .int (nI (j)), .int (nI (k))] (XW D (xT cI cJ cZ cS) ta sa sv [(h0, .inr (7, [.int (nI (z)), .ref ab, .int tk, .int (nI (s9)), .int (nI (x9)), .int (nI (v9)), .int t9])), (ab, .inl (cI, 120, .inl by9)), (q1, .inr (1, [.int (nI (P)), .ref be, .ref bl, .ref bu, .ref bo, .ref br, .ref bk, .ref bw, .ref btt, .ref bss])), (bl, .inl (cI, 100, .inl lo)), (bu, .inl (cI, 100, .inl hg)), (bo, .inl (cI, 100, .inl d))] sz)) (XQi (fun (r : Int32) (u : Nat × Nat × Nat × Int32 × Int32 × (Nat → Int32) × (Nat → Int32) × (Nat → Int32)) => match u with | (s2, x2, v2, tk2, t2, l2, u2, d2) => ((r = 1) ∨ (r = 0)) ∧ (s2 ≤ x2) ∧ (x2 ≤ z) ∧ (v2 ≤ 10000)) D (fun (u : Nat × Nat × Nat × Int32 × Int32 × (Nat → Int32) × (Nat → Int32) × (Nat → Int32)) => match u with | (s2, x2, v2, tk2, t2, l2, u2, d2) => [(h0, .inr (7, [.int (nI (z)), .ref ab, .int tk2, .int (nI (s2)), .int (nI (x2)), .int (nI (v2)), .int t2])), (ab, .inl (cI, 120, .inl by9)), (q1, .inr (1, [.int (nI (P)), .ref be, .ref bl, .ref bu, .ref bo, .ref br, .ref bk, .ref bw, .ref btt, .ref bss])), (bl, .inl (cI, 100, .inl l2)), (bu, .inl (cI, 100, .inl u2)), (bo, .inl (cI, 100, .inl d2))]) (va_A [(h0, .inr (7, [.int (nI (z)), .ref ab, .int tk, .int (nI (s9)), .int (nI (x9)), .int (nI (v9)), .int t9])), (ab, .inl (cI, 120, .inl by9)), (q1, .inr (1, [.int (nI (P)), .ref be, .ref bl, .ref bu, .ref bo, .ref br, .ref bk, .ref bw, .ref btt, .ref bss])), (bl, .inl (cI, 100, .inl lo)), (bu, .inl (cI, 100, .inl hg)), (bo, .inl (cI, 100, .inl d))] sz)) 0 0 (va_A [(h0, .inr (7, [.int (nI (z)), .ref ab, .int tk, .int (nI (s9)), .int (nI (x9)), .int (nI (v9)), .int t9])), (ab, .inl (cI, 120, .inl by9)), (q1, .inr (1, [.int (nI (P)), .ref be, .ref bl, .ref bu, .ref bo, .ref br, .ref bk, .ref bw, .ref btt, .ref bss])), (bl, .inl (cI, 100, .inl lo)), (bu, .inl (cI, 100, .inl hg)), (bo, .inl (cI, 100, .inl d))] sz) := by
  refine xh (QA := fun A => XQi (fun (r : Int32) (u : Nat × Nat × Nat × Int32 × Int32 × (Nat → Int32) × (Nat → Int32) × (Nat → Int32)) => match u with | (s2, x2, v2, tk2, t2, l2, u2, d2) => ((r = 1) ∨ (r = 0)) ∧ (s2 ≤ x2) ∧ (x2 ≤ z) ∧ (v2 ≤ 10000)) D (fun (u : Nat × Nat × Nat × Int32 × Int32 × (Nat → Int32) × (Nat → Int32) × (Nat → Int32)) => match u with | (s2, x2, v2, tk2, t2, l2, u2, d2) => [(h0, .inr (7, [.int (nI (z)), .ref ab, .int tk2, .int (nI (s2)), .int (nI (x2)), .int (nI (v2)), .int t2])), (ab, .inl (cI, 120, .inl by9)), (q1, .inr (1, [.int (nI (P)), .ref be, .ref bl, .ref bu, .ref bo, .ref br, .ref bk, .ref bw, .ref btt, .ref bss])), (bl, .inl (cI, 100, .inl l2)), (bu, .inl (cI, 100, .inl u2)), (bo, .inl (cI, 100, .inl d2))]) A) (fr := fun A => A) (by decide) (Nat.le_of_ble_eq_true rfl) ?_
  intro p e s m below meth c ls A hF hr hlk hin hsz hP hK hD hN hZ hA hS hl
  have hF : CallFix p m c cX7_takeWayBack 4 s _ _ RX7 := hF
  have hx := hF.1
  have hb := hF.2.1
  have hml := hF.2.2.1
  have hown := hF.2.2.2.1
  have hu : ∀ w ∈ wsU, w.before _ s = true := fun w h => hF.2.2.2.2 w (List.mem_cons_of_mem _ h)
  have hl : lv_has ls 4 [(0, .ref h0), (1, .ref q1), (2, .int (nI (j))), (3, .int (nI (k)))] := hl
  refine lv_aload_n hx hb dX7_takeWayBack_0 rfl (lv_at hl 0 rfl) ?_
  refine lv_bipush (v := (-99)) hx hb dX7_takeWayBack_1 (by decide) ?_
  refine lv_sipush (v := 999) hx hb dX7_takeWayBack_3 (by decide) ?_
  refine xc_Vi (wr := [(q1, .inr (1, [.int (nI (P)), .ref be, .ref bl, .ref bu, .ref bo, .ref br, .ref bk, .ref bw, .ref btt, .ref bss])), (bl, .inl (cI, 100, .inl lo)), (bu, .inl (cI, 100, .inl hg)), (bo, .inl (cI, 100, .inl d))]) hF (c_X7_takeMile l D cI cJ cZ cS ta sa sv s.heap.size h0 ab z s9 x9 v9 tk t9 by9 (-99) 999 (by omega) (by omega) (by omega) (by omega)) kv_X7_78 ⟨rfl, rfl, Nat.le_of_ble_eq_true rfl, Nat.le_of_ble_eq_true rfl⟩ ⟨Nat.le_of_ble_eq_true rfl, Nat.le_of_ble_eq_true rfl⟩ hK hN hZ hP hD hS hA [0, 1] [2, 3, 4, 5] rfl rfl rfl rfl (by decide) 0 rfl rfl rfl rfl hl.1 rfl (Nat.le_of_ble_eq_true rfl) dX7_takeWayBack_6 (fun r_1 u_r_1 H locs hw_r_1 hP hD hS => ?_)
  obtain ⟨s2_2, x2_3, v2_4, tk2_5, t2_6⟩ := u_r_1
  try dsimp only at hw_r_1
  obtain ⟨hw_r_1, i_7, i_8, i_9⟩ := hw_r_1
  have hP : va_P D vwCl [(q1, .inr (1, [.int (nI (P)), .ref be, .ref bl, .ref bu, .ref bo, .ref br, .ref bk, .ref bw, .ref btt, .ref bss])), (bl, .inl (cI, 100, .inl lo)), (bu, .inl (cI, 100, .inl hg)), (bo, .inl (cI, 100, .inl d)), (h0, .inr (7, [.int (nI (z)), .ref ab, .int tk2_5, .int (nI (s2_2)), .int (nI (x2_3)), .int (nI (v2_4)), .int t2_6])), (ab, .inl (cI, 120, .inl by9))] H := hP
  have hD : va_D A [(q1, .inr (1, [.int (nI (P)), .ref be, .ref bl, .ref bu, .ref bo, .ref br, .ref bk, .ref bw, .ref btt, .ref bss])), (bl, .inl (cI, 100, .inl lo)), (bu, .inl (cI, 100, .inl hg)), (bo, .inl (cI, 100, .inl d)), (h0, .inr (7, [.int (nI (z)), .ref ab, .int tk2_5, .int (nI (s2_2)), .int (nI (x2_3)), .int (nI (v2_4)), .int t2_6])), (ab, .inl (cI, 120, .inl by9))] := hD
  rcases hw_r_1 with rfl | rfl
  · skip
    refine lv_if_ne (tgt := 14) hx hb dX7_takeWayBack_9 (by decide) (fun c_10 => ?_) (fun c_10 => absurd c_10 (by decide))
    refine lv_aload_n hx hb dX7_takeWayBack_14 rfl (lv_at hl 1 rfl) ?_
    refine lv_iload_n hx hb dX7_takeWayBack_15 rfl (lv_at hl 2 rfl) ?_
    refine lv_iload_n hx hb dX7_takeWayBack_16 rfl (lv_at hl 3 rfl) ?_
    refine lv_aload_n hx hb dX7_takeWayBack_17 rfl (lv_at hl 0 rfl) ?_
    refine xg hF kf_X7_31 hK hP 4 rfl rfl dX7_takeWayBack_18 ?_
    refine lv_aload_n hx hb dX7_takeWayBack_21 rfl (lv_at hl 0 rfl) ?_
    refine xg hF kf_X7_31 hK hP 4 rfl rfl dX7_takeWayBack_22 ?_
    refine xc_Vv (wr := [(h0, .inr (7, [.int (nI (z)), .ref ab, .int tk2_5, .int (nI (s2_2)), .int (nI (x2_3)), .int (nI (v2_4)), .int t2_6])), (ab, .inl (cI, 120, .inl by9))]) hF (c_X1_setWay l D cI cJ cZ cS ta sa sv H.size q1 be bl bu bo br bk bw btt bss P j k t2_6 t2_6 lo hg d (by omega) (by omega)) kv_X7_84 ⟨rfl, rfl, Nat.le_of_ble_eq_true rfl, Nat.le_of_ble_eq_true rfl⟩ ⟨Nat.le_of_ble_eq_true rfl, Nat.le_of_ble_eq_true rfl⟩ hK hN hZ hP hD hS hA [0, 1, 2, 3] [4, 5] rfl rfl rfl rfl (by decide) 0 rfl rfl rfl rfl hl.1 rfl (Nat.le_of_ble_eq_true rfl) dX7_takeWayBack_25 (fun u_r_11 H locs hw_r_11 hP hD hS => ?_)
    obtain ⟨l2_12, u2_13, d2_14⟩ := u_r_11
    try dsimp only at hw_r_11
    obtain ⟨i_15, i_16, i_17⟩ := hw_r_11
    have hP : va_P D vwCl [(h0, .inr (7, [.int (nI (z)), .ref ab, .int tk2_5, .int (nI (s2_2)), .int (nI (x2_3)), .int (nI (v2_4)), .int t2_6])), (ab, .inl (cI, 120, .inl by9)), (q1, .inr (1, [.int (nI (P)), .ref be, .ref bl, .ref bu, .ref bo, .ref br, .ref bk, .ref bw, .ref btt, .ref bss])), (bl, .inl (cI, 100, .inl l2_12)), (bu, .inl (cI, 100, .inl u2_13)), (bo, .inl (cI, 100, .inl d2_14))] H := hP
    have hD : va_D A [(h0, .inr (7, [.int (nI (z)), .ref ab, .int tk2_5, .int (nI (s2_2)), .int (nI (x2_3)), .int (nI (v2_4)), .int t2_6])), (ab, .inl (cI, 120, .inl by9)), (q1, .inr (1, [.int (nI (P)), .ref be, .ref bl, .ref bu, .ref bo, .ref br, .ref bk, .ref bw, .ref btt, .ref bss])), (bl, .inl (cI, 100, .inl l2_12)), (bu, .inl (cI, 100, .inl u2_13)), (bo, .inl (cI, 100, .inl d2_14))] := hD
    refine lv_iconst (v := 1) hx hb dX7_takeWayBack_28 (by decide) ?_
    exact W.zret (v := 1) hx hb hr rfl (fun t ht hW => ⟨⟨1, (s2_2, x2_3, v2_4, tk2_5, t2_6, l2_12, u2_13, d2_14), rfl, ⟨(by first | exact Or.inl rfl), (by first | assumption | omega), (by first | assumption | omega), (by first | assumption | omega)⟩, by rw [ht]; exact hP.sub [0, 1, 2, 3, 4, 5] rfl, hD.sub [0, 1, 2, 3, 4, 5] (by decide +kernel) rfl⟩, hS.F ht⟩) hS.2.2 dX7_takeWayBack_29 hlk
  · skip
    refine lv_if_ne (tgt := 14) hx hb dX7_takeWayBack_9 (by decide) (fun c_18 => absurd (by decide) c_18) (fun c_18 => ?_)
    refine lv_iconst (v := 0) hx hb dX7_takeWayBack_12 (by decide) ?_
    exact W.zret (v := 0) hx hb hr rfl (fun t ht hW => ⟨⟨0, (s2_2, x2_3, v2_4, tk2_5, t2_6, lo, hg, d), rfl, ⟨(by first | exact Or.inr (rfl)), (by first | assumption | omega), (by first | assumption | omega), (by first | assumption | omega)⟩, by rw [ht]; exact hP.sub [4, 5, 0, 1, 2, 3] rfl, hD.sub [4, 5, 0, 1, 2, 3] (by decide +kernel) rfl⟩, hS.F ht⟩) hS.2.2 dX7_takeWayBack_13 hlk
set_option maxHeartbeats 4000000 in
set_option maxRecDepth 100000 in
theorem c_X7_takeWay (l : Launch) (D : va_G) (cI cJ cZ cS : ClassId) (ta : Nat) (sa sv : Nat → Nat) (sz : Nat) (h0 : Nat) (ab : Nat) (z : Nat) (s9 : Nat) (x9 : Nat) (v9 : Nat) (tk : Int32) (t9 : Int32) (by9 : Nat → Int32) (q1 : Nat) (be : Nat) (bl : Nat) (bu : Nat) (bo : Nat) (br : Nat) (bk : Nat) (bw : Nat) (btt : Nat) (bss : Nat) (P : Nat) (lo : Nat → Int32) (hg : Nat → Int32) (d : Nat → Int32) (hz : z ≤ 120) (ht1 : s9 ≤ x9) (ht2 : x9 ≤ z) (ht3 : v9 ≤ 10000) (hP0 : P ≤ 10) : Met l yX7_takeWay (Cond.code yX7_takeWay cX7_takeWay 6 (some .boolean) :: wsU) ({ frames := 6, cells := 0, slots := 0, locals := 128 }) (va_Pc [.ref h0, .ref q1] (XW D (xT cI cJ cZ cS) ta sa sv [(h0, .inr (7, [.int (nI (z)), .ref ab, .int tk, .int (nI (s9)), .int (nI (x9)), .int (nI (v9)), .int t9])), (ab, .inl (cI, 120, .inl by9)), (q1, .inr (1, [.int (nI (P)), .ref be, .ref bl, .ref bu, .ref bo, .ref br, .ref bk, .ref bw, .ref btt, .ref bss])), (bl, .inl (cI, 100, .inl lo)), (bu, .inl (cI, 100, .inl hg)), (bo, .inl (cI, 100, .inl d))] sz)) (XQi (fun (r : Int32) (u : Nat × Nat × Nat × Int32 × Int32 × (Nat → Int32) × (Nat → Int32) × (Nat → Int32)) => match u with | (s2, x2, v2, tk2, t2, l2, u2, d2) => ((r = 1) ∨ (r = 0)) ∧ (s2 ≤ x2) ∧ (x2 ≤ z) ∧ (v2 ≤ 10000)) D (fun (u : Nat × Nat × Nat × Int32 × Int32 × (Nat → Int32) × (Nat → Int32) × (Nat → Int32)) => match u with | (s2, x2, v2, tk2, t2, l2, u2, d2) => [(h0, .inr (7, [.int (nI (z)), .ref ab, .int tk2, .int (nI (s2)), .int (nI (x2)), .int (nI (v2)), .int t2])), (ab, .inl (cI, 120, .inl by9)), (q1, .inr (1, [.int (nI (P)), .ref be, .ref bl, .ref bu, .ref bo, .ref br, .ref bk, .ref bw, .ref btt, .ref bss])), (bl, .inl (cI, 100, .inl l2)), (bu, .inl (cI, 100, .inl u2)), (bo, .inl (cI, 100, .inl d2))]) (va_A [(h0, .inr (7, [.int (nI (z)), .ref ab, .int tk, .int (nI (s9)), .int (nI (x9)), .int (nI (v9)), .int t9])), (ab, .inl (cI, 120, .inl by9)), (q1, .inr (1, [.int (nI (P)), .ref be, .ref bl, .ref bu, .ref bo, .ref br, .ref bk, .ref bw, .ref btt, .ref bss])), (bl, .inl (cI, 100, .inl lo)), (bu, .inl (cI, 100, .inl hg)), (bo, .inl (cI, 100, .inl d))] sz)) 0 0 (va_A [(h0, .inr (7, [.int (nI (z)), .ref ab, .int tk, .int (nI (s9)), .int (nI (x9)), .int (nI (v9)), .int t9])), (ab, .inl (cI, 120, .inl by9)), (q1, .inr (1, [.int (nI (P)), .ref be, .ref bl, .ref bu, .ref bo, .ref br, .ref bk, .ref bw, .ref btt, .ref bss])), (bl, .inl (cI, 100, .inl lo)), (bu, .inl (cI, 100, .inl hg)), (bo, .inl (cI, 100, .inl d))] sz) := by
  refine xh (QA := fun A => XQi (fun (r : Int32) (u : Nat × Nat × Nat × Int32 × Int32 × (Nat → Int32) × (Nat → Int32) × (Nat → Int32)) => match u with | (s2, x2, v2, tk2, t2, l2, u2, d2) => ((r = 1) ∨ (r = 0)) ∧ (s2 ≤ x2) ∧ (x2 ≤ z) ∧ (v2 ≤ 10000)) D (fun (u : Nat × Nat × Nat × Int32 × Int32 × (Nat → Int32) × (Nat → Int32) × (Nat → Int32)) => match u with | (s2, x2, v2, tk2, t2, l2, u2, d2) => [(h0, .inr (7, [.int (nI (z)), .ref ab, .int tk2, .int (nI (s2)), .int (nI (x2)), .int (nI (v2)), .int t2])), (ab, .inl (cI, 120, .inl by9)), (q1, .inr (1, [.int (nI (P)), .ref be, .ref bl, .ref bu, .ref bo, .ref br, .ref bk, .ref bw, .ref btt, .ref bss])), (bl, .inl (cI, 100, .inl l2)), (bu, .inl (cI, 100, .inl u2)), (bo, .inl (cI, 100, .inl d2))]) A) (fr := fun A => A) (by decide) (Nat.le_of_ble_eq_true rfl) ?_
  intro p e s m below meth c ls A hF hr hlk hin hsz hP hK hD hN hZ hA hS hl
  have hF : CallFix p m c cX7_takeWay 6 s _ _ RX7 := hF
  have hx := hF.1
  have hb := hF.2.1
  have hml := hF.2.2.1
  have hown := hF.2.2.2.1
  have hu : ∀ w ∈ wsU, w.before _ s = true := fun w h => hF.2.2.2.2 w (List.mem_cons_of_mem _ h)
  have hl : lv_has ls 6 [(0, .ref h0), (1, .ref q1)] := hl
  refine lv_aload_n hx hb dX7_takeWay_0 rfl (lv_at hl 0 rfl) ?_
  refine xc_Vv (wr := [(q1, .inr (1, [.int (nI (P)), .ref be, .ref bl, .ref bu, .ref bo, .ref br, .ref bk, .ref bw, .ref btt, .ref bss])), (bl, .inl (cI, 100, .inl lo)), (bu, .inl (cI, 100, .inl hg)), (bo, .inl (cI, 100, .inl d))]) hF (c_X7_step l D cI cJ cZ cS ta sa sv s.heap.size h0 ab z s9 x9 v9 tk t9 by9 (by omega) (by omega)) kv_X7_34 ⟨rfl, rfl, Nat.le_of_ble_eq_true rfl, Nat.le_of_ble_eq_true rfl⟩ ⟨Nat.le_of_ble_eq_true rfl, Nat.le_of_ble_eq_true rfl⟩ hK hN hZ hP hD hS hA [0, 1] [2, 3, 4, 5] rfl rfl rfl rfl (by decide) 0 rfl rfl rfl rfl hl.1 rfl (Nat.le_of_ble_eq_true rfl) dX7_takeWay_1 (fun u_r_1 H locs hw_r_1 hP hD hS => ?_)
  obtain ⟨s2_2, x2_3, v2_4, tk2_5⟩ := u_r_1
  try dsimp only at hw_r_1
  obtain ⟨i_6, i_7, i_8⟩ := hw_r_1
  have hP : va_P D vwCl [(q1, .inr (1, [.int (nI (P)), .ref be, .ref bl, .ref bu, .ref bo, .ref br, .ref bk, .ref bw, .ref btt, .ref bss])), (bl, .inl (cI, 100, .inl lo)), (bu, .inl (cI, 100, .inl hg)), (bo, .inl (cI, 100, .inl d)), (h0, .inr (7, [.int (nI (z)), .ref ab, .int tk2_5, .int (nI (s2_2)), .int (nI (x2_3)), .int (nI (v2_4)), .int t9])), (ab, .inl (cI, 120, .inl by9))] H := hP
  have hD : va_D A [(q1, .inr (1, [.int (nI (P)), .ref be, .ref bl, .ref bu, .ref bo, .ref br, .ref bk, .ref bw, .ref btt, .ref bss])), (bl, .inl (cI, 100, .inl lo)), (bu, .inl (cI, 100, .inl hg)), (bo, .inl (cI, 100, .inl d)), (h0, .inr (7, [.int (nI (z)), .ref ab, .int tk2_5, .int (nI (s2_2)), .int (nI (x2_3)), .int (nI (v2_4)), .int t9])), (ab, .inl (cI, 120, .inl by9))] := hD
  refine lv_aload_n hx hb dX7_takeWay_4 rfl (lv_at hl 0 rfl) ?_
  refine lv_aload_n hx hb dX7_takeWay_5 rfl (lv_at hl 1 rfl) ?_
  refine xg hF kf_X7_60 hK hP 0 rfl rfl dX7_takeWay_6 ?_
  refine lv_iconst (v := 1) hx hb dX7_takeWay_9 (by decide) ?_
  refine lv_isub hx hb dX7_takeWay_10 ?_
  refine lv_topi (fun x_9 ex_9 => ?_)
  refine xc_Vi (wr := [(q1, .inr (1, [.int (nI (P)), .ref be, .ref bl, .ref bu, .ref bo, .ref br, .ref bk, .ref bw, .ref btt, .ref bss])), (bl, .inl (cI, 100, .inl lo)), (bu, .inl (cI, 100, .inl hg)), (bo, .inl (cI, 100, .inl d))]) hF (c_X7_takeNumber l D cI cJ cZ cS ta sa sv H.size h0 ab z s2_2 x2_3 v2_4 tk2_5 t9 by9 x_9 (by omega) (by omega) (by omega) (by omega)) kv_X7_70 ⟨rfl, rfl, Nat.le_of_ble_eq_true rfl, Nat.le_of_ble_eq_true rfl⟩ ⟨Nat.le_of_ble_eq_true rfl, Nat.le_of_ble_eq_true rfl⟩ hK hN hZ hP hD hS hA [4, 5] [0, 1, 2, 3] rfl rfl rfl rfl (by decide) 0 rfl rfl rfl rfl hl.1 rfl (Nat.le_of_ble_eq_true rfl) dX7_takeWay_11 (fun r_10 u_r_10 H locs hw_r_10 hP hD hS => ?_)
  obtain ⟨s2_11, x2_12, v2_13, tk2_14, t2_15⟩ := u_r_10
  try dsimp only at hw_r_10
  obtain ⟨hw_r_10, i_16, i_17, i_18⟩ := hw_r_10
  have hP : va_P D vwCl [(q1, .inr (1, [.int (nI (P)), .ref be, .ref bl, .ref bu, .ref bo, .ref br, .ref bk, .ref bw, .ref btt, .ref bss])), (bl, .inl (cI, 100, .inl lo)), (bu, .inl (cI, 100, .inl hg)), (bo, .inl (cI, 100, .inl d)), (h0, .inr (7, [.int (nI (z)), .ref ab, .int tk2_14, .int (nI (s2_11)), .int (nI (x2_12)), .int (nI (v2_13)), .int t2_15])), (ab, .inl (cI, 120, .inl by9))] H := hP
  have hD : va_D A [(q1, .inr (1, [.int (nI (P)), .ref be, .ref bl, .ref bu, .ref bo, .ref br, .ref bk, .ref bw, .ref btt, .ref bss])), (bl, .inl (cI, 100, .inl lo)), (bu, .inl (cI, 100, .inl hg)), (bo, .inl (cI, 100, .inl d)), (h0, .inr (7, [.int (nI (z)), .ref ab, .int tk2_14, .int (nI (s2_11)), .int (nI (x2_12)), .int (nI (v2_13)), .int t2_15])), (ab, .inl (cI, 120, .inl by9))] := hD
  rcases hw_r_10 with ⟨w_19, rfl, rfl, h_21, h_22⟩ | rfl
  · skip
    have hm_w_19 : w_19 < P := x_most hP0 (by omega) ex_9 h_22
    refine lv_if_ne (tgt := 19) hx hb dX7_takeWay_14 (by decide) (fun c_23 => ?_) (fun c_23 => absurd c_23 (by decide))
    refine lv_aload_n hx hb dX7_takeWay_19 rfl (lv_at hl 0 rfl) ?_
    refine xg hF kf_X7_31 hK hP 4 rfl rfl dX7_takeWay_20 ?_
    refine lv_istore_n (lv' := [(2, .int (nI (w_19))), (0, .ref h0), (1, .ref q1)]) hx hb dX7_takeWay_23 rfl hl (by decide) rfl (fun ls hl => ?_)
    refine lv_aload_n hx hb dX7_takeWay_24 rfl (lv_at hl 1 rfl) ?_
    refine xg hF kf_X7_19 hK hP 4 rfl rfl dX7_takeWay_25 ?_
    refine lv_iconst (v := 2) hx hb dX7_takeWay_28 (by decide) ?_
    refine lv_icmp_ne (tgt := 44) hx hb dX7_takeWay_29 (by decide) (fun c_24 => ?_) (fun c_24 => ?_)
    · skip
      refine lv_iconst (v := 0) hx hb dX7_takeWay_44 (by decide) ?_
      refine lv_istore_n (lv' := [(3, .int 0), (2, .int (nI (w_19))), (0, .ref h0), (1, .ref q1)]) hx hb dX7_takeWay_45 rfl hl (by decide) rfl (fun ls hl => ?_)
      refine lv_iload_n hx hb dX7_takeWay_46 rfl (lv_at hl 0 rfl) ?_
      refine lv_if_ne (tgt := 63) hx hb dX7_takeWay_47 (by decide) (fun c_25 => absurd (by decide) c_25) (fun c_25 => ?_)
      refine lv_aload_n hx hb dX7_takeWay_50 rfl (lv_at hl 2 rfl) ?_
      refine lv_aload_n hx hb dX7_takeWay_51 rfl (lv_at hl 3 rfl) ?_
      refine xg hF kf_X7_60 hK hP 0 rfl rfl dX7_takeWay_52 ?_
      refine lv_iconst (v := 1) hx hb dX7_takeWay_55 (by decide) ?_
      refine lv_isub hx hb dX7_takeWay_56 ?_
      refine lv_topi (fun x_26 ex_26 => ?_)
      refine xc_Vi (wr := [(q1, .inr (1, [.int (nI (P)), .ref be, .ref bl, .ref bu, .ref bo, .ref br, .ref bk, .ref bw, .ref btt, .ref bss])), (bl, .inl (cI, 100, .inl lo)), (bu, .inl (cI, 100, .inl hg)), (bo, .inl (cI, 100, .inl d))]) hF (c_X7_takeNumber l D cI cJ cZ cS ta sa sv H.size h0 ab z s2_11 x2_12 v2_13 tk2_14 (nI (w_19)) by9 x_26 (by omega) (by omega) (by omega) (by omega)) kv_X7_70 ⟨rfl, rfl, Nat.le_of_ble_eq_true rfl, Nat.le_of_ble_eq_true rfl⟩ ⟨Nat.le_of_ble_eq_true rfl, Nat.le_of_ble_eq_true rfl⟩ hK hN hZ hP hD hS hA [4, 5] [0, 1, 2, 3] rfl rfl rfl rfl (by decide) 0 rfl rfl rfl rfl hl.1 rfl (Nat.le_of_ble_eq_true rfl) dX7_takeWay_57 (fun r_27 u_r_27 H locs hw_r_27 hP hD hS => ?_)
      obtain ⟨s2_28, x2_29, v2_30, tk2_31, t2_32⟩ := u_r_27
      try dsimp only at hw_r_27
      obtain ⟨hw_r_27, i_33, i_34, i_35⟩ := hw_r_27
      have hP : va_P D vwCl [(q1, .inr (1, [.int (nI (P)), .ref be, .ref bl, .ref bu, .ref bo, .ref br, .ref bk, .ref bw, .ref btt, .ref bss])), (bl, .inl (cI, 100, .inl lo)), (bu, .inl (cI, 100, .inl hg)), (bo, .inl (cI, 100, .inl d)), (h0, .inr (7, [.int (nI (z)), .ref ab, .int tk2_31, .int (nI (s2_28)), .int (nI (x2_29)), .int (nI (v2_30)), .int t2_32])), (ab, .inl (cI, 120, .inl by9))] H := hP
      have hD : va_D A [(q1, .inr (1, [.int (nI (P)), .ref be, .ref bl, .ref bu, .ref bo, .ref br, .ref bk, .ref bw, .ref btt, .ref bss])), (bl, .inl (cI, 100, .inl lo)), (bu, .inl (cI, 100, .inl hg)), (bo, .inl (cI, 100, .inl d)), (h0, .inr (7, [.int (nI (z)), .ref ab, .int tk2_31, .int (nI (s2_28)), .int (nI (x2_29)), .int (nI (v2_30)), .int t2_32])), (ab, .inl (cI, 120, .inl by9))] := hD
      rcases hw_r_27 with ⟨w_36, rfl, rfl, h_38, h_39⟩ | rfl
      · skip
        have hm_w_36 : w_36 < P := x_most hP0 (by omega) ex_26 h_39
        refine lv_if_ne (tgt := 65) hx hb dX7_takeWay_60 (by decide) (fun c_40 => ?_) (fun c_40 => absurd c_40 (by decide))
        refine lv_aload_n hx hb dX7_takeWay_65 rfl (lv_at hl 2 rfl) ?_
        refine xg hF kf_X7_31 hK hP 4 rfl rfl dX7_takeWay_66 ?_
        refine lv_istore (lv' := [(4, .int (nI (w_36))), (3, .int 0), (2, .int (nI (w_19))), (0, .ref h0), (1, .ref q1)]) hx hb dX7_takeWay_69 hl (by decide) rfl (fun ls hl => ?_)
        refine lv_aload_n hx hb dX7_takeWay_71 rfl (lv_at hl 3 rfl) ?_
        refine lv_bipush (v := (-99)) hx hb dX7_takeWay_72 (by decide) ?_
        refine lv_sipush (v := 999) hx hb dX7_takeWay_74 (by decide) ?_
        refine xc_Vi (wr := [(q1, .inr (1, [.int (nI (P)), .ref be, .ref bl, .ref bu, .ref bo, .ref br, .ref bk, .ref bw, .ref btt, .ref bss])), (bl, .inl (cI, 100, .inl lo)), (bu, .inl (cI, 100, .inl hg)), (bo, .inl (cI, 100, .inl d))]) hF (c_X7_takeMile l D cI cJ cZ cS ta sa sv H.size h0 ab z s2_28 x2_29 v2_30 tk2_31 (nI (w_36)) by9 (-99) 999 (by omega) (by omega) (by omega) (by omega)) kv_X7_78 ⟨rfl, rfl, Nat.le_of_ble_eq_true rfl, Nat.le_of_ble_eq_true rfl⟩ ⟨Nat.le_of_ble_eq_true rfl, Nat.le_of_ble_eq_true rfl⟩ hK hN hZ hP hD hS hA [4, 5] [0, 1, 2, 3] rfl rfl rfl rfl (by decide) 0 rfl rfl rfl rfl hl.1 rfl (Nat.le_of_ble_eq_true rfl) dX7_takeWay_77 (fun r_41 u_r_41 H locs hw_r_41 hP hD hS => ?_)
        obtain ⟨s2_42, x2_43, v2_44, tk2_45, t2_46⟩ := u_r_41
        try dsimp only at hw_r_41
        obtain ⟨hw_r_41, i_47, i_48, i_49⟩ := hw_r_41
        have hP : va_P D vwCl [(q1, .inr (1, [.int (nI (P)), .ref be, .ref bl, .ref bu, .ref bo, .ref br, .ref bk, .ref bw, .ref btt, .ref bss])), (bl, .inl (cI, 100, .inl lo)), (bu, .inl (cI, 100, .inl hg)), (bo, .inl (cI, 100, .inl d)), (h0, .inr (7, [.int (nI (z)), .ref ab, .int tk2_45, .int (nI (s2_42)), .int (nI (x2_43)), .int (nI (v2_44)), .int t2_46])), (ab, .inl (cI, 120, .inl by9))] H := hP
        have hD : va_D A [(q1, .inr (1, [.int (nI (P)), .ref be, .ref bl, .ref bu, .ref bo, .ref br, .ref bk, .ref bw, .ref btt, .ref bss])), (bl, .inl (cI, 100, .inl lo)), (bu, .inl (cI, 100, .inl hg)), (bo, .inl (cI, 100, .inl d)), (h0, .inr (7, [.int (nI (z)), .ref ab, .int tk2_45, .int (nI (s2_42)), .int (nI (x2_43)), .int (nI (v2_44)), .int t2_46])), (ab, .inl (cI, 120, .inl by9))] := hD
        rcases hw_r_41 with rfl | rfl
        · skip
          refine lv_if_ne (tgt := 85) hx hb dX7_takeWay_80 (by decide) (fun c_50 => ?_) (fun c_50 => absurd c_50 (by decide))
          refine lv_aload_n hx hb dX7_takeWay_85 rfl (lv_at hl 3 rfl) ?_
          refine xg hF kf_X7_31 hK hP 4 rfl rfl dX7_takeWay_86 ?_
          refine lv_istore (lv' := [(5, .int t2_46), (4, .int (nI (w_36))), (3, .int 0), (2, .int (nI (w_19))), (0, .ref h0), (1, .ref q1)]) hx hb dX7_takeWay_89 hl (by decide) rfl (fun ls hl => ?_)
          refine lv_aload_n hx hb dX7_takeWay_91 rfl (lv_at hl 4 rfl) ?_
          refine va_ldcS (tx := "to") (q := sa 4) hx hb hown (hN.2.2 (82, "to", 4) (by decide)) dX7_takeWay_92 ?_
          refine xc_Vi (wr := [(q1, .inr (1, [.int (nI (P)), .ref be, .ref bl, .ref bu, .ref bo, .ref br, .ref bk, .ref bw, .ref btt, .ref bss])), (bl, .inl (cI, 100, .inl lo)), (bu, .inl (cI, 100, .inl hg)), (bo, .inl (cI, 100, .inl d))]) hF (c_X7_takeWord l D cI cJ cZ cS ta sa sv H.size h0 ab z s2_42 x2_43 v2_44 tk2_45 t2_46 by9 4 (by omega) (by omega) (by omega) (by omega) (by omega)) kv_X7_67 ⟨rfl, rfl, Nat.le_of_ble_eq_true rfl, Nat.le_of_ble_eq_true rfl⟩ ⟨Nat.le_of_ble_eq_true rfl, Nat.le_of_ble_eq_true rfl⟩ hK hN hZ hP hD hS hA [4, 5] [0, 1, 2, 3] rfl rfl rfl rfl (by decide) 0 rfl rfl rfl rfl hl.1 rfl (Nat.le_of_ble_eq_true rfl) dX7_takeWay_94 (fun r_51 u_r_51 H locs hw_r_51 hP hD hS => ?_)
          obtain ⟨s2_52, x2_53, v2_54, tk2_55, t2_56⟩ := u_r_51
          try dsimp only at hw_r_51
          obtain ⟨hw_r_51, i_57, i_58, i_59⟩ := hw_r_51
          have hP : va_P D vwCl [(q1, .inr (1, [.int (nI (P)), .ref be, .ref bl, .ref bu, .ref bo, .ref br, .ref bk, .ref bw, .ref btt, .ref bss])), (bl, .inl (cI, 100, .inl lo)), (bu, .inl (cI, 100, .inl hg)), (bo, .inl (cI, 100, .inl d)), (h0, .inr (7, [.int (nI (z)), .ref ab, .int tk2_55, .int (nI (s2_52)), .int (nI (x2_53)), .int (nI (v2_54)), .int t2_56])), (ab, .inl (cI, 120, .inl by9))] H := hP
          have hD : va_D A [(q1, .inr (1, [.int (nI (P)), .ref be, .ref bl, .ref bu, .ref bo, .ref br, .ref bk, .ref bw, .ref btt, .ref bss])), (bl, .inl (cI, 100, .inl lo)), (bu, .inl (cI, 100, .inl hg)), (bo, .inl (cI, 100, .inl d)), (h0, .inr (7, [.int (nI (z)), .ref ab, .int tk2_55, .int (nI (s2_52)), .int (nI (x2_53)), .int (nI (v2_54)), .int t2_56])), (ab, .inl (cI, 120, .inl by9))] := hD
          rcases hw_r_51 with rfl | rfl
          · skip
            refine lv_if_eq (tgt := 114) hx hb dX7_takeWay_97 (by decide) (fun c_60 => absurd c_60 (by decide)) (fun c_60 => ?_)
            refine lv_aload_n hx hb dX7_takeWay_100 rfl (lv_at hl 4 rfl) ?_
            refine lv_iload hx hb dX7_takeWay_101 (lv_at hl 0 rfl) ?_
            refine lv_sipush (v := 999) hx hb dX7_takeWay_103 (by decide) ?_
            refine xc_Vi (wr := [(q1, .inr (1, [.int (nI (P)), .ref be, .ref bl, .ref bu, .ref bo, .ref br, .ref bk, .ref bw, .ref btt, .ref bss])), (bl, .inl (cI, 100, .inl lo)), (bu, .inl (cI, 100, .inl hg)), (bo, .inl (cI, 100, .inl d))]) hF (c_X7_takeMile l D cI cJ cZ cS ta sa sv H.size h0 ab z s2_52 x2_53 v2_54 tk2_55 t2_56 by9 t2_46 999 (by omega) (by omega) (by omega) (by omega)) kv_X7_78 ⟨rfl, rfl, Nat.le_of_ble_eq_true rfl, Nat.le_of_ble_eq_true rfl⟩ ⟨Nat.le_of_ble_eq_true rfl, Nat.le_of_ble_eq_true rfl⟩ hK hN hZ hP hD hS hA [4, 5] [0, 1, 2, 3] rfl rfl rfl rfl (by decide) 0 rfl rfl rfl rfl hl.1 rfl (Nat.le_of_ble_eq_true rfl) dX7_takeWay_106 (fun r_61 u_r_61 H locs hw_r_61 hP hD hS => ?_)
            obtain ⟨s2_62, x2_63, v2_64, tk2_65, t2_66⟩ := u_r_61
            try dsimp only at hw_r_61
            obtain ⟨hw_r_61, i_67, i_68, i_69⟩ := hw_r_61
            have hP : va_P D vwCl [(q1, .inr (1, [.int (nI (P)), .ref be, .ref bl, .ref bu, .ref bo, .ref br, .ref bk, .ref bw, .ref btt, .ref bss])), (bl, .inl (cI, 100, .inl lo)), (bu, .inl (cI, 100, .inl hg)), (bo, .inl (cI, 100, .inl d)), (h0, .inr (7, [.int (nI (z)), .ref ab, .int tk2_65, .int (nI (s2_62)), .int (nI (x2_63)), .int (nI (v2_64)), .int t2_66])), (ab, .inl (cI, 120, .inl by9))] H := hP
            have hD : va_D A [(q1, .inr (1, [.int (nI (P)), .ref be, .ref bl, .ref bu, .ref bo, .ref br, .ref bk, .ref bw, .ref btt, .ref bss])), (bl, .inl (cI, 100, .inl lo)), (bu, .inl (cI, 100, .inl hg)), (bo, .inl (cI, 100, .inl d)), (h0, .inr (7, [.int (nI (z)), .ref ab, .int tk2_65, .int (nI (s2_62)), .int (nI (x2_63)), .int (nI (v2_64)), .int t2_66])), (ab, .inl (cI, 120, .inl by9))] := hD
            rcases hw_r_61 with rfl | rfl
            · skip
              refine lv_if_ne (tgt := 114) hx hb dX7_takeWay_109 (by decide) (fun c_70 => ?_) (fun c_70 => absurd c_70 (by decide))
              refine lv_aload_n hx hb dX7_takeWay_114 rfl (lv_at hl 5 rfl) ?_
              refine lv_iload_n hx hb dX7_takeWay_115 rfl (lv_at hl 3 rfl) ?_
              refine lv_iload hx hb dX7_takeWay_116 (lv_at hl 1 rfl) ?_
              refine lv_iload hx hb dX7_takeWay_118 (lv_at hl 0 rfl) ?_
              refine lv_aload_n hx hb dX7_takeWay_120 rfl (lv_at hl 4 rfl) ?_
              refine xg hF kf_X7_31 hK hP 4 rfl rfl dX7_takeWay_121 ?_
              refine xc_Vv (wr := [(h0, .inr (7, [.int (nI (z)), .ref ab, .int tk2_65, .int (nI (s2_62)), .int (nI (x2_63)), .int (nI (v2_64)), .int t2_66])), (ab, .inl (cI, 120, .inl by9))]) hF (c_X1_setWay l D cI cJ cZ cS ta sa sv H.size q1 be bl bu bo br bk bw btt bss P w_19 w_36 t2_46 t2_66 lo hg d (by omega) (by omega)) kv_X7_84 ⟨rfl, rfl, Nat.le_of_ble_eq_true rfl, Nat.le_of_ble_eq_true rfl⟩ ⟨Nat.le_of_ble_eq_true rfl, Nat.le_of_ble_eq_true rfl⟩ hK hN hZ hP hD hS hA [0, 1, 2, 3] [4, 5] rfl rfl rfl rfl (by decide) 0 rfl rfl rfl rfl hl.1 rfl (Nat.le_of_ble_eq_true rfl) dX7_takeWay_124 (fun u_r_71 H locs hw_r_71 hP hD hS => ?_)
              obtain ⟨l2_72, u2_73, d2_74⟩ := u_r_71
              try dsimp only at hw_r_71
              obtain ⟨i_75, i_76, i_77⟩ := hw_r_71
              have hP : va_P D vwCl [(h0, .inr (7, [.int (nI (z)), .ref ab, .int tk2_65, .int (nI (s2_62)), .int (nI (x2_63)), .int (nI (v2_64)), .int t2_66])), (ab, .inl (cI, 120, .inl by9)), (q1, .inr (1, [.int (nI (P)), .ref be, .ref bl, .ref bu, .ref bo, .ref br, .ref bk, .ref bw, .ref btt, .ref bss])), (bl, .inl (cI, 100, .inl l2_72)), (bu, .inl (cI, 100, .inl u2_73)), (bo, .inl (cI, 100, .inl d2_74))] H := hP
              have hD : va_D A [(h0, .inr (7, [.int (nI (z)), .ref ab, .int tk2_65, .int (nI (s2_62)), .int (nI (x2_63)), .int (nI (v2_64)), .int t2_66])), (ab, .inl (cI, 120, .inl by9)), (q1, .inr (1, [.int (nI (P)), .ref be, .ref bl, .ref bu, .ref bo, .ref br, .ref bk, .ref bw, .ref btt, .ref bss])), (bl, .inl (cI, 100, .inl l2_72)), (bu, .inl (cI, 100, .inl u2_73)), (bo, .inl (cI, 100, .inl d2_74))] := hD
              refine lv_aload_n hx hb dX7_takeWay_127 rfl (lv_at hl 4 rfl) ?_
              refine va_ldcS (tx := "back") (q := sa 5) hx hb hown (hN.2.2 (88, "back", 5) (by decide)) dX7_takeWay_128 ?_
              refine xc_Vi (wr := [(q1, .inr (1, [.int (nI (P)), .ref be, .ref bl, .ref bu, .ref bo, .ref br, .ref bk, .ref bw, .ref btt, .ref bss])), (bl, .inl (cI, 100, .inl l2_72)), (bu, .inl (cI, 100, .inl u2_73)), (bo, .inl (cI, 100, .inl d2_74))]) hF (c_X7_takeWord l D cI cJ cZ cS ta sa sv H.size h0 ab z s2_62 x2_63 v2_64 tk2_65 t2_66 by9 5 (by omega) (by omega) (by omega) (by omega) (by omega)) kv_X7_67 ⟨rfl, rfl, Nat.le_of_ble_eq_true rfl, Nat.le_of_ble_eq_true rfl⟩ ⟨Nat.le_of_ble_eq_true rfl, Nat.le_of_ble_eq_true rfl⟩ hK hN hZ hP hD hS hA [0, 1] [2, 3, 4, 5] rfl rfl rfl rfl (by decide) 0 rfl rfl rfl rfl hl.1 rfl (Nat.le_of_ble_eq_true rfl) dX7_takeWay_130 (fun r_78 u_r_78 H locs hw_r_78 hP hD hS => ?_)
              obtain ⟨s2_79, x2_80, v2_81, tk2_82, t2_83⟩ := u_r_78
              try dsimp only at hw_r_78
              obtain ⟨hw_r_78, i_84, i_85, i_86⟩ := hw_r_78
              have hP : va_P D vwCl [(q1, .inr (1, [.int (nI (P)), .ref be, .ref bl, .ref bu, .ref bo, .ref br, .ref bk, .ref bw, .ref btt, .ref bss])), (bl, .inl (cI, 100, .inl l2_72)), (bu, .inl (cI, 100, .inl u2_73)), (bo, .inl (cI, 100, .inl d2_74)), (h0, .inr (7, [.int (nI (z)), .ref ab, .int tk2_82, .int (nI (s2_79)), .int (nI (x2_80)), .int (nI (v2_81)), .int t2_83])), (ab, .inl (cI, 120, .inl by9))] H := hP
              have hD : va_D A [(q1, .inr (1, [.int (nI (P)), .ref be, .ref bl, .ref bu, .ref bo, .ref br, .ref bk, .ref bw, .ref btt, .ref bss])), (bl, .inl (cI, 100, .inl l2_72)), (bu, .inl (cI, 100, .inl u2_73)), (bo, .inl (cI, 100, .inl d2_74)), (h0, .inr (7, [.int (nI (z)), .ref ab, .int tk2_82, .int (nI (s2_79)), .int (nI (x2_80)), .int (nI (v2_81)), .int t2_83])), (ab, .inl (cI, 120, .inl by9))] := hD
              rcases hw_r_78 with rfl | rfl
              · skip
                refine lv_if_eq (tgt := 147) hx hb dX7_takeWay_133 (by decide) (fun c_87 => absurd c_87 (by decide)) (fun c_87 => ?_)
                refine lv_aload_n hx hb dX7_takeWay_136 rfl (lv_at hl 4 rfl) ?_
                refine lv_aload_n hx hb dX7_takeWay_137 rfl (lv_at hl 5 rfl) ?_
                refine lv_iload hx hb dX7_takeWay_138 (lv_at hl 1 rfl) ?_
                refine lv_iload_n hx hb dX7_takeWay_140 rfl (lv_at hl 3 rfl) ?_
                refine xc_Vi (wr := []) hF (c_X7_takeWayBack l D cI cJ cZ cS ta sa sv H.size h0 ab z s2_79 x2_80 v2_81 tk2_82 t2_83 by9 q1 be bl bu bo br bk bw btt bss P l2_72 u2_73 d2_74 w_36 w_19 (by omega) (by omega) (by omega) (by omega) (by omega) (by omega)) kv_X7_90 ⟨rfl, rfl, Nat.le_of_ble_eq_true rfl, Nat.le_of_ble_eq_true rfl⟩ ⟨Nat.le_of_ble_eq_true rfl, Nat.le_of_ble_eq_true rfl⟩ hK hN hZ hP hD hS hA [4, 5, 0, 1, 2, 3] [] rfl rfl rfl rfl (by decide) 0 rfl rfl rfl rfl hl.1 rfl (Nat.le_of_ble_eq_true rfl) dX7_takeWay_141 (fun r_88 u_r_88 H locs hw_r_88 hP hD hS => ?_)
                obtain ⟨s2_89, x2_90, v2_91, tk2_92, t2_93, l2_94, u2_95, d2_96⟩ := u_r_88
                try dsimp only at hw_r_88
                obtain ⟨hw_r_88, i_97, i_98, i_99⟩ := hw_r_88
                have hP : va_P D vwCl [(h0, .inr (7, [.int (nI (z)), .ref ab, .int tk2_92, .int (nI (s2_89)), .int (nI (x2_90)), .int (nI (v2_91)), .int t2_93])), (ab, .inl (cI, 120, .inl by9)), (q1, .inr (1, [.int (nI (P)), .ref be, .ref bl, .ref bu, .ref bo, .ref br, .ref bk, .ref bw, .ref btt, .ref bss])), (bl, .inl (cI, 100, .inl l2_94)), (bu, .inl (cI, 100, .inl u2_95)), (bo, .inl (cI, 100, .inl d2_96))] H := hP
                have hD : va_D A [(h0, .inr (7, [.int (nI (z)), .ref ab, .int tk2_92, .int (nI (s2_89)), .int (nI (x2_90)), .int (nI (v2_91)), .int t2_93])), (ab, .inl (cI, 120, .inl by9)), (q1, .inr (1, [.int (nI (P)), .ref be, .ref bl, .ref bu, .ref bo, .ref br, .ref bk, .ref bw, .ref btt, .ref bss])), (bl, .inl (cI, 100, .inl l2_94)), (bu, .inl (cI, 100, .inl u2_95)), (bo, .inl (cI, 100, .inl d2_96))] := hD
                rcases hw_r_88 with rfl | rfl
                · skip
                  refine lv_if_eq (tgt := 151) hx hb dX7_takeWay_144 (by decide) (fun c_100 => absurd c_100 (by decide)) (fun c_100 => ?_)
                  refine lv_iconst (v := 1) hx hb dX7_takeWay_147 (by decide) ?_
                  refine lv_goto (tgt := 152) hx hb dX7_takeWay_148 (by decide) ?_
                  exact W.zret (v := 1) hx hb hr rfl (fun t ht hW => ⟨⟨1, (s2_89, x2_90, v2_91, tk2_92, t2_93, l2_94, u2_95, d2_96), rfl, ⟨(by first | exact Or.inl rfl), (by first | assumption | omega), (by first | assumption | omega), (by first | assumption | omega)⟩, by rw [ht]; exact hP.sub [0, 1, 2, 3, 4, 5] rfl, hD.sub [0, 1, 2, 3, 4, 5] (by decide +kernel) rfl⟩, hS.F ht⟩) hS.2.2 dX7_takeWay_152 hlk
                · skip
                  refine lv_if_eq (tgt := 151) hx hb dX7_takeWay_144 (by decide) (fun c_101 => ?_) (fun c_101 => absurd (by decide) c_101)
                  refine lv_iconst (v := 0) hx hb dX7_takeWay_151 (by decide) ?_
                  exact W.zret (v := 0) hx hb hr rfl (fun t ht hW => ⟨⟨0, (s2_89, x2_90, v2_91, tk2_92, t2_93, l2_94, u2_95, d2_96), rfl, ⟨(by first | exact Or.inr (rfl)), (by first | assumption | omega), (by first | assumption | omega), (by first | assumption | omega)⟩, by rw [ht]; exact hP.sub [0, 1, 2, 3, 4, 5] rfl, hD.sub [0, 1, 2, 3, 4, 5] (by decide +kernel) rfl⟩, hS.F ht⟩) hS.2.2 dX7_takeWay_152 hlk
              · skip
                refine lv_if_eq (tgt := 147) hx hb dX7_takeWay_133 (by decide) (fun c_102 => ?_) (fun c_102 => absurd (by decide) c_102)
                refine lv_iconst (v := 1) hx hb dX7_takeWay_147 (by decide) ?_
                refine lv_goto (tgt := 152) hx hb dX7_takeWay_148 (by decide) ?_
                exact W.zret (v := 1) hx hb hr rfl (fun t ht hW => ⟨⟨1, (s2_79, x2_80, v2_81, tk2_82, t2_83, l2_72, u2_73, d2_74), rfl, ⟨(by first | exact Or.inl rfl), (by first | assumption | omega), (by first | assumption | omega), (by first | assumption | omega)⟩, by rw [ht]; exact hP.sub [4, 5, 0, 1, 2, 3] rfl, hD.sub [4, 5, 0, 1, 2, 3] (by decide +kernel) rfl⟩, hS.F ht⟩) hS.2.2 dX7_takeWay_152 hlk
            · skip
              refine lv_if_ne (tgt := 114) hx hb dX7_takeWay_109 (by decide) (fun c_103 => absurd (by decide) c_103) (fun c_103 => ?_)
              refine lv_iconst (v := 0) hx hb dX7_takeWay_112 (by decide) ?_
              exact W.zret (v := 0) hx hb hr rfl (fun t ht hW => ⟨⟨0, (s2_62, x2_63, v2_64, tk2_65, t2_66, lo, hg, d), rfl, ⟨(by first | exact Or.inr (rfl)), (by first | assumption | omega), (by first | assumption | omega), (by first | assumption | omega)⟩, by rw [ht]; exact hP.sub [4, 5, 0, 1, 2, 3] rfl, hD.sub [4, 5, 0, 1, 2, 3] (by decide +kernel) rfl⟩, hS.F ht⟩) hS.2.2 dX7_takeWay_113 hlk
          · skip
            refine lv_if_eq (tgt := 114) hx hb dX7_takeWay_97 (by decide) (fun c_104 => ?_) (fun c_104 => absurd (by decide) c_104)
            refine lv_aload_n hx hb dX7_takeWay_114 rfl (lv_at hl 5 rfl) ?_
            refine lv_iload_n hx hb dX7_takeWay_115 rfl (lv_at hl 3 rfl) ?_
            refine lv_iload hx hb dX7_takeWay_116 (lv_at hl 1 rfl) ?_
            refine lv_iload hx hb dX7_takeWay_118 (lv_at hl 0 rfl) ?_
            refine lv_aload_n hx hb dX7_takeWay_120 rfl (lv_at hl 4 rfl) ?_
            refine xg hF kf_X7_31 hK hP 4 rfl rfl dX7_takeWay_121 ?_
            refine xc_Vv (wr := [(h0, .inr (7, [.int (nI (z)), .ref ab, .int tk2_55, .int (nI (s2_52)), .int (nI (x2_53)), .int (nI (v2_54)), .int t2_56])), (ab, .inl (cI, 120, .inl by9))]) hF (c_X1_setWay l D cI cJ cZ cS ta sa sv H.size q1 be bl bu bo br bk bw btt bss P w_19 w_36 t2_46 t2_56 lo hg d (by omega) (by omega)) kv_X7_84 ⟨rfl, rfl, Nat.le_of_ble_eq_true rfl, Nat.le_of_ble_eq_true rfl⟩ ⟨Nat.le_of_ble_eq_true rfl, Nat.le_of_ble_eq_true rfl⟩ hK hN hZ hP hD hS hA [0, 1, 2, 3] [4, 5] rfl rfl rfl rfl (by decide) 0 rfl rfl rfl rfl hl.1 rfl (Nat.le_of_ble_eq_true rfl) dX7_takeWay_124 (fun u_r_105 H locs hw_r_105 hP hD hS => ?_)
            obtain ⟨l2_106, u2_107, d2_108⟩ := u_r_105
            try dsimp only at hw_r_105
            obtain ⟨i_109, i_110, i_111⟩ := hw_r_105
            have hP : va_P D vwCl [(h0, .inr (7, [.int (nI (z)), .ref ab, .int tk2_55, .int (nI (s2_52)), .int (nI (x2_53)), .int (nI (v2_54)), .int t2_56])), (ab, .inl (cI, 120, .inl by9)), (q1, .inr (1, [.int (nI (P)), .ref be, .ref bl, .ref bu, .ref bo, .ref br, .ref bk, .ref bw, .ref btt, .ref bss])), (bl, .inl (cI, 100, .inl l2_106)), (bu, .inl (cI, 100, .inl u2_107)), (bo, .inl (cI, 100, .inl d2_108))] H := hP
            have hD : va_D A [(h0, .inr (7, [.int (nI (z)), .ref ab, .int tk2_55, .int (nI (s2_52)), .int (nI (x2_53)), .int (nI (v2_54)), .int t2_56])), (ab, .inl (cI, 120, .inl by9)), (q1, .inr (1, [.int (nI (P)), .ref be, .ref bl, .ref bu, .ref bo, .ref br, .ref bk, .ref bw, .ref btt, .ref bss])), (bl, .inl (cI, 100, .inl l2_106)), (bu, .inl (cI, 100, .inl u2_107)), (bo, .inl (cI, 100, .inl d2_108))] := hD
            refine lv_aload_n hx hb dX7_takeWay_127 rfl (lv_at hl 4 rfl) ?_
            refine va_ldcS (tx := "back") (q := sa 5) hx hb hown (hN.2.2 (88, "back", 5) (by decide)) dX7_takeWay_128 ?_
            refine xc_Vi (wr := [(q1, .inr (1, [.int (nI (P)), .ref be, .ref bl, .ref bu, .ref bo, .ref br, .ref bk, .ref bw, .ref btt, .ref bss])), (bl, .inl (cI, 100, .inl l2_106)), (bu, .inl (cI, 100, .inl u2_107)), (bo, .inl (cI, 100, .inl d2_108))]) hF (c_X7_takeWord l D cI cJ cZ cS ta sa sv H.size h0 ab z s2_52 x2_53 v2_54 tk2_55 t2_56 by9 5 (by omega) (by omega) (by omega) (by omega) (by omega)) kv_X7_67 ⟨rfl, rfl, Nat.le_of_ble_eq_true rfl, Nat.le_of_ble_eq_true rfl⟩ ⟨Nat.le_of_ble_eq_true rfl, Nat.le_of_ble_eq_true rfl⟩ hK hN hZ hP hD hS hA [0, 1] [2, 3, 4, 5] rfl rfl rfl rfl (by decide) 0 rfl rfl rfl rfl hl.1 rfl (Nat.le_of_ble_eq_true rfl) dX7_takeWay_130 (fun r_112 u_r_112 H locs hw_r_112 hP hD hS => ?_)
            obtain ⟨s2_113, x2_114, v2_115, tk2_116, t2_117⟩ := u_r_112
            try dsimp only at hw_r_112
            obtain ⟨hw_r_112, i_118, i_119, i_120⟩ := hw_r_112
            have hP : va_P D vwCl [(q1, .inr (1, [.int (nI (P)), .ref be, .ref bl, .ref bu, .ref bo, .ref br, .ref bk, .ref bw, .ref btt, .ref bss])), (bl, .inl (cI, 100, .inl l2_106)), (bu, .inl (cI, 100, .inl u2_107)), (bo, .inl (cI, 100, .inl d2_108)), (h0, .inr (7, [.int (nI (z)), .ref ab, .int tk2_116, .int (nI (s2_113)), .int (nI (x2_114)), .int (nI (v2_115)), .int t2_117])), (ab, .inl (cI, 120, .inl by9))] H := hP
            have hD : va_D A [(q1, .inr (1, [.int (nI (P)), .ref be, .ref bl, .ref bu, .ref bo, .ref br, .ref bk, .ref bw, .ref btt, .ref bss])), (bl, .inl (cI, 100, .inl l2_106)), (bu, .inl (cI, 100, .inl u2_107)), (bo, .inl (cI, 100, .inl d2_108)), (h0, .inr (7, [.int (nI (z)), .ref ab, .int tk2_116, .int (nI (s2_113)), .int (nI (x2_114)), .int (nI (v2_115)), .int t2_117])), (ab, .inl (cI, 120, .inl by9))] := hD
            rcases hw_r_112 with rfl | rfl
            · skip
              refine lv_if_eq (tgt := 147) hx hb dX7_takeWay_133 (by decide) (fun c_121 => absurd c_121 (by decide)) (fun c_121 => ?_)
              refine lv_aload_n hx hb dX7_takeWay_136 rfl (lv_at hl 4 rfl) ?_
              refine lv_aload_n hx hb dX7_takeWay_137 rfl (lv_at hl 5 rfl) ?_
              refine lv_iload hx hb dX7_takeWay_138 (lv_at hl 1 rfl) ?_
              refine lv_iload_n hx hb dX7_takeWay_140 rfl (lv_at hl 3 rfl) ?_
              refine xc_Vi (wr := []) hF (c_X7_takeWayBack l D cI cJ cZ cS ta sa sv H.size h0 ab z s2_113 x2_114 v2_115 tk2_116 t2_117 by9 q1 be bl bu bo br bk bw btt bss P l2_106 u2_107 d2_108 w_36 w_19 (by omega) (by omega) (by omega) (by omega) (by omega) (by omega)) kv_X7_90 ⟨rfl, rfl, Nat.le_of_ble_eq_true rfl, Nat.le_of_ble_eq_true rfl⟩ ⟨Nat.le_of_ble_eq_true rfl, Nat.le_of_ble_eq_true rfl⟩ hK hN hZ hP hD hS hA [4, 5, 0, 1, 2, 3] [] rfl rfl rfl rfl (by decide) 0 rfl rfl rfl rfl hl.1 rfl (Nat.le_of_ble_eq_true rfl) dX7_takeWay_141 (fun r_122 u_r_122 H locs hw_r_122 hP hD hS => ?_)
              obtain ⟨s2_123, x2_124, v2_125, tk2_126, t2_127, l2_128, u2_129, d2_130⟩ := u_r_122
              try dsimp only at hw_r_122
              obtain ⟨hw_r_122, i_131, i_132, i_133⟩ := hw_r_122
              have hP : va_P D vwCl [(h0, .inr (7, [.int (nI (z)), .ref ab, .int tk2_126, .int (nI (s2_123)), .int (nI (x2_124)), .int (nI (v2_125)), .int t2_127])), (ab, .inl (cI, 120, .inl by9)), (q1, .inr (1, [.int (nI (P)), .ref be, .ref bl, .ref bu, .ref bo, .ref br, .ref bk, .ref bw, .ref btt, .ref bss])), (bl, .inl (cI, 100, .inl l2_128)), (bu, .inl (cI, 100, .inl u2_129)), (bo, .inl (cI, 100, .inl d2_130))] H := hP
              have hD : va_D A [(h0, .inr (7, [.int (nI (z)), .ref ab, .int tk2_126, .int (nI (s2_123)), .int (nI (x2_124)), .int (nI (v2_125)), .int t2_127])), (ab, .inl (cI, 120, .inl by9)), (q1, .inr (1, [.int (nI (P)), .ref be, .ref bl, .ref bu, .ref bo, .ref br, .ref bk, .ref bw, .ref btt, .ref bss])), (bl, .inl (cI, 100, .inl l2_128)), (bu, .inl (cI, 100, .inl u2_129)), (bo, .inl (cI, 100, .inl d2_130))] := hD
              rcases hw_r_122 with rfl | rfl
              · skip
                refine lv_if_eq (tgt := 151) hx hb dX7_takeWay_144 (by decide) (fun c_134 => absurd c_134 (by decide)) (fun c_134 => ?_)
                refine lv_iconst (v := 1) hx hb dX7_takeWay_147 (by decide) ?_
                refine lv_goto (tgt := 152) hx hb dX7_takeWay_148 (by decide) ?_
                exact W.zret (v := 1) hx hb hr rfl (fun t ht hW => ⟨⟨1, (s2_123, x2_124, v2_125, tk2_126, t2_127, l2_128, u2_129, d2_130), rfl, ⟨(by first | exact Or.inl rfl), (by first | assumption | omega), (by first | assumption | omega), (by first | assumption | omega)⟩, by rw [ht]; exact hP.sub [0, 1, 2, 3, 4, 5] rfl, hD.sub [0, 1, 2, 3, 4, 5] (by decide +kernel) rfl⟩, hS.F ht⟩) hS.2.2 dX7_takeWay_152 hlk
              · skip
                refine lv_if_eq (tgt := 151) hx hb dX7_takeWay_144 (by decide) (fun c_135 => ?_) (fun c_135 => absurd (by decide) c_135)
                refine lv_iconst (v := 0) hx hb dX7_takeWay_151 (by decide) ?_
                exact W.zret (v := 0) hx hb hr rfl (fun t ht hW => ⟨⟨0, (s2_123, x2_124, v2_125, tk2_126, t2_127, l2_128, u2_129, d2_130), rfl, ⟨(by first | exact Or.inr (rfl)), (by first | assumption | omega), (by first | assumption | omega), (by first | assumption | omega)⟩, by rw [ht]; exact hP.sub [0, 1, 2, 3, 4, 5] rfl, hD.sub [0, 1, 2, 3, 4, 5] (by decide +kernel) rfl⟩, hS.F ht⟩) hS.2.2 dX7_takeWay_152 hlk
            · skip
              refine lv_if_eq (tgt := 147) hx hb dX7_takeWay_133 (by decide) (fun c_136 => ?_) (fun c_136 => absurd (by decide) c_136)
              refine lv_iconst (v := 1) hx hb dX7_takeWay_147 (by decide) ?_
              refine lv_goto (tgt := 152) hx hb dX7_takeWay_148 (by decide) ?_
              exact W.zret (v := 1) hx hb hr rfl (fun t ht hW => ⟨⟨1, (s2_113, x2_114, v2_115, tk2_116, t2_117, l2_106, u2_107, d2_108), rfl, ⟨(by first | exact Or.inl rfl), (by first | assumption | omega), (by first | assumption | omega), (by first | assumption | omega)⟩, by rw [ht]; exact hP.sub [4, 5, 0, 1, 2, 3] rfl, hD.sub [4, 5, 0, 1, 2, 3] (by decide +kernel) rfl⟩, hS.F ht⟩) hS.2.2 dX7_takeWay_152 hlk
        · skip
          refine lv_if_ne (tgt := 85) hx hb dX7_takeWay_80 (by decide) (fun c_137 => absurd (by decide) c_137) (fun c_137 => ?_)
          refine lv_iconst (v := 0) hx hb dX7_takeWay_83 (by decide) ?_
          exact W.zret (v := 0) hx hb hr rfl (fun t ht hW => ⟨⟨0, (s2_42, x2_43, v2_44, tk2_45, t2_46, lo, hg, d), rfl, ⟨(by first | exact Or.inr (rfl)), (by first | assumption | omega), (by first | assumption | omega), (by first | assumption | omega)⟩, by rw [ht]; exact hP.sub [4, 5, 0, 1, 2, 3] rfl, hD.sub [4, 5, 0, 1, 2, 3] (by decide +kernel) rfl⟩, hS.F ht⟩) hS.2.2 dX7_takeWay_84 hlk
      · skip
        refine lv_if_ne (tgt := 65) hx hb dX7_takeWay_60 (by decide) (fun c_138 => absurd (by decide) c_138) (fun c_138 => ?_)
        refine lv_iconst (v := 0) hx hb dX7_takeWay_63 (by decide) ?_
        exact W.zret (v := 0) hx hb hr rfl (fun t ht hW => ⟨⟨0, (s2_28, x2_29, v2_30, tk2_31, t2_32, lo, hg, d), rfl, ⟨(by first | exact Or.inr (rfl)), (by first | assumption | omega), (by first | assumption | omega), (by first | assumption | omega)⟩, by rw [ht]; exact hP.sub [4, 5, 0, 1, 2, 3] rfl, hD.sub [4, 5, 0, 1, 2, 3] (by decide +kernel) rfl⟩, hS.F ht⟩) hS.2.2 dX7_takeWay_64 hlk
    · skip
      refine lv_aload_n hx hb dX7_takeWay_32 rfl (lv_at hl 1 rfl) ?_
      refine xg hF kf_X7_28 hK hP 4 rfl rfl dX7_takeWay_33 ?_
      refine lv_iload_n hx hb dX7_takeWay_36 rfl (lv_at hl 0 rfl) ?_
      refine lv_icmp_ne (tgt := 44) hx hb dX7_takeWay_37 (by decide) (fun c_139 => ?_) (fun c_139 => ?_)
      · skip
        have nc_139 : v2_13 ≠ w_19 := xn_ne (a := v2_13) (b := w_19) (by omega) (by omega) c_139
        refine lv_iconst (v := 0) hx hb dX7_takeWay_44 (by decide) ?_
        refine lv_istore_n (lv' := [(3, .int 0), (2, .int (nI (w_19))), (0, .ref h0), (1, .ref q1)]) hx hb dX7_takeWay_45 rfl hl (by decide) rfl (fun ls hl => ?_)
        refine lv_iload_n hx hb dX7_takeWay_46 rfl (lv_at hl 0 rfl) ?_
        refine lv_if_ne (tgt := 63) hx hb dX7_takeWay_47 (by decide) (fun c_140 => absurd (by decide) c_140) (fun c_140 => ?_)
        refine lv_aload_n hx hb dX7_takeWay_50 rfl (lv_at hl 2 rfl) ?_
        refine lv_aload_n hx hb dX7_takeWay_51 rfl (lv_at hl 3 rfl) ?_
        refine xg hF kf_X7_60 hK hP 0 rfl rfl dX7_takeWay_52 ?_
        refine lv_iconst (v := 1) hx hb dX7_takeWay_55 (by decide) ?_
        refine lv_isub hx hb dX7_takeWay_56 ?_
        refine lv_topi (fun x_141 ex_141 => ?_)
        refine xc_Vi (wr := [(q1, .inr (1, [.int (nI (P)), .ref be, .ref bl, .ref bu, .ref bo, .ref br, .ref bk, .ref bw, .ref btt, .ref bss])), (bl, .inl (cI, 100, .inl lo)), (bu, .inl (cI, 100, .inl hg)), (bo, .inl (cI, 100, .inl d))]) hF (c_X7_takeNumber l D cI cJ cZ cS ta sa sv H.size h0 ab z s2_11 x2_12 v2_13 tk2_14 (nI (w_19)) by9 x_141 (by omega) (by omega) (by omega) (by omega)) kv_X7_70 ⟨rfl, rfl, Nat.le_of_ble_eq_true rfl, Nat.le_of_ble_eq_true rfl⟩ ⟨Nat.le_of_ble_eq_true rfl, Nat.le_of_ble_eq_true rfl⟩ hK hN hZ hP hD hS hA [4, 5] [0, 1, 2, 3] rfl rfl rfl rfl (by decide) 0 rfl rfl rfl rfl hl.1 rfl (Nat.le_of_ble_eq_true rfl) dX7_takeWay_57 (fun r_142 u_r_142 H locs hw_r_142 hP hD hS => ?_)
        obtain ⟨s2_143, x2_144, v2_145, tk2_146, t2_147⟩ := u_r_142
        try dsimp only at hw_r_142
        obtain ⟨hw_r_142, i_148, i_149, i_150⟩ := hw_r_142
        have hP : va_P D vwCl [(q1, .inr (1, [.int (nI (P)), .ref be, .ref bl, .ref bu, .ref bo, .ref br, .ref bk, .ref bw, .ref btt, .ref bss])), (bl, .inl (cI, 100, .inl lo)), (bu, .inl (cI, 100, .inl hg)), (bo, .inl (cI, 100, .inl d)), (h0, .inr (7, [.int (nI (z)), .ref ab, .int tk2_146, .int (nI (s2_143)), .int (nI (x2_144)), .int (nI (v2_145)), .int t2_147])), (ab, .inl (cI, 120, .inl by9))] H := hP
        have hD : va_D A [(q1, .inr (1, [.int (nI (P)), .ref be, .ref bl, .ref bu, .ref bo, .ref br, .ref bk, .ref bw, .ref btt, .ref bss])), (bl, .inl (cI, 100, .inl lo)), (bu, .inl (cI, 100, .inl hg)), (bo, .inl (cI, 100, .inl d)), (h0, .inr (7, [.int (nI (z)), .ref ab, .int tk2_146, .int (nI (s2_143)), .int (nI (x2_144)), .int (nI (v2_145)), .int t2_147])), (ab, .inl (cI, 120, .inl by9))] := hD
        rcases hw_r_142 with ⟨w_151, rfl, rfl, h_153, h_154⟩ | rfl
        · skip
          have hm_w_151 : w_151 < P := x_most hP0 (by omega) ex_141 h_154
          refine lv_if_ne (tgt := 65) hx hb dX7_takeWay_60 (by decide) (fun c_155 => ?_) (fun c_155 => absurd c_155 (by decide))
          refine lv_aload_n hx hb dX7_takeWay_65 rfl (lv_at hl 2 rfl) ?_
          refine xg hF kf_X7_31 hK hP 4 rfl rfl dX7_takeWay_66 ?_
          refine lv_istore (lv' := [(4, .int (nI (w_151))), (3, .int 0), (2, .int (nI (w_19))), (0, .ref h0), (1, .ref q1)]) hx hb dX7_takeWay_69 hl (by decide) rfl (fun ls hl => ?_)
          refine lv_aload_n hx hb dX7_takeWay_71 rfl (lv_at hl 3 rfl) ?_
          refine lv_bipush (v := (-99)) hx hb dX7_takeWay_72 (by decide) ?_
          refine lv_sipush (v := 999) hx hb dX7_takeWay_74 (by decide) ?_
          refine xc_Vi (wr := [(q1, .inr (1, [.int (nI (P)), .ref be, .ref bl, .ref bu, .ref bo, .ref br, .ref bk, .ref bw, .ref btt, .ref bss])), (bl, .inl (cI, 100, .inl lo)), (bu, .inl (cI, 100, .inl hg)), (bo, .inl (cI, 100, .inl d))]) hF (c_X7_takeMile l D cI cJ cZ cS ta sa sv H.size h0 ab z s2_143 x2_144 v2_145 tk2_146 (nI (w_151)) by9 (-99) 999 (by omega) (by omega) (by omega) (by omega)) kv_X7_78 ⟨rfl, rfl, Nat.le_of_ble_eq_true rfl, Nat.le_of_ble_eq_true rfl⟩ ⟨Nat.le_of_ble_eq_true rfl, Nat.le_of_ble_eq_true rfl⟩ hK hN hZ hP hD hS hA [4, 5] [0, 1, 2, 3] rfl rfl rfl rfl (by decide) 0 rfl rfl rfl rfl hl.1 rfl (Nat.le_of_ble_eq_true rfl) dX7_takeWay_77 (fun r_156 u_r_156 H locs hw_r_156 hP hD hS => ?_)
          obtain ⟨s2_157, x2_158, v2_159, tk2_160, t2_161⟩ := u_r_156
          try dsimp only at hw_r_156
          obtain ⟨hw_r_156, i_162, i_163, i_164⟩ := hw_r_156
          have hP : va_P D vwCl [(q1, .inr (1, [.int (nI (P)), .ref be, .ref bl, .ref bu, .ref bo, .ref br, .ref bk, .ref bw, .ref btt, .ref bss])), (bl, .inl (cI, 100, .inl lo)), (bu, .inl (cI, 100, .inl hg)), (bo, .inl (cI, 100, .inl d)), (h0, .inr (7, [.int (nI (z)), .ref ab, .int tk2_160, .int (nI (s2_157)), .int (nI (x2_158)), .int (nI (v2_159)), .int t2_161])), (ab, .inl (cI, 120, .inl by9))] H := hP
          have hD : va_D A [(q1, .inr (1, [.int (nI (P)), .ref be, .ref bl, .ref bu, .ref bo, .ref br, .ref bk, .ref bw, .ref btt, .ref bss])), (bl, .inl (cI, 100, .inl lo)), (bu, .inl (cI, 100, .inl hg)), (bo, .inl (cI, 100, .inl d)), (h0, .inr (7, [.int (nI (z)), .ref ab, .int tk2_160, .int (nI (s2_157)), .int (nI (x2_158)), .int (nI (v2_159)), .int t2_161])), (ab, .inl (cI, 120, .inl by9))] := hD
          rcases hw_r_156 with rfl | rfl
          · skip
            refine lv_if_ne (tgt := 85) hx hb dX7_takeWay_80 (by decide) (fun c_165 => ?_) (fun c_165 => absurd c_165 (by decide))
            refine lv_aload_n hx hb dX7_takeWay_85 rfl (lv_at hl 3 rfl) ?_
            refine xg hF kf_X7_31 hK hP 4 rfl rfl dX7_takeWay_86 ?_
            refine lv_istore (lv' := [(5, .int t2_161), (4, .int (nI (w_151))), (3, .int 0), (2, .int (nI (w_19))), (0, .ref h0), (1, .ref q1)]) hx hb dX7_takeWay_89 hl (by decide) rfl (fun ls hl => ?_)
            refine lv_aload_n hx hb dX7_takeWay_91 rfl (lv_at hl 4 rfl) ?_
            refine va_ldcS (tx := "to") (q := sa 4) hx hb hown (hN.2.2 (82, "to", 4) (by decide)) dX7_takeWay_92 ?_
            refine xc_Vi (wr := [(q1, .inr (1, [.int (nI (P)), .ref be, .ref bl, .ref bu, .ref bo, .ref br, .ref bk, .ref bw, .ref btt, .ref bss])), (bl, .inl (cI, 100, .inl lo)), (bu, .inl (cI, 100, .inl hg)), (bo, .inl (cI, 100, .inl d))]) hF (c_X7_takeWord l D cI cJ cZ cS ta sa sv H.size h0 ab z s2_157 x2_158 v2_159 tk2_160 t2_161 by9 4 (by omega) (by omega) (by omega) (by omega) (by omega)) kv_X7_67 ⟨rfl, rfl, Nat.le_of_ble_eq_true rfl, Nat.le_of_ble_eq_true rfl⟩ ⟨Nat.le_of_ble_eq_true rfl, Nat.le_of_ble_eq_true rfl⟩ hK hN hZ hP hD hS hA [4, 5] [0, 1, 2, 3] rfl rfl rfl rfl (by decide) 0 rfl rfl rfl rfl hl.1 rfl (Nat.le_of_ble_eq_true rfl) dX7_takeWay_94 (fun r_166 u_r_166 H locs hw_r_166 hP hD hS => ?_)
            obtain ⟨s2_167, x2_168, v2_169, tk2_170, t2_171⟩ := u_r_166
            try dsimp only at hw_r_166
            obtain ⟨hw_r_166, i_172, i_173, i_174⟩ := hw_r_166
            have hP : va_P D vwCl [(q1, .inr (1, [.int (nI (P)), .ref be, .ref bl, .ref bu, .ref bo, .ref br, .ref bk, .ref bw, .ref btt, .ref bss])), (bl, .inl (cI, 100, .inl lo)), (bu, .inl (cI, 100, .inl hg)), (bo, .inl (cI, 100, .inl d)), (h0, .inr (7, [.int (nI (z)), .ref ab, .int tk2_170, .int (nI (s2_167)), .int (nI (x2_168)), .int (nI (v2_169)), .int t2_171])), (ab, .inl (cI, 120, .inl by9))] H := hP
            have hD : va_D A [(q1, .inr (1, [.int (nI (P)), .ref be, .ref bl, .ref bu, .ref bo, .ref br, .ref bk, .ref bw, .ref btt, .ref bss])), (bl, .inl (cI, 100, .inl lo)), (bu, .inl (cI, 100, .inl hg)), (bo, .inl (cI, 100, .inl d)), (h0, .inr (7, [.int (nI (z)), .ref ab, .int tk2_170, .int (nI (s2_167)), .int (nI (x2_168)), .int (nI (v2_169)), .int t2_171])), (ab, .inl (cI, 120, .inl by9))] := hD
            rcases hw_r_166 with rfl | rfl
            · skip
              refine lv_if_eq (tgt := 114) hx hb dX7_takeWay_97 (by decide) (fun c_175 => absurd c_175 (by decide)) (fun c_175 => ?_)
              refine lv_aload_n hx hb dX7_takeWay_100 rfl (lv_at hl 4 rfl) ?_
              refine lv_iload hx hb dX7_takeWay_101 (lv_at hl 0 rfl) ?_
              refine lv_sipush (v := 999) hx hb dX7_takeWay_103 (by decide) ?_
              refine xc_Vi (wr := [(q1, .inr (1, [.int (nI (P)), .ref be, .ref bl, .ref bu, .ref bo, .ref br, .ref bk, .ref bw, .ref btt, .ref bss])), (bl, .inl (cI, 100, .inl lo)), (bu, .inl (cI, 100, .inl hg)), (bo, .inl (cI, 100, .inl d))]) hF (c_X7_takeMile l D cI cJ cZ cS ta sa sv H.size h0 ab z s2_167 x2_168 v2_169 tk2_170 t2_171 by9 t2_161 999 (by omega) (by omega) (by omega) (by omega)) kv_X7_78 ⟨rfl, rfl, Nat.le_of_ble_eq_true rfl, Nat.le_of_ble_eq_true rfl⟩ ⟨Nat.le_of_ble_eq_true rfl, Nat.le_of_ble_eq_true rfl⟩ hK hN hZ hP hD hS hA [4, 5] [0, 1, 2, 3] rfl rfl rfl rfl (by decide) 0 rfl rfl rfl rfl hl.1 rfl (Nat.le_of_ble_eq_true rfl) dX7_takeWay_106 (fun r_176 u_r_176 H locs hw_r_176 hP hD hS => ?_)
              obtain ⟨s2_177, x2_178, v2_179, tk2_180, t2_181⟩ := u_r_176
              try dsimp only at hw_r_176
              obtain ⟨hw_r_176, i_182, i_183, i_184⟩ := hw_r_176
              have hP : va_P D vwCl [(q1, .inr (1, [.int (nI (P)), .ref be, .ref bl, .ref bu, .ref bo, .ref br, .ref bk, .ref bw, .ref btt, .ref bss])), (bl, .inl (cI, 100, .inl lo)), (bu, .inl (cI, 100, .inl hg)), (bo, .inl (cI, 100, .inl d)), (h0, .inr (7, [.int (nI (z)), .ref ab, .int tk2_180, .int (nI (s2_177)), .int (nI (x2_178)), .int (nI (v2_179)), .int t2_181])), (ab, .inl (cI, 120, .inl by9))] H := hP
              have hD : va_D A [(q1, .inr (1, [.int (nI (P)), .ref be, .ref bl, .ref bu, .ref bo, .ref br, .ref bk, .ref bw, .ref btt, .ref bss])), (bl, .inl (cI, 100, .inl lo)), (bu, .inl (cI, 100, .inl hg)), (bo, .inl (cI, 100, .inl d)), (h0, .inr (7, [.int (nI (z)), .ref ab, .int tk2_180, .int (nI (s2_177)), .int (nI (x2_178)), .int (nI (v2_179)), .int t2_181])), (ab, .inl (cI, 120, .inl by9))] := hD
              rcases hw_r_176 with rfl | rfl
              · skip
                refine lv_if_ne (tgt := 114) hx hb dX7_takeWay_109 (by decide) (fun c_185 => ?_) (fun c_185 => absurd c_185 (by decide))
                refine lv_aload_n hx hb dX7_takeWay_114 rfl (lv_at hl 5 rfl) ?_
                refine lv_iload_n hx hb dX7_takeWay_115 rfl (lv_at hl 3 rfl) ?_
                refine lv_iload hx hb dX7_takeWay_116 (lv_at hl 1 rfl) ?_
                refine lv_iload hx hb dX7_takeWay_118 (lv_at hl 0 rfl) ?_
                refine lv_aload_n hx hb dX7_takeWay_120 rfl (lv_at hl 4 rfl) ?_
                refine xg hF kf_X7_31 hK hP 4 rfl rfl dX7_takeWay_121 ?_
                refine xc_Vv (wr := [(h0, .inr (7, [.int (nI (z)), .ref ab, .int tk2_180, .int (nI (s2_177)), .int (nI (x2_178)), .int (nI (v2_179)), .int t2_181])), (ab, .inl (cI, 120, .inl by9))]) hF (c_X1_setWay l D cI cJ cZ cS ta sa sv H.size q1 be bl bu bo br bk bw btt bss P w_19 w_151 t2_161 t2_181 lo hg d (by omega) (by omega)) kv_X7_84 ⟨rfl, rfl, Nat.le_of_ble_eq_true rfl, Nat.le_of_ble_eq_true rfl⟩ ⟨Nat.le_of_ble_eq_true rfl, Nat.le_of_ble_eq_true rfl⟩ hK hN hZ hP hD hS hA [0, 1, 2, 3] [4, 5] rfl rfl rfl rfl (by decide) 0 rfl rfl rfl rfl hl.1 rfl (Nat.le_of_ble_eq_true rfl) dX7_takeWay_124 (fun u_r_186 H locs hw_r_186 hP hD hS => ?_)
                obtain ⟨l2_187, u2_188, d2_189⟩ := u_r_186
                try dsimp only at hw_r_186
                obtain ⟨i_190, i_191, i_192⟩ := hw_r_186
                have hP : va_P D vwCl [(h0, .inr (7, [.int (nI (z)), .ref ab, .int tk2_180, .int (nI (s2_177)), .int (nI (x2_178)), .int (nI (v2_179)), .int t2_181])), (ab, .inl (cI, 120, .inl by9)), (q1, .inr (1, [.int (nI (P)), .ref be, .ref bl, .ref bu, .ref bo, .ref br, .ref bk, .ref bw, .ref btt, .ref bss])), (bl, .inl (cI, 100, .inl l2_187)), (bu, .inl (cI, 100, .inl u2_188)), (bo, .inl (cI, 100, .inl d2_189))] H := hP
                have hD : va_D A [(h0, .inr (7, [.int (nI (z)), .ref ab, .int tk2_180, .int (nI (s2_177)), .int (nI (x2_178)), .int (nI (v2_179)), .int t2_181])), (ab, .inl (cI, 120, .inl by9)), (q1, .inr (1, [.int (nI (P)), .ref be, .ref bl, .ref bu, .ref bo, .ref br, .ref bk, .ref bw, .ref btt, .ref bss])), (bl, .inl (cI, 100, .inl l2_187)), (bu, .inl (cI, 100, .inl u2_188)), (bo, .inl (cI, 100, .inl d2_189))] := hD
                refine lv_aload_n hx hb dX7_takeWay_127 rfl (lv_at hl 4 rfl) ?_
                refine va_ldcS (tx := "back") (q := sa 5) hx hb hown (hN.2.2 (88, "back", 5) (by decide)) dX7_takeWay_128 ?_
                refine xc_Vi (wr := [(q1, .inr (1, [.int (nI (P)), .ref be, .ref bl, .ref bu, .ref bo, .ref br, .ref bk, .ref bw, .ref btt, .ref bss])), (bl, .inl (cI, 100, .inl l2_187)), (bu, .inl (cI, 100, .inl u2_188)), (bo, .inl (cI, 100, .inl d2_189))]) hF (c_X7_takeWord l D cI cJ cZ cS ta sa sv H.size h0 ab z s2_177 x2_178 v2_179 tk2_180 t2_181 by9 5 (by omega) (by omega) (by omega) (by omega) (by omega)) kv_X7_67 ⟨rfl, rfl, Nat.le_of_ble_eq_true rfl, Nat.le_of_ble_eq_true rfl⟩ ⟨Nat.le_of_ble_eq_true rfl, Nat.le_of_ble_eq_true rfl⟩ hK hN hZ hP hD hS hA [0, 1] [2, 3, 4, 5] rfl rfl rfl rfl (by decide) 0 rfl rfl rfl rfl hl.1 rfl (Nat.le_of_ble_eq_true rfl) dX7_takeWay_130 (fun r_193 u_r_193 H locs hw_r_193 hP hD hS => ?_)
                obtain ⟨s2_194, x2_195, v2_196, tk2_197, t2_198⟩ := u_r_193
                try dsimp only at hw_r_193
                obtain ⟨hw_r_193, i_199, i_200, i_201⟩ := hw_r_193
                have hP : va_P D vwCl [(q1, .inr (1, [.int (nI (P)), .ref be, .ref bl, .ref bu, .ref bo, .ref br, .ref bk, .ref bw, .ref btt, .ref bss])), (bl, .inl (cI, 100, .inl l2_187)), (bu, .inl (cI, 100, .inl u2_188)), (bo, .inl (cI, 100, .inl d2_189)), (h0, .inr (7, [.int (nI (z)), .ref ab, .int tk2_197, .int (nI (s2_194)), .int (nI (x2_195)), .int (nI (v2_196)), .int t2_198])), (ab, .inl (cI, 120, .inl by9))] H := hP
                have hD : va_D A [(q1, .inr (1, [.int (nI (P)), .ref be, .ref bl, .ref bu, .ref bo, .ref br, .ref bk, .ref bw, .ref btt, .ref bss])), (bl, .inl (cI, 100, .inl l2_187)), (bu, .inl (cI, 100, .inl u2_188)), (bo, .inl (cI, 100, .inl d2_189)), (h0, .inr (7, [.int (nI (z)), .ref ab, .int tk2_197, .int (nI (s2_194)), .int (nI (x2_195)), .int (nI (v2_196)), .int t2_198])), (ab, .inl (cI, 120, .inl by9))] := hD
                rcases hw_r_193 with rfl | rfl
                · skip
                  refine lv_if_eq (tgt := 147) hx hb dX7_takeWay_133 (by decide) (fun c_202 => absurd c_202 (by decide)) (fun c_202 => ?_)
                  refine lv_aload_n hx hb dX7_takeWay_136 rfl (lv_at hl 4 rfl) ?_
                  refine lv_aload_n hx hb dX7_takeWay_137 rfl (lv_at hl 5 rfl) ?_
                  refine lv_iload hx hb dX7_takeWay_138 (lv_at hl 1 rfl) ?_
                  refine lv_iload_n hx hb dX7_takeWay_140 rfl (lv_at hl 3 rfl) ?_
                  refine xc_Vi (wr := []) hF (c_X7_takeWayBack l D cI cJ cZ cS ta sa sv H.size h0 ab z s2_194 x2_195 v2_196 tk2_197 t2_198 by9 q1 be bl bu bo br bk bw btt bss P l2_187 u2_188 d2_189 w_151 w_19 (by omega) (by omega) (by omega) (by omega) (by omega) (by omega)) kv_X7_90 ⟨rfl, rfl, Nat.le_of_ble_eq_true rfl, Nat.le_of_ble_eq_true rfl⟩ ⟨Nat.le_of_ble_eq_true rfl, Nat.le_of_ble_eq_true rfl⟩ hK hN hZ hP hD hS hA [4, 5, 0, 1, 2, 3] [] rfl rfl rfl rfl (by decide) 0 rfl rfl rfl rfl hl.1 rfl (Nat.le_of_ble_eq_true rfl) dX7_takeWay_141 (fun r_203 u_r_203 H locs hw_r_203 hP hD hS => ?_)
                  obtain ⟨s2_204, x2_205, v2_206, tk2_207, t2_208, l2_209, u2_210, d2_211⟩ := u_r_203
                  try dsimp only at hw_r_203
                  obtain ⟨hw_r_203, i_212, i_213, i_214⟩ := hw_r_203
                  have hP : va_P D vwCl [(h0, .inr (7, [.int (nI (z)), .ref ab, .int tk2_207, .int (nI (s2_204)), .int (nI (x2_205)), .int (nI (v2_206)), .int t2_208])), (ab, .inl (cI, 120, .inl by9)), (q1, .inr (1, [.int (nI (P)), .ref be, .ref bl, .ref bu, .ref bo, .ref br, .ref bk, .ref bw, .ref btt, .ref bss])), (bl, .inl (cI, 100, .inl l2_209)), (bu, .inl (cI, 100, .inl u2_210)), (bo, .inl (cI, 100, .inl d2_211))] H := hP
                  have hD : va_D A [(h0, .inr (7, [.int (nI (z)), .ref ab, .int tk2_207, .int (nI (s2_204)), .int (nI (x2_205)), .int (nI (v2_206)), .int t2_208])), (ab, .inl (cI, 120, .inl by9)), (q1, .inr (1, [.int (nI (P)), .ref be, .ref bl, .ref bu, .ref bo, .ref br, .ref bk, .ref bw, .ref btt, .ref bss])), (bl, .inl (cI, 100, .inl l2_209)), (bu, .inl (cI, 100, .inl u2_210)), (bo, .inl (cI, 100, .inl d2_211))] := hD
                  rcases hw_r_203 with rfl | rfl
                  · skip
                    refine lv_if_eq (tgt := 151) hx hb dX7_takeWay_144 (by decide) (fun c_215 => absurd c_215 (by decide)) (fun c_215 => ?_)
                    refine lv_iconst (v := 1) hx hb dX7_takeWay_147 (by decide) ?_
                    refine lv_goto (tgt := 152) hx hb dX7_takeWay_148 (by decide) ?_
                    exact W.zret (v := 1) hx hb hr rfl (fun t ht hW => ⟨⟨1, (s2_204, x2_205, v2_206, tk2_207, t2_208, l2_209, u2_210, d2_211), rfl, ⟨(by first | exact Or.inl rfl), (by first | assumption | omega), (by first | assumption | omega), (by first | assumption | omega)⟩, by rw [ht]; exact hP.sub [0, 1, 2, 3, 4, 5] rfl, hD.sub [0, 1, 2, 3, 4, 5] (by decide +kernel) rfl⟩, hS.F ht⟩) hS.2.2 dX7_takeWay_152 hlk
                  · skip
                    refine lv_if_eq (tgt := 151) hx hb dX7_takeWay_144 (by decide) (fun c_216 => ?_) (fun c_216 => absurd (by decide) c_216)
                    refine lv_iconst (v := 0) hx hb dX7_takeWay_151 (by decide) ?_
                    exact W.zret (v := 0) hx hb hr rfl (fun t ht hW => ⟨⟨0, (s2_204, x2_205, v2_206, tk2_207, t2_208, l2_209, u2_210, d2_211), rfl, ⟨(by first | exact Or.inr (rfl)), (by first | assumption | omega), (by first | assumption | omega), (by first | assumption | omega)⟩, by rw [ht]; exact hP.sub [0, 1, 2, 3, 4, 5] rfl, hD.sub [0, 1, 2, 3, 4, 5] (by decide +kernel) rfl⟩, hS.F ht⟩) hS.2.2 dX7_takeWay_152 hlk
                · skip
                  refine lv_if_eq (tgt := 147) hx hb dX7_takeWay_133 (by decide) (fun c_217 => ?_) (fun c_217 => absurd (by decide) c_217)
                  refine lv_iconst (v := 1) hx hb dX7_takeWay_147 (by decide) ?_
                  refine lv_goto (tgt := 152) hx hb dX7_takeWay_148 (by decide) ?_
                  exact W.zret (v := 1) hx hb hr rfl (fun t ht hW => ⟨⟨1, (s2_194, x2_195, v2_196, tk2_197, t2_198, l2_187, u2_188, d2_189), rfl, ⟨(by first | exact Or.inl rfl), (by first | assumption | omega), (by first | assumption | omega), (by first | assumption | omega)⟩, by rw [ht]; exact hP.sub [4, 5, 0, 1, 2, 3] rfl, hD.sub [4, 5, 0, 1, 2, 3] (by decide +kernel) rfl⟩, hS.F ht⟩) hS.2.2 dX7_takeWay_152 hlk
              · skip
                refine lv_if_ne (tgt := 114) hx hb dX7_takeWay_109 (by decide) (fun c_218 => absurd (by decide) c_218) (fun c_218 => ?_)
                refine lv_iconst (v := 0) hx hb dX7_takeWay_112 (by decide) ?_
                exact W.zret (v := 0) hx hb hr rfl (fun t ht hW => ⟨⟨0, (s2_177, x2_178, v2_179, tk2_180, t2_181, lo, hg, d), rfl, ⟨(by first | exact Or.inr (rfl)), (by first | assumption | omega), (by first | assumption | omega), (by first | assumption | omega)⟩, by rw [ht]; exact hP.sub [4, 5, 0, 1, 2, 3] rfl, hD.sub [4, 5, 0, 1, 2, 3] (by decide +kernel) rfl⟩, hS.F ht⟩) hS.2.2 dX7_takeWay_113 hlk
            · skip
              refine lv_if_eq (tgt := 114) hx hb dX7_takeWay_97 (by decide) (fun c_219 => ?_) (fun c_219 => absurd (by decide) c_219)
              refine lv_aload_n hx hb dX7_takeWay_114 rfl (lv_at hl 5 rfl) ?_
              refine lv_iload_n hx hb dX7_takeWay_115 rfl (lv_at hl 3 rfl) ?_
              refine lv_iload hx hb dX7_takeWay_116 (lv_at hl 1 rfl) ?_
              refine lv_iload hx hb dX7_takeWay_118 (lv_at hl 0 rfl) ?_
              refine lv_aload_n hx hb dX7_takeWay_120 rfl (lv_at hl 4 rfl) ?_
              refine xg hF kf_X7_31 hK hP 4 rfl rfl dX7_takeWay_121 ?_
              refine xc_Vv (wr := [(h0, .inr (7, [.int (nI (z)), .ref ab, .int tk2_170, .int (nI (s2_167)), .int (nI (x2_168)), .int (nI (v2_169)), .int t2_171])), (ab, .inl (cI, 120, .inl by9))]) hF (c_X1_setWay l D cI cJ cZ cS ta sa sv H.size q1 be bl bu bo br bk bw btt bss P w_19 w_151 t2_161 t2_171 lo hg d (by omega) (by omega)) kv_X7_84 ⟨rfl, rfl, Nat.le_of_ble_eq_true rfl, Nat.le_of_ble_eq_true rfl⟩ ⟨Nat.le_of_ble_eq_true rfl, Nat.le_of_ble_eq_true rfl⟩ hK hN hZ hP hD hS hA [0, 1, 2, 3] [4, 5] rfl rfl rfl rfl (by decide) 0 rfl rfl rfl rfl hl.1 rfl (Nat.le_of_ble_eq_true rfl) dX7_takeWay_124 (fun u_r_220 H locs hw_r_220 hP hD hS => ?_)
              obtain ⟨l2_221, u2_222, d2_223⟩ := u_r_220
              try dsimp only at hw_r_220
              obtain ⟨i_224, i_225, i_226⟩ := hw_r_220
              have hP : va_P D vwCl [(h0, .inr (7, [.int (nI (z)), .ref ab, .int tk2_170, .int (nI (s2_167)), .int (nI (x2_168)), .int (nI (v2_169)), .int t2_171])), (ab, .inl (cI, 120, .inl by9)), (q1, .inr (1, [.int (nI (P)), .ref be, .ref bl, .ref bu, .ref bo, .ref br, .ref bk, .ref bw, .ref btt, .ref bss])), (bl, .inl (cI, 100, .inl l2_221)), (bu, .inl (cI, 100, .inl u2_222)), (bo, .inl (cI, 100, .inl d2_223))] H := hP
              have hD : va_D A [(h0, .inr (7, [.int (nI (z)), .ref ab, .int tk2_170, .int (nI (s2_167)), .int (nI (x2_168)), .int (nI (v2_169)), .int t2_171])), (ab, .inl (cI, 120, .inl by9)), (q1, .inr (1, [.int (nI (P)), .ref be, .ref bl, .ref bu, .ref bo, .ref br, .ref bk, .ref bw, .ref btt, .ref bss])), (bl, .inl (cI, 100, .inl l2_221)), (bu, .inl (cI, 100, .inl u2_222)), (bo, .inl (cI, 100, .inl d2_223))] := hD
              refine lv_aload_n hx hb dX7_takeWay_127 rfl (lv_at hl 4 rfl) ?_
              refine va_ldcS (tx := "back") (q := sa 5) hx hb hown (hN.2.2 (88, "back", 5) (by decide)) dX7_takeWay_128 ?_
              refine xc_Vi (wr := [(q1, .inr (1, [.int (nI (P)), .ref be, .ref bl, .ref bu, .ref bo, .ref br, .ref bk, .ref bw, .ref btt, .ref bss])), (bl, .inl (cI, 100, .inl l2_221)), (bu, .inl (cI, 100, .inl u2_222)), (bo, .inl (cI, 100, .inl d2_223))]) hF (c_X7_takeWord l D cI cJ cZ cS ta sa sv H.size h0 ab z s2_167 x2_168 v2_169 tk2_170 t2_171 by9 5 (by omega) (by omega) (by omega) (by omega) (by omega)) kv_X7_67 ⟨rfl, rfl, Nat.le_of_ble_eq_true rfl, Nat.le_of_ble_eq_true rfl⟩ ⟨Nat.le_of_ble_eq_true rfl, Nat.le_of_ble_eq_true rfl⟩ hK hN hZ hP hD hS hA [0, 1] [2, 3, 4, 5] rfl rfl rfl rfl (by decide) 0 rfl rfl rfl rfl hl.1 rfl (Nat.le_of_ble_eq_true rfl) dX7_takeWay_130 (fun r_227 u_r_227 H locs hw_r_227 hP hD hS => ?_)
              obtain ⟨s2_228, x2_229, v2_230, tk2_231, t2_232⟩ := u_r_227
              try dsimp only at hw_r_227
              obtain ⟨hw_r_227, i_233, i_234, i_235⟩ := hw_r_227
              have hP : va_P D vwCl [(q1, .inr (1, [.int (nI (P)), .ref be, .ref bl, .ref bu, .ref bo, .ref br, .ref bk, .ref bw, .ref btt, .ref bss])), (bl, .inl (cI, 100, .inl l2_221)), (bu, .inl (cI, 100, .inl u2_222)), (bo, .inl (cI, 100, .inl d2_223)), (h0, .inr (7, [.int (nI (z)), .ref ab, .int tk2_231, .int (nI (s2_228)), .int (nI (x2_229)), .int (nI (v2_230)), .int t2_232])), (ab, .inl (cI, 120, .inl by9))] H := hP
              have hD : va_D A [(q1, .inr (1, [.int (nI (P)), .ref be, .ref bl, .ref bu, .ref bo, .ref br, .ref bk, .ref bw, .ref btt, .ref bss])), (bl, .inl (cI, 100, .inl l2_221)), (bu, .inl (cI, 100, .inl u2_222)), (bo, .inl (cI, 100, .inl d2_223)), (h0, .inr (7, [.int (nI (z)), .ref ab, .int tk2_231, .int (nI (s2_228)), .int (nI (x2_229)), .int (nI (v2_230)), .int t2_232])), (ab, .inl (cI, 120, .inl by9))] := hD
              rcases hw_r_227 with rfl | rfl
              · skip
                refine lv_if_eq (tgt := 147) hx hb dX7_takeWay_133 (by decide) (fun c_236 => absurd c_236 (by decide)) (fun c_236 => ?_)
                refine lv_aload_n hx hb dX7_takeWay_136 rfl (lv_at hl 4 rfl) ?_
                refine lv_aload_n hx hb dX7_takeWay_137 rfl (lv_at hl 5 rfl) ?_
                refine lv_iload hx hb dX7_takeWay_138 (lv_at hl 1 rfl) ?_
                refine lv_iload_n hx hb dX7_takeWay_140 rfl (lv_at hl 3 rfl) ?_
                refine xc_Vi (wr := []) hF (c_X7_takeWayBack l D cI cJ cZ cS ta sa sv H.size h0 ab z s2_228 x2_229 v2_230 tk2_231 t2_232 by9 q1 be bl bu bo br bk bw btt bss P l2_221 u2_222 d2_223 w_151 w_19 (by omega) (by omega) (by omega) (by omega) (by omega) (by omega)) kv_X7_90 ⟨rfl, rfl, Nat.le_of_ble_eq_true rfl, Nat.le_of_ble_eq_true rfl⟩ ⟨Nat.le_of_ble_eq_true rfl, Nat.le_of_ble_eq_true rfl⟩ hK hN hZ hP hD hS hA [4, 5, 0, 1, 2, 3] [] rfl rfl rfl rfl (by decide) 0 rfl rfl rfl rfl hl.1 rfl (Nat.le_of_ble_eq_true rfl) dX7_takeWay_141 (fun r_237 u_r_237 H locs hw_r_237 hP hD hS => ?_)
                obtain ⟨s2_238, x2_239, v2_240, tk2_241, t2_242, l2_243, u2_244, d2_245⟩ := u_r_237
                try dsimp only at hw_r_237
                obtain ⟨hw_r_237, i_246, i_247, i_248⟩ := hw_r_237
                have hP : va_P D vwCl [(h0, .inr (7, [.int (nI (z)), .ref ab, .int tk2_241, .int (nI (s2_238)), .int (nI (x2_239)), .int (nI (v2_240)), .int t2_242])), (ab, .inl (cI, 120, .inl by9)), (q1, .inr (1, [.int (nI (P)), .ref be, .ref bl, .ref bu, .ref bo, .ref br, .ref bk, .ref bw, .ref btt, .ref bss])), (bl, .inl (cI, 100, .inl l2_243)), (bu, .inl (cI, 100, .inl u2_244)), (bo, .inl (cI, 100, .inl d2_245))] H := hP
                have hD : va_D A [(h0, .inr (7, [.int (nI (z)), .ref ab, .int tk2_241, .int (nI (s2_238)), .int (nI (x2_239)), .int (nI (v2_240)), .int t2_242])), (ab, .inl (cI, 120, .inl by9)), (q1, .inr (1, [.int (nI (P)), .ref be, .ref bl, .ref bu, .ref bo, .ref br, .ref bk, .ref bw, .ref btt, .ref bss])), (bl, .inl (cI, 100, .inl l2_243)), (bu, .inl (cI, 100, .inl u2_244)), (bo, .inl (cI, 100, .inl d2_245))] := hD
                rcases hw_r_237 with rfl | rfl
                · skip
                  refine lv_if_eq (tgt := 151) hx hb dX7_takeWay_144 (by decide) (fun c_249 => absurd c_249 (by decide)) (fun c_249 => ?_)
                  refine lv_iconst (v := 1) hx hb dX7_takeWay_147 (by decide) ?_
                  refine lv_goto (tgt := 152) hx hb dX7_takeWay_148 (by decide) ?_
                  exact W.zret (v := 1) hx hb hr rfl (fun t ht hW => ⟨⟨1, (s2_238, x2_239, v2_240, tk2_241, t2_242, l2_243, u2_244, d2_245), rfl, ⟨(by first | exact Or.inl rfl), (by first | assumption | omega), (by first | assumption | omega), (by first | assumption | omega)⟩, by rw [ht]; exact hP.sub [0, 1, 2, 3, 4, 5] rfl, hD.sub [0, 1, 2, 3, 4, 5] (by decide +kernel) rfl⟩, hS.F ht⟩) hS.2.2 dX7_takeWay_152 hlk
                · skip
                  refine lv_if_eq (tgt := 151) hx hb dX7_takeWay_144 (by decide) (fun c_250 => ?_) (fun c_250 => absurd (by decide) c_250)
                  refine lv_iconst (v := 0) hx hb dX7_takeWay_151 (by decide) ?_
                  exact W.zret (v := 0) hx hb hr rfl (fun t ht hW => ⟨⟨0, (s2_238, x2_239, v2_240, tk2_241, t2_242, l2_243, u2_244, d2_245), rfl, ⟨(by first | exact Or.inr (rfl)), (by first | assumption | omega), (by first | assumption | omega), (by first | assumption | omega)⟩, by rw [ht]; exact hP.sub [0, 1, 2, 3, 4, 5] rfl, hD.sub [0, 1, 2, 3, 4, 5] (by decide +kernel) rfl⟩, hS.F ht⟩) hS.2.2 dX7_takeWay_152 hlk
              · skip
                refine lv_if_eq (tgt := 147) hx hb dX7_takeWay_133 (by decide) (fun c_251 => ?_) (fun c_251 => absurd (by decide) c_251)
                refine lv_iconst (v := 1) hx hb dX7_takeWay_147 (by decide) ?_
                refine lv_goto (tgt := 152) hx hb dX7_takeWay_148 (by decide) ?_
                exact W.zret (v := 1) hx hb hr rfl (fun t ht hW => ⟨⟨1, (s2_228, x2_229, v2_230, tk2_231, t2_232, l2_221, u2_222, d2_223), rfl, ⟨(by first | exact Or.inl rfl), (by first | assumption | omega), (by first | assumption | omega), (by first | assumption | omega)⟩, by rw [ht]; exact hP.sub [4, 5, 0, 1, 2, 3] rfl, hD.sub [4, 5, 0, 1, 2, 3] (by decide +kernel) rfl⟩, hS.F ht⟩) hS.2.2 dX7_takeWay_152 hlk
          · skip
            refine lv_if_ne (tgt := 85) hx hb dX7_takeWay_80 (by decide) (fun c_252 => absurd (by decide) c_252) (fun c_252 => ?_)
            refine lv_iconst (v := 0) hx hb dX7_takeWay_83 (by decide) ?_
            exact W.zret (v := 0) hx hb hr rfl (fun t ht hW => ⟨⟨0, (s2_157, x2_158, v2_159, tk2_160, t2_161, lo, hg, d), rfl, ⟨(by first | exact Or.inr (rfl)), (by first | assumption | omega), (by first | assumption | omega), (by first | assumption | omega)⟩, by rw [ht]; exact hP.sub [4, 5, 0, 1, 2, 3] rfl, hD.sub [4, 5, 0, 1, 2, 3] (by decide +kernel) rfl⟩, hS.F ht⟩) hS.2.2 dX7_takeWay_84 hlk
        · skip
          refine lv_if_ne (tgt := 65) hx hb dX7_takeWay_60 (by decide) (fun c_253 => absurd (by decide) c_253) (fun c_253 => ?_)
          refine lv_iconst (v := 0) hx hb dX7_takeWay_63 (by decide) ?_
          exact W.zret (v := 0) hx hb hr rfl (fun t ht hW => ⟨⟨0, (s2_143, x2_144, v2_145, tk2_146, t2_147, lo, hg, d), rfl, ⟨(by first | exact Or.inr (rfl)), (by first | assumption | omega), (by first | assumption | omega), (by first | assumption | omega)⟩, by rw [ht]; exact hP.sub [4, 5, 0, 1, 2, 3] rfl, hD.sub [4, 5, 0, 1, 2, 3] (by decide +kernel) rfl⟩, hS.F ht⟩) hS.2.2 dX7_takeWay_64 hlk
      · skip
        have nc_139 : v2_13 = w_19 := xn_eq (a := v2_13) (b := w_19) (by omega) (by omega) c_139
        refine lv_iconst (v := 1) hx hb dX7_takeWay_40 (by decide) ?_
        refine lv_goto (tgt := 45) hx hb dX7_takeWay_41 (by decide) ?_
        refine lv_istore_n (lv' := [(3, .int 1), (2, .int (nI (w_19))), (0, .ref h0), (1, .ref q1)]) hx hb dX7_takeWay_45 rfl hl (by decide) rfl (fun ls hl => ?_)
        refine lv_iload_n hx hb dX7_takeWay_46 rfl (lv_at hl 0 rfl) ?_
        refine lv_if_ne (tgt := 63) hx hb dX7_takeWay_47 (by decide) (fun c_254 => ?_) (fun c_254 => absurd c_254 (by decide))
        refine lv_iconst (v := 0) hx hb dX7_takeWay_63 (by decide) ?_
        exact W.zret (v := 0) hx hb hr rfl (fun t ht hW => ⟨⟨0, (s2_11, x2_12, v2_13, tk2_14, nI (w_19), lo, hg, d), rfl, ⟨(by first | exact Or.inr (rfl)), (by first | assumption | omega), (by first | assumption | omega), (by first | assumption | omega)⟩, by rw [ht]; exact hP.sub [4, 5, 0, 1, 2, 3] rfl, hD.sub [4, 5, 0, 1, 2, 3] (by decide +kernel) rfl⟩, hS.F ht⟩) hS.2.2 dX7_takeWay_64 hlk
  · skip
    refine lv_if_ne (tgt := 19) hx hb dX7_takeWay_14 (by decide) (fun c_255 => absurd (by decide) c_255) (fun c_255 => ?_)
    refine lv_iconst (v := 0) hx hb dX7_takeWay_17 (by decide) ?_
    exact W.zret (v := 0) hx hb hr rfl (fun t ht hW => ⟨⟨0, (s2_11, x2_12, v2_13, tk2_14, t2_15, lo, hg, d), rfl, ⟨(by first | exact Or.inr (rfl)), (by first | assumption | omega), (by first | assumption | omega), (by first | assumption | omega)⟩, by rw [ht]; exact hP.sub [4, 5, 0, 1, 2, 3] rfl, hD.sub [4, 5, 0, 1, 2, 3] (by decide +kernel) rfl⟩, hS.F ht⟩) hS.2.2 dX7_takeWay_18 hlk
set_option maxHeartbeats 4000000 in
set_option maxRecDepth 100000 in
theorem c_X7_takeSlack (l : Launch) (D : va_G) (cI cJ cZ cS : ClassId) (ta : Nat) (sa sv : Nat → Nat) (sz : Nat) (h0 : Nat) (ab : Nat) (z : Nat) (s9 : Nat) (x9 : Nat) (v9 : Nat) (tk : Int32) (t9 : Int32) (by9 : Nat → Int32) (q1 : Nat) (be : Nat) (bl : Nat) (bu : Nat) (bo : Nat) (br : Nat) (bk : Nat) (bw : Nat) (btt : Nat) (bss : Nat) (P : Nat) (sl : Nat → Int32) (j : Nat) (hz : z ≤ 120) (ht1 : s9 ≤ x9) (ht2 : x9 ≤ z) (ht3 : v9 ≤ 10000) (hj : j < 8) : Met l yX7_takeSlack (Cond.code yX7_takeSlack cX7_takeSlack 3 (some .boolean) :: wsU) ({ frames := 3, cells := 0, slots := 0, locals := 83 }) (va_Pc [.ref h0, .ref q1, .int (nI (j))] (XW D (xT cI cJ cZ cS) ta sa sv [(h0, .inr (7, [.int (nI (z)), .ref ab, .int tk, .int (nI (s9)), .int (nI (x9)), .int (nI (v9)), .int t9])), (ab, .inl (cI, 120, .inl by9)), (q1, .inr (1, [.int (nI (P)), .ref be, .ref bl, .ref bu, .ref bo, .ref br, .ref bk, .ref bw, .ref btt, .ref bss])), (bss, .inl (cI, 8, .inl sl))] sz)) (XQi (fun (r : Int32) (u : Nat × Nat × Nat × Int32 × Int32 × (Nat → Int32)) => match u with | (s2, x2, v2, tk2, t2, z2) => ((r = 1) ∨ (r = 0)) ∧ (s2 ≤ x2) ∧ (x2 ≤ z) ∧ (v2 ≤ 10000)) D (fun (u : Nat × Nat × Nat × Int32 × Int32 × (Nat → Int32)) => match u with | (s2, x2, v2, tk2, t2, z2) => [(h0, .inr (7, [.int (nI (z)), .ref ab, .int tk2, .int (nI (s2)), .int (nI (x2)), .int (nI (v2)), .int t2])), (ab, .inl (cI, 120, .inl by9)), (q1, .inr (1, [.int (nI (P)), .ref be, .ref bl, .ref bu, .ref bo, .ref br, .ref bk, .ref bw, .ref btt, .ref bss])), (bss, .inl (cI, 8, .inl z2))]) (va_A [(h0, .inr (7, [.int (nI (z)), .ref ab, .int tk, .int (nI (s9)), .int (nI (x9)), .int (nI (v9)), .int t9])), (ab, .inl (cI, 120, .inl by9)), (q1, .inr (1, [.int (nI (P)), .ref be, .ref bl, .ref bu, .ref bo, .ref br, .ref bk, .ref bw, .ref btt, .ref bss])), (bss, .inl (cI, 8, .inl sl))] sz)) 0 0 (va_A [(h0, .inr (7, [.int (nI (z)), .ref ab, .int tk, .int (nI (s9)), .int (nI (x9)), .int (nI (v9)), .int t9])), (ab, .inl (cI, 120, .inl by9)), (q1, .inr (1, [.int (nI (P)), .ref be, .ref bl, .ref bu, .ref bo, .ref br, .ref bk, .ref bw, .ref btt, .ref bss])), (bss, .inl (cI, 8, .inl sl))] sz) := by
  refine xh (QA := fun A => XQi (fun (r : Int32) (u : Nat × Nat × Nat × Int32 × Int32 × (Nat → Int32)) => match u with | (s2, x2, v2, tk2, t2, z2) => ((r = 1) ∨ (r = 0)) ∧ (s2 ≤ x2) ∧ (x2 ≤ z) ∧ (v2 ≤ 10000)) D (fun (u : Nat × Nat × Nat × Int32 × Int32 × (Nat → Int32)) => match u with | (s2, x2, v2, tk2, t2, z2) => [(h0, .inr (7, [.int (nI (z)), .ref ab, .int tk2, .int (nI (s2)), .int (nI (x2)), .int (nI (v2)), .int t2])), (ab, .inl (cI, 120, .inl by9)), (q1, .inr (1, [.int (nI (P)), .ref be, .ref bl, .ref bu, .ref bo, .ref br, .ref bk, .ref bw, .ref btt, .ref bss])), (bss, .inl (cI, 8, .inl z2))]) A) (fr := fun A => A) (by decide) (Nat.le_of_ble_eq_true rfl) ?_
  intro p e s m below meth c ls A hF hr hlk hin hsz hP hK hD hN hZ hA hS hl
  have hF : CallFix p m c cX7_takeSlack 3 s _ _ RX7 := hF
  have hx := hF.1
  have hb := hF.2.1
  have hml := hF.2.2.1
  have hown := hF.2.2.2.1
  have hu : ∀ w ∈ wsU, w.before _ s = true := fun w h => hF.2.2.2.2 w (List.mem_cons_of_mem _ h)
  have hl : lv_has ls 3 [(0, .ref h0), (1, .ref q1), (2, .int (nI (j)))] := hl
  refine lv_aload_n hx hb dX7_takeSlack_0 rfl (lv_at hl 0 rfl) ?_
  refine lv_bipush (v := 99) hx hb dX7_takeSlack_1 (by decide) ?_
  refine xc_Vi (wr := [(q1, .inr (1, [.int (nI (P)), .ref be, .ref bl, .ref bu, .ref bo, .ref br, .ref bk, .ref bw, .ref btt, .ref bss])), (bss, .inl (cI, 8, .inl sl))]) hF (c_X7_takeNumber l D cI cJ cZ cS ta sa sv s.heap.size h0 ab z s9 x9 v9 tk t9 by9 99 (by omega) (by omega) (by omega) (by omega)) kv_X7_70 ⟨rfl, rfl, Nat.le_of_ble_eq_true rfl, Nat.le_of_ble_eq_true rfl⟩ ⟨Nat.le_of_ble_eq_true rfl, Nat.le_of_ble_eq_true rfl⟩ hK hN hZ hP hD hS hA [0, 1] [2, 3] rfl rfl rfl rfl (by decide) 0 rfl rfl rfl rfl hl.1 rfl (Nat.le_of_ble_eq_true rfl) dX7_takeSlack_3 (fun r_1 u_r_1 H locs hw_r_1 hP hD hS => ?_)
  obtain ⟨s2_2, x2_3, v2_4, tk2_5, t2_6⟩ := u_r_1
  try dsimp only at hw_r_1
  obtain ⟨hw_r_1, i_7, i_8, i_9⟩ := hw_r_1
  have hP : va_P D vwCl [(q1, .inr (1, [.int (nI (P)), .ref be, .ref bl, .ref bu, .ref bo, .ref br, .ref bk, .ref bw, .ref btt, .ref bss])), (bss, .inl (cI, 8, .inl sl)), (h0, .inr (7, [.int (nI (z)), .ref ab, .int tk2_5, .int (nI (s2_2)), .int (nI (x2_3)), .int (nI (v2_4)), .int t2_6])), (ab, .inl (cI, 120, .inl by9))] H := hP
  have hD : va_D A [(q1, .inr (1, [.int (nI (P)), .ref be, .ref bl, .ref bu, .ref bo, .ref br, .ref bk, .ref bw, .ref btt, .ref bss])), (bss, .inl (cI, 8, .inl sl)), (h0, .inr (7, [.int (nI (z)), .ref ab, .int tk2_5, .int (nI (s2_2)), .int (nI (x2_3)), .int (nI (v2_4)), .int t2_6])), (ab, .inl (cI, 120, .inl by9))] := hD
  rcases hw_r_1 with ⟨w_10, rfl, rfl, h_12, h_13⟩ | rfl
  · skip
    refine lv_if_ne (tgt := 11) hx hb dX7_takeSlack_6 (by decide) (fun c_14 => ?_) (fun c_14 => absurd c_14 (by decide))
    refine lv_aload_n hx hb dX7_takeSlack_11 rfl (lv_at hl 1 rfl) ?_
    refine xg hF kf_X7_129 hK hP 0 rfl rfl dX7_takeSlack_12 ?_
    refine lv_iload_n hx hb dX7_takeSlack_15 rfl (lv_at hl 2 rfl) ?_
    refine lv_aload_n hx hb dX7_takeSlack_16 rfl (lv_at hl 0 rfl) ?_
    refine xg hF kf_X7_31 hK hP 2 rfl rfl dX7_takeSlack_17 ?_
    refine va_iast hx hb hK hP hD hS 1 0 rfl rfl (vp_in_nI (show j < 8 by omega) (by decide)) dX7_takeSlack_20 (fun H locs hP hD hS => ?_)
    rw [nI_clamp (show j < 2 ^ 31 by omega)] at hP hD
    obtain ⟨f_15, ef_15⟩ : ∃ g, g = upd sl j (nI (w_10)) := ⟨_, rfl⟩
    rw [← ef_15] at hP hD
    have hP : va_P D vwCl [(q1, .inr (1, [.int (nI (P)), .ref be, .ref bl, .ref bu, .ref bo, .ref br, .ref bk, .ref bw, .ref btt, .ref bss])), (bss, .inl (cI, 8, .inl f_15)), (h0, .inr (7, [.int (nI (z)), .ref ab, .int tk2_5, .int (nI (s2_2)), .int (nI (x2_3)), .int (nI (v2_4)), .int (nI (w_10))])), (ab, .inl (cI, 120, .inl by9))] H := hP
    have hD : va_D A [(q1, .inr (1, [.int (nI (P)), .ref be, .ref bl, .ref bu, .ref bo, .ref br, .ref bk, .ref bw, .ref btt, .ref bss])), (bss, .inl (cI, 8, .inl f_15)), (h0, .inr (7, [.int (nI (z)), .ref ab, .int tk2_5, .int (nI (s2_2)), .int (nI (x2_3)), .int (nI (v2_4)), .int (nI (w_10))])), (ab, .inl (cI, 120, .inl by9))] := hD
    refine lv_iconst (v := 1) hx hb dX7_takeSlack_21 (by decide) ?_
    exact W.zret (v := 1) hx hb hr rfl (fun t ht hW => ⟨⟨1, (s2_2, x2_3, v2_4, tk2_5, nI (w_10), f_15), rfl, ⟨(by first | exact Or.inl rfl), (by first | assumption | omega), (by first | assumption | omega), (by first | assumption | omega)⟩, by rw [ht]; exact hP.sub [2, 3, 0, 1] rfl, hD.sub [2, 3, 0, 1] (by decide) rfl⟩, hS.F ht⟩) hS.2.2 dX7_takeSlack_22 hlk
  · skip
    refine lv_if_ne (tgt := 11) hx hb dX7_takeSlack_6 (by decide) (fun c_16 => absurd (by decide) c_16) (fun c_16 => ?_)
    refine lv_iconst (v := 0) hx hb dX7_takeSlack_9 (by decide) ?_
    exact W.zret (v := 0) hx hb hr rfl (fun t ht hW => ⟨⟨0, (s2_2, x2_3, v2_4, tk2_5, t2_6, sl), rfl, ⟨(by first | exact Or.inr (rfl)), (by first | assumption | omega), (by first | assumption | omega), (by first | assumption | omega)⟩, by rw [ht]; exact hP.sub [2, 3, 0, 1] rfl, hD.sub [2, 3, 0, 1] (by decide) rfl⟩, hS.F ht⟩) hS.2.2 dX7_takeSlack_10 hlk
set_option maxHeartbeats 4000000 in
set_option maxRecDepth 100000 in
theorem c_X7_takeWalk (l : Launch) (D : va_G) (cI cJ cZ cS : ClassId) (ta : Nat) (sa sv : Nat → Nat) (sz : Nat) (h0 : Nat) (ab : Nat) (z : Nat) (s9 : Nat) (x9 : Nat) (v9 : Nat) (tk : Int32) (t9 : Int32) (by9 : Nat → Int32) (q1 : Nat) (be : Nat) (bl : Nat) (bu : Nat) (bo : Nat) (br : Nat) (bk : Nat) (bw : Nat) (btt : Nat) (bss : Nat) (P : Nat) (bWn : Nat) (bWp : Nat) (cn : Nat) (ln : Nat → Int32) (sp : Nat → Int32) (to9 : Nat → Int32) (sl : Nat → Int32) (hz : z ≤ 120) (ht1 : s9 ≤ x9) (ht2 : x9 ≤ z) (ht3 : v9 ≤ 10000) (hP0 : P ≤ 10) (hc : cn ≤ 8) (hLL : LL cn ln) (hln : BA 8 7 ln) (hsp : BA 48 10 sp) : Met l yX7_takeWalk (Cond.code yX7_takeWalk cX7_takeWalk 4 (some .boolean) :: wsU) ({ frames := 6, cells := 0, slots := 0, locals := 128 }) (va_Pc [.ref h0, .ref q1] (XW D (xT cI cJ cZ cS) ta sa sv [(h0, .inr (7, [.int (nI (z)), .ref ab, .int tk, .int (nI (s9)), .int (nI (x9)), .int (nI (v9)), .int t9])), (ab, .inl (cI, 120, .inl by9)), (q1, .inr (1, [.int (nI (P)), .ref be, .ref bl, .ref bu, .ref bo, .ref br, .ref bk, .ref bw, .ref btt, .ref bss])), (bw, .inr (3, [.int (nI (cn)), .ref bWn, .ref bWp])), (bWn, .inl (cI, 8, .inl ln)), (bWp, .inl (cI, 48, .inl sp)), (btt, .inl (cI, 8, .inl to9)), (bss, .inl (cI, 8, .inl sl))] sz)) (XQi (fun (r : Int32) (u : Nat × Nat × Nat × Int32 × Int32 × Nat × (Nat → Int32) × (Nat → Int32) × (Nat → Int32) × (Nat → Int32)) => match u with | (s2, x2, v2, tk2, t2, cn2, l2, p2, t3, z3) => ((r = 1) ∨ (r = 0)) ∧ (s2 ≤ x2) ∧ (x2 ≤ z) ∧ (v2 ≤ 10000) ∧ (cn2 ≤ 8) ∧ (LL cn2 l2) ∧ (BA 8 7 l2) ∧ (BA 48 10 p2)) D (fun (u : Nat × Nat × Nat × Int32 × Int32 × Nat × (Nat → Int32) × (Nat → Int32) × (Nat → Int32) × (Nat → Int32)) => match u with | (s2, x2, v2, tk2, t2, cn2, l2, p2, t3, z3) => [(h0, .inr (7, [.int (nI (z)), .ref ab, .int tk2, .int (nI (s2)), .int (nI (x2)), .int (nI (v2)), .int t2])), (ab, .inl (cI, 120, .inl by9)), (q1, .inr (1, [.int (nI (P)), .ref be, .ref bl, .ref bu, .ref bo, .ref br, .ref bk, .ref bw, .ref btt, .ref bss])), (bw, .inr (3, [.int (nI (cn2)), .ref bWn, .ref bWp])), (bWn, .inl (cI, 8, .inl l2)), (bWp, .inl (cI, 48, .inl p2)), (btt, .inl (cI, 8, .inl t3)), (bss, .inl (cI, 8, .inl z3))]) (va_A [(h0, .inr (7, [.int (nI (z)), .ref ab, .int tk, .int (nI (s9)), .int (nI (x9)), .int (nI (v9)), .int t9])), (ab, .inl (cI, 120, .inl by9)), (q1, .inr (1, [.int (nI (P)), .ref be, .ref bl, .ref bu, .ref bo, .ref br, .ref bk, .ref bw, .ref btt, .ref bss])), (bw, .inr (3, [.int (nI (cn)), .ref bWn, .ref bWp])), (bWn, .inl (cI, 8, .inl ln)), (bWp, .inl (cI, 48, .inl sp)), (btt, .inl (cI, 8, .inl to9)), (bss, .inl (cI, 8, .inl sl))] sz)) 0 0 (va_A [(h0, .inr (7, [.int (nI (z)), .ref ab, .int tk, .int (nI (s9)), .int (nI (x9)), .int (nI (v9)), .int t9])), (ab, .inl (cI, 120, .inl by9)), (q1, .inr (1, [.int (nI (P)), .ref be, .ref bl, .ref bu, .ref bo, .ref br, .ref bk, .ref bw, .ref btt, .ref bss])), (bw, .inr (3, [.int (nI (cn)), .ref bWn, .ref bWp])), (bWn, .inl (cI, 8, .inl ln)), (bWp, .inl (cI, 48, .inl sp)), (btt, .inl (cI, 8, .inl to9)), (bss, .inl (cI, 8, .inl sl))] sz) := by
  refine xh (QA := fun A => XQi (fun (r : Int32) (u : Nat × Nat × Nat × Int32 × Int32 × Nat × (Nat → Int32) × (Nat → Int32) × (Nat → Int32) × (Nat → Int32)) => match u with | (s2, x2, v2, tk2, t2, cn2, l2, p2, t3, z3) => ((r = 1) ∨ (r = 0)) ∧ (s2 ≤ x2) ∧ (x2 ≤ z) ∧ (v2 ≤ 10000) ∧ (cn2 ≤ 8) ∧ (LL cn2 l2) ∧ (BA 8 7 l2) ∧ (BA 48 10 p2)) D (fun (u : Nat × Nat × Nat × Int32 × Int32 × Nat × (Nat → Int32) × (Nat → Int32) × (Nat → Int32) × (Nat → Int32)) => match u with | (s2, x2, v2, tk2, t2, cn2, l2, p2, t3, z3) => [(h0, .inr (7, [.int (nI (z)), .ref ab, .int tk2, .int (nI (s2)), .int (nI (x2)), .int (nI (v2)), .int t2])), (ab, .inl (cI, 120, .inl by9)), (q1, .inr (1, [.int (nI (P)), .ref be, .ref bl, .ref bu, .ref bo, .ref br, .ref bk, .ref bw, .ref btt, .ref bss])), (bw, .inr (3, [.int (nI (cn2)), .ref bWn, .ref bWp])), (bWn, .inl (cI, 8, .inl l2)), (bWp, .inl (cI, 48, .inl p2)), (btt, .inl (cI, 8, .inl t3)), (bss, .inl (cI, 8, .inl z3))]) A) (fr := fun A => A) (by decide) (Nat.le_of_ble_eq_true rfl) ?_
  intro p e s m below meth c ls A hF hr hlk hin hsz hP hK hD hN hZ hA hS hl
  have hF : CallFix p m c cX7_takeWalk 4 s _ _ RX7 := hF
  have hx := hF.1
  have hb := hF.2.1
  have hml := hF.2.2.1
  have hown := hF.2.2.2.1
  have hu : ∀ w ∈ wsU, w.before _ s = true := fun w h => hF.2.2.2.2 w (List.mem_cons_of_mem _ h)
  have hl : lv_has ls 4 [(0, .ref h0), (1, .ref q1)] := hl
  refine lv_aload_n hx hb dX7_takeWalk_0 rfl (lv_at hl 1 rfl) ?_
  refine xg hF kf_X7_94 hK hP 2 rfl rfl dX7_takeWalk_1 ?_
  refine xc_Vr hF (c_X3_isFull l D cI cJ cZ cS ta sa sv s.heap.size bw bWn bWp cn (by omega)) kv_X7_98 ⟨rfl, rfl, Nat.le_of_ble_eq_true rfl, Nat.le_of_ble_eq_true rfl⟩ ⟨Nat.le_of_ble_eq_true rfl, Nat.le_of_ble_eq_true rfl⟩ hK hN hZ hP hD hS hA [3] rfl rfl 0 rfl rfl rfl rfl hl.1 rfl (Nat.le_of_ble_eq_true rfl) dX7_takeWalk_4 (fun r_1 hw_r_1 => ?_)
  rcases hw_r_1 with ⟨rfl, h_2⟩ | ⟨rfl, h_3⟩
  · skip
    refine lv_if_eq (tgt := 12) hx hb dX7_takeWalk_7 (by decide) (fun c_4 => absurd c_4 (by decide)) (fun c_4 => ?_)
    refine lv_iconst (v := 0) hx hb dX7_takeWalk_10 (by decide) ?_
    exact W.zret (v := 0) hx hb hr rfl (fun t ht hW => ⟨⟨0, (s9, x9, v9, tk, t9, cn, ln, sp, to9, sl), rfl, ⟨(by first | exact Or.inr (rfl)), (by first | assumption | omega), (by first | assumption | omega), (by first | assumption | omega), (by first | assumption | omega), (by first | assumption | omega), hln, hsp⟩, by rw [ht]; exact hP.sub [0, 1, 2, 3, 4, 5, 6, 7] rfl, hD.sub [0, 1, 2, 3, 4, 5, 6, 7] (by decide +kernel) rfl⟩, hS.F ht⟩) hS.2.2 dX7_takeWalk_11 hlk
  · skip
    refine lv_if_eq (tgt := 12) hx hb dX7_takeWalk_7 (by decide) (fun c_5 => ?_) (fun c_5 => absurd (by decide) c_5)
    refine lv_aload_n hx hb dX7_takeWalk_12 rfl (lv_at hl 0 rfl) ?_
    refine xc_Vv (wr := [(q1, .inr (1, [.int (nI (P)), .ref be, .ref bl, .ref bu, .ref bo, .ref br, .ref bk, .ref bw, .ref btt, .ref bss])), (bw, .inr (3, [.int (nI (cn)), .ref bWn, .ref bWp])), (bWn, .inl (cI, 8, .inl ln)), (bWp, .inl (cI, 48, .inl sp)), (btt, .inl (cI, 8, .inl to9)), (bss, .inl (cI, 8, .inl sl))]) hF (c_X7_step l D cI cJ cZ cS ta sa sv s.heap.size h0 ab z s9 x9 v9 tk t9 by9 (by omega) (by omega)) kv_X7_34 ⟨rfl, rfl, Nat.le_of_ble_eq_true rfl, Nat.le_of_ble_eq_true rfl⟩ ⟨Nat.le_of_ble_eq_true rfl, Nat.le_of_ble_eq_true rfl⟩ hK hN hZ hP hD hS hA [0, 1] [2, 3, 4, 5, 6, 7] rfl rfl rfl (by decide +kernel) (by decide +kernel) 0 rfl rfl rfl rfl hl.1 rfl (Nat.le_of_ble_eq_true rfl) dX7_takeWalk_13 (fun u_r_6 H locs hw_r_6 hP hD hS => ?_)
    obtain ⟨s2_7, x2_8, v2_9, tk2_10⟩ := u_r_6
    try dsimp only at hw_r_6
    obtain ⟨i_11, i_12, i_13⟩ := hw_r_6
    have hP : va_P D vwCl [(q1, .inr (1, [.int (nI (P)), .ref be, .ref bl, .ref bu, .ref bo, .ref br, .ref bk, .ref bw, .ref btt, .ref bss])), (bw, .inr (3, [.int (nI (cn)), .ref bWn, .ref bWp])), (bWn, .inl (cI, 8, .inl ln)), (bWp, .inl (cI, 48, .inl sp)), (btt, .inl (cI, 8, .inl to9)), (bss, .inl (cI, 8, .inl sl)), (h0, .inr (7, [.int (nI (z)), .ref ab, .int tk2_10, .int (nI (s2_7)), .int (nI (x2_8)), .int (nI (v2_9)), .int t9])), (ab, .inl (cI, 120, .inl by9))] H := hP
    have hD : va_D A [(q1, .inr (1, [.int (nI (P)), .ref be, .ref bl, .ref bu, .ref bo, .ref br, .ref bk, .ref bw, .ref btt, .ref bss])), (bw, .inr (3, [.int (nI (cn)), .ref bWn, .ref bWp])), (bWn, .inl (cI, 8, .inl ln)), (bWp, .inl (cI, 48, .inl sp)), (btt, .inl (cI, 8, .inl to9)), (bss, .inl (cI, 8, .inl sl)), (h0, .inr (7, [.int (nI (z)), .ref ab, .int tk2_10, .int (nI (s2_7)), .int (nI (x2_8)), .int (nI (v2_9)), .int t9])), (ab, .inl (cI, 120, .inl by9))] := hD
    refine lv_aload_n hx hb dX7_takeWalk_16 rfl (lv_at hl 0 rfl) ?_
    refine lv_aload_n hx hb dX7_takeWalk_17 rfl (lv_at hl 1 rfl) ?_
    refine xg hF kf_X7_60 hK hP 0 rfl rfl dX7_takeWalk_18 ?_
    refine lv_iconst (v := 1) hx hb dX7_takeWalk_21 (by decide) ?_
    refine lv_isub hx hb dX7_takeWalk_22 ?_
    refine lv_topi (fun x_14 ex_14 => ?_)
    refine xc_Vi (wr := [(q1, .inr (1, [.int (nI (P)), .ref be, .ref bl, .ref bu, .ref bo, .ref br, .ref bk, .ref bw, .ref btt, .ref bss])), (bw, .inr (3, [.int (nI (cn)), .ref bWn, .ref bWp])), (bWn, .inl (cI, 8, .inl ln)), (bWp, .inl (cI, 48, .inl sp)), (btt, .inl (cI, 8, .inl to9)), (bss, .inl (cI, 8, .inl sl))]) hF (c_X7_takeNumber l D cI cJ cZ cS ta sa sv H.size h0 ab z s2_7 x2_8 v2_9 tk2_10 t9 by9 x_14 (by omega) (by omega) (by omega) (by omega)) kv_X7_70 ⟨rfl, rfl, Nat.le_of_ble_eq_true rfl, Nat.le_of_ble_eq_true rfl⟩ ⟨Nat.le_of_ble_eq_true rfl, Nat.le_of_ble_eq_true rfl⟩ hK hN hZ hP hD hS hA [6, 7] [0, 1, 2, 3, 4, 5] rfl rfl rfl (by decide +kernel) (by decide +kernel) 0 rfl rfl rfl rfl hl.1 rfl (Nat.le_of_ble_eq_true rfl) dX7_takeWalk_23 (fun r_15 u_r_15 H locs hw_r_15 hP hD hS => ?_)
    obtain ⟨s2_16, x2_17, v2_18, tk2_19, t2_20⟩ := u_r_15
    try dsimp only at hw_r_15
    obtain ⟨hw_r_15, i_21, i_22, i_23⟩ := hw_r_15
    have hP : va_P D vwCl [(q1, .inr (1, [.int (nI (P)), .ref be, .ref bl, .ref bu, .ref bo, .ref br, .ref bk, .ref bw, .ref btt, .ref bss])), (bw, .inr (3, [.int (nI (cn)), .ref bWn, .ref bWp])), (bWn, .inl (cI, 8, .inl ln)), (bWp, .inl (cI, 48, .inl sp)), (btt, .inl (cI, 8, .inl to9)), (bss, .inl (cI, 8, .inl sl)), (h0, .inr (7, [.int (nI (z)), .ref ab, .int tk2_19, .int (nI (s2_16)), .int (nI (x2_17)), .int (nI (v2_18)), .int t2_20])), (ab, .inl (cI, 120, .inl by9))] H := hP
    have hD : va_D A [(q1, .inr (1, [.int (nI (P)), .ref be, .ref bl, .ref bu, .ref bo, .ref br, .ref bk, .ref bw, .ref btt, .ref bss])), (bw, .inr (3, [.int (nI (cn)), .ref bWn, .ref bWp])), (bWn, .inl (cI, 8, .inl ln)), (bWp, .inl (cI, 48, .inl sp)), (btt, .inl (cI, 8, .inl to9)), (bss, .inl (cI, 8, .inl sl)), (h0, .inr (7, [.int (nI (z)), .ref ab, .int tk2_19, .int (nI (s2_16)), .int (nI (x2_17)), .int (nI (v2_18)), .int t2_20])), (ab, .inl (cI, 120, .inl by9))] := hD
    rcases hw_r_15 with ⟨w_24, rfl, rfl, h_26, h_27⟩ | rfl
    · skip
      have hm_w_24 : w_24 < P := x_most hP0 (by omega) ex_14 h_27
      refine lv_if_ne (tgt := 31) hx hb dX7_takeWalk_26 (by decide) (fun c_28 => ?_) (fun c_28 => absurd c_28 (by decide))
      refine lv_aload_n hx hb dX7_takeWalk_31 rfl (lv_at hl 1 rfl) ?_
      refine lv_aload_n hx hb dX7_takeWalk_32 rfl (lv_at hl 0 rfl) ?_
      refine xg hF kf_X7_31 hK hP 6 rfl rfl dX7_takeWalk_33 ?_
      refine lv_iconst (v := 0) hx hb dX7_takeWalk_36 (by decide) ?_
      refine lv_iconst (v := 0) hx hb dX7_takeWalk_37 (by decide) ?_
      refine xc_Vi (wr := [(h0, .inr (7, [.int (nI (z)), .ref ab, .int tk2_19, .int (nI (s2_16)), .int (nI (x2_17)), .int (nI (v2_18)), .int (nI (w_24))])), (ab, .inl (cI, 120, .inl by9))]) hF (c_X1_addWalk l D cI cJ cZ cS ta sa sv H.size q1 be bl bu bo br bk bw btt bss P bWn bWp cn w_24 ln sp to9 sl 0 0 (by omega) (by omega) hln hsp) kv_X7_104 ⟨rfl, rfl, Nat.le_of_ble_eq_true rfl, Nat.le_of_ble_eq_true rfl⟩ ⟨Nat.le_of_ble_eq_true rfl, Nat.le_of_ble_eq_true rfl⟩ hK hN hZ hP hD hS hA [0, 1, 2, 3, 4, 5] [6, 7] rfl rfl (by decide +kernel) rfl (by decide +kernel) 0 rfl rfl rfl rfl hl.1 rfl (Nat.le_of_ble_eq_true rfl) dX7_takeWalk_38 (fun r_29 u_r_29 H locs hw_r_29 hP hD hS => ?_)
      obtain ⟨l2_30, s2_31, t2_32, z2_33⟩ := u_r_29
      try dsimp only at hw_r_29
      obtain ⟨hw_r_29, i_34, i_35, i_36, i_37, i_38, i_39⟩ := hw_r_29
      have hP : va_P D vwCl [(h0, .inr (7, [.int (nI (z)), .ref ab, .int tk2_19, .int (nI (s2_16)), .int (nI (x2_17)), .int (nI (v2_18)), .int (nI (w_24))])), (ab, .inl (cI, 120, .inl by9)), (q1, .inr (1, [.int (nI (P)), .ref be, .ref bl, .ref bu, .ref bo, .ref br, .ref bk, .ref bw, .ref btt, .ref bss])), (bw, .inr (3, [.int (nI (cn + 1)), .ref bWn, .ref bWp])), (bWn, .inl (cI, 8, .inl l2_30)), (bWp, .inl (cI, 48, .inl s2_31)), (btt, .inl (cI, 8, .inl t2_32)), (bss, .inl (cI, 8, .inl z2_33))] H := hP
      have hD : va_D A [(h0, .inr (7, [.int (nI (z)), .ref ab, .int tk2_19, .int (nI (s2_16)), .int (nI (x2_17)), .int (nI (v2_18)), .int (nI (w_24))])), (ab, .inl (cI, 120, .inl by9)), (q1, .inr (1, [.int (nI (P)), .ref be, .ref bl, .ref bu, .ref bo, .ref br, .ref bk, .ref bw, .ref btt, .ref bss])), (bw, .inr (3, [.int (nI (cn + 1)), .ref bWn, .ref bWp])), (bWn, .inl (cI, 8, .inl l2_30)), (bWp, .inl (cI, 48, .inl s2_31)), (btt, .inl (cI, 8, .inl t2_32)), (bss, .inl (cI, 8, .inl z2_33))] := hD
      subst hw_r_29
      refine lv_istore_n (lv' := [(2, .int (nI (cn))), (0, .ref h0), (1, .ref q1)]) hx hb dX7_takeWalk_41 rfl hl (by decide) rfl (fun ls hl => ?_)
      refine lv_iconst (v := 1) hx hb dX7_takeWalk_42 (by decide) ?_
      refine lv_istore_n (lv' := [(3, .int 1), (2, .int (nI (cn))), (0, .ref h0), (1, .ref q1)]) hx hb dX7_takeWalk_43 rfl hl (by decide) rfl (fun ls hl => ?_)
      suffices loop_44 : ∀ (n_44 : Nat) (i : Nat) (s8 : Nat) (x8 : Nat) (v8 : Nat) (tk8 : Int32) (t8 : Int32) (ln8 : Nat → Int32) (sp8 : Nat → Int32) (H : Heap) (locs : List Loc) (ls : Array Slot), 6 - i < n_44 → (1 ≤ i) → (i ≤ 6) → (s8 ≤ x8) → (x8 ≤ z) → (v8 ≤ 10000) → (ln8 cn = nI i) → (LL (cn + 1) ln8) → (BA 8 7 ln8) → (BA 48 10 sp8) → va_P D vwCl [(h0, .inr (7, [.int (nI (z)), .ref ab, .int tk8, .int (nI (s8)), .int (nI (x8)), .int (nI (v8)), .int t8])), (ab, .inl (cI, 120, .inl by9)), (q1, .inr (1, [.int (nI (P)), .ref be, .ref bl, .ref bu, .ref bo, .ref br, .ref bk, .ref bw, .ref btt, .ref bss])), (bw, .inr (3, [.int (nI (cn + 1)), .ref bWn, .ref bWp])), (bWn, .inl (cI, 8, .inl ln8)), (bWp, .inl (cI, 48, .inl sp8)), (btt, .inl (cI, 8, .inl t2_32)), (bss, .inl (cI, 8, .inl z2_33))] H → va_D A [(h0, .inr (7, [.int (nI (z)), .ref ab, .int tk8, .int (nI (s8)), .int (nI (x8)), .int (nI (v8)), .int t8])), (ab, .inl (cI, 120, .inl by9)), (q1, .inr (1, [.int (nI (P)), .ref be, .ref bl, .ref bu, .ref bo, .ref br, .ref bk, .ref bw, .ref btt, .ref bss])), (bw, .inr (3, [.int (nI (cn + 1)), .ref bWn, .ref bWp])), (bWn, .inl (cI, 8, .inl ln8)), (bWp, .inl (cI, 48, .inl sp8)), (btt, .inl (cI, 8, .inl t2_32)), (bss, .inl (cI, 8, .inl z2_33))] → va_S A s.heap H locs → lv_has ls 4 [(3, .int (nI (i))), (2, .int (nI (cn))), (0, .ref h0), (1, .ref q1)] → W p l e ({ frames := 6, cells := 0, slots := 0, locals := 128 }) s m ([.ref h0, .ref q1] : List Value).toArray below meth c H locs 0 0 (MQ below (XQi (fun (r : Int32) (u : Nat × Nat × Nat × Int32 × Int32 × Nat × (Nat → Int32) × (Nat → Int32) × (Nat → Int32) × (Nat → Int32)) => match u with | (s2, x2, v2, tk2, t2, cn2, l2, p2, t3, z3) => ((r = 1) ∨ (r = 0)) ∧ (s2 ≤ x2) ∧ (x2 ≤ z) ∧ (v2 ≤ 10000) ∧ (cn2 ≤ 8) ∧ (LL cn2 l2) ∧ (BA 8 7 l2) ∧ (BA 48 10 p2)) D (fun (u : Nat × Nat × Nat × Int32 × Int32 × Nat × (Nat → Int32) × (Nat → Int32) × (Nat → Int32) × (Nat → Int32)) => match u with | (s2, x2, v2, tk2, t2, cn2, l2, p2, t3, z3) => [(h0, .inr (7, [.int (nI (z)), .ref ab, .int tk2, .int (nI (s2)), .int (nI (x2)), .int (nI (v2)), .int t2])), (ab, .inl (cI, 120, .inl by9)), (q1, .inr (1, [.int (nI (P)), .ref be, .ref bl, .ref bu, .ref bo, .ref br, .ref bk, .ref bw, .ref btt, .ref bss])), (bw, .inr (3, [.int (nI (cn2)), .ref bWn, .ref bWp])), (bWn, .inl (cI, 8, .inl l2)), (bWp, .inl (cI, 48, .inl p2)), (btt, .inl (cI, 8, .inl t3)), (bss, .inl (cI, 8, .inl z3))]) A) ([.ref h0, .ref q1] : List Value).toArray s 0 0 A) (F0 m 44 ls []) by
        exact loop_44 _ 1 s2_16 x2_17 v2_18 tk2_19 (nI (w_24)) l2_30 s2_31 _ _ _ (Nat.lt_succ_self _) (by omega) (by omega) (by omega) (by omega) (by omega) (by rw [i_36]; exact pk_us) (by rw [i_36]; exact LL.new hLL) i_34 i_35 hP hD hS (lv_sub hl [0, 1, 2, 3] rfl)
      intro n_44
      induction n_44 with
      | zero =>
        intro i s8 x8 v8 tk8 t8 ln8 sp8 H locs ls hm_44
        exact absurd hm_44 (Nat.not_lt_zero _)
      | succ n_44 ih_44 =>
        intro i s8 x8 v8 tk8 t8 ln8 sp8 H locs ls hm_44 hi1 hi2 h81 h82 h83 he8 hLL8 hln8 hsp8 hP hD hS hl
        refine lv_iload_n hx hb dX7_takeWalk_44 rfl (lv_at hl 0 rfl) ?_
        refine lv_bipush (v := 6) hx hb dX7_takeWalk_45 (by decide) ?_
        refine lv_icmp_ge (tgt := 107) hx hb dX7_takeWalk_47 (by decide) (fun c_40 => ?_) (fun c_40 => ?_)
        · skip
          have nc_40 : 6 ≤ i := xn_le (a := 6) (b := i) (by omega) (by omega) c_40
          refine lv_aload_n hx hb dX7_takeWalk_107 rfl (lv_at hl 3 rfl) ?_
          refine xg hF kf_X7_94 hK hP 2 rfl rfl dX7_takeWalk_108 ?_
          refine xg hF kf_X7_115 hK hP 3 rfl rfl dX7_takeWalk_111 ?_
          refine lv_iload_n hx hb dX7_takeWalk_114 rfl (lv_at hl 1 rfl) ?_
          refine va_iald hx hb hK hP 4 0 rfl rfl (vp_in_nI (show cn < 8 by omega) (by decide)) dX7_takeWalk_115 ?_
          refine xl_i (y := ln8 cn) (congrArg ln8 (nI_clamp (show cn < 2 ^ 31 by omega))) ?_
          refine xl_i (y := nI (i)) he8 ?_
          refine lv_iconst (v := 2) hx hb dX7_takeWalk_116 (by decide) ?_
          refine lv_icmp_lt (tgt := 142) hx hb dX7_takeWalk_117 (by decide) (fun c_41 => ?_) (fun c_41 => ?_)
          · skip
            have nc_41 : i < 2 := xn_lt (a := i) (b := 2) (by omega) (by omega) c_41
            refine lv_iconst (v := 0) hx hb dX7_takeWalk_142 (by decide) ?_
            exact W.zret (v := 0) hx hb hr rfl (fun t ht hW => ⟨⟨0, (s8, x8, v8, tk8, t8, cn + 1, ln8, sp8, t2_32, z2_33), rfl, ⟨(by first | exact Or.inr (rfl)), (by first | assumption | omega), (by first | assumption | omega), (by first | assumption | omega), (by first | assumption | omega), (by first | assumption | omega), hln8, hsp8⟩, by rw [ht]; exact hP.sub [0, 1, 2, 3, 4, 5, 6, 7] rfl, hD.sub [0, 1, 2, 3, 4, 5, 6, 7] (by decide +kernel) rfl⟩, hS.F ht⟩) hS.2.2 dX7_takeWalk_143 hlk
          · skip
            have nc_41 : 2 ≤ i := xn_nlt (a := i) (b := 2) (by omega) (by omega) c_41
            refine lv_aload_n hx hb dX7_takeWalk_120 rfl (lv_at hl 2 rfl) ?_
            refine va_ldcS (tx := "all") (q := sa 6) hx hb hown (hN.2.2 (118, "all", 6) (by decide)) dX7_takeWalk_121 ?_
            refine xc_Vi (wr := [(q1, .inr (1, [.int (nI (P)), .ref be, .ref bl, .ref bu, .ref bo, .ref br, .ref bk, .ref bw, .ref btt, .ref bss])), (bw, .inr (3, [.int (nI (cn + 1)), .ref bWn, .ref bWp])), (bWn, .inl (cI, 8, .inl ln8)), (bWp, .inl (cI, 48, .inl sp8)), (btt, .inl (cI, 8, .inl t2_32)), (bss, .inl (cI, 8, .inl z2_33))]) hF (c_X7_takeWord l D cI cJ cZ cS ta sa sv H.size h0 ab z s8 x8 v8 tk8 t8 by9 6 (by omega) (by omega) (by omega) (by omega) (by omega)) kv_X7_67 ⟨rfl, rfl, Nat.le_of_ble_eq_true rfl, Nat.le_of_ble_eq_true rfl⟩ ⟨Nat.le_of_ble_eq_true rfl, Nat.le_of_ble_eq_true rfl⟩ hK hN hZ hP hD hS hA [0, 1] [2, 3, 4, 5, 6, 7] rfl rfl rfl (by decide +kernel) (by decide +kernel) 0 rfl rfl rfl rfl hl.1 rfl (Nat.le_of_ble_eq_true rfl) dX7_takeWalk_123 (fun r_42 u_r_42 H locs hw_r_42 hP hD hS => ?_)
            obtain ⟨s2_43, x2_44, v2_45, tk2_46, t2_47⟩ := u_r_42
            try dsimp only at hw_r_42
            obtain ⟨hw_r_42, i_48, i_49, i_50⟩ := hw_r_42
            have hP : va_P D vwCl [(q1, .inr (1, [.int (nI (P)), .ref be, .ref bl, .ref bu, .ref bo, .ref br, .ref bk, .ref bw, .ref btt, .ref bss])), (bw, .inr (3, [.int (nI (cn + 1)), .ref bWn, .ref bWp])), (bWn, .inl (cI, 8, .inl ln8)), (bWp, .inl (cI, 48, .inl sp8)), (btt, .inl (cI, 8, .inl t2_32)), (bss, .inl (cI, 8, .inl z2_33)), (h0, .inr (7, [.int (nI (z)), .ref ab, .int tk2_46, .int (nI (s2_43)), .int (nI (x2_44)), .int (nI (v2_45)), .int t2_47])), (ab, .inl (cI, 120, .inl by9))] H := hP
            have hD : va_D A [(q1, .inr (1, [.int (nI (P)), .ref be, .ref bl, .ref bu, .ref bo, .ref br, .ref bk, .ref bw, .ref btt, .ref bss])), (bw, .inr (3, [.int (nI (cn + 1)), .ref bWn, .ref bWp])), (bWn, .inl (cI, 8, .inl ln8)), (bWp, .inl (cI, 48, .inl sp8)), (btt, .inl (cI, 8, .inl t2_32)), (bss, .inl (cI, 8, .inl z2_33)), (h0, .inr (7, [.int (nI (z)), .ref ab, .int tk2_46, .int (nI (s2_43)), .int (nI (x2_44)), .int (nI (v2_45)), .int t2_47])), (ab, .inl (cI, 120, .inl by9))] := hD
            rcases hw_r_42 with rfl | rfl
            · skip
              refine lv_if_eq (tgt := 142) hx hb dX7_takeWalk_126 (by decide) (fun c_51 => absurd c_51 (by decide)) (fun c_51 => ?_)
              refine lv_aload_n hx hb dX7_takeWalk_129 rfl (lv_at hl 2 rfl) ?_
              refine lv_sipush (v := (-9999)) hx hb dX7_takeWalk_130 (by decide) ?_
              refine lv_sipush (v := 9999) hx hb dX7_takeWalk_133 (by decide) ?_
              refine xc_Vi (wr := [(q1, .inr (1, [.int (nI (P)), .ref be, .ref bl, .ref bu, .ref bo, .ref br, .ref bk, .ref bw, .ref btt, .ref bss])), (bw, .inr (3, [.int (nI (cn + 1)), .ref bWn, .ref bWp])), (bWn, .inl (cI, 8, .inl ln8)), (bWp, .inl (cI, 48, .inl sp8)), (btt, .inl (cI, 8, .inl t2_32)), (bss, .inl (cI, 8, .inl z2_33))]) hF (c_X7_takeMile l D cI cJ cZ cS ta sa sv H.size h0 ab z s2_43 x2_44 v2_45 tk2_46 t2_47 by9 (-9999) 9999 (by omega) (by omega) (by omega) (by omega)) kv_X7_78 ⟨rfl, rfl, Nat.le_of_ble_eq_true rfl, Nat.le_of_ble_eq_true rfl⟩ ⟨Nat.le_of_ble_eq_true rfl, Nat.le_of_ble_eq_true rfl⟩ hK hN hZ hP hD hS hA [6, 7] [0, 1, 2, 3, 4, 5] rfl rfl rfl (by decide +kernel) (by decide +kernel) 0 rfl rfl rfl rfl hl.1 rfl (Nat.le_of_ble_eq_true rfl) dX7_takeWalk_136 (fun r_52 u_r_52 H locs hw_r_52 hP hD hS => ?_)
              obtain ⟨s2_53, x2_54, v2_55, tk2_56, t2_57⟩ := u_r_52
              try dsimp only at hw_r_52
              obtain ⟨hw_r_52, i_58, i_59, i_60⟩ := hw_r_52
              have hP : va_P D vwCl [(q1, .inr (1, [.int (nI (P)), .ref be, .ref bl, .ref bu, .ref bo, .ref br, .ref bk, .ref bw, .ref btt, .ref bss])), (bw, .inr (3, [.int (nI (cn + 1)), .ref bWn, .ref bWp])), (bWn, .inl (cI, 8, .inl ln8)), (bWp, .inl (cI, 48, .inl sp8)), (btt, .inl (cI, 8, .inl t2_32)), (bss, .inl (cI, 8, .inl z2_33)), (h0, .inr (7, [.int (nI (z)), .ref ab, .int tk2_56, .int (nI (s2_53)), .int (nI (x2_54)), .int (nI (v2_55)), .int t2_57])), (ab, .inl (cI, 120, .inl by9))] H := hP
              have hD : va_D A [(q1, .inr (1, [.int (nI (P)), .ref be, .ref bl, .ref bu, .ref bo, .ref br, .ref bk, .ref bw, .ref btt, .ref bss])), (bw, .inr (3, [.int (nI (cn + 1)), .ref bWn, .ref bWp])), (bWn, .inl (cI, 8, .inl ln8)), (bWp, .inl (cI, 48, .inl sp8)), (btt, .inl (cI, 8, .inl t2_32)), (bss, .inl (cI, 8, .inl z2_33)), (h0, .inr (7, [.int (nI (z)), .ref ab, .int tk2_56, .int (nI (s2_53)), .int (nI (x2_54)), .int (nI (v2_55)), .int t2_57])), (ab, .inl (cI, 120, .inl by9))] := hD
              rcases hw_r_52 with rfl | rfl
              · skip
                refine lv_if_ne (tgt := 144) hx hb dX7_takeWalk_139 (by decide) (fun c_61 => ?_) (fun c_61 => absurd c_61 (by decide))
                refine lv_aload_n hx hb dX7_takeWalk_144 rfl (lv_at hl 3 rfl) ?_
                refine xg hF kf_X7_120 hK hP 0 rfl rfl dX7_takeWalk_145 ?_
                refine lv_iload_n hx hb dX7_takeWalk_148 rfl (lv_at hl 1 rfl) ?_
                refine lv_aload_n hx hb dX7_takeWalk_149 rfl (lv_at hl 2 rfl) ?_
                refine xg hF kf_X7_31 hK hP 6 rfl rfl dX7_takeWalk_150 ?_
                refine va_iast hx hb hK hP hD hS 4 0 rfl rfl (vp_in_nI (show cn < 8 by omega) (by decide)) dX7_takeWalk_153 (fun H locs hP hD hS => ?_)
                rw [nI_clamp (show cn < 2 ^ 31 by omega)] at hP hD
                obtain ⟨f_62, ef_62⟩ : ∃ g, g = upd t2_32 cn t2_57 := ⟨_, rfl⟩
                rw [← ef_62] at hP hD
                have hP : va_P D vwCl [(q1, .inr (1, [.int (nI (P)), .ref be, .ref bl, .ref bu, .ref bo, .ref br, .ref bk, .ref bw, .ref btt, .ref bss])), (bw, .inr (3, [.int (nI (cn + 1)), .ref bWn, .ref bWp])), (bWn, .inl (cI, 8, .inl ln8)), (bWp, .inl (cI, 48, .inl sp8)), (btt, .inl (cI, 8, .inl f_62)), (bss, .inl (cI, 8, .inl z2_33)), (h0, .inr (7, [.int (nI (z)), .ref ab, .int tk2_56, .int (nI (s2_53)), .int (nI (x2_54)), .int (nI (v2_55)), .int t2_57])), (ab, .inl (cI, 120, .inl by9))] H := hP
                have hD : va_D A [(q1, .inr (1, [.int (nI (P)), .ref be, .ref bl, .ref bu, .ref bo, .ref br, .ref bk, .ref bw, .ref btt, .ref bss])), (bw, .inr (3, [.int (nI (cn + 1)), .ref bWn, .ref bWp])), (bWn, .inl (cI, 8, .inl ln8)), (bWp, .inl (cI, 48, .inl sp8)), (btt, .inl (cI, 8, .inl f_62)), (bss, .inl (cI, 8, .inl z2_33)), (h0, .inr (7, [.int (nI (z)), .ref ab, .int tk2_56, .int (nI (s2_53)), .int (nI (x2_54)), .int (nI (v2_55)), .int t2_57])), (ab, .inl (cI, 120, .inl by9))] := hD
                refine lv_aload_n hx hb dX7_takeWalk_154 rfl (lv_at hl 2 rfl) ?_
                refine va_ldcS (tx := "slack") (q := sa 7) hx hb hown (hN.2.2 (123, "slack", 7) (by decide)) dX7_takeWalk_155 ?_
                refine xc_Vi (wr := [(q1, .inr (1, [.int (nI (P)), .ref be, .ref bl, .ref bu, .ref bo, .ref br, .ref bk, .ref bw, .ref btt, .ref bss])), (bw, .inr (3, [.int (nI (cn + 1)), .ref bWn, .ref bWp])), (bWn, .inl (cI, 8, .inl ln8)), (bWp, .inl (cI, 48, .inl sp8)), (btt, .inl (cI, 8, .inl f_62)), (bss, .inl (cI, 8, .inl z2_33))]) hF (c_X7_takeWord l D cI cJ cZ cS ta sa sv H.size h0 ab z s2_53 x2_54 v2_55 tk2_56 t2_57 by9 7 (by omega) (by omega) (by omega) (by omega) (by omega)) kv_X7_67 ⟨rfl, rfl, Nat.le_of_ble_eq_true rfl, Nat.le_of_ble_eq_true rfl⟩ ⟨Nat.le_of_ble_eq_true rfl, Nat.le_of_ble_eq_true rfl⟩ hK hN hZ hP hD hS hA [6, 7] [0, 1, 2, 3, 4, 5] rfl rfl rfl (by decide +kernel) (by decide +kernel) 0 rfl rfl rfl rfl hl.1 rfl (Nat.le_of_ble_eq_true rfl) dX7_takeWalk_157 (fun r_63 u_r_63 H locs hw_r_63 hP hD hS => ?_)
                obtain ⟨s2_64, x2_65, v2_66, tk2_67, t2_68⟩ := u_r_63
                try dsimp only at hw_r_63
                obtain ⟨hw_r_63, i_69, i_70, i_71⟩ := hw_r_63
                have hP : va_P D vwCl [(q1, .inr (1, [.int (nI (P)), .ref be, .ref bl, .ref bu, .ref bo, .ref br, .ref bk, .ref bw, .ref btt, .ref bss])), (bw, .inr (3, [.int (nI (cn + 1)), .ref bWn, .ref bWp])), (bWn, .inl (cI, 8, .inl ln8)), (bWp, .inl (cI, 48, .inl sp8)), (btt, .inl (cI, 8, .inl f_62)), (bss, .inl (cI, 8, .inl z2_33)), (h0, .inr (7, [.int (nI (z)), .ref ab, .int tk2_67, .int (nI (s2_64)), .int (nI (x2_65)), .int (nI (v2_66)), .int t2_68])), (ab, .inl (cI, 120, .inl by9))] H := hP
                have hD : va_D A [(q1, .inr (1, [.int (nI (P)), .ref be, .ref bl, .ref bu, .ref bo, .ref br, .ref bk, .ref bw, .ref btt, .ref bss])), (bw, .inr (3, [.int (nI (cn + 1)), .ref bWn, .ref bWp])), (bWn, .inl (cI, 8, .inl ln8)), (bWp, .inl (cI, 48, .inl sp8)), (btt, .inl (cI, 8, .inl f_62)), (bss, .inl (cI, 8, .inl z2_33)), (h0, .inr (7, [.int (nI (z)), .ref ab, .int tk2_67, .int (nI (s2_64)), .int (nI (x2_65)), .int (nI (v2_66)), .int t2_68])), (ab, .inl (cI, 120, .inl by9))] := hD
                rcases hw_r_63 with rfl | rfl
                · skip
                  refine lv_if_eq (tgt := 172) hx hb dX7_takeWalk_160 (by decide) (fun c_72 => absurd c_72 (by decide)) (fun c_72 => ?_)
                  refine lv_aload_n hx hb dX7_takeWalk_163 rfl (lv_at hl 2 rfl) ?_
                  refine lv_aload_n hx hb dX7_takeWalk_164 rfl (lv_at hl 3 rfl) ?_
                  refine lv_iload_n hx hb dX7_takeWalk_165 rfl (lv_at hl 1 rfl) ?_
                  refine xc_Vi (wr := [(bw, .inr (3, [.int (nI (cn + 1)), .ref bWn, .ref bWp])), (bWn, .inl (cI, 8, .inl ln8)), (bWp, .inl (cI, 48, .inl sp8)), (btt, .inl (cI, 8, .inl f_62))]) hF (c_X7_takeSlack l D cI cJ cZ cS ta sa sv H.size h0 ab z s2_64 x2_65 v2_66 tk2_67 t2_68 by9 q1 be bl bu bo br bk bw btt bss P z2_33 cn (by omega) (by omega) (by omega) (by omega) (by omega)) kv_X7_125 ⟨rfl, rfl, Nat.le_of_ble_eq_true rfl, Nat.le_of_ble_eq_true rfl⟩ ⟨Nat.le_of_ble_eq_true rfl, Nat.le_of_ble_eq_true rfl⟩ hK hN hZ hP hD hS hA [6, 7, 0, 5] [1, 2, 3, 4] rfl rfl (by decide +kernel) (by decide +kernel) (by decide +kernel) 0 rfl rfl rfl rfl hl.1 rfl (Nat.le_of_ble_eq_true rfl) dX7_takeWalk_166 (fun r_73 u_r_73 H locs hw_r_73 hP hD hS => ?_)
                  obtain ⟨s2_74, x2_75, v2_76, tk2_77, t2_78, z2_79⟩ := u_r_73
                  try dsimp only at hw_r_73
                  obtain ⟨hw_r_73, i_80, i_81, i_82⟩ := hw_r_73
                  have hP : va_P D vwCl [(bw, .inr (3, [.int (nI (cn + 1)), .ref bWn, .ref bWp])), (bWn, .inl (cI, 8, .inl ln8)), (bWp, .inl (cI, 48, .inl sp8)), (btt, .inl (cI, 8, .inl f_62)), (h0, .inr (7, [.int (nI (z)), .ref ab, .int tk2_77, .int (nI (s2_74)), .int (nI (x2_75)), .int (nI (v2_76)), .int t2_78])), (ab, .inl (cI, 120, .inl by9)), (q1, .inr (1, [.int (nI (P)), .ref be, .ref bl, .ref bu, .ref bo, .ref br, .ref bk, .ref bw, .ref btt, .ref bss])), (bss, .inl (cI, 8, .inl z2_79))] H := hP
                  have hD : va_D A [(bw, .inr (3, [.int (nI (cn + 1)), .ref bWn, .ref bWp])), (bWn, .inl (cI, 8, .inl ln8)), (bWp, .inl (cI, 48, .inl sp8)), (btt, .inl (cI, 8, .inl f_62)), (h0, .inr (7, [.int (nI (z)), .ref ab, .int tk2_77, .int (nI (s2_74)), .int (nI (x2_75)), .int (nI (v2_76)), .int t2_78])), (ab, .inl (cI, 120, .inl by9)), (q1, .inr (1, [.int (nI (P)), .ref be, .ref bl, .ref bu, .ref bo, .ref br, .ref bk, .ref bw, .ref btt, .ref bss])), (bss, .inl (cI, 8, .inl z2_79))] := hD
                  rcases hw_r_73 with rfl | rfl
                  · skip
                    refine lv_if_eq (tgt := 176) hx hb dX7_takeWalk_169 (by decide) (fun c_83 => absurd c_83 (by decide)) (fun c_83 => ?_)
                    refine lv_iconst (v := 1) hx hb dX7_takeWalk_172 (by decide) ?_
                    refine lv_goto (tgt := 177) hx hb dX7_takeWalk_173 (by decide) ?_
                    exact W.zret (v := 1) hx hb hr rfl (fun t ht hW => ⟨⟨1, (s2_74, x2_75, v2_76, tk2_77, t2_78, cn + 1, ln8, sp8, f_62, z2_79), rfl, ⟨(by first | exact Or.inl rfl), (by first | assumption | omega), (by first | assumption | omega), (by first | assumption | omega), (by first | assumption | omega), (by first | assumption | omega), hln8, hsp8⟩, by rw [ht]; exact hP.sub [4, 5, 6, 0, 1, 2, 3, 7] rfl, hD.sub [4, 5, 6, 0, 1, 2, 3, 7] (by decide +kernel) rfl⟩, hS.F ht⟩) hS.2.2 dX7_takeWalk_177 hlk
                  · skip
                    refine lv_if_eq (tgt := 176) hx hb dX7_takeWalk_169 (by decide) (fun c_84 => ?_) (fun c_84 => absurd (by decide) c_84)
                    refine lv_iconst (v := 0) hx hb dX7_takeWalk_176 (by decide) ?_
                    exact W.zret (v := 0) hx hb hr rfl (fun t ht hW => ⟨⟨0, (s2_74, x2_75, v2_76, tk2_77, t2_78, cn + 1, ln8, sp8, f_62, z2_79), rfl, ⟨(by first | exact Or.inr (rfl)), (by first | assumption | omega), (by first | assumption | omega), (by first | assumption | omega), (by first | assumption | omega), (by first | assumption | omega), hln8, hsp8⟩, by rw [ht]; exact hP.sub [4, 5, 6, 0, 1, 2, 3, 7] rfl, hD.sub [4, 5, 6, 0, 1, 2, 3, 7] (by decide +kernel) rfl⟩, hS.F ht⟩) hS.2.2 dX7_takeWalk_177 hlk
                · skip
                  refine lv_if_eq (tgt := 172) hx hb dX7_takeWalk_160 (by decide) (fun c_85 => ?_) (fun c_85 => absurd (by decide) c_85)
                  refine lv_iconst (v := 1) hx hb dX7_takeWalk_172 (by decide) ?_
                  refine lv_goto (tgt := 177) hx hb dX7_takeWalk_173 (by decide) ?_
                  exact W.zret (v := 1) hx hb hr rfl (fun t ht hW => ⟨⟨1, (s2_64, x2_65, v2_66, tk2_67, t2_68, cn + 1, ln8, sp8, f_62, z2_33), rfl, ⟨(by first | exact Or.inl rfl), (by first | assumption | omega), (by first | assumption | omega), (by first | assumption | omega), (by first | assumption | omega), (by first | assumption | omega), hln8, hsp8⟩, by rw [ht]; exact hP.sub [6, 7, 0, 1, 2, 3, 4, 5] rfl, hD.sub [6, 7, 0, 1, 2, 3, 4, 5] (by decide +kernel) rfl⟩, hS.F ht⟩) hS.2.2 dX7_takeWalk_177 hlk
              · skip
                refine lv_if_ne (tgt := 144) hx hb dX7_takeWalk_139 (by decide) (fun c_86 => absurd (by decide) c_86) (fun c_86 => ?_)
                refine lv_iconst (v := 0) hx hb dX7_takeWalk_142 (by decide) ?_
                exact W.zret (v := 0) hx hb hr rfl (fun t ht hW => ⟨⟨0, (s2_53, x2_54, v2_55, tk2_56, t2_57, cn + 1, ln8, sp8, t2_32, z2_33), rfl, ⟨(by first | exact Or.inr (rfl)), (by first | assumption | omega), (by first | assumption | omega), (by first | assumption | omega), (by first | assumption | omega), (by first | assumption | omega), hln8, hsp8⟩, by rw [ht]; exact hP.sub [6, 7, 0, 1, 2, 3, 4, 5] rfl, hD.sub [6, 7, 0, 1, 2, 3, 4, 5] (by decide +kernel) rfl⟩, hS.F ht⟩) hS.2.2 dX7_takeWalk_143 hlk
            · skip
              refine lv_if_eq (tgt := 142) hx hb dX7_takeWalk_126 (by decide) (fun c_87 => ?_) (fun c_87 => absurd (by decide) c_87)
              refine lv_iconst (v := 0) hx hb dX7_takeWalk_142 (by decide) ?_
              exact W.zret (v := 0) hx hb hr rfl (fun t ht hW => ⟨⟨0, (s2_43, x2_44, v2_45, tk2_46, t2_47, cn + 1, ln8, sp8, t2_32, z2_33), rfl, ⟨(by first | exact Or.inr (rfl)), (by first | assumption | omega), (by first | assumption | omega), (by first | assumption | omega), (by first | assumption | omega), (by first | assumption | omega), hln8, hsp8⟩, by rw [ht]; exact hP.sub [6, 7, 0, 1, 2, 3, 4, 5] rfl, hD.sub [6, 7, 0, 1, 2, 3, 4, 5] (by decide +kernel) rfl⟩, hS.F ht⟩) hS.2.2 dX7_takeWalk_143 hlk
        · skip
          have nc_40 : i < 6 := xn_nle (a := 6) (b := i) (by omega) (by omega) c_40
          refine lv_aload_n hx hb dX7_takeWalk_50 rfl (lv_at hl 2 rfl) ?_
          refine xg hF kf_X7_19 hK hP 0 rfl rfl dX7_takeWalk_51 ?_
          refine lv_iconst (v := 2) hx hb dX7_takeWalk_54 (by decide) ?_
          refine lv_icmp_ne (tgt := 107) hx hb dX7_takeWalk_55 (by decide) (fun c_88 => ?_) (fun c_88 => ?_)
          · skip
            refine lv_aload_n hx hb dX7_takeWalk_107 rfl (lv_at hl 3 rfl) ?_
            refine xg hF kf_X7_94 hK hP 2 rfl rfl dX7_takeWalk_108 ?_
            refine xg hF kf_X7_115 hK hP 3 rfl rfl dX7_takeWalk_111 ?_
            refine lv_iload_n hx hb dX7_takeWalk_114 rfl (lv_at hl 1 rfl) ?_
            refine va_iald hx hb hK hP 4 0 rfl rfl (vp_in_nI (show cn < 8 by omega) (by decide)) dX7_takeWalk_115 ?_
            refine xl_i (y := ln8 cn) (congrArg ln8 (nI_clamp (show cn < 2 ^ 31 by omega))) ?_
            refine xl_i (y := nI (i)) he8 ?_
            refine lv_iconst (v := 2) hx hb dX7_takeWalk_116 (by decide) ?_
            refine lv_icmp_lt (tgt := 142) hx hb dX7_takeWalk_117 (by decide) (fun c_89 => ?_) (fun c_89 => ?_)
            · skip
              have nc_89 : i < 2 := xn_lt (a := i) (b := 2) (by omega) (by omega) c_89
              refine lv_iconst (v := 0) hx hb dX7_takeWalk_142 (by decide) ?_
              exact W.zret (v := 0) hx hb hr rfl (fun t ht hW => ⟨⟨0, (s8, x8, v8, tk8, t8, cn + 1, ln8, sp8, t2_32, z2_33), rfl, ⟨(by first | exact Or.inr (rfl)), (by first | assumption | omega), (by first | assumption | omega), (by first | assumption | omega), (by first | assumption | omega), (by first | assumption | omega), hln8, hsp8⟩, by rw [ht]; exact hP.sub [0, 1, 2, 3, 4, 5, 6, 7] rfl, hD.sub [0, 1, 2, 3, 4, 5, 6, 7] (by decide +kernel) rfl⟩, hS.F ht⟩) hS.2.2 dX7_takeWalk_143 hlk
            · skip
              have nc_89 : 2 ≤ i := xn_nlt (a := i) (b := 2) (by omega) (by omega) c_89
              refine lv_aload_n hx hb dX7_takeWalk_120 rfl (lv_at hl 2 rfl) ?_
              refine va_ldcS (tx := "all") (q := sa 6) hx hb hown (hN.2.2 (118, "all", 6) (by decide)) dX7_takeWalk_121 ?_
              refine xc_Vi (wr := [(q1, .inr (1, [.int (nI (P)), .ref be, .ref bl, .ref bu, .ref bo, .ref br, .ref bk, .ref bw, .ref btt, .ref bss])), (bw, .inr (3, [.int (nI (cn + 1)), .ref bWn, .ref bWp])), (bWn, .inl (cI, 8, .inl ln8)), (bWp, .inl (cI, 48, .inl sp8)), (btt, .inl (cI, 8, .inl t2_32)), (bss, .inl (cI, 8, .inl z2_33))]) hF (c_X7_takeWord l D cI cJ cZ cS ta sa sv H.size h0 ab z s8 x8 v8 tk8 t8 by9 6 (by omega) (by omega) (by omega) (by omega) (by omega)) kv_X7_67 ⟨rfl, rfl, Nat.le_of_ble_eq_true rfl, Nat.le_of_ble_eq_true rfl⟩ ⟨Nat.le_of_ble_eq_true rfl, Nat.le_of_ble_eq_true rfl⟩ hK hN hZ hP hD hS hA [0, 1] [2, 3, 4, 5, 6, 7] rfl rfl rfl (by decide +kernel) (by decide +kernel) 0 rfl rfl rfl rfl hl.1 rfl (Nat.le_of_ble_eq_true rfl) dX7_takeWalk_123 (fun r_90 u_r_90 H locs hw_r_90 hP hD hS => ?_)
              obtain ⟨s2_91, x2_92, v2_93, tk2_94, t2_95⟩ := u_r_90
              try dsimp only at hw_r_90
              obtain ⟨hw_r_90, i_96, i_97, i_98⟩ := hw_r_90
              have hP : va_P D vwCl [(q1, .inr (1, [.int (nI (P)), .ref be, .ref bl, .ref bu, .ref bo, .ref br, .ref bk, .ref bw, .ref btt, .ref bss])), (bw, .inr (3, [.int (nI (cn + 1)), .ref bWn, .ref bWp])), (bWn, .inl (cI, 8, .inl ln8)), (bWp, .inl (cI, 48, .inl sp8)), (btt, .inl (cI, 8, .inl t2_32)), (bss, .inl (cI, 8, .inl z2_33)), (h0, .inr (7, [.int (nI (z)), .ref ab, .int tk2_94, .int (nI (s2_91)), .int (nI (x2_92)), .int (nI (v2_93)), .int t2_95])), (ab, .inl (cI, 120, .inl by9))] H := hP
              have hD : va_D A [(q1, .inr (1, [.int (nI (P)), .ref be, .ref bl, .ref bu, .ref bo, .ref br, .ref bk, .ref bw, .ref btt, .ref bss])), (bw, .inr (3, [.int (nI (cn + 1)), .ref bWn, .ref bWp])), (bWn, .inl (cI, 8, .inl ln8)), (bWp, .inl (cI, 48, .inl sp8)), (btt, .inl (cI, 8, .inl t2_32)), (bss, .inl (cI, 8, .inl z2_33)), (h0, .inr (7, [.int (nI (z)), .ref ab, .int tk2_94, .int (nI (s2_91)), .int (nI (x2_92)), .int (nI (v2_93)), .int t2_95])), (ab, .inl (cI, 120, .inl by9))] := hD
              rcases hw_r_90 with rfl | rfl
              · skip
                refine lv_if_eq (tgt := 142) hx hb dX7_takeWalk_126 (by decide) (fun c_99 => absurd c_99 (by decide)) (fun c_99 => ?_)
                refine lv_aload_n hx hb dX7_takeWalk_129 rfl (lv_at hl 2 rfl) ?_
                refine lv_sipush (v := (-9999)) hx hb dX7_takeWalk_130 (by decide) ?_
                refine lv_sipush (v := 9999) hx hb dX7_takeWalk_133 (by decide) ?_
                refine xc_Vi (wr := [(q1, .inr (1, [.int (nI (P)), .ref be, .ref bl, .ref bu, .ref bo, .ref br, .ref bk, .ref bw, .ref btt, .ref bss])), (bw, .inr (3, [.int (nI (cn + 1)), .ref bWn, .ref bWp])), (bWn, .inl (cI, 8, .inl ln8)), (bWp, .inl (cI, 48, .inl sp8)), (btt, .inl (cI, 8, .inl t2_32)), (bss, .inl (cI, 8, .inl z2_33))]) hF (c_X7_takeMile l D cI cJ cZ cS ta sa sv H.size h0 ab z s2_91 x2_92 v2_93 tk2_94 t2_95 by9 (-9999) 9999 (by omega) (by omega) (by omega) (by omega)) kv_X7_78 ⟨rfl, rfl, Nat.le_of_ble_eq_true rfl, Nat.le_of_ble_eq_true rfl⟩ ⟨Nat.le_of_ble_eq_true rfl, Nat.le_of_ble_eq_true rfl⟩ hK hN hZ hP hD hS hA [6, 7] [0, 1, 2, 3, 4, 5] rfl rfl rfl (by decide +kernel) (by decide +kernel) 0 rfl rfl rfl rfl hl.1 rfl (Nat.le_of_ble_eq_true rfl) dX7_takeWalk_136 (fun r_100 u_r_100 H locs hw_r_100 hP hD hS => ?_)
                obtain ⟨s2_101, x2_102, v2_103, tk2_104, t2_105⟩ := u_r_100
                try dsimp only at hw_r_100
                obtain ⟨hw_r_100, i_106, i_107, i_108⟩ := hw_r_100
                have hP : va_P D vwCl [(q1, .inr (1, [.int (nI (P)), .ref be, .ref bl, .ref bu, .ref bo, .ref br, .ref bk, .ref bw, .ref btt, .ref bss])), (bw, .inr (3, [.int (nI (cn + 1)), .ref bWn, .ref bWp])), (bWn, .inl (cI, 8, .inl ln8)), (bWp, .inl (cI, 48, .inl sp8)), (btt, .inl (cI, 8, .inl t2_32)), (bss, .inl (cI, 8, .inl z2_33)), (h0, .inr (7, [.int (nI (z)), .ref ab, .int tk2_104, .int (nI (s2_101)), .int (nI (x2_102)), .int (nI (v2_103)), .int t2_105])), (ab, .inl (cI, 120, .inl by9))] H := hP
                have hD : va_D A [(q1, .inr (1, [.int (nI (P)), .ref be, .ref bl, .ref bu, .ref bo, .ref br, .ref bk, .ref bw, .ref btt, .ref bss])), (bw, .inr (3, [.int (nI (cn + 1)), .ref bWn, .ref bWp])), (bWn, .inl (cI, 8, .inl ln8)), (bWp, .inl (cI, 48, .inl sp8)), (btt, .inl (cI, 8, .inl t2_32)), (bss, .inl (cI, 8, .inl z2_33)), (h0, .inr (7, [.int (nI (z)), .ref ab, .int tk2_104, .int (nI (s2_101)), .int (nI (x2_102)), .int (nI (v2_103)), .int t2_105])), (ab, .inl (cI, 120, .inl by9))] := hD
                rcases hw_r_100 with rfl | rfl
                · skip
                  refine lv_if_ne (tgt := 144) hx hb dX7_takeWalk_139 (by decide) (fun c_109 => ?_) (fun c_109 => absurd c_109 (by decide))
                  refine lv_aload_n hx hb dX7_takeWalk_144 rfl (lv_at hl 3 rfl) ?_
                  refine xg hF kf_X7_120 hK hP 0 rfl rfl dX7_takeWalk_145 ?_
                  refine lv_iload_n hx hb dX7_takeWalk_148 rfl (lv_at hl 1 rfl) ?_
                  refine lv_aload_n hx hb dX7_takeWalk_149 rfl (lv_at hl 2 rfl) ?_
                  refine xg hF kf_X7_31 hK hP 6 rfl rfl dX7_takeWalk_150 ?_
                  refine va_iast hx hb hK hP hD hS 4 0 rfl rfl (vp_in_nI (show cn < 8 by omega) (by decide)) dX7_takeWalk_153 (fun H locs hP hD hS => ?_)
                  rw [nI_clamp (show cn < 2 ^ 31 by omega)] at hP hD
                  obtain ⟨f_110, ef_110⟩ : ∃ g, g = upd t2_32 cn t2_105 := ⟨_, rfl⟩
                  rw [← ef_110] at hP hD
                  have hP : va_P D vwCl [(q1, .inr (1, [.int (nI (P)), .ref be, .ref bl, .ref bu, .ref bo, .ref br, .ref bk, .ref bw, .ref btt, .ref bss])), (bw, .inr (3, [.int (nI (cn + 1)), .ref bWn, .ref bWp])), (bWn, .inl (cI, 8, .inl ln8)), (bWp, .inl (cI, 48, .inl sp8)), (btt, .inl (cI, 8, .inl f_110)), (bss, .inl (cI, 8, .inl z2_33)), (h0, .inr (7, [.int (nI (z)), .ref ab, .int tk2_104, .int (nI (s2_101)), .int (nI (x2_102)), .int (nI (v2_103)), .int t2_105])), (ab, .inl (cI, 120, .inl by9))] H := hP
                  have hD : va_D A [(q1, .inr (1, [.int (nI (P)), .ref be, .ref bl, .ref bu, .ref bo, .ref br, .ref bk, .ref bw, .ref btt, .ref bss])), (bw, .inr (3, [.int (nI (cn + 1)), .ref bWn, .ref bWp])), (bWn, .inl (cI, 8, .inl ln8)), (bWp, .inl (cI, 48, .inl sp8)), (btt, .inl (cI, 8, .inl f_110)), (bss, .inl (cI, 8, .inl z2_33)), (h0, .inr (7, [.int (nI (z)), .ref ab, .int tk2_104, .int (nI (s2_101)), .int (nI (x2_102)), .int (nI (v2_103)), .int t2_105])), (ab, .inl (cI, 120, .inl by9))] := hD
                  refine lv_aload_n hx hb dX7_takeWalk_154 rfl (lv_at hl 2 rfl) ?_
                  refine va_ldcS (tx := "slack") (q := sa 7) hx hb hown (hN.2.2 (123, "slack", 7) (by decide)) dX7_takeWalk_155 ?_
                  refine xc_Vi (wr := [(q1, .inr (1, [.int (nI (P)), .ref be, .ref bl, .ref bu, .ref bo, .ref br, .ref bk, .ref bw, .ref btt, .ref bss])), (bw, .inr (3, [.int (nI (cn + 1)), .ref bWn, .ref bWp])), (bWn, .inl (cI, 8, .inl ln8)), (bWp, .inl (cI, 48, .inl sp8)), (btt, .inl (cI, 8, .inl f_110)), (bss, .inl (cI, 8, .inl z2_33))]) hF (c_X7_takeWord l D cI cJ cZ cS ta sa sv H.size h0 ab z s2_101 x2_102 v2_103 tk2_104 t2_105 by9 7 (by omega) (by omega) (by omega) (by omega) (by omega)) kv_X7_67 ⟨rfl, rfl, Nat.le_of_ble_eq_true rfl, Nat.le_of_ble_eq_true rfl⟩ ⟨Nat.le_of_ble_eq_true rfl, Nat.le_of_ble_eq_true rfl⟩ hK hN hZ hP hD hS hA [6, 7] [0, 1, 2, 3, 4, 5] rfl rfl rfl (by decide +kernel) (by decide +kernel) 0 rfl rfl rfl rfl hl.1 rfl (Nat.le_of_ble_eq_true rfl) dX7_takeWalk_157 (fun r_111 u_r_111 H locs hw_r_111 hP hD hS => ?_)
                  obtain ⟨s2_112, x2_113, v2_114, tk2_115, t2_116⟩ := u_r_111
                  try dsimp only at hw_r_111
                  obtain ⟨hw_r_111, i_117, i_118, i_119⟩ := hw_r_111
                  have hP : va_P D vwCl [(q1, .inr (1, [.int (nI (P)), .ref be, .ref bl, .ref bu, .ref bo, .ref br, .ref bk, .ref bw, .ref btt, .ref bss])), (bw, .inr (3, [.int (nI (cn + 1)), .ref bWn, .ref bWp])), (bWn, .inl (cI, 8, .inl ln8)), (bWp, .inl (cI, 48, .inl sp8)), (btt, .inl (cI, 8, .inl f_110)), (bss, .inl (cI, 8, .inl z2_33)), (h0, .inr (7, [.int (nI (z)), .ref ab, .int tk2_115, .int (nI (s2_112)), .int (nI (x2_113)), .int (nI (v2_114)), .int t2_116])), (ab, .inl (cI, 120, .inl by9))] H := hP
                  have hD : va_D A [(q1, .inr (1, [.int (nI (P)), .ref be, .ref bl, .ref bu, .ref bo, .ref br, .ref bk, .ref bw, .ref btt, .ref bss])), (bw, .inr (3, [.int (nI (cn + 1)), .ref bWn, .ref bWp])), (bWn, .inl (cI, 8, .inl ln8)), (bWp, .inl (cI, 48, .inl sp8)), (btt, .inl (cI, 8, .inl f_110)), (bss, .inl (cI, 8, .inl z2_33)), (h0, .inr (7, [.int (nI (z)), .ref ab, .int tk2_115, .int (nI (s2_112)), .int (nI (x2_113)), .int (nI (v2_114)), .int t2_116])), (ab, .inl (cI, 120, .inl by9))] := hD
                  rcases hw_r_111 with rfl | rfl
                  · skip
                    refine lv_if_eq (tgt := 172) hx hb dX7_takeWalk_160 (by decide) (fun c_120 => absurd c_120 (by decide)) (fun c_120 => ?_)
                    refine lv_aload_n hx hb dX7_takeWalk_163 rfl (lv_at hl 2 rfl) ?_
                    refine lv_aload_n hx hb dX7_takeWalk_164 rfl (lv_at hl 3 rfl) ?_
                    refine lv_iload_n hx hb dX7_takeWalk_165 rfl (lv_at hl 1 rfl) ?_
                    refine xc_Vi (wr := [(bw, .inr (3, [.int (nI (cn + 1)), .ref bWn, .ref bWp])), (bWn, .inl (cI, 8, .inl ln8)), (bWp, .inl (cI, 48, .inl sp8)), (btt, .inl (cI, 8, .inl f_110))]) hF (c_X7_takeSlack l D cI cJ cZ cS ta sa sv H.size h0 ab z s2_112 x2_113 v2_114 tk2_115 t2_116 by9 q1 be bl bu bo br bk bw btt bss P z2_33 cn (by omega) (by omega) (by omega) (by omega) (by omega)) kv_X7_125 ⟨rfl, rfl, Nat.le_of_ble_eq_true rfl, Nat.le_of_ble_eq_true rfl⟩ ⟨Nat.le_of_ble_eq_true rfl, Nat.le_of_ble_eq_true rfl⟩ hK hN hZ hP hD hS hA [6, 7, 0, 5] [1, 2, 3, 4] rfl rfl (by decide +kernel) (by decide +kernel) (by decide +kernel) 0 rfl rfl rfl rfl hl.1 rfl (Nat.le_of_ble_eq_true rfl) dX7_takeWalk_166 (fun r_121 u_r_121 H locs hw_r_121 hP hD hS => ?_)
                    obtain ⟨s2_122, x2_123, v2_124, tk2_125, t2_126, z2_127⟩ := u_r_121
                    try dsimp only at hw_r_121
                    obtain ⟨hw_r_121, i_128, i_129, i_130⟩ := hw_r_121
                    have hP : va_P D vwCl [(bw, .inr (3, [.int (nI (cn + 1)), .ref bWn, .ref bWp])), (bWn, .inl (cI, 8, .inl ln8)), (bWp, .inl (cI, 48, .inl sp8)), (btt, .inl (cI, 8, .inl f_110)), (h0, .inr (7, [.int (nI (z)), .ref ab, .int tk2_125, .int (nI (s2_122)), .int (nI (x2_123)), .int (nI (v2_124)), .int t2_126])), (ab, .inl (cI, 120, .inl by9)), (q1, .inr (1, [.int (nI (P)), .ref be, .ref bl, .ref bu, .ref bo, .ref br, .ref bk, .ref bw, .ref btt, .ref bss])), (bss, .inl (cI, 8, .inl z2_127))] H := hP
                    have hD : va_D A [(bw, .inr (3, [.int (nI (cn + 1)), .ref bWn, .ref bWp])), (bWn, .inl (cI, 8, .inl ln8)), (bWp, .inl (cI, 48, .inl sp8)), (btt, .inl (cI, 8, .inl f_110)), (h0, .inr (7, [.int (nI (z)), .ref ab, .int tk2_125, .int (nI (s2_122)), .int (nI (x2_123)), .int (nI (v2_124)), .int t2_126])), (ab, .inl (cI, 120, .inl by9)), (q1, .inr (1, [.int (nI (P)), .ref be, .ref bl, .ref bu, .ref bo, .ref br, .ref bk, .ref bw, .ref btt, .ref bss])), (bss, .inl (cI, 8, .inl z2_127))] := hD
                    rcases hw_r_121 with rfl | rfl
                    · skip
                      refine lv_if_eq (tgt := 176) hx hb dX7_takeWalk_169 (by decide) (fun c_131 => absurd c_131 (by decide)) (fun c_131 => ?_)
                      refine lv_iconst (v := 1) hx hb dX7_takeWalk_172 (by decide) ?_
                      refine lv_goto (tgt := 177) hx hb dX7_takeWalk_173 (by decide) ?_
                      exact W.zret (v := 1) hx hb hr rfl (fun t ht hW => ⟨⟨1, (s2_122, x2_123, v2_124, tk2_125, t2_126, cn + 1, ln8, sp8, f_110, z2_127), rfl, ⟨(by first | exact Or.inl rfl), (by first | assumption | omega), (by first | assumption | omega), (by first | assumption | omega), (by first | assumption | omega), (by first | assumption | omega), hln8, hsp8⟩, by rw [ht]; exact hP.sub [4, 5, 6, 0, 1, 2, 3, 7] rfl, hD.sub [4, 5, 6, 0, 1, 2, 3, 7] (by decide +kernel) rfl⟩, hS.F ht⟩) hS.2.2 dX7_takeWalk_177 hlk
                    · skip
                      refine lv_if_eq (tgt := 176) hx hb dX7_takeWalk_169 (by decide) (fun c_132 => ?_) (fun c_132 => absurd (by decide) c_132)
                      refine lv_iconst (v := 0) hx hb dX7_takeWalk_176 (by decide) ?_
                      exact W.zret (v := 0) hx hb hr rfl (fun t ht hW => ⟨⟨0, (s2_122, x2_123, v2_124, tk2_125, t2_126, cn + 1, ln8, sp8, f_110, z2_127), rfl, ⟨(by first | exact Or.inr (rfl)), (by first | assumption | omega), (by first | assumption | omega), (by first | assumption | omega), (by first | assumption | omega), (by first | assumption | omega), hln8, hsp8⟩, by rw [ht]; exact hP.sub [4, 5, 6, 0, 1, 2, 3, 7] rfl, hD.sub [4, 5, 6, 0, 1, 2, 3, 7] (by decide +kernel) rfl⟩, hS.F ht⟩) hS.2.2 dX7_takeWalk_177 hlk
                  · skip
                    refine lv_if_eq (tgt := 172) hx hb dX7_takeWalk_160 (by decide) (fun c_133 => ?_) (fun c_133 => absurd (by decide) c_133)
                    refine lv_iconst (v := 1) hx hb dX7_takeWalk_172 (by decide) ?_
                    refine lv_goto (tgt := 177) hx hb dX7_takeWalk_173 (by decide) ?_
                    exact W.zret (v := 1) hx hb hr rfl (fun t ht hW => ⟨⟨1, (s2_112, x2_113, v2_114, tk2_115, t2_116, cn + 1, ln8, sp8, f_110, z2_33), rfl, ⟨(by first | exact Or.inl rfl), (by first | assumption | omega), (by first | assumption | omega), (by first | assumption | omega), (by first | assumption | omega), (by first | assumption | omega), hln8, hsp8⟩, by rw [ht]; exact hP.sub [6, 7, 0, 1, 2, 3, 4, 5] rfl, hD.sub [6, 7, 0, 1, 2, 3, 4, 5] (by decide +kernel) rfl⟩, hS.F ht⟩) hS.2.2 dX7_takeWalk_177 hlk
                · skip
                  refine lv_if_ne (tgt := 144) hx hb dX7_takeWalk_139 (by decide) (fun c_134 => absurd (by decide) c_134) (fun c_134 => ?_)
                  refine lv_iconst (v := 0) hx hb dX7_takeWalk_142 (by decide) ?_
                  exact W.zret (v := 0) hx hb hr rfl (fun t ht hW => ⟨⟨0, (s2_101, x2_102, v2_103, tk2_104, t2_105, cn + 1, ln8, sp8, t2_32, z2_33), rfl, ⟨(by first | exact Or.inr (rfl)), (by first | assumption | omega), (by first | assumption | omega), (by first | assumption | omega), (by first | assumption | omega), (by first | assumption | omega), hln8, hsp8⟩, by rw [ht]; exact hP.sub [6, 7, 0, 1, 2, 3, 4, 5] rfl, hD.sub [6, 7, 0, 1, 2, 3, 4, 5] (by decide +kernel) rfl⟩, hS.F ht⟩) hS.2.2 dX7_takeWalk_143 hlk
              · skip
                refine lv_if_eq (tgt := 142) hx hb dX7_takeWalk_126 (by decide) (fun c_135 => ?_) (fun c_135 => absurd (by decide) c_135)
                refine lv_iconst (v := 0) hx hb dX7_takeWalk_142 (by decide) ?_
                exact W.zret (v := 0) hx hb hr rfl (fun t ht hW => ⟨⟨0, (s2_91, x2_92, v2_93, tk2_94, t2_95, cn + 1, ln8, sp8, t2_32, z2_33), rfl, ⟨(by first | exact Or.inr (rfl)), (by first | assumption | omega), (by first | assumption | omega), (by first | assumption | omega), (by first | assumption | omega), (by first | assumption | omega), hln8, hsp8⟩, by rw [ht]; exact hP.sub [6, 7, 0, 1, 2, 3, 4, 5] rfl, hD.sub [6, 7, 0, 1, 2, 3, 4, 5] (by decide +kernel) rfl⟩, hS.F ht⟩) hS.2.2 dX7_takeWalk_143 hlk
          · skip
            refine lv_aload_n hx hb dX7_takeWalk_58 rfl (lv_at hl 2 rfl) ?_
            refine xg hF kf_X7_28 hK hP 0 rfl rfl dX7_takeWalk_59 ?_
            refine lv_aload_n hx hb dX7_takeWalk_62 rfl (lv_at hl 3 rfl) ?_
            refine xg hF kf_X7_94 hK hP 2 rfl rfl dX7_takeWalk_63 ?_
            refine lv_iload_n hx hb dX7_takeWalk_66 rfl (lv_at hl 1 rfl) ?_
            refine xc_Vr hF (c_X3_lastStop l D cI cJ cZ cS ta sa sv H.size bw bWn bWp (cn + 1) cn i ln8 sp8 (by omega) (by omega) (by omega) he8 hsp8) kv_X7_108 ⟨rfl, rfl, Nat.le_of_ble_eq_true rfl, Nat.le_of_ble_eq_true rfl⟩ ⟨Nat.le_of_ble_eq_true rfl, Nat.le_of_ble_eq_true rfl⟩ hK hN hZ hP hD hS hA [3, 4, 5] rfl rfl 0 rfl rfl rfl rfl hl.1 rfl (Nat.le_of_ble_eq_true rfl) dX7_takeWalk_67 (fun r_136 hw_r_136 => ?_)
            obtain ⟨y_137, rfl, h_138, h_139⟩ := hw_r_136
            refine lv_icmp_eq (tgt := 86) hx hb dX7_takeWalk_70 (by decide) (fun c_140 => ?_) (fun c_140 => ?_)
            · skip
              have nc_140 : v8 = y_137 := xn_eq (a := v8) (b := y_137) (by omega) (by omega) c_140
              refine lv_iconst (v := 0) hx hb dX7_takeWalk_86 (by decide) ?_
              exact W.zret (v := 0) hx hb hr rfl (fun t ht hW => ⟨⟨0, (s8, x8, v8, tk8, t8, cn + 1, ln8, sp8, t2_32, z2_33), rfl, ⟨(by first | exact Or.inr (rfl)), (by first | assumption | omega), (by first | assumption | omega), (by first | assumption | omega), (by first | assumption | omega), (by first | assumption | omega), hln8, hsp8⟩, by rw [ht]; exact hP.sub [0, 1, 2, 3, 4, 5, 6, 7] rfl, hD.sub [0, 1, 2, 3, 4, 5, 6, 7] (by decide +kernel) rfl⟩, hS.F ht⟩) hS.2.2 dX7_takeWalk_87 hlk
            · skip
              have nc_140 : v8 ≠ y_137 := xn_ne (a := v8) (b := y_137) (by omega) (by omega) c_140
              refine lv_aload_n hx hb dX7_takeWalk_73 rfl (lv_at hl 2 rfl) ?_
              refine lv_aload_n hx hb dX7_takeWalk_74 rfl (lv_at hl 3 rfl) ?_
              refine xg hF kf_X7_60 hK hP 2 rfl rfl dX7_takeWalk_75 ?_
              refine lv_iconst (v := 1) hx hb dX7_takeWalk_78 (by decide) ?_
              refine lv_isub hx hb dX7_takeWalk_79 ?_
              refine lv_topi (fun x_141 ex_141 => ?_)
              refine xc_Vi (wr := [(q1, .inr (1, [.int (nI (P)), .ref be, .ref bl, .ref bu, .ref bo, .ref br, .ref bk, .ref bw, .ref btt, .ref bss])), (bw, .inr (3, [.int (nI (cn + 1)), .ref bWn, .ref bWp])), (bWn, .inl (cI, 8, .inl ln8)), (bWp, .inl (cI, 48, .inl sp8)), (btt, .inl (cI, 8, .inl t2_32)), (bss, .inl (cI, 8, .inl z2_33))]) hF (c_X7_takeNumber l D cI cJ cZ cS ta sa sv H.size h0 ab z s8 x8 v8 tk8 t8 by9 x_141 (by omega) (by omega) (by omega) (by omega)) kv_X7_70 ⟨rfl, rfl, Nat.le_of_ble_eq_true rfl, Nat.le_of_ble_eq_true rfl⟩ ⟨Nat.le_of_ble_eq_true rfl, Nat.le_of_ble_eq_true rfl⟩ hK hN hZ hP hD hS hA [0, 1] [2, 3, 4, 5, 6, 7] rfl rfl rfl (by decide +kernel) (by decide +kernel) 0 rfl rfl rfl rfl hl.1 rfl (Nat.le_of_ble_eq_true rfl) dX7_takeWalk_80 (fun r_142 u_r_142 H locs hw_r_142 hP hD hS => ?_)
              obtain ⟨s2_143, x2_144, v2_145, tk2_146, t2_147⟩ := u_r_142
              try dsimp only at hw_r_142
              obtain ⟨hw_r_142, i_148, i_149, i_150⟩ := hw_r_142
              have hP : va_P D vwCl [(q1, .inr (1, [.int (nI (P)), .ref be, .ref bl, .ref bu, .ref bo, .ref br, .ref bk, .ref bw, .ref btt, .ref bss])), (bw, .inr (3, [.int (nI (cn + 1)), .ref bWn, .ref bWp])), (bWn, .inl (cI, 8, .inl ln8)), (bWp, .inl (cI, 48, .inl sp8)), (btt, .inl (cI, 8, .inl t2_32)), (bss, .inl (cI, 8, .inl z2_33)), (h0, .inr (7, [.int (nI (z)), .ref ab, .int tk2_146, .int (nI (s2_143)), .int (nI (x2_144)), .int (nI (v2_145)), .int t2_147])), (ab, .inl (cI, 120, .inl by9))] H := hP
              have hD : va_D A [(q1, .inr (1, [.int (nI (P)), .ref be, .ref bl, .ref bu, .ref bo, .ref br, .ref bk, .ref bw, .ref btt, .ref bss])), (bw, .inr (3, [.int (nI (cn + 1)), .ref bWn, .ref bWp])), (bWn, .inl (cI, 8, .inl ln8)), (bWp, .inl (cI, 48, .inl sp8)), (btt, .inl (cI, 8, .inl t2_32)), (bss, .inl (cI, 8, .inl z2_33)), (h0, .inr (7, [.int (nI (z)), .ref ab, .int tk2_146, .int (nI (s2_143)), .int (nI (x2_144)), .int (nI (v2_145)), .int t2_147])), (ab, .inl (cI, 120, .inl by9))] := hD
              rcases hw_r_142 with ⟨w_151, rfl, rfl, h_153, h_154⟩ | rfl
              · skip
                have hm_w_151 : w_151 < P := x_most hP0 (by omega) ex_141 h_154
                refine lv_if_ne (tgt := 88) hx hb dX7_takeWalk_83 (by decide) (fun c_155 => ?_) (fun c_155 => absurd c_155 (by decide))
                refine lv_aload_n hx hb dX7_takeWalk_88 rfl (lv_at hl 3 rfl) ?_
                refine xg hF kf_X7_94 hK hP 0 rfl rfl dX7_takeWalk_89 ?_
                refine lv_iload_n hx hb dX7_takeWalk_92 rfl (lv_at hl 1 rfl) ?_
                refine lv_aload_n hx hb dX7_takeWalk_93 rfl (lv_at hl 2 rfl) ?_
                refine xg hF kf_X7_31 hK hP 6 rfl rfl dX7_takeWalk_94 ?_
                refine xc_Vi (wr := [(q1, .inr (1, [.int (nI (P)), .ref be, .ref bl, .ref bu, .ref bo, .ref br, .ref bk, .ref bw, .ref btt, .ref bss])), (btt, .inl (cI, 8, .inl t2_32)), (bss, .inl (cI, 8, .inl z2_33)), (h0, .inr (7, [.int (nI (z)), .ref ab, .int tk2_146, .int (nI (s2_143)), .int (nI (x2_144)), .int (nI (v2_145)), .int (nI (w_151))])), (ab, .inl (cI, 120, .inl by9))]) hF (c_X3_append l D cI cJ cZ cS ta sa sv H.size bw bWn bWp (cn + 1) cn w_151 i ln8 sp8 (by omega) (by omega) (by omega) he8 hln8 hsp8) kv_X7_111 ⟨rfl, rfl, Nat.le_of_ble_eq_true rfl, Nat.le_of_ble_eq_true rfl⟩ ⟨Nat.le_of_ble_eq_true rfl, Nat.le_of_ble_eq_true rfl⟩ hK hN hZ hP hD hS hA [1, 2, 3] [0, 4, 5, 6, 7] rfl rfl rfl (by decide +kernel) (by decide +kernel) 0 rfl rfl rfl rfl hl.1 rfl (Nat.le_of_ble_eq_true rfl) dX7_takeWalk_97 (fun r_156 u_r_156 H locs hw_r_156 hP hD hS => ?_)
                obtain ⟨l2_157, s2_158⟩ := u_r_156
                try dsimp only at hw_r_156
                obtain ⟨hw_r_156, i_159, i_160, i_161, i_162⟩ := hw_r_156
                have hP : va_P D vwCl [(q1, .inr (1, [.int (nI (P)), .ref be, .ref bl, .ref bu, .ref bo, .ref br, .ref bk, .ref bw, .ref btt, .ref bss])), (btt, .inl (cI, 8, .inl t2_32)), (bss, .inl (cI, 8, .inl z2_33)), (h0, .inr (7, [.int (nI (z)), .ref ab, .int tk2_146, .int (nI (s2_143)), .int (nI (x2_144)), .int (nI (v2_145)), .int (nI (w_151))])), (ab, .inl (cI, 120, .inl by9)), (bw, .inr (3, [.int (nI ((cn + 1))), .ref bWn, .ref bWp])), (bWn, .inl (cI, 8, .inl l2_157)), (bWp, .inl (cI, 48, .inl s2_158))] H := hP
                have hD : va_D A [(q1, .inr (1, [.int (nI (P)), .ref be, .ref bl, .ref bu, .ref bo, .ref br, .ref bk, .ref bw, .ref btt, .ref bss])), (btt, .inl (cI, 8, .inl t2_32)), (bss, .inl (cI, 8, .inl z2_33)), (h0, .inr (7, [.int (nI (z)), .ref ab, .int tk2_146, .int (nI (s2_143)), .int (nI (x2_144)), .int (nI (v2_145)), .int (nI (w_151))])), (ab, .inl (cI, 120, .inl by9)), (bw, .inr (3, [.int (nI ((cn + 1))), .ref bWn, .ref bWp])), (bWn, .inl (cI, 8, .inl l2_157)), (bWp, .inl (cI, 48, .inl s2_158))] := hD
                subst hw_r_156
                refine lv_pop hx hb dX7_takeWalk_100 rfl ?_
                refine lv_iinc (v := nI (i + 1)) (lv' := [(3, .int (nI (i + 1))), (2, .int (nI (cn))), (0, .ref h0), (1, .ref q1)]) hx hb dX7_takeWalk_101 hl (k := 0) rfl (nI_1 (i)) (by decide) rfl (fun ls hl => ?_)
                refine lv_goto (tgt := 44) hx hb dX7_takeWalk_104 (by decide) ?_
                exact ih_44 (i + 1) s2_143 x2_144 v2_145 tk2_146 (nI (w_151)) l2_157 s2_158 _ _ _ (by omega) (by omega) (by omega) (by omega) (by omega) (by omega) (by rw [i_161]; exact pk_us) (by rw [i_161]; exact LL.put hLL8 (by omega) (by omega)) i_159 i_160 (hP.sub [3, 4, 0, 5, 6, 7, 1, 2] rfl) (hD.sub [3, 4, 0, 5, 6, 7, 1, 2] (by decide +kernel) rfl) hS (lv_sub hl [0, 1, 2, 3] rfl)
              · skip
                refine lv_if_ne (tgt := 88) hx hb dX7_takeWalk_83 (by decide) (fun c_163 => absurd (by decide) c_163) (fun c_163 => ?_)
                refine lv_iconst (v := 0) hx hb dX7_takeWalk_86 (by decide) ?_
                exact W.zret (v := 0) hx hb hr rfl (fun t ht hW => ⟨⟨0, (s2_143, x2_144, v2_145, tk2_146, t2_147, cn + 1, ln8, sp8, t2_32, z2_33), rfl, ⟨(by first | exact Or.inr (rfl)), (by first | assumption | omega), (by first | assumption | omega), (by first | assumption | omega), (by first | assumption | omega), (by first | assumption | omega), hln8, hsp8⟩, by rw [ht]; exact hP.sub [6, 7, 0, 1, 2, 3, 4, 5] rfl, hD.sub [6, 7, 0, 1, 2, 3, 4, 5] (by decide +kernel) rfl⟩, hS.F ht⟩) hS.2.2 dX7_takeWalk_87 hlk
    · skip
      refine lv_if_ne (tgt := 31) hx hb dX7_takeWalk_26 (by decide) (fun c_164 => absurd (by decide) c_164) (fun c_164 => ?_)
      refine lv_iconst (v := 0) hx hb dX7_takeWalk_29 (by decide) ?_
      exact W.zret (v := 0) hx hb hr rfl (fun t ht hW => ⟨⟨0, (s2_16, x2_17, v2_18, tk2_19, t2_20, cn, ln, sp, to9, sl), rfl, ⟨(by first | exact Or.inr (rfl)), (by first | assumption | omega), (by first | assumption | omega), (by first | assumption | omega), (by first | assumption | omega), (by first | assumption | omega), hln, hsp⟩, by rw [ht]; exact hP.sub [6, 7, 0, 1, 2, 3, 4, 5] rfl, hD.sub [6, 7, 0, 1, 2, 3, 4, 5] (by decide +kernel) rfl⟩, hS.F ht⟩) hS.2.2 dX7_takeWalk_30 hlk
set_option maxHeartbeats 4000000 in
set_option maxRecDepth 100000 in
theorem c_X7_takeItem (l : Launch) (D : va_G) (cI cJ cZ cS : ClassId) (ta : Nat) (sa sv : Nat → Nat) (sz : Nat) (h0 : Nat) (ab : Nat) (z : Nat) (s9 : Nat) (x9 : Nat) (v9 : Nat) (tk : Int32) (t9 : Int32) (by9 : Nat → Int32) (q1 : Nat) (be : Nat) (bl : Nat) (bu : Nat) (bo : Nat) (br : Nat) (bk : Nat) (bw : Nat) (btt : Nat) (bss : Nat) (P : Nat) (bWn : Nat) (bWp : Nat) (cn : Nat) (er : Nat → Int32) (lo : Nat → Int32) (hg : Nat → Int32) (d : Nat → Int32) (ln : Nat → Int32) (sp : Nat → Int32) (to9 : Nat → Int32) (sl : Nat → Int32) (hz : z ≤ 120) (ht1 : s9 ≤ x9) (ht2 : x9 ≤ z) (ht3 : v9 ≤ 10000) (hP0 : P ≤ 10) (hc : cn ≤ 8) (hLL : LL cn ln) (hln : BA 8 7 ln) (hsp : BA 48 10 sp) : Met l yX7_takeItem (Cond.code yX7_takeItem cX7_takeItem 2 (some .boolean) :: wsU) ({ frames := 7, cells := 0, slots := 0, locals := 153 }) (va_Pc [.ref h0, .ref q1] (XW D (xT cI cJ cZ cS) ta sa sv [(h0, .inr (7, [.int (nI (z)), .ref ab, .int tk, .int (nI (s9)), .int (nI (x9)), .int (nI (v9)), .int t9])), (ab, .inl (cI, 120, .inl by9)), (q1, .inr (1, [.int (nI (P)), .ref be, .ref bl, .ref bu, .ref bo, .ref br, .ref bk, .ref bw, .ref btt, .ref bss])), (be, .inl (cI, 10, .inl er)), (bl, .inl (cI, 100, .inl lo)), (bu, .inl (cI, 100, .inl hg)), (bo, .inl (cI, 100, .inl d)), (bw, .inr (3, [.int (nI (cn)), .ref bWn, .ref bWp])), (bWn, .inl (cI, 8, .inl ln)), (bWp, .inl (cI, 48, .inl sp)), (btt, .inl (cI, 8, .inl to9)), (bss, .inl (cI, 8, .inl sl))] sz)) (XQi (fun (r : Int32) (u : Nat × Nat × Nat × Int32 × Int32 × Nat × Nat × (Nat → Int32) × (Nat → Int32) × (Nat → Int32) × (Nat → Int32) × (Nat → Int32) × (Nat → Int32) × (Nat → Int32) × (Nat → Int32)) => match u with | (s2, x2, v2, tk2, t2, P2, cn2, e2, l2, u2, d2, n2, p2, t3, z3) => ((r = 1) ∨ (r = 0)) ∧ (s2 ≤ x2) ∧ (x2 ≤ z) ∧ (v2 ≤ 10000) ∧ (P2 ≤ 10) ∧ (cn2 ≤ 8) ∧ (LL cn2 n2) ∧ (BA 8 7 n2) ∧ (BA 48 10 p2)) D (fun (u : Nat × Nat × Nat × Int32 × Int32 × Nat × Nat × (Nat → Int32) × (Nat → Int32) × (Nat → Int32) × (Nat → Int32) × (Nat → Int32) × (Nat → Int32) × (Nat → Int32) × (Nat → Int32)) => match u with | (s2, x2, v2, tk2, t2, P2, cn2, e2, l2, u2, d2, n2, p2, t3, z3) => [(h0, .inr (7, [.int (nI (z)), .ref ab, .int tk2, .int (nI (s2)), .int (nI (x2)), .int (nI (v2)), .int t2])), (ab, .inl (cI, 120, .inl by9)), (q1, .inr (1, [.int (nI (P2)), .ref be, .ref bl, .ref bu, .ref bo, .ref br, .ref bk, .ref bw, .ref btt, .ref bss])), (be, .inl (cI, 10, .inl e2)), (bl, .inl (cI, 100, .inl l2)), (bu, .inl (cI, 100, .inl u2)), (bo, .inl (cI, 100, .inl d2)), (bw, .inr (3, [.int (nI (cn2)), .ref bWn, .ref bWp])), (bWn, .inl (cI, 8, .inl n2)), (bWp, .inl (cI, 48, .inl p2)), (btt, .inl (cI, 8, .inl t3)), (bss, .inl (cI, 8, .inl z3))]) (va_A [(h0, .inr (7, [.int (nI (z)), .ref ab, .int tk, .int (nI (s9)), .int (nI (x9)), .int (nI (v9)), .int t9])), (ab, .inl (cI, 120, .inl by9)), (q1, .inr (1, [.int (nI (P)), .ref be, .ref bl, .ref bu, .ref bo, .ref br, .ref bk, .ref bw, .ref btt, .ref bss])), (be, .inl (cI, 10, .inl er)), (bl, .inl (cI, 100, .inl lo)), (bu, .inl (cI, 100, .inl hg)), (bo, .inl (cI, 100, .inl d)), (bw, .inr (3, [.int (nI (cn)), .ref bWn, .ref bWp])), (bWn, .inl (cI, 8, .inl ln)), (bWp, .inl (cI, 48, .inl sp)), (btt, .inl (cI, 8, .inl to9)), (bss, .inl (cI, 8, .inl sl))] sz)) 0 0 (va_A [(h0, .inr (7, [.int (nI (z)), .ref ab, .int tk, .int (nI (s9)), .int (nI (x9)), .int (nI (v9)), .int t9])), (ab, .inl (cI, 120, .inl by9)), (q1, .inr (1, [.int (nI (P)), .ref be, .ref bl, .ref bu, .ref bo, .ref br, .ref bk, .ref bw, .ref btt, .ref bss])), (be, .inl (cI, 10, .inl er)), (bl, .inl (cI, 100, .inl lo)), (bu, .inl (cI, 100, .inl hg)), (bo, .inl (cI, 100, .inl d)), (bw, .inr (3, [.int (nI (cn)), .ref bWn, .ref bWp])), (bWn, .inl (cI, 8, .inl ln)), (bWp, .inl (cI, 48, .inl sp)), (btt, .inl (cI, 8, .inl to9)), (bss, .inl (cI, 8, .inl sl))] sz) := by
  refine xh (QA := fun A => XQi (fun (r : Int32) (u : Nat × Nat × Nat × Int32 × Int32 × Nat × Nat × (Nat → Int32) × (Nat → Int32) × (Nat → Int32) × (Nat → Int32) × (Nat → Int32) × (Nat → Int32) × (Nat → Int32) × (Nat → Int32)) => match u with | (s2, x2, v2, tk2, t2, P2, cn2, e2, l2, u2, d2, n2, p2, t3, z3) => ((r = 1) ∨ (r = 0)) ∧ (s2 ≤ x2) ∧ (x2 ≤ z) ∧ (v2 ≤ 10000) ∧ (P2 ≤ 10) ∧ (cn2 ≤ 8) ∧ (LL cn2 n2) ∧ (BA 8 7 n2) ∧ (BA 48 10 p2)) D (fun (u : Nat × Nat × Nat × Int32 × Int32 × Nat × Nat × (Nat → Int32) × (Nat → Int32) × (Nat → Int32) × (Nat → Int32) × (Nat → Int32) × (Nat → Int32) × (Nat → Int32) × (Nat → Int32)) => match u with | (s2, x2, v2, tk2, t2, P2, cn2, e2, l2, u2, d2, n2, p2, t3, z3) => [(h0, .inr (7, [.int (nI (z)), .ref ab, .int tk2, .int (nI (s2)), .int (nI (x2)), .int (nI (v2)), .int t2])), (ab, .inl (cI, 120, .inl by9)), (q1, .inr (1, [.int (nI (P2)), .ref be, .ref bl, .ref bu, .ref bo, .ref br, .ref bk, .ref bw, .ref btt, .ref bss])), (be, .inl (cI, 10, .inl e2)), (bl, .inl (cI, 100, .inl l2)), (bu, .inl (cI, 100, .inl u2)), (bo, .inl (cI, 100, .inl d2)), (bw, .inr (3, [.int (nI (cn2)), .ref bWn, .ref bWp])), (bWn, .inl (cI, 8, .inl n2)), (bWp, .inl (cI, 48, .inl p2)), (btt, .inl (cI, 8, .inl t3)), (bss, .inl (cI, 8, .inl z3))]) A) (fr := fun A => A) (by decide) (Nat.le_of_ble_eq_true rfl) ?_
  intro p e s m below meth c ls A hF hr hlk hin hsz hP hK hD hN hZ hA hS hl
  have hF : CallFix p m c cX7_takeItem 2 s _ _ RX7 := hF
  have hx := hF.1
  have hb := hF.2.1
  have hml := hF.2.2.1
  have hown := hF.2.2.2.1
  have hu : ∀ w ∈ wsU, w.before _ s = true := fun w h => hF.2.2.2.2 w (List.mem_cons_of_mem _ h)
  have hl : lv_has ls 2 [(0, .ref h0), (1, .ref q1)] := hl
  refine lv_aload_n hx hb dX7_takeItem_0 rfl (lv_at hl 0 rfl) ?_
  refine va_ldcS (tx := "place") (q := sa 0) hx hb hown (hN.2.2 (41, "place", 0) (by decide)) dX7_takeItem_1 ?_
  refine xc_Vr hF (c_X7_isWord l D cI cJ cZ cS ta sa sv s.heap.size h0 ab z s9 x9 v9 tk t9 by9 0 (by decide) (by omega) (by omega) (by omega) (by omega)) kv_X7_43 ⟨rfl, rfl, Nat.le_of_ble_eq_true rfl, Nat.le_of_ble_eq_true rfl⟩ ⟨Nat.le_of_ble_eq_true rfl, Nat.le_of_ble_eq_true rfl⟩ hK hN hZ hP hD hS hA [0, 1] rfl rfl 0 rfl rfl rfl rfl hl.1 rfl (Nat.le_of_ble_eq_true rfl) dX7_takeItem_3 (fun r_1 hw_r_1 => ?_)
  rcases hw_r_1 with rfl | rfl
  · skip
    refine lv_if_eq (tgt := 15) hx hb dX7_takeItem_6 (by decide) (fun c_2 => absurd c_2 (by decide)) (fun c_2 => ?_)
    refine lv_aload_n hx hb dX7_takeItem_9 rfl (lv_at hl 0 rfl) ?_
    refine lv_aload_n hx hb dX7_takeItem_10 rfl (lv_at hl 1 rfl) ?_
    refine xc_Vi (wr := [(bl, .inl (cI, 100, .inl lo)), (bu, .inl (cI, 100, .inl hg)), (bo, .inl (cI, 100, .inl d)), (bw, .inr (3, [.int (nI (cn)), .ref bWn, .ref bWp])), (bWn, .inl (cI, 8, .inl ln)), (bWp, .inl (cI, 48, .inl sp)), (btt, .inl (cI, 8, .inl to9)), (bss, .inl (cI, 8, .inl sl))]) hF (c_X7_takePlace l D cI cJ cZ cS ta sa sv s.heap.size h0 ab z s9 x9 v9 tk t9 by9 q1 be bl bu bo br bk bw btt bss P er (by omega) (by omega) (by omega) (by omega) (by omega)) kv_X7_47 ⟨rfl, rfl, Nat.le_of_ble_eq_true rfl, Nat.le_of_ble_eq_true rfl⟩ ⟨Nat.le_of_ble_eq_true rfl, Nat.le_of_ble_eq_true rfl⟩ hK hN hZ hP hD hS hA [0, 1, 2, 3] [4, 5, 6, 7, 8, 9, 10, 11] rfl rfl (by decide +kernel) (by decide +kernel) (by decide +kernel) 0 rfl rfl rfl rfl hl.1 rfl (Nat.le_of_ble_eq_true rfl) dX7_takeItem_11 (fun r_3 u_r_3 H locs hw_r_3 hP hD hS => ?_)
    obtain ⟨s2_4, x2_5, v2_6, tk2_7, t2_8, P2_9, e2_10⟩ := u_r_3
    try dsimp only at hw_r_3
    obtain ⟨hw_r_3, i_11, i_12, i_13, i_14⟩ := hw_r_3
    have hP : va_P D vwCl [(bl, .inl (cI, 100, .inl lo)), (bu, .inl (cI, 100, .inl hg)), (bo, .inl (cI, 100, .inl d)), (bw, .inr (3, [.int (nI (cn)), .ref bWn, .ref bWp])), (bWn, .inl (cI, 8, .inl ln)), (bWp, .inl (cI, 48, .inl sp)), (btt, .inl (cI, 8, .inl to9)), (bss, .inl (cI, 8, .inl sl)), (h0, .inr (7, [.int (nI (z)), .ref ab, .int tk2_7, .int (nI (s2_4)), .int (nI (x2_5)), .int (nI (v2_6)), .int t2_8])), (ab, .inl (cI, 120, .inl by9)), (q1, .inr (1, [.int (nI (P2_9)), .ref be, .ref bl, .ref bu, .ref bo, .ref br, .ref bk, .ref bw, .ref btt, .ref bss])), (be, .inl (cI, 10, .inl e2_10))] H := hP
    have hD : va_D A [(bl, .inl (cI, 100, .inl lo)), (bu, .inl (cI, 100, .inl hg)), (bo, .inl (cI, 100, .inl d)), (bw, .inr (3, [.int (nI (cn)), .ref bWn, .ref bWp])), (bWn, .inl (cI, 8, .inl ln)), (bWp, .inl (cI, 48, .inl sp)), (btt, .inl (cI, 8, .inl to9)), (bss, .inl (cI, 8, .inl sl)), (h0, .inr (7, [.int (nI (z)), .ref ab, .int tk2_7, .int (nI (s2_4)), .int (nI (x2_5)), .int (nI (v2_6)), .int t2_8])), (ab, .inl (cI, 120, .inl by9)), (q1, .inr (1, [.int (nI (P2_9)), .ref be, .ref bl, .ref bu, .ref bo, .ref br, .ref bk, .ref bw, .ref btt, .ref bss])), (be, .inl (cI, 10, .inl e2_10))] := hD
    rcases hw_r_3 with rfl | rfl
    · skip
      exact W.zret (v := 1) hx hb hr rfl (fun t ht hW => ⟨⟨1, (s2_4, x2_5, v2_6, tk2_7, t2_8, P2_9, cn, e2_10, lo, hg, d, ln, sp, to9, sl), rfl, ⟨(by first | exact Or.inl rfl), (by first | assumption | omega), (by first | assumption | omega), (by first | assumption | omega), (by first | assumption | omega), (by first | assumption | omega), (by first | assumption | omega), hln, hsp⟩, by rw [ht]; exact hP.sub [8, 9, 10, 11, 0, 1, 2, 3, 4, 5, 6, 7] rfl, hD.sub [8, 9, 10, 11, 0, 1, 2, 3, 4, 5, 6, 7] (by decide +kernel) rfl⟩, hS.F ht⟩) hS.2.2 dX7_takeItem_14 hlk
    · skip
      exact W.zret (v := 0) hx hb hr rfl (fun t ht hW => ⟨⟨0, (s2_4, x2_5, v2_6, tk2_7, t2_8, P2_9, cn, e2_10, lo, hg, d, ln, sp, to9, sl), rfl, ⟨(by first | exact Or.inr (rfl)), (by first | assumption | omega), (by first | assumption | omega), (by first | assumption | omega), (by first | assumption | omega), (by first | assumption | omega), (by first | assumption | omega), hln, hsp⟩, by rw [ht]; exact hP.sub [8, 9, 10, 11, 0, 1, 2, 3, 4, 5, 6, 7] rfl, hD.sub [8, 9, 10, 11, 0, 1, 2, 3, 4, 5, 6, 7] (by decide +kernel) rfl⟩, hS.F ht⟩) hS.2.2 dX7_takeItem_14 hlk
  · skip
    refine lv_if_eq (tgt := 15) hx hb dX7_takeItem_6 (by decide) (fun c_15 => ?_) (fun c_15 => absurd (by decide) c_15)
    refine lv_aload_n hx hb dX7_takeItem_15 rfl (lv_at hl 0 rfl) ?_
    refine va_ldcS (tx := "way") (q := sa 1) hx hb hown (hN.2.2 (50, "way", 1) (by decide)) dX7_takeItem_16 ?_
    refine xc_Vr hF (c_X7_isWord l D cI cJ cZ cS ta sa sv s.heap.size h0 ab z s9 x9 v9 tk t9 by9 1 (by decide) (by omega) (by omega) (by omega) (by omega)) kv_X7_43 ⟨rfl, rfl, Nat.le_of_ble_eq_true rfl, Nat.le_of_ble_eq_true rfl⟩ ⟨Nat.le_of_ble_eq_true rfl, Nat.le_of_ble_eq_true rfl⟩ hK hN hZ hP hD hS hA [0, 1] rfl rfl 0 rfl rfl rfl rfl hl.1 rfl (Nat.le_of_ble_eq_true rfl) dX7_takeItem_18 (fun r_16 hw_r_16 => ?_)
    rcases hw_r_16 with rfl | rfl
    · skip
      refine lv_if_eq (tgt := 30) hx hb dX7_takeItem_21 (by decide) (fun c_17 => absurd c_17 (by decide)) (fun c_17 => ?_)
      refine lv_aload_n hx hb dX7_takeItem_24 rfl (lv_at hl 0 rfl) ?_
      refine lv_aload_n hx hb dX7_takeItem_25 rfl (lv_at hl 1 rfl) ?_
      refine xc_Vi (wr := [(be, .inl (cI, 10, .inl er)), (bw, .inr (3, [.int (nI (cn)), .ref bWn, .ref bWp])), (bWn, .inl (cI, 8, .inl ln)), (bWp, .inl (cI, 48, .inl sp)), (btt, .inl (cI, 8, .inl to9)), (bss, .inl (cI, 8, .inl sl))]) hF (c_X7_takeWay l D cI cJ cZ cS ta sa sv s.heap.size h0 ab z s9 x9 v9 tk t9 by9 q1 be bl bu bo br bk bw btt bss P lo hg d (by omega) (by omega) (by omega) (by omega) (by omega)) kv_X7_52 ⟨rfl, rfl, Nat.le_of_ble_eq_true rfl, Nat.le_of_ble_eq_true rfl⟩ ⟨Nat.le_of_ble_eq_true rfl, Nat.le_of_ble_eq_true rfl⟩ hK hN hZ hP hD hS hA [0, 1, 2, 4, 5, 6] [3, 7, 8, 9, 10, 11] rfl rfl (by decide +kernel) (by decide +kernel) (by decide +kernel) 0 rfl rfl rfl rfl hl.1 rfl (Nat.le_of_ble_eq_true rfl) dX7_takeItem_26 (fun r_18 u_r_18 H locs hw_r_18 hP hD hS => ?_)
      obtain ⟨s2_19, x2_20, v2_21, tk2_22, t2_23, l2_24, u2_25, d2_26⟩ := u_r_18
      try dsimp only at hw_r_18
      obtain ⟨hw_r_18, i_27, i_28, i_29⟩ := hw_r_18
      have hP : va_P D vwCl [(be, .inl (cI, 10, .inl er)), (bw, .inr (3, [.int (nI (cn)), .ref bWn, .ref bWp])), (bWn, .inl (cI, 8, .inl ln)), (bWp, .inl (cI, 48, .inl sp)), (btt, .inl (cI, 8, .inl to9)), (bss, .inl (cI, 8, .inl sl)), (h0, .inr (7, [.int (nI (z)), .ref ab, .int tk2_22, .int (nI (s2_19)), .int (nI (x2_20)), .int (nI (v2_21)), .int t2_23])), (ab, .inl (cI, 120, .inl by9)), (q1, .inr (1, [.int (nI (P)), .ref be, .ref bl, .ref bu, .ref bo, .ref br, .ref bk, .ref bw, .ref btt, .ref bss])), (bl, .inl (cI, 100, .inl l2_24)), (bu, .inl (cI, 100, .inl u2_25)), (bo, .inl (cI, 100, .inl d2_26))] H := hP
      have hD : va_D A [(be, .inl (cI, 10, .inl er)), (bw, .inr (3, [.int (nI (cn)), .ref bWn, .ref bWp])), (bWn, .inl (cI, 8, .inl ln)), (bWp, .inl (cI, 48, .inl sp)), (btt, .inl (cI, 8, .inl to9)), (bss, .inl (cI, 8, .inl sl)), (h0, .inr (7, [.int (nI (z)), .ref ab, .int tk2_22, .int (nI (s2_19)), .int (nI (x2_20)), .int (nI (v2_21)), .int t2_23])), (ab, .inl (cI, 120, .inl by9)), (q1, .inr (1, [.int (nI (P)), .ref be, .ref bl, .ref bu, .ref bo, .ref br, .ref bk, .ref bw, .ref btt, .ref bss])), (bl, .inl (cI, 100, .inl l2_24)), (bu, .inl (cI, 100, .inl u2_25)), (bo, .inl (cI, 100, .inl d2_26))] := hD
      rcases hw_r_18 with rfl | rfl
      · skip
        exact W.zret (v := 1) hx hb hr rfl (fun t ht hW => ⟨⟨1, (s2_19, x2_20, v2_21, tk2_22, t2_23, P, cn, er, l2_24, u2_25, d2_26, ln, sp, to9, sl), rfl, ⟨(by first | exact Or.inl rfl), (by first | assumption | omega), (by first | assumption | omega), (by first | assumption | omega), (by first | assumption | omega), (by first | assumption | omega), (by first | assumption | omega), hln, hsp⟩, by rw [ht]; exact hP.sub [6, 7, 8, 0, 9, 10, 11, 1, 2, 3, 4, 5] rfl, hD.sub [6, 7, 8, 0, 9, 10, 11, 1, 2, 3, 4, 5] (by decide +kernel) rfl⟩, hS.F ht⟩) hS.2.2 dX7_takeItem_29 hlk
      · skip
        exact W.zret (v := 0) hx hb hr rfl (fun t ht hW => ⟨⟨0, (s2_19, x2_20, v2_21, tk2_22, t2_23, P, cn, er, l2_24, u2_25, d2_26, ln, sp, to9, sl), rfl, ⟨(by first | exact Or.inr (rfl)), (by first | assumption | omega), (by first | assumption | omega), (by first | assumption | omega), (by first | assumption | omega), (by first | assumption | omega), (by first | assumption | omega), hln, hsp⟩, by rw [ht]; exact hP.sub [6, 7, 8, 0, 9, 10, 11, 1, 2, 3, 4, 5] rfl, hD.sub [6, 7, 8, 0, 9, 10, 11, 1, 2, 3, 4, 5] (by decide +kernel) rfl⟩, hS.F ht⟩) hS.2.2 dX7_takeItem_29 hlk
    · skip
      refine lv_if_eq (tgt := 30) hx hb dX7_takeItem_21 (by decide) (fun c_30 => ?_) (fun c_30 => absurd (by decide) c_30)
      refine lv_aload_n hx hb dX7_takeItem_30 rfl (lv_at hl 0 rfl) ?_
      refine va_ldcS (tx := "walk") (q := sa 2) hx hb hown (hN.2.2 (55, "walk", 2) (by decide)) dX7_takeItem_31 ?_
      refine xc_Vr hF (c_X7_isWord l D cI cJ cZ cS ta sa sv s.heap.size h0 ab z s9 x9 v9 tk t9 by9 2 (by decide) (by omega) (by omega) (by omega) (by omega)) kv_X7_43 ⟨rfl, rfl, Nat.le_of_ble_eq_true rfl, Nat.le_of_ble_eq_true rfl⟩ ⟨Nat.le_of_ble_eq_true rfl, Nat.le_of_ble_eq_true rfl⟩ hK hN hZ hP hD hS hA [0, 1] rfl rfl 0 rfl rfl rfl rfl hl.1 rfl (Nat.le_of_ble_eq_true rfl) dX7_takeItem_33 (fun r_31 hw_r_31 => ?_)
      rcases hw_r_31 with rfl | rfl
      · skip
        refine lv_if_eq (tgt := 51) hx hb dX7_takeItem_36 (by decide) (fun c_32 => absurd c_32 (by decide)) (fun c_32 => ?_)
        refine lv_aload_n hx hb dX7_takeItem_39 rfl (lv_at hl 0 rfl) ?_
        refine lv_aload_n hx hb dX7_takeItem_40 rfl (lv_at hl 1 rfl) ?_
        refine xc_Vi (wr := [(be, .inl (cI, 10, .inl er)), (bl, .inl (cI, 100, .inl lo)), (bu, .inl (cI, 100, .inl hg)), (bo, .inl (cI, 100, .inl d))]) hF (c_X7_takeWalk l D cI cJ cZ cS ta sa sv s.heap.size h0 ab z s9 x9 v9 tk t9 by9 q1 be bl bu bo br bk bw btt bss P bWn bWp cn ln sp to9 sl (by omega) (by omega) (by omega) (by omega) (by omega) (by omega) (by omega) hln hsp) kv_X7_57 ⟨rfl, rfl, Nat.le_of_ble_eq_true rfl, Nat.le_of_ble_eq_true rfl⟩ ⟨Nat.le_of_ble_eq_true rfl, Nat.le_of_ble_eq_true rfl⟩ hK hN hZ hP hD hS hA [0, 1, 2, 7, 8, 9, 10, 11] [3, 4, 5, 6] rfl rfl (by decide +kernel) (by decide +kernel) (by decide +kernel) 0 rfl rfl rfl rfl hl.1 rfl (Nat.le_of_ble_eq_true rfl) dX7_takeItem_41 (fun r_33 u_r_33 H locs hw_r_33 hP hD hS => ?_)
        obtain ⟨s2_34, x2_35, v2_36, tk2_37, t2_38, cn2_39, l2_40, p2_41, t3_42, z3_43⟩ := u_r_33
        try dsimp only at hw_r_33
        obtain ⟨hw_r_33, i_44, i_45, i_46, i_47, i_48, i_49, i_50⟩ := hw_r_33
        have hP : va_P D vwCl [(be, .inl (cI, 10, .inl er)), (bl, .inl (cI, 100, .inl lo)), (bu, .inl (cI, 100, .inl hg)), (bo, .inl (cI, 100, .inl d)), (h0, .inr (7, [.int (nI (z)), .ref ab, .int tk2_37, .int (nI (s2_34)), .int (nI (x2_35)), .int (nI (v2_36)), .int t2_38])), (ab, .inl (cI, 120, .inl by9)), (q1, .inr (1, [.int (nI (P)), .ref be, .ref bl, .ref bu, .ref bo, .ref br, .ref bk, .ref bw, .ref btt, .ref bss])), (bw, .inr (3, [.int (nI (cn2_39)), .ref bWn, .ref bWp])), (bWn, .inl (cI, 8, .inl l2_40)), (bWp, .inl (cI, 48, .inl p2_41)), (btt, .inl (cI, 8, .inl t3_42)), (bss, .inl (cI, 8, .inl z3_43))] H := hP
        have hD : va_D A [(be, .inl (cI, 10, .inl er)), (bl, .inl (cI, 100, .inl lo)), (bu, .inl (cI, 100, .inl hg)), (bo, .inl (cI, 100, .inl d)), (h0, .inr (7, [.int (nI (z)), .ref ab, .int tk2_37, .int (nI (s2_34)), .int (nI (x2_35)), .int (nI (v2_36)), .int t2_38])), (ab, .inl (cI, 120, .inl by9)), (q1, .inr (1, [.int (nI (P)), .ref be, .ref bl, .ref bu, .ref bo, .ref br, .ref bk, .ref bw, .ref btt, .ref bss])), (bw, .inr (3, [.int (nI (cn2_39)), .ref bWn, .ref bWp])), (bWn, .inl (cI, 8, .inl l2_40)), (bWp, .inl (cI, 48, .inl p2_41)), (btt, .inl (cI, 8, .inl t3_42)), (bss, .inl (cI, 8, .inl z3_43))] := hD
        rcases hw_r_33 with rfl | rfl
        · skip
          refine lv_if_eq (tgt := 51) hx hb dX7_takeItem_44 (by decide) (fun c_51 => absurd c_51 (by decide)) (fun c_51 => ?_)
          refine lv_iconst (v := 1) hx hb dX7_takeItem_47 (by decide) ?_
          refine lv_goto (tgt := 52) hx hb dX7_takeItem_48 (by decide) ?_
          exact W.zret (v := 1) hx hb hr rfl (fun t ht hW => ⟨⟨1, (s2_34, x2_35, v2_36, tk2_37, t2_38, P, cn2_39, er, lo, hg, d, l2_40, p2_41, t3_42, z3_43), rfl, ⟨(by first | exact Or.inl rfl), (by first | assumption | omega), (by first | assumption | omega), (by first | assumption | omega), (by first | assumption | omega), (by first | assumption | omega), (by first | assumption | omega), i_49, i_50⟩, by rw [ht]; exact hP.sub [4, 5, 6, 0, 1, 2, 3, 7, 8, 9, 10, 11] rfl, hD.sub [4, 5, 6, 0, 1, 2, 3, 7, 8, 9, 10, 11] (by decide +kernel) rfl⟩, hS.F ht⟩) hS.2.2 dX7_takeItem_52 hlk
        · skip
          refine lv_if_eq (tgt := 51) hx hb dX7_takeItem_44 (by decide) (fun c_52 => ?_) (fun c_52 => absurd (by decide) c_52)
          refine lv_iconst (v := 0) hx hb dX7_takeItem_51 (by decide) ?_
          exact W.zret (v := 0) hx hb hr rfl (fun t ht hW => ⟨⟨0, (s2_34, x2_35, v2_36, tk2_37, t2_38, P, cn2_39, er, lo, hg, d, l2_40, p2_41, t3_42, z3_43), rfl, ⟨(by first | exact Or.inr (rfl)), (by first | assumption | omega), (by first | assumption | omega), (by first | assumption | omega), (by first | assumption | omega), (by first | assumption | omega), (by first | assumption | omega), i_49, i_50⟩, by rw [ht]; exact hP.sub [4, 5, 6, 0, 1, 2, 3, 7, 8, 9, 10, 11] rfl, hD.sub [4, 5, 6, 0, 1, 2, 3, 7, 8, 9, 10, 11] (by decide +kernel) rfl⟩, hS.F ht⟩) hS.2.2 dX7_takeItem_52 hlk
      · skip
        refine lv_if_eq (tgt := 51) hx hb dX7_takeItem_36 (by decide) (fun c_53 => ?_) (fun c_53 => absurd (by decide) c_53)
        refine lv_iconst (v := 0) hx hb dX7_takeItem_51 (by decide) ?_
        exact W.zret (v := 0) hx hb hr rfl (fun t ht hW => ⟨⟨0, (s9, x9, v9, tk, t9, P, cn, er, lo, hg, d, ln, sp, to9, sl), rfl, ⟨(by first | exact Or.inr (rfl)), (by first | assumption | omega), (by first | assumption | omega), (by first | assumption | omega), (by first | assumption | omega), (by first | assumption | omega), (by first | assumption | omega), hln, hsp⟩, by rw [ht]; exact hP.sub [0, 1, 2, 3, 4, 5, 6, 7, 8, 9, 10, 11] rfl, hD.sub [0, 1, 2, 3, 4, 5, 6, 7, 8, 9, 10, 11] (by decide +kernel) rfl⟩, hS.F ht⟩) hS.2.2 dX7_takeItem_52 hlk
set_option maxHeartbeats 4000000 in
set_option maxRecDepth 100000 in
theorem c_X7_tellTo (l : Launch) (D : va_G) (cI cJ cZ cS : ClassId) (ta : Nat) (sa sv : Nat → Nat) (sz : Nat) (h0 : Nat) (ab : Nat) (z : Nat) (s9 : Nat) (x9 : Nat) (v9 : Nat) (tk : Int32) (t9 : Int32) (by9 : Nat → Int32) (q1 : Nat) (be : Nat) (bl : Nat) (bu : Nat) (bo : Nat) (br : Nat) (bk : Nat) (bw : Nat) (btt : Nat) (bss : Nat) (P : Nat) (bWn : Nat) (bWp : Nat) (cn : Nat) (er : Nat → Int32) (lo : Nat → Int32) (hg : Nat → Int32) (d : Nat → Int32) (ln : Nat → Int32) (sp : Nat → Int32) (to9 : Nat → Int32) (sl : Nat → Int32) (hz : z ≤ 120) (hP0 : P ≤ 10) (hc : cn ≤ 8) (hLL : LL cn ln) (hln : BA 8 7 ln) (hsp : BA 48 10 sp) : Met l yX7_tellTo (Cond.code yX7_tellTo cX7_tellTo 3 (some .int) :: wsU) ({ frames := 8, cells := 0, slots := 0, locals := 174 }) (va_Pc [.ref h0, .ref q1] (XW D (xT cI cJ cZ cS) ta sa sv [(h0, .inr (7, [.int (nI (z)), .ref ab, .int tk, .int (nI (s9)), .int (nI (x9)), .int (nI (v9)), .int t9])), (ab, .inl (cI, 120, .inl by9)), (q1, .inr (1, [.int (nI (P)), .ref be, .ref bl, .ref bu, .ref bo, .ref br, .ref bk, .ref bw, .ref btt, .ref bss])), (be, .inl (cI, 10, .inl er)), (bl, .inl (cI, 100, .inl lo)), (bu, .inl (cI, 100, .inl hg)), (bo, .inl (cI, 100, .inl d)), (bw, .inr (3, [.int (nI (cn)), .ref bWn, .ref bWp])), (bWn, .inl (cI, 8, .inl ln)), (bWp, .inl (cI, 48, .inl sp)), (btt, .inl (cI, 8, .inl to9)), (bss, .inl (cI, 8, .inl sl))] sz)) (XQi (fun (r : Int32) (u : Nat × Nat × Nat × Int32 × Int32 × Nat × Nat × (Nat → Int32) × (Nat → Int32) × (Nat → Int32) × (Nat → Int32) × (Nat → Int32) × (Nat → Int32) × (Nat → Int32) × (Nat → Int32)) => match u with | (s2, x2, v2, tk2, t2, P2, cn2, e2, l2, u2, d2, n2, p2, t3, z3) => (True) ∧ (s2 ≤ x2) ∧ (x2 ≤ z) ∧ (v2 ≤ 10000) ∧ (P2 ≤ 10) ∧ (cn2 ≤ 8) ∧ (LL cn2 n2) ∧ (BA 8 7 n2) ∧ (BA 48 10 p2)) D (fun (u : Nat × Nat × Nat × Int32 × Int32 × Nat × Nat × (Nat → Int32) × (Nat → Int32) × (Nat → Int32) × (Nat → Int32) × (Nat → Int32) × (Nat → Int32) × (Nat → Int32) × (Nat → Int32)) => match u with | (s2, x2, v2, tk2, t2, P2, cn2, e2, l2, u2, d2, n2, p2, t3, z3) => [(h0, .inr (7, [.int (nI (z)), .ref ab, .int tk2, .int (nI (s2)), .int (nI (x2)), .int (nI (v2)), .int t2])), (ab, .inl (cI, 120, .inl by9)), (q1, .inr (1, [.int (nI (P2)), .ref be, .ref bl, .ref bu, .ref bo, .ref br, .ref bk, .ref bw, .ref btt, .ref bss])), (be, .inl (cI, 10, .inl e2)), (bl, .inl (cI, 100, .inl l2)), (bu, .inl (cI, 100, .inl u2)), (bo, .inl (cI, 100, .inl d2)), (bw, .inr (3, [.int (nI (cn2)), .ref bWn, .ref bWp])), (bWn, .inl (cI, 8, .inl n2)), (bWp, .inl (cI, 48, .inl p2)), (btt, .inl (cI, 8, .inl t3)), (bss, .inl (cI, 8, .inl z3))]) (va_A [(h0, .inr (7, [.int (nI (z)), .ref ab, .int tk, .int (nI (s9)), .int (nI (x9)), .int (nI (v9)), .int t9])), (ab, .inl (cI, 120, .inl by9)), (q1, .inr (1, [.int (nI (P)), .ref be, .ref bl, .ref bu, .ref bo, .ref br, .ref bk, .ref bw, .ref btt, .ref bss])), (be, .inl (cI, 10, .inl er)), (bl, .inl (cI, 100, .inl lo)), (bu, .inl (cI, 100, .inl hg)), (bo, .inl (cI, 100, .inl d)), (bw, .inr (3, [.int (nI (cn)), .ref bWn, .ref bWp])), (bWn, .inl (cI, 8, .inl ln)), (bWp, .inl (cI, 48, .inl sp)), (btt, .inl (cI, 8, .inl to9)), (bss, .inl (cI, 8, .inl sl))] sz)) 0 0 (va_A [(h0, .inr (7, [.int (nI (z)), .ref ab, .int tk, .int (nI (s9)), .int (nI (x9)), .int (nI (v9)), .int t9])), (ab, .inl (cI, 120, .inl by9)), (q1, .inr (1, [.int (nI (P)), .ref be, .ref bl, .ref bu, .ref bo, .ref br, .ref bk, .ref bw, .ref btt, .ref bss])), (be, .inl (cI, 10, .inl er)), (bl, .inl (cI, 100, .inl lo)), (bu, .inl (cI, 100, .inl hg)), (bo, .inl (cI, 100, .inl d)), (bw, .inr (3, [.int (nI (cn)), .ref bWn, .ref bWp])), (bWn, .inl (cI, 8, .inl ln)), (bWp, .inl (cI, 48, .inl sp)), (btt, .inl (cI, 8, .inl to9)), (bss, .inl (cI, 8, .inl sl))] sz) := by
  refine xh (QA := fun A => XQi (fun (r : Int32) (u : Nat × Nat × Nat × Int32 × Int32 × Nat × Nat × (Nat → Int32) × (Nat → Int32) × (Nat → Int32) × (Nat → Int32) × (Nat → Int32) × (Nat → Int32) × (Nat → Int32) × (Nat → Int32)) => match u with | (s2, x2, v2, tk2, t2, P2, cn2, e2, l2, u2, d2, n2, p2, t3, z3) => (True) ∧ (s2 ≤ x2) ∧ (x2 ≤ z) ∧ (v2 ≤ 10000) ∧ (P2 ≤ 10) ∧ (cn2 ≤ 8) ∧ (LL cn2 n2) ∧ (BA 8 7 n2) ∧ (BA 48 10 p2)) D (fun (u : Nat × Nat × Nat × Int32 × Int32 × Nat × Nat × (Nat → Int32) × (Nat → Int32) × (Nat → Int32) × (Nat → Int32) × (Nat → Int32) × (Nat → Int32) × (Nat → Int32) × (Nat → Int32)) => match u with | (s2, x2, v2, tk2, t2, P2, cn2, e2, l2, u2, d2, n2, p2, t3, z3) => [(h0, .inr (7, [.int (nI (z)), .ref ab, .int tk2, .int (nI (s2)), .int (nI (x2)), .int (nI (v2)), .int t2])), (ab, .inl (cI, 120, .inl by9)), (q1, .inr (1, [.int (nI (P2)), .ref be, .ref bl, .ref bu, .ref bo, .ref br, .ref bk, .ref bw, .ref btt, .ref bss])), (be, .inl (cI, 10, .inl e2)), (bl, .inl (cI, 100, .inl l2)), (bu, .inl (cI, 100, .inl u2)), (bo, .inl (cI, 100, .inl d2)), (bw, .inr (3, [.int (nI (cn2)), .ref bWn, .ref bWp])), (bWn, .inl (cI, 8, .inl n2)), (bWp, .inl (cI, 48, .inl p2)), (btt, .inl (cI, 8, .inl t3)), (bss, .inl (cI, 8, .inl z3))]) A) (fr := fun A => A) (by decide) (Nat.le_of_ble_eq_true rfl) ?_
  intro p e s m below meth c ls A hF hr hlk hin hsz hP hK hD hN hZ hA hS hl
  have hF : CallFix p m c cX7_tellTo 3 s _ _ RX7 := hF
  have hx := hF.1
  have hb := hF.2.1
  have hml := hF.2.2.1
  have hown := hF.2.2.2.1
  have hu : ∀ w ∈ wsU, w.before _ s = true := fun w h => hF.2.2.2.2 w (List.mem_cons_of_mem _ h)
  have hl : lv_has ls 3 [(0, .ref h0), (1, .ref q1)] := hl
  refine lv_aload_n hx hb dX7_tellTo_0 rfl (lv_at hl 0 rfl) ?_
  refine lv_iconst (v := 0) hx hb dX7_tellTo_1 (by decide) ?_
  refine xp hF kf_X7_25 tyX7_ok nmX7 hK hP hD hS 0 rfl rfl rfl rfl (Nat.le_of_ble_eq_true rfl) dX7_tellTo_2 (fun H locs hP hD hS => ?_)
  have hP : va_P D vwCl [(h0, .inr (7, [.int (nI (z)), .ref ab, .int tk, .int (nI (s9)), .int 0, .int (nI (v9)), .int t9])), (ab, .inl (cI, 120, .inl by9)), (q1, .inr (1, [.int (nI (P)), .ref be, .ref bl, .ref bu, .ref bo, .ref br, .ref bk, .ref bw, .ref btt, .ref bss])), (be, .inl (cI, 10, .inl er)), (bl, .inl (cI, 100, .inl lo)), (bu, .inl (cI, 100, .inl hg)), (bo, .inl (cI, 100, .inl d)), (bw, .inr (3, [.int (nI (cn)), .ref bWn, .ref bWp])), (bWn, .inl (cI, 8, .inl ln)), (bWp, .inl (cI, 48, .inl sp)), (btt, .inl (cI, 8, .inl to9)), (bss, .inl (cI, 8, .inl sl))] H := hP
  have hD : va_D A [(h0, .inr (7, [.int (nI (z)), .ref ab, .int tk, .int (nI (s9)), .int 0, .int (nI (v9)), .int t9])), (ab, .inl (cI, 120, .inl by9)), (q1, .inr (1, [.int (nI (P)), .ref be, .ref bl, .ref bu, .ref bo, .ref br, .ref bk, .ref bw, .ref btt, .ref bss])), (be, .inl (cI, 10, .inl er)), (bl, .inl (cI, 100, .inl lo)), (bu, .inl (cI, 100, .inl hg)), (bo, .inl (cI, 100, .inl d)), (bw, .inr (3, [.int (nI (cn)), .ref bWn, .ref bWp])), (bWn, .inl (cI, 8, .inl ln)), (bWp, .inl (cI, 48, .inl sp)), (btt, .inl (cI, 8, .inl to9)), (bss, .inl (cI, 8, .inl sl))] := hD
  refine lv_aload_n hx hb dX7_tellTo_5 rfl (lv_at hl 0 rfl) ?_
  refine xc_Vv (wr := [(q1, .inr (1, [.int (nI (P)), .ref be, .ref bl, .ref bu, .ref bo, .ref br, .ref bk, .ref bw, .ref btt, .ref bss])), (be, .inl (cI, 10, .inl er)), (bl, .inl (cI, 100, .inl lo)), (bu, .inl (cI, 100, .inl hg)), (bo, .inl (cI, 100, .inl d)), (bw, .inr (3, [.int (nI (cn)), .ref bWn, .ref bWp])), (bWn, .inl (cI, 8, .inl ln)), (bWp, .inl (cI, 48, .inl sp)), (btt, .inl (cI, 8, .inl to9)), (bss, .inl (cI, 8, .inl sl))]) hF (c_X7_step l D cI cJ cZ cS ta sa sv H.size h0 ab z s9 0 v9 tk t9 by9 (by omega) (by omega)) kv_X7_34 ⟨rfl, rfl, Nat.le_of_ble_eq_true rfl, Nat.le_of_ble_eq_true rfl⟩ ⟨Nat.le_of_ble_eq_true rfl, Nat.le_of_ble_eq_true rfl⟩ hK hN hZ hP hD hS hA [0, 1] [2, 3, 4, 5, 6, 7, 8, 9, 10, 11] rfl rfl rfl (by decide +kernel) (by decide +kernel) 0 rfl rfl rfl rfl hl.1 rfl (Nat.le_of_ble_eq_true rfl) dX7_tellTo_6 (fun u_r_1 H locs hw_r_1 hP hD hS => ?_)
  obtain ⟨s2_2, x2_3, v2_4, tk2_5⟩ := u_r_1
  try dsimp only at hw_r_1
  obtain ⟨i_6, i_7, i_8⟩ := hw_r_1
  have hP : va_P D vwCl [(q1, .inr (1, [.int (nI (P)), .ref be, .ref bl, .ref bu, .ref bo, .ref br, .ref bk, .ref bw, .ref btt, .ref bss])), (be, .inl (cI, 10, .inl er)), (bl, .inl (cI, 100, .inl lo)), (bu, .inl (cI, 100, .inl hg)), (bo, .inl (cI, 100, .inl d)), (bw, .inr (3, [.int (nI (cn)), .ref bWn, .ref bWp])), (bWn, .inl (cI, 8, .inl ln)), (bWp, .inl (cI, 48, .inl sp)), (btt, .inl (cI, 8, .inl to9)), (bss, .inl (cI, 8, .inl sl)), (h0, .inr (7, [.int (nI (z)), .ref ab, .int tk2_5, .int (nI (s2_2)), .int (nI (x2_3)), .int (nI (v2_4)), .int t9])), (ab, .inl (cI, 120, .inl by9))] H := hP
  have hD : va_D A [(q1, .inr (1, [.int (nI (P)), .ref be, .ref bl, .ref bu, .ref bo, .ref br, .ref bk, .ref bw, .ref btt, .ref bss])), (be, .inl (cI, 10, .inl er)), (bl, .inl (cI, 100, .inl lo)), (bu, .inl (cI, 100, .inl hg)), (bo, .inl (cI, 100, .inl d)), (bw, .inr (3, [.int (nI (cn)), .ref bWn, .ref bWp])), (bWn, .inl (cI, 8, .inl ln)), (bWp, .inl (cI, 48, .inl sp)), (btt, .inl (cI, 8, .inl to9)), (bss, .inl (cI, 8, .inl sl)), (h0, .inr (7, [.int (nI (z)), .ref ab, .int tk2_5, .int (nI (s2_2)), .int (nI (x2_3)), .int (nI (v2_4)), .int t9])), (ab, .inl (cI, 120, .inl by9))] := hD
  refine lv_iconst (v := 1) hx hb dX7_tellTo_9 (by decide) ?_
  refine lv_istore_n (lv' := [(2, .int 1), (0, .ref h0), (1, .ref q1)]) hx hb dX7_tellTo_10 rfl hl (by decide) rfl (fun ls hl => ?_)
  suffices loop_11 : ∀ (n_11 : Nat) (i : Nat) (s8 : Nat) (x8 : Nat) (v8 : Nat) (tk8 : Int32) (t8 : Int32) (P8 : Nat) (cn8 : Nat) (e8 : Nat → Int32) (l8 : Nat → Int32) (u8 : Nat → Int32) (d8 : Nat → Int32) (ln8 : Nat → Int32) (sp8 : Nat → Int32) (to8 : Nat → Int32) (sl8 : Nat → Int32) (H : Heap) (locs : List Loc) (ls : Array Slot), 121 - i < n_11 → (i ≤ 121) → (s8 ≤ x8) → (x8 ≤ z) → (v8 ≤ 10000) → (P8 ≤ 10) → (cn8 ≤ 8) → (LL cn8 ln8) → (BA 8 7 ln8) → (BA 48 10 sp8) → va_P D vwCl [(q1, .inr (1, [.int (nI (P8)), .ref be, .ref bl, .ref bu, .ref bo, .ref br, .ref bk, .ref bw, .ref btt, .ref bss])), (be, .inl (cI, 10, .inl e8)), (bl, .inl (cI, 100, .inl l8)), (bu, .inl (cI, 100, .inl u8)), (bo, .inl (cI, 100, .inl d8)), (bw, .inr (3, [.int (nI (cn8)), .ref bWn, .ref bWp])), (bWn, .inl (cI, 8, .inl ln8)), (bWp, .inl (cI, 48, .inl sp8)), (btt, .inl (cI, 8, .inl to8)), (bss, .inl (cI, 8, .inl sl8)), (h0, .inr (7, [.int (nI (z)), .ref ab, .int tk8, .int (nI (s8)), .int (nI (x8)), .int (nI (v8)), .int t8])), (ab, .inl (cI, 120, .inl by9))] H → va_D A [(q1, .inr (1, [.int (nI (P8)), .ref be, .ref bl, .ref bu, .ref bo, .ref br, .ref bk, .ref bw, .ref btt, .ref bss])), (be, .inl (cI, 10, .inl e8)), (bl, .inl (cI, 100, .inl l8)), (bu, .inl (cI, 100, .inl u8)), (bo, .inl (cI, 100, .inl d8)), (bw, .inr (3, [.int (nI (cn8)), .ref bWn, .ref bWp])), (bWn, .inl (cI, 8, .inl ln8)), (bWp, .inl (cI, 48, .inl sp8)), (btt, .inl (cI, 8, .inl to8)), (bss, .inl (cI, 8, .inl sl8)), (h0, .inr (7, [.int (nI (z)), .ref ab, .int tk8, .int (nI (s8)), .int (nI (x8)), .int (nI (v8)), .int t8])), (ab, .inl (cI, 120, .inl by9))] → va_S A s.heap H locs → lv_has ls 3 [(2, .int (nI (i))), (0, .ref h0), (1, .ref q1)] → W p l e ({ frames := 8, cells := 0, slots := 0, locals := 174 }) s m ([.ref h0, .ref q1] : List Value).toArray below meth c H locs 0 0 (MQ below (XQi (fun (r : Int32) (u : Nat × Nat × Nat × Int32 × Int32 × Nat × Nat × (Nat → Int32) × (Nat → Int32) × (Nat → Int32) × (Nat → Int32) × (Nat → Int32) × (Nat → Int32) × (Nat → Int32) × (Nat → Int32)) => match u with | (s2, x2, v2, tk2, t2, P2, cn2, e2, l2, u2, d2, n2, p2, t3, z3) => (True) ∧ (s2 ≤ x2) ∧ (x2 ≤ z) ∧ (v2 ≤ 10000) ∧ (P2 ≤ 10) ∧ (cn2 ≤ 8) ∧ (LL cn2 n2) ∧ (BA 8 7 n2) ∧ (BA 48 10 p2)) D (fun (u : Nat × Nat × Nat × Int32 × Int32 × Nat × Nat × (Nat → Int32) × (Nat → Int32) × (Nat → Int32) × (Nat → Int32) × (Nat → Int32) × (Nat → Int32) × (Nat → Int32) × (Nat → Int32)) => match u with | (s2, x2, v2, tk2, t2, P2, cn2, e2, l2, u2, d2, n2, p2, t3, z3) => [(h0, .inr (7, [.int (nI (z)), .ref ab, .int tk2, .int (nI (s2)), .int (nI (x2)), .int (nI (v2)), .int t2])), (ab, .inl (cI, 120, .inl by9)), (q1, .inr (1, [.int (nI (P2)), .ref be, .ref bl, .ref bu, .ref bo, .ref br, .ref bk, .ref bw, .ref btt, .ref bss])), (be, .inl (cI, 10, .inl e2)), (bl, .inl (cI, 100, .inl l2)), (bu, .inl (cI, 100, .inl u2)), (bo, .inl (cI, 100, .inl d2)), (bw, .inr (3, [.int (nI (cn2)), .ref bWn, .ref bWp])), (bWn, .inl (cI, 8, .inl n2)), (bWp, .inl (cI, 48, .inl p2)), (btt, .inl (cI, 8, .inl t3)), (bss, .inl (cI, 8, .inl z3))]) A) ([.ref h0, .ref q1] : List Value).toArray s 0 0 A) (F0 m 11 ls []) by
    exact loop_11 _ 1 s2_2 x2_3 v2_4 tk2_5 t9 P cn er lo hg d ln sp to9 sl _ _ _ (Nat.lt_succ_self _) (by omega) (by omega) (by omega) (by omega) (by omega) (by omega) hLL hln hsp hP hD hS (lv_sub hl [0, 1, 2] rfl)
  intro n_11
  induction n_11 with
  | zero =>
    intro i s8 x8 v8 tk8 t8 P8 cn8 e8 l8 u8 d8 ln8 sp8 to8 sl8 H locs ls hm_11
    exact absurd hm_11 (Nat.not_lt_zero _)
  | succ n_11 ih_11 =>
    intro i s8 x8 v8 tk8 t8 P8 cn8 e8 l8 u8 d8 ln8 sp8 to8 sl8 H locs ls hm_11 hi2 h81 h82 h83 h84 h85 hLL8 hln8 hsp8 hP hD hS hl
    refine lv_iload_n hx hb dX7_tellTo_11 rfl (lv_at hl 0 rfl) ?_
    refine lv_bipush (v := 120) hx hb dX7_tellTo_12 (by decide) ?_
    refine lv_icmp_gt (tgt := 66) hx hb dX7_tellTo_14 (by decide) (fun c_9 => ?_) (fun c_9 => ?_)
    · skip
      have nc_9 : 120 < i := xn_lt (a := 120) (b := i) (by omega) (by omega) c_9
      refine lv_iconst (v := (-1)) hx hb dX7_tellTo_66 (by decide) ?_
      refine lv_aload_n hx hb dX7_tellTo_67 rfl (lv_at hl 1 rfl) ?_
      refine xg hF kf_X7_22 hK hP 10 rfl rfl dX7_tellTo_68 ?_
      refine lv_isub hx hb dX7_tellTo_71 ?_
      refine lv_topi (fun x_10 ex_10 => ?_)
      exact W.iret (v := x_10) hx hb hr (fun t ht hW => ⟨⟨x_10, (s8, x8, v8, tk8, t8, P8, cn8, e8, l8, u8, d8, ln8, sp8, to8, sl8), rfl, ⟨trivial, (by first | assumption | omega), (by first | assumption | omega), (by first | assumption | omega), (by first | assumption | omega), (by first | assumption | omega), (by first | assumption | omega), hln8, hsp8⟩, by rw [ht]; exact hP.sub [10, 11, 0, 1, 2, 3, 4, 5, 6, 7, 8, 9] rfl, hD.sub [10, 11, 0, 1, 2, 3, 4, 5, 6, 7, 8, 9] (by decide +kernel) rfl⟩, hS.F ht⟩) hS.2.2 dX7_tellTo_72 hlk
    · skip
      have nc_9 : i ≤ 120 := xn_nlt (a := 120) (b := i) (by omega) (by omega) c_9
      refine lv_aload_n hx hb dX7_tellTo_17 rfl (lv_at hl 1 rfl) ?_
      refine lv_aload_n hx hb dX7_tellTo_18 rfl (lv_at hl 2 rfl) ?_
      refine xc_Vi (wr := []) hF (c_X7_takeItem l D cI cJ cZ cS ta sa sv H.size h0 ab z s8 x8 v8 tk8 t8 by9 q1 be bl bu bo br bk bw btt bss P8 bWn bWp cn8 e8 l8 u8 d8 ln8 sp8 to8 sl8 (by omega) (by omega) (by omega) (by omega) (by omega) (by omega) (by omega) hln8 hsp8) kv_X7_37 ⟨rfl, rfl, Nat.le_of_ble_eq_true rfl, Nat.le_of_ble_eq_true rfl⟩ ⟨Nat.le_of_ble_eq_true rfl, Nat.le_of_ble_eq_true rfl⟩ hK hN hZ hP hD hS hA [10, 11, 0, 1, 2, 3, 4, 5, 6, 7, 8, 9] [] rfl rfl (by decide +kernel) rfl (by decide +kernel) 0 rfl rfl rfl rfl hl.1 rfl (Nat.le_of_ble_eq_true rfl) dX7_tellTo_19 (fun r_11 u_r_11 H locs hw_r_11 hP hD hS => ?_)
      obtain ⟨s2_12, x2_13, v2_14, tk2_15, t2_16, P2_17, cn2_18, e2_19, l2_20, u2_21, d2_22, n2_23, p2_24, t3_25, z3_26⟩ := u_r_11
      try dsimp only at hw_r_11
      obtain ⟨hw_r_11, i_27, i_28, i_29, i_30, i_31, i_32, i_33, i_34⟩ := hw_r_11
      have hP : va_P D vwCl [(h0, .inr (7, [.int (nI (z)), .ref ab, .int tk2_15, .int (nI (s2_12)), .int (nI (x2_13)), .int (nI (v2_14)), .int t2_16])), (ab, .inl (cI, 120, .inl by9)), (q1, .inr (1, [.int (nI (P2_17)), .ref be, .ref bl, .ref bu, .ref bo, .ref br, .ref bk, .ref bw, .ref btt, .ref bss])), (be, .inl (cI, 10, .inl e2_19)), (bl, .inl (cI, 100, .inl l2_20)), (bu, .inl (cI, 100, .inl u2_21)), (bo, .inl (cI, 100, .inl d2_22)), (bw, .inr (3, [.int (nI (cn2_18)), .ref bWn, .ref bWp])), (bWn, .inl (cI, 8, .inl n2_23)), (bWp, .inl (cI, 48, .inl p2_24)), (btt, .inl (cI, 8, .inl t3_25)), (bss, .inl (cI, 8, .inl z3_26))] H := hP
      have hD : va_D A [(h0, .inr (7, [.int (nI (z)), .ref ab, .int tk2_15, .int (nI (s2_12)), .int (nI (x2_13)), .int (nI (v2_14)), .int t2_16])), (ab, .inl (cI, 120, .inl by9)), (q1, .inr (1, [.int (nI (P2_17)), .ref be, .ref bl, .ref bu, .ref bo, .ref br, .ref bk, .ref bw, .ref btt, .ref bss])), (be, .inl (cI, 10, .inl e2_19)), (bl, .inl (cI, 100, .inl l2_20)), (bu, .inl (cI, 100, .inl u2_21)), (bo, .inl (cI, 100, .inl d2_22)), (bw, .inr (3, [.int (nI (cn2_18)), .ref bWn, .ref bWp])), (bWn, .inl (cI, 8, .inl n2_23)), (bWp, .inl (cI, 48, .inl p2_24)), (btt, .inl (cI, 8, .inl t3_25)), (bss, .inl (cI, 8, .inl z3_26))] := hD
      rcases hw_r_11 with rfl | rfl
      · skip
        refine lv_if_ne (tgt := 32) hx hb dX7_tellTo_22 (by decide) (fun c_35 => ?_) (fun c_35 => absurd c_35 (by decide))
        refine lv_aload_n hx hb dX7_tellTo_32 rfl (lv_at hl 1 rfl) ?_
        refine xg hF kf_X7_19 hK hP 0 rfl rfl dX7_tellTo_33 ?_
        refine lv_if_ne (tgt := 41) hx hb dX7_tellTo_36 (by decide) (fun c_36 => ?_) (fun c_36 => ?_)
        · skip
          refine lv_aload_n hx hb dX7_tellTo_41 rfl (lv_at hl 1 rfl) ?_
          refine xg hF kf_X7_19 hK hP 0 rfl rfl dX7_tellTo_42 ?_
          refine lv_iconst (v := 3) hx hb dX7_tellTo_45 (by decide) ?_
          refine lv_icmp_eq (tgt := 56) hx hb dX7_tellTo_46 (by decide) (fun c_37 => ?_) (fun c_37 => ?_)
          · skip
            refine lv_aload_n hx hb dX7_tellTo_56 rfl (lv_at hl 1 rfl) ?_
            refine xc_Vv (wr := [(q1, .inr (1, [.int (nI (P2_17)), .ref be, .ref bl, .ref bu, .ref bo, .ref br, .ref bk, .ref bw, .ref btt, .ref bss])), (be, .inl (cI, 10, .inl e2_19)), (bl, .inl (cI, 100, .inl l2_20)), (bu, .inl (cI, 100, .inl u2_21)), (bo, .inl (cI, 100, .inl d2_22)), (bw, .inr (3, [.int (nI (cn2_18)), .ref bWn, .ref bWp])), (bWn, .inl (cI, 8, .inl n2_23)), (bWp, .inl (cI, 48, .inl p2_24)), (btt, .inl (cI, 8, .inl t3_25)), (bss, .inl (cI, 8, .inl z3_26))]) hF (c_X7_step l D cI cJ cZ cS ta sa sv H.size h0 ab z s2_12 x2_13 v2_14 tk2_15 t2_16 by9 (by omega) (by omega)) kv_X7_34 ⟨rfl, rfl, Nat.le_of_ble_eq_true rfl, Nat.le_of_ble_eq_true rfl⟩ ⟨Nat.le_of_ble_eq_true rfl, Nat.le_of_ble_eq_true rfl⟩ hK hN hZ hP hD hS hA [0, 1] [2, 3, 4, 5, 6, 7, 8, 9, 10, 11] rfl rfl rfl (by decide +kernel) (by decide +kernel) 0 rfl rfl rfl rfl hl.1 rfl (Nat.le_of_ble_eq_true rfl) dX7_tellTo_57 (fun u_r_38 H locs hw_r_38 hP hD hS => ?_)
            obtain ⟨s2_39, x2_40, v2_41, tk2_42⟩ := u_r_38
            try dsimp only at hw_r_38
            obtain ⟨i_43, i_44, i_45⟩ := hw_r_38
            have hP : va_P D vwCl [(q1, .inr (1, [.int (nI (P2_17)), .ref be, .ref bl, .ref bu, .ref bo, .ref br, .ref bk, .ref bw, .ref btt, .ref bss])), (be, .inl (cI, 10, .inl e2_19)), (bl, .inl (cI, 100, .inl l2_20)), (bu, .inl (cI, 100, .inl u2_21)), (bo, .inl (cI, 100, .inl d2_22)), (bw, .inr (3, [.int (nI (cn2_18)), .ref bWn, .ref bWp])), (bWn, .inl (cI, 8, .inl n2_23)), (bWp, .inl (cI, 48, .inl p2_24)), (btt, .inl (cI, 8, .inl t3_25)), (bss, .inl (cI, 8, .inl z3_26)), (h0, .inr (7, [.int (nI (z)), .ref ab, .int tk2_42, .int (nI (s2_39)), .int (nI (x2_40)), .int (nI (v2_41)), .int t2_16])), (ab, .inl (cI, 120, .inl by9))] H := hP
            have hD : va_D A [(q1, .inr (1, [.int (nI (P2_17)), .ref be, .ref bl, .ref bu, .ref bo, .ref br, .ref bk, .ref bw, .ref btt, .ref bss])), (be, .inl (cI, 10, .inl e2_19)), (bl, .inl (cI, 100, .inl l2_20)), (bu, .inl (cI, 100, .inl u2_21)), (bo, .inl (cI, 100, .inl d2_22)), (bw, .inr (3, [.int (nI (cn2_18)), .ref bWn, .ref bWp])), (bWn, .inl (cI, 8, .inl n2_23)), (bWp, .inl (cI, 48, .inl p2_24)), (btt, .inl (cI, 8, .inl t3_25)), (bss, .inl (cI, 8, .inl z3_26)), (h0, .inr (7, [.int (nI (z)), .ref ab, .int tk2_42, .int (nI (s2_39)), .int (nI (x2_40)), .int (nI (v2_41)), .int t2_16])), (ab, .inl (cI, 120, .inl by9))] := hD
            refine lv_iinc (v := nI (i + 1)) (lv' := [(2, .int (nI (i + 1))), (0, .ref h0), (1, .ref q1)]) hx hb dX7_tellTo_60 hl (k := 0) rfl (nI_1 (i)) (by decide) rfl (fun ls hl => ?_)
            refine lv_goto (tgt := 11) hx hb dX7_tellTo_63 (by decide) ?_
            exact ih_11 (i + 1) s2_39 x2_40 v2_41 tk2_42 t2_16 P2_17 cn2_18 e2_19 l2_20 u2_21 d2_22 n2_23 p2_24 t3_25 z3_26 _ _ _ (by omega) (by omega) (by omega) (by omega) (by omega) (by omega) (by omega) i_32 i_33 i_34 (hP.sub [0, 1, 2, 3, 4, 5, 6, 7, 8, 9, 10, 11] rfl) (hD.sub [0, 1, 2, 3, 4, 5, 6, 7, 8, 9, 10, 11] (by decide +kernel) rfl) hS (lv_sub hl [0, 1, 2] rfl)
          · skip
            refine lv_iconst (v := (-1)) hx hb dX7_tellTo_49 (by decide) ?_
            refine lv_aload_n hx hb dX7_tellTo_50 rfl (lv_at hl 1 rfl) ?_
            refine xg hF kf_X7_22 hK hP 0 rfl rfl dX7_tellTo_51 ?_
            refine lv_isub hx hb dX7_tellTo_54 ?_
            refine lv_topi (fun x_46 ex_46 => ?_)
            exact W.iret (v := x_46) hx hb hr (fun t ht hW => ⟨⟨x_46, (s2_12, x2_13, v2_14, tk2_15, t2_16, P2_17, cn2_18, e2_19, l2_20, u2_21, d2_22, n2_23, p2_24, t3_25, z3_26), rfl, ⟨trivial, (by first | assumption | omega), (by first | assumption | omega), (by first | assumption | omega), (by first | assumption | omega), (by first | assumption | omega), (by first | assumption | omega), i_33, i_34⟩, by rw [ht]; exact hP.sub [0, 1, 2, 3, 4, 5, 6, 7, 8, 9, 10, 11] rfl, hD.sub [0, 1, 2, 3, 4, 5, 6, 7, 8, 9, 10, 11] (by decide +kernel) rfl⟩, hS.F ht⟩) hS.2.2 dX7_tellTo_55 hlk
        · skip
          refine lv_iload_n hx hb dX7_tellTo_39 rfl (lv_at hl 0 rfl) ?_
          exact W.iret (v := nI (i)) hx hb hr (fun t ht hW => ⟨⟨nI (i), (s2_12, x2_13, v2_14, tk2_15, t2_16, P2_17, cn2_18, e2_19, l2_20, u2_21, d2_22, n2_23, p2_24, t3_25, z3_26), rfl, ⟨trivial, (by first | assumption | omega), (by first | assumption | omega), (by first | assumption | omega), (by first | assumption | omega), (by first | assumption | omega), (by first | assumption | omega), i_33, i_34⟩, by rw [ht]; exact hP.sub [0, 1, 2, 3, 4, 5, 6, 7, 8, 9, 10, 11] rfl, hD.sub [0, 1, 2, 3, 4, 5, 6, 7, 8, 9, 10, 11] (by decide +kernel) rfl⟩, hS.F ht⟩) hS.2.2 dX7_tellTo_40 hlk
      · skip
        refine lv_if_ne (tgt := 32) hx hb dX7_tellTo_22 (by decide) (fun c_47 => absurd (by decide) c_47) (fun c_47 => ?_)
        refine lv_iconst (v := (-1)) hx hb dX7_tellTo_25 (by decide) ?_
        refine lv_aload_n hx hb dX7_tellTo_26 rfl (lv_at hl 1 rfl) ?_
        refine xg hF kf_X7_22 hK hP 0 rfl rfl dX7_tellTo_27 ?_
        refine lv_isub hx hb dX7_tellTo_30 ?_
        refine lv_topi (fun x_48 ex_48 => ?_)
        exact W.iret (v := x_48) hx hb hr (fun t ht hW => ⟨⟨x_48, (s2_12, x2_13, v2_14, tk2_15, t2_16, P2_17, cn2_18, e2_19, l2_20, u2_21, d2_22, n2_23, p2_24, t3_25, z3_26), rfl, ⟨trivial, (by first | assumption | omega), (by first | assumption | omega), (by first | assumption | omega), (by first | assumption | omega), (by first | assumption | omega), (by first | assumption | omega), i_33, i_34⟩, by rw [ht]; exact hP.sub [0, 1, 2, 3, 4, 5, 6, 7, 8, 9, 10, 11] rfl, hD.sub [0, 1, 2, 3, 4, 5, 6, 7, 8, 9, 10, 11] (by decide +kernel) rfl⟩, hS.F ht⟩) hS.2.2 dX7_tellTo_31 hlk
