def LRX9_newPlace_2 : List UInt8 := []
def LBX9_newPlace_1 : List UInt8 := [0x04, 0x64, 0xac]
def LRX9_newPlace_1 : List UInt8 := LBX9_newPlace_1 ++ LRX9_newPlace_2
def LBX9_newPlace_0 : List UInt8 := [0x2a, 0xb4, 0x00, 0x07, 0x03, 0x5c, 0x2e, 0x04, 0x60, 0x4f, 0x2a, 0xb4, 0x00, 0x07, 0x03, 0x2e]
def LRX9_newPlace_0 : List UInt8 := LBX9_newPlace_0 ++ LRX9_newPlace_1
set_option maxRecDepth 100000 in
theorem LBX9_newPlace_eq : cX9_newPlace.data.toList = LRX9_newPlace_0 := by decide +kernel
theorem LBX9_newPlacer_0 (k : Nat) : cX9_newPlace.data.toList[0 + k]? = LRX9_newPlace_0[k]? := by rw [LBX9_newPlace_eq, Nat.zero_add]
theorem LBX9_newPlacer_1 (k : Nat) : cX9_newPlace.data.toList[16 + k]? = LRX9_newPlace_1[k]? := by
  have h := LBX9_newPlacer_0 (16 + k)
  rw [show 0 + (16 + k) = 16 + k by omega] at h
  rw [h]
  exact (List.getElem?_append_right (l₁ := LBX9_newPlace_0) (l₂ := LRX9_newPlace_1) (show 16 ≤ 16 + k by omega)).trans (congrArg (fun i => LRX9_newPlace_1[i]?) (show 16 + k - 16 = k by omega))
theorem dX9_newPlace_0 : decode cX9_newPlace 0 = .ok (.aload_n 0, 1) := dk_42_ (show cX9_newPlace.data.toList[0]? = some 0x2a from (LBX9_newPlacer_0 0).trans (by decide +kernel))
theorem dX9_newPlace_1 : decode cX9_newPlace 1 = .ok (.getfield 7, 3) := dk_180_ (show cX9_newPlace.data.toList[1]? = some 0xb4 from (LBX9_newPlacer_0 1).trans (by decide +kernel)) (show cX9_newPlace.data.toList[2]? = some 0x00 from (LBX9_newPlacer_0 2).trans (by decide +kernel)) (show cX9_newPlace.data.toList[3]? = some 0x07 from (LBX9_newPlacer_0 3).trans (by decide +kernel)) (by decide)
theorem dX9_newPlace_4 : decode cX9_newPlace 4 = .ok (.iconst 0, 1) := dk_3_ (show cX9_newPlace.data.toList[4]? = some 0x03 from (LBX9_newPlacer_0 4).trans (by decide +kernel))
theorem dX9_newPlace_5 : decode cX9_newPlace 5 = .ok (.dup2, 1) := dk_92_ (show cX9_newPlace.data.toList[5]? = some 0x5c from (LBX9_newPlacer_0 5).trans (by decide +kernel))
theorem dX9_newPlace_6 : decode cX9_newPlace 6 = .ok (.iaload, 1) := dk_46_ (show cX9_newPlace.data.toList[6]? = some 0x2e from (LBX9_newPlacer_0 6).trans (by decide +kernel))
theorem dX9_newPlace_7 : decode cX9_newPlace 7 = .ok (.iconst 1, 1) := dk_4_ (show cX9_newPlace.data.toList[7]? = some 0x04 from (LBX9_newPlacer_0 7).trans (by decide +kernel))
theorem dX9_newPlace_8 : decode cX9_newPlace 8 = .ok (.iadd, 1) := dk_96_ (show cX9_newPlace.data.toList[8]? = some 0x60 from (LBX9_newPlacer_0 8).trans (by decide +kernel))
theorem dX9_newPlace_9 : decode cX9_newPlace 9 = .ok (.iastore, 1) := dk_79_ (show cX9_newPlace.data.toList[9]? = some 0x4f from (LBX9_newPlacer_0 9).trans (by decide +kernel))
theorem dX9_newPlace_10 : decode cX9_newPlace 10 = .ok (.aload_n 0, 1) := dk_42_ (show cX9_newPlace.data.toList[10]? = some 0x2a from (LBX9_newPlacer_0 10).trans (by decide +kernel))
theorem dX9_newPlace_11 : decode cX9_newPlace 11 = .ok (.getfield 7, 3) := dk_180_ (show cX9_newPlace.data.toList[11]? = some 0xb4 from (LBX9_newPlacer_0 11).trans (by decide +kernel)) (show cX9_newPlace.data.toList[12]? = some 0x00 from (LBX9_newPlacer_0 12).trans (by decide +kernel)) (show cX9_newPlace.data.toList[13]? = some 0x07 from (LBX9_newPlacer_0 13).trans (by decide +kernel)) (by decide)
theorem dX9_newPlace_14 : decode cX9_newPlace 14 = .ok (.iconst 0, 1) := dk_3_ (show cX9_newPlace.data.toList[14]? = some 0x03 from (LBX9_newPlacer_0 14).trans (by decide +kernel))
theorem dX9_newPlace_15 : decode cX9_newPlace 15 = .ok (.iaload, 1) := dk_46_ (show cX9_newPlace.data.toList[15]? = some 0x2e from (LBX9_newPlacer_0 15).trans (by decide +kernel))
theorem dX9_newPlace_16 : decode cX9_newPlace 16 = .ok (.iconst 1, 1) := dk_4_ (show cX9_newPlace.data.toList[16]? = some 0x04 from (LBX9_newPlacer_1 0).trans (by decide +kernel))
theorem dX9_newPlace_17 : decode cX9_newPlace 17 = .ok (.isub, 1) := dk_100_ (show cX9_newPlace.data.toList[17]? = some 0x64 from (LBX9_newPlacer_1 1).trans (by decide +kernel))
theorem dX9_newPlace_18 : decode cX9_newPlace 18 = .ok (.ireturn, 1) := dk_172_ (show cX9_newPlace.data.toList[18]? = some 0xac from (LBX9_newPlacer_1 2).trans (by decide +kernel))
def LRX9_place_2 : List UInt8 := []
def LBX9_place_1 : List UInt8 := [0x46, 0xa7, 0x00, 0x07, 0x2a, 0xb6, 0x00, 0x4a, 0xac]
def LRX9_place_1 : List UInt8 := LBX9_place_1 ++ LRX9_place_2
def LBX9_place_0 : List UInt8 := [0x2a, 0xb4, 0x00, 0x07, 0x03, 0x2e, 0x10, 0x0a, 0xa0, 0x00, 0x0c, 0x2a, 0x12, 0x45, 0xb6, 0x00]
def LRX9_place_0 : List UInt8 := LBX9_place_0 ++ LRX9_place_1
set_option maxRecDepth 100000 in
theorem LBX9_place_eq : cX9_place.data.toList = LRX9_place_0 := by decide +kernel
theorem LBX9_placer_0 (k : Nat) : cX9_place.data.toList[0 + k]? = LRX9_place_0[k]? := by rw [LBX9_place_eq, Nat.zero_add]
theorem LBX9_placer_1 (k : Nat) : cX9_place.data.toList[16 + k]? = LRX9_place_1[k]? := by
  have h := LBX9_placer_0 (16 + k)
  rw [show 0 + (16 + k) = 16 + k by omega] at h
  rw [h]
  exact (List.getElem?_append_right (l₁ := LBX9_place_0) (l₂ := LRX9_place_1) (show 16 ≤ 16 + k by omega)).trans (congrArg (fun i => LRX9_place_1[i]?) (show 16 + k - 16 = k by omega))
theorem dX9_place_0 : decode cX9_place 0 = .ok (.aload_n 0, 1) := dk_42_ (show cX9_place.data.toList[0]? = some 0x2a from (LBX9_placer_0 0).trans (by decide +kernel))
theorem dX9_place_1 : decode cX9_place 1 = .ok (.getfield 7, 3) := dk_180_ (show cX9_place.data.toList[1]? = some 0xb4 from (LBX9_placer_0 1).trans (by decide +kernel)) (show cX9_place.data.toList[2]? = some 0x00 from (LBX9_placer_0 2).trans (by decide +kernel)) (show cX9_place.data.toList[3]? = some 0x07 from (LBX9_placer_0 3).trans (by decide +kernel)) (by decide)
theorem dX9_place_4 : decode cX9_place 4 = .ok (.iconst 0, 1) := dk_3_ (show cX9_place.data.toList[4]? = some 0x03 from (LBX9_placer_0 4).trans (by decide +kernel))
theorem dX9_place_5 : decode cX9_place 5 = .ok (.iaload, 1) := dk_46_ (show cX9_place.data.toList[5]? = some 0x2e from (LBX9_placer_0 5).trans (by decide +kernel))
theorem dX9_place_6 : decode cX9_place 6 = .ok (.bipush 10, 2) := dk_16_ (show cX9_place.data.toList[6]? = some 0x10 from (LBX9_placer_0 6).trans (by decide +kernel)) (show cX9_place.data.toList[7]? = some 0x0a from (LBX9_placer_0 7).trans (by decide +kernel)) (by decide)
theorem dX9_place_8 : decode cX9_place 8 = .ok (.if_icmp .ne 12, 3) := dk_160_ (show cX9_place.data.toList[8]? = some 0xa0 from (LBX9_placer_0 8).trans (by decide +kernel)) (show cX9_place.data.toList[9]? = some 0x00 from (LBX9_placer_0 9).trans (by decide +kernel)) (show cX9_place.data.toList[10]? = some 0x0c from (LBX9_placer_0 10).trans (by decide +kernel)) (by decide)
theorem dX9_place_11 : decode cX9_place 11 = .ok (.aload_n 0, 1) := dk_42_ (show cX9_place.data.toList[11]? = some 0x2a from (LBX9_placer_0 11).trans (by decide +kernel))
theorem dX9_place_12 : decode cX9_place 12 = .ok (.ldc 69, 2) := dk_18_ (show cX9_place.data.toList[12]? = some 0x12 from (LBX9_placer_0 12).trans (by decide +kernel)) (show cX9_place.data.toList[13]? = some 0x45 from (LBX9_placer_0 13).trans (by decide +kernel)) (by decide)
theorem dX9_place_14 : decode cX9_place 14 = .ok (.invokevirtual 70, 3) := dk_182_ (show cX9_place.data.toList[14]? = some 0xb6 from (LBX9_placer_0 14).trans (by decide +kernel)) (show cX9_place.data.toList[15]? = some 0x00 from (LBX9_placer_0 15).trans (by decide +kernel)) (show cX9_place.data.toList[16]? = some 0x46 from (LBX9_placer_1 0).trans (by decide +kernel)) (by decide)
theorem dX9_place_17 : decode cX9_place 17 = .ok (.goto 7, 3) := dk_167_ (show cX9_place.data.toList[17]? = some 0xa7 from (LBX9_placer_1 1).trans (by decide +kernel)) (show cX9_place.data.toList[18]? = some 0x00 from (LBX9_placer_1 2).trans (by decide +kernel)) (show cX9_place.data.toList[19]? = some 0x07 from (LBX9_placer_1 3).trans (by decide +kernel)) (by decide)
theorem dX9_place_20 : decode cX9_place 20 = .ok (.aload_n 0, 1) := dk_42_ (show cX9_place.data.toList[20]? = some 0x2a from (LBX9_placer_1 4).trans (by decide +kernel))
theorem dX9_place_21 : decode cX9_place 21 = .ok (.invokevirtual 74, 3) := dk_182_ (show cX9_place.data.toList[21]? = some 0xb6 from (LBX9_placer_1 5).trans (by decide +kernel)) (show cX9_place.data.toList[22]? = some 0x00 from (LBX9_placer_1 6).trans (by decide +kernel)) (show cX9_place.data.toList[23]? = some 0x4a from (LBX9_placer_1 7).trans (by decide +kernel)) (by decide)
theorem dX9_place_24 : decode cX9_place 24 = .ok (.ireturn, 1) := dk_172_ (show cX9_place.data.toList[24]? = some 0xac from (LBX9_placer_1 8).trans (by decide +kernel))
def LRX9_errands_3 : List UInt8 := []
def LBX9_errands_2 : List UInt8 := [0x1b, 0x60, 0x2e, 0x3e, 0x2a, 0xb4, 0x00, 0x07, 0x06, 0x1b, 0x60, 0x1c, 0x4f, 0x1d, 0xac]
def LRX9_errands_2 : List UInt8 := LBX9_errands_2 ++ LRX9_errands_3
def LBX9_errands_1 : List UInt8 := [0x39, 0x9a, 0x00, 0x0a, 0x2a, 0x12, 0x38, 0xb6, 0x00, 0x46, 0xac, 0x2a, 0xb4, 0x00, 0x07, 0x06]
def LRX9_errands_1 : List UInt8 := LBX9_errands_1 ++ LRX9_errands_2
def LBX9_errands_0 : List UInt8 := [0x2a, 0x1b, 0xb6, 0x00, 0x3d, 0x99, 0x00, 0x0f, 0x1c, 0x85, 0x09, 0x14, 0x00, 0x4e, 0xb8, 0x00]
def LRX9_errands_0 : List UInt8 := LBX9_errands_0 ++ LRX9_errands_1
set_option maxRecDepth 100000 in
theorem LBX9_errands_eq : cX9_errands.data.toList = LRX9_errands_0 := by decide +kernel
theorem LBX9_errandsr_0 (k : Nat) : cX9_errands.data.toList[0 + k]? = LRX9_errands_0[k]? := by rw [LBX9_errands_eq, Nat.zero_add]
theorem LBX9_errandsr_1 (k : Nat) : cX9_errands.data.toList[16 + k]? = LRX9_errands_1[k]? := by
  have h := LBX9_errandsr_0 (16 + k)
  rw [show 0 + (16 + k) = 16 + k by omega] at h
  rw [h]
  exact (List.getElem?_append_right (l₁ := LBX9_errands_0) (l₂ := LRX9_errands_1) (show 16 ≤ 16 + k by omega)).trans (congrArg (fun i => LRX9_errands_1[i]?) (show 16 + k - 16 = k by omega))
theorem LBX9_errandsr_2 (k : Nat) : cX9_errands.data.toList[32 + k]? = LRX9_errands_2[k]? := by
  have h := LBX9_errandsr_1 (16 + k)
  rw [show 16 + (16 + k) = 32 + k by omega] at h
  rw [h]
  exact (List.getElem?_append_right (l₁ := LBX9_errands_1) (l₂ := LRX9_errands_2) (show 16 ≤ 16 + k by omega)).trans (congrArg (fun i => LRX9_errands_2[i]?) (show 16 + k - 16 = k by omega))
theorem dX9_errands_0 : decode cX9_errands 0 = .ok (.aload_n 0, 1) := dk_42_ (show cX9_errands.data.toList[0]? = some 0x2a from (LBX9_errandsr_0 0).trans (by decide +kernel))
theorem dX9_errands_1 : decode cX9_errands 1 = .ok (.iload_n 1, 1) := dk_27_ (show cX9_errands.data.toList[1]? = some 0x1b from (LBX9_errandsr_0 1).trans (by decide +kernel))
theorem dX9_errands_2 : decode cX9_errands 2 = .ok (.invokevirtual 61, 3) := dk_182_ (show cX9_errands.data.toList[2]? = some 0xb6 from (LBX9_errandsr_0 2).trans (by decide +kernel)) (show cX9_errands.data.toList[3]? = some 0x00 from (LBX9_errandsr_0 3).trans (by decide +kernel)) (show cX9_errands.data.toList[4]? = some 0x3d from (LBX9_errandsr_0 4).trans (by decide +kernel)) (by decide)
theorem dX9_errands_5 : decode cX9_errands 5 = .ok (.ifCond .eq 15, 3) := dk_153_ (show cX9_errands.data.toList[5]? = some 0x99 from (LBX9_errandsr_0 5).trans (by decide +kernel)) (show cX9_errands.data.toList[6]? = some 0x00 from (LBX9_errandsr_0 6).trans (by decide +kernel)) (show cX9_errands.data.toList[7]? = some 0x0f from (LBX9_errandsr_0 7).trans (by decide +kernel)) (by decide)
theorem dX9_errands_8 : decode cX9_errands 8 = .ok (.iload_n 2, 1) := dk_28_ (show cX9_errands.data.toList[8]? = some 0x1c from (LBX9_errandsr_0 8).trans (by decide +kernel))
theorem dX9_errands_9 : decode cX9_errands 9 = .ok (.i2l, 1) := dk_133_ (show cX9_errands.data.toList[9]? = some 0x85 from (LBX9_errandsr_0 9).trans (by decide +kernel))
theorem dX9_errands_10 : decode cX9_errands 10 = .ok (.lconst 0, 1) := dk_9_ (show cX9_errands.data.toList[10]? = some 0x09 from (LBX9_errandsr_0 10).trans (by decide +kernel))
theorem dX9_errands_11 : decode cX9_errands 11 = .ok (.ldc2_w 78, 3) := dk_20_ (show cX9_errands.data.toList[11]? = some 0x14 from (LBX9_errandsr_0 11).trans (by decide +kernel)) (show cX9_errands.data.toList[12]? = some 0x00 from (LBX9_errandsr_0 12).trans (by decide +kernel)) (show cX9_errands.data.toList[13]? = some 0x4e from (LBX9_errandsr_0 13).trans (by decide +kernel)) (by decide)
theorem dX9_errands_14 : decode cX9_errands 14 = .ok (.invokestatic 57, 3) := dk_184_ (show cX9_errands.data.toList[14]? = some 0xb8 from (LBX9_errandsr_0 14).trans (by decide +kernel)) (show cX9_errands.data.toList[15]? = some 0x00 from (LBX9_errandsr_0 15).trans (by decide +kernel)) (show cX9_errands.data.toList[16]? = some 0x39 from (LBX9_errandsr_1 0).trans (by decide +kernel)) (by decide)
theorem dX9_errands_17 : decode cX9_errands 17 = .ok (.ifCond .ne 10, 3) := dk_154_ (show cX9_errands.data.toList[17]? = some 0x9a from (LBX9_errandsr_1 1).trans (by decide +kernel)) (show cX9_errands.data.toList[18]? = some 0x00 from (LBX9_errandsr_1 2).trans (by decide +kernel)) (show cX9_errands.data.toList[19]? = some 0x0a from (LBX9_errandsr_1 3).trans (by decide +kernel)) (by decide)
theorem dX9_errands_20 : decode cX9_errands 20 = .ok (.aload_n 0, 1) := dk_42_ (show cX9_errands.data.toList[20]? = some 0x2a from (LBX9_errandsr_1 4).trans (by decide +kernel))
theorem dX9_errands_21 : decode cX9_errands 21 = .ok (.ldc 56, 2) := dk_18_ (show cX9_errands.data.toList[21]? = some 0x12 from (LBX9_errandsr_1 5).trans (by decide +kernel)) (show cX9_errands.data.toList[22]? = some 0x38 from (LBX9_errandsr_1 6).trans (by decide +kernel)) (by decide)
theorem dX9_errands_23 : decode cX9_errands 23 = .ok (.invokevirtual 70, 3) := dk_182_ (show cX9_errands.data.toList[23]? = some 0xb6 from (LBX9_errandsr_1 7).trans (by decide +kernel)) (show cX9_errands.data.toList[24]? = some 0x00 from (LBX9_errandsr_1 8).trans (by decide +kernel)) (show cX9_errands.data.toList[25]? = some 0x46 from (LBX9_errandsr_1 9).trans (by decide +kernel)) (by decide)
theorem dX9_errands_26 : decode cX9_errands 26 = .ok (.ireturn, 1) := dk_172_ (show cX9_errands.data.toList[26]? = some 0xac from (LBX9_errandsr_1 10).trans (by decide +kernel))
theorem dX9_errands_27 : decode cX9_errands 27 = .ok (.aload_n 0, 1) := dk_42_ (show cX9_errands.data.toList[27]? = some 0x2a from (LBX9_errandsr_1 11).trans (by decide +kernel))
theorem dX9_errands_28 : decode cX9_errands 28 = .ok (.getfield 7, 3) := dk_180_ (show cX9_errands.data.toList[28]? = some 0xb4 from (LBX9_errandsr_1 12).trans (by decide +kernel)) (show cX9_errands.data.toList[29]? = some 0x00 from (LBX9_errandsr_1 13).trans (by decide +kernel)) (show cX9_errands.data.toList[30]? = some 0x07 from (LBX9_errandsr_1 14).trans (by decide +kernel)) (by decide)
theorem dX9_errands_31 : decode cX9_errands 31 = .ok (.iconst 3, 1) := dk_6_ (show cX9_errands.data.toList[31]? = some 0x06 from (LBX9_errandsr_1 15).trans (by decide +kernel))
theorem dX9_errands_32 : decode cX9_errands 32 = .ok (.iload_n 1, 1) := dk_27_ (show cX9_errands.data.toList[32]? = some 0x1b from (LBX9_errandsr_2 0).trans (by decide +kernel))
theorem dX9_errands_33 : decode cX9_errands 33 = .ok (.iadd, 1) := dk_96_ (show cX9_errands.data.toList[33]? = some 0x60 from (LBX9_errandsr_2 1).trans (by decide +kernel))
theorem dX9_errands_34 : decode cX9_errands 34 = .ok (.iaload, 1) := dk_46_ (show cX9_errands.data.toList[34]? = some 0x2e from (LBX9_errandsr_2 2).trans (by decide +kernel))
theorem dX9_errands_35 : decode cX9_errands 35 = .ok (.istore_n 3, 1) := dk_62_ (show cX9_errands.data.toList[35]? = some 0x3e from (LBX9_errandsr_2 3).trans (by decide +kernel))
theorem dX9_errands_36 : decode cX9_errands 36 = .ok (.aload_n 0, 1) := dk_42_ (show cX9_errands.data.toList[36]? = some 0x2a from (LBX9_errandsr_2 4).trans (by decide +kernel))
theorem dX9_errands_37 : decode cX9_errands 37 = .ok (.getfield 7, 3) := dk_180_ (show cX9_errands.data.toList[37]? = some 0xb4 from (LBX9_errandsr_2 5).trans (by decide +kernel)) (show cX9_errands.data.toList[38]? = some 0x00 from (LBX9_errandsr_2 6).trans (by decide +kernel)) (show cX9_errands.data.toList[39]? = some 0x07 from (LBX9_errandsr_2 7).trans (by decide +kernel)) (by decide)
theorem dX9_errands_40 : decode cX9_errands 40 = .ok (.iconst 3, 1) := dk_6_ (show cX9_errands.data.toList[40]? = some 0x06 from (LBX9_errandsr_2 8).trans (by decide +kernel))
theorem dX9_errands_41 : decode cX9_errands 41 = .ok (.iload_n 1, 1) := dk_27_ (show cX9_errands.data.toList[41]? = some 0x1b from (LBX9_errandsr_2 9).trans (by decide +kernel))
theorem dX9_errands_42 : decode cX9_errands 42 = .ok (.iadd, 1) := dk_96_ (show cX9_errands.data.toList[42]? = some 0x60 from (LBX9_errandsr_2 10).trans (by decide +kernel))
theorem dX9_errands_43 : decode cX9_errands 43 = .ok (.iload_n 2, 1) := dk_28_ (show cX9_errands.data.toList[43]? = some 0x1c from (LBX9_errandsr_2 11).trans (by decide +kernel))
theorem dX9_errands_44 : decode cX9_errands 44 = .ok (.iastore, 1) := dk_79_ (show cX9_errands.data.toList[44]? = some 0x4f from (LBX9_errandsr_2 12).trans (by decide +kernel))
theorem dX9_errands_45 : decode cX9_errands 45 = .ok (.iload_n 3, 1) := dk_29_ (show cX9_errands.data.toList[45]? = some 0x1d from (LBX9_errandsr_2 13).trans (by decide +kernel))
theorem dX9_errands_46 : decode cX9_errands 46 = .ok (.ireturn, 1) := dk_172_ (show cX9_errands.data.toList[46]? = some 0xac from (LBX9_errandsr_2 14).trans (by decide +kernel))
def LRX9_makes_5 : List UInt8 := []
def LBX9_makes_4 : List UInt8 := [0x04, 0x03, 0xac]
def LRX9_makes_4 : List UInt8 := LBX9_makes_4 ++ LRX9_makes_5
def LBX9_makes_3 : List UInt8 := [0x11, 0x00, 0xd5, 0x15, 0x05, 0x60, 0x04, 0x4f, 0x15, 0x06, 0x9a, 0x00, 0x07, 0x04, 0xa7, 0x00]
def LRX9_makes_3 : List UInt8 := LBX9_makes_3 ++ LRX9_makes_4
def LBX9_makes_2 : List UInt8 := [0x2a, 0xb4, 0x00, 0x07, 0x10, 0x71, 0x15, 0x05, 0x60, 0x15, 0x04, 0x4f, 0x2a, 0xb4, 0x00, 0x07]
def LRX9_makes_2 : List UInt8 := LBX9_makes_2 ++ LRX9_makes_3
def LBX9_makes_1 : List UInt8 := [0x05, 0x60, 0x2e, 0x36, 0x06, 0x2a, 0xb4, 0x00, 0x07, 0x10, 0x0d, 0x15, 0x05, 0x60, 0x1d, 0x4f]
def LRX9_makes_1 : List UInt8 := LBX9_makes_1 ++ LRX9_makes_2
def LBX9_makes_0 : List UInt8 := [0x10, 0x0a, 0x1b, 0x68, 0x1c, 0x60, 0x36, 0x05, 0x2a, 0xb4, 0x00, 0x07, 0x11, 0x00, 0xd5, 0x15]
def LRX9_makes_0 : List UInt8 := LBX9_makes_0 ++ LRX9_makes_1
set_option maxRecDepth 100000 in
theorem LBX9_makes_eq : cX9_makes.data.toList = LRX9_makes_0 := by decide +kernel
theorem LBX9_makesr_0 (k : Nat) : cX9_makes.data.toList[0 + k]? = LRX9_makes_0[k]? := by rw [LBX9_makes_eq, Nat.zero_add]
theorem LBX9_makesr_1 (k : Nat) : cX9_makes.data.toList[16 + k]? = LRX9_makes_1[k]? := by
  have h := LBX9_makesr_0 (16 + k)
  rw [show 0 + (16 + k) = 16 + k by omega] at h
  rw [h]
  exact (List.getElem?_append_right (l₁ := LBX9_makes_0) (l₂ := LRX9_makes_1) (show 16 ≤ 16 + k by omega)).trans (congrArg (fun i => LRX9_makes_1[i]?) (show 16 + k - 16 = k by omega))
theorem LBX9_makesr_2 (k : Nat) : cX9_makes.data.toList[32 + k]? = LRX9_makes_2[k]? := by
  have h := LBX9_makesr_1 (16 + k)
  rw [show 16 + (16 + k) = 32 + k by omega] at h
  rw [h]
  exact (List.getElem?_append_right (l₁ := LBX9_makes_1) (l₂ := LRX9_makes_2) (show 16 ≤ 16 + k by omega)).trans (congrArg (fun i => LRX9_makes_2[i]?) (show 16 + k - 16 = k by omega))
theorem LBX9_makesr_3 (k : Nat) : cX9_makes.data.toList[48 + k]? = LRX9_makes_3[k]? := by
  have h := LBX9_makesr_2 (16 + k)
  rw [show 32 + (16 + k) = 48 + k by omega] at h
  rw [h]
  exact (List.getElem?_append_right (l₁ := LBX9_makes_2) (l₂ := LRX9_makes_3) (show 16 ≤ 16 + k by omega)).trans (congrArg (fun i => LRX9_makes_3[i]?) (show 16 + k - 16 = k by omega))
theorem LBX9_makesr_4 (k : Nat) : cX9_makes.data.toList[64 + k]? = LRX9_makes_4[k]? := by
  have h := LBX9_makesr_3 (16 + k)
  rw [show 48 + (16 + k) = 64 + k by omega] at h
  rw [h]
  exact (List.getElem?_append_right (l₁ := LBX9_makes_3) (l₂ := LRX9_makes_4) (show 16 ≤ 16 + k by omega)).trans (congrArg (fun i => LRX9_makes_4[i]?) (show 16 + k - 16 = k by omega))
theorem dX9_makes_0 : decode cX9_makes 0 = .ok (.bipush 10, 2) := dk_16_ (show cX9_makes.data.toList[0]? = some 0x10 from (LBX9_makesr_0 0).trans (by decide +kernel)) (show cX9_makes.data.toList[1]? = some 0x0a from (LBX9_makesr_0 1).trans (by decide +kernel)) (by decide)
theorem dX9_makes_2 : decode cX9_makes 2 = .ok (.iload_n 1, 1) := dk_27_ (show cX9_makes.data.toList[2]? = some 0x1b from (LBX9_makesr_0 2).trans (by decide +kernel))
theorem dX9_makes_3 : decode cX9_makes 3 = .ok (.imul, 1) := dk_104_ (show cX9_makes.data.toList[3]? = some 0x68 from (LBX9_makesr_0 3).trans (by decide +kernel))
theorem dX9_makes_4 : decode cX9_makes 4 = .ok (.iload_n 2, 1) := dk_28_ (show cX9_makes.data.toList[4]? = some 0x1c from (LBX9_makesr_0 4).trans (by decide +kernel))
theorem dX9_makes_5 : decode cX9_makes 5 = .ok (.iadd, 1) := dk_96_ (show cX9_makes.data.toList[5]? = some 0x60 from (LBX9_makesr_0 5).trans (by decide +kernel))
theorem dX9_makes_6 : decode cX9_makes 6 = .ok (.istore 5, 2) := dk_54_ (show cX9_makes.data.toList[6]? = some 0x36 from (LBX9_makesr_0 6).trans (by decide +kernel)) (show cX9_makes.data.toList[7]? = some 0x05 from (LBX9_makesr_0 7).trans (by decide +kernel)) (by decide)
theorem dX9_makes_8 : decode cX9_makes 8 = .ok (.aload_n 0, 1) := dk_42_ (show cX9_makes.data.toList[8]? = some 0x2a from (LBX9_makesr_0 8).trans (by decide +kernel))
theorem dX9_makes_9 : decode cX9_makes 9 = .ok (.getfield 7, 3) := dk_180_ (show cX9_makes.data.toList[9]? = some 0xb4 from (LBX9_makesr_0 9).trans (by decide +kernel)) (show cX9_makes.data.toList[10]? = some 0x00 from (LBX9_makesr_0 10).trans (by decide +kernel)) (show cX9_makes.data.toList[11]? = some 0x07 from (LBX9_makesr_0 11).trans (by decide +kernel)) (by decide)
theorem dX9_makes_12 : decode cX9_makes 12 = .ok (.sipush 213, 3) := dk_17_ (show cX9_makes.data.toList[12]? = some 0x11 from (LBX9_makesr_0 12).trans (by decide +kernel)) (show cX9_makes.data.toList[13]? = some 0x00 from (LBX9_makesr_0 13).trans (by decide +kernel)) (show cX9_makes.data.toList[14]? = some 0xd5 from (LBX9_makesr_0 14).trans (by decide +kernel)) (by decide)
theorem dX9_makes_15 : decode cX9_makes 15 = .ok (.iload 5, 2) := dk_21_ (show cX9_makes.data.toList[15]? = some 0x15 from (LBX9_makesr_0 15).trans (by decide +kernel)) (show cX9_makes.data.toList[16]? = some 0x05 from (LBX9_makesr_1 0).trans (by decide +kernel)) (by decide)
theorem dX9_makes_17 : decode cX9_makes 17 = .ok (.iadd, 1) := dk_96_ (show cX9_makes.data.toList[17]? = some 0x60 from (LBX9_makesr_1 1).trans (by decide +kernel))
theorem dX9_makes_18 : decode cX9_makes 18 = .ok (.iaload, 1) := dk_46_ (show cX9_makes.data.toList[18]? = some 0x2e from (LBX9_makesr_1 2).trans (by decide +kernel))
theorem dX9_makes_19 : decode cX9_makes 19 = .ok (.istore 6, 2) := dk_54_ (show cX9_makes.data.toList[19]? = some 0x36 from (LBX9_makesr_1 3).trans (by decide +kernel)) (show cX9_makes.data.toList[20]? = some 0x06 from (LBX9_makesr_1 4).trans (by decide +kernel)) (by decide)
theorem dX9_makes_21 : decode cX9_makes 21 = .ok (.aload_n 0, 1) := dk_42_ (show cX9_makes.data.toList[21]? = some 0x2a from (LBX9_makesr_1 5).trans (by decide +kernel))
theorem dX9_makes_22 : decode cX9_makes 22 = .ok (.getfield 7, 3) := dk_180_ (show cX9_makes.data.toList[22]? = some 0xb4 from (LBX9_makesr_1 6).trans (by decide +kernel)) (show cX9_makes.data.toList[23]? = some 0x00 from (LBX9_makesr_1 7).trans (by decide +kernel)) (show cX9_makes.data.toList[24]? = some 0x07 from (LBX9_makesr_1 8).trans (by decide +kernel)) (by decide)
theorem dX9_makes_25 : decode cX9_makes 25 = .ok (.bipush 13, 2) := dk_16_ (show cX9_makes.data.toList[25]? = some 0x10 from (LBX9_makesr_1 9).trans (by decide +kernel)) (show cX9_makes.data.toList[26]? = some 0x0d from (LBX9_makesr_1 10).trans (by decide +kernel)) (by decide)
theorem dX9_makes_27 : decode cX9_makes 27 = .ok (.iload 5, 2) := dk_21_ (show cX9_makes.data.toList[27]? = some 0x15 from (LBX9_makesr_1 11).trans (by decide +kernel)) (show cX9_makes.data.toList[28]? = some 0x05 from (LBX9_makesr_1 12).trans (by decide +kernel)) (by decide)
theorem dX9_makes_29 : decode cX9_makes 29 = .ok (.iadd, 1) := dk_96_ (show cX9_makes.data.toList[29]? = some 0x60 from (LBX9_makesr_1 13).trans (by decide +kernel))
theorem dX9_makes_30 : decode cX9_makes 30 = .ok (.iload_n 3, 1) := dk_29_ (show cX9_makes.data.toList[30]? = some 0x1d from (LBX9_makesr_1 14).trans (by decide +kernel))
theorem dX9_makes_31 : decode cX9_makes 31 = .ok (.iastore, 1) := dk_79_ (show cX9_makes.data.toList[31]? = some 0x4f from (LBX9_makesr_1 15).trans (by decide +kernel))
theorem dX9_makes_32 : decode cX9_makes 32 = .ok (.aload_n 0, 1) := dk_42_ (show cX9_makes.data.toList[32]? = some 0x2a from (LBX9_makesr_2 0).trans (by decide +kernel))
theorem dX9_makes_33 : decode cX9_makes 33 = .ok (.getfield 7, 3) := dk_180_ (show cX9_makes.data.toList[33]? = some 0xb4 from (LBX9_makesr_2 1).trans (by decide +kernel)) (show cX9_makes.data.toList[34]? = some 0x00 from (LBX9_makesr_2 2).trans (by decide +kernel)) (show cX9_makes.data.toList[35]? = some 0x07 from (LBX9_makesr_2 3).trans (by decide +kernel)) (by decide)
theorem dX9_makes_36 : decode cX9_makes 36 = .ok (.bipush 113, 2) := dk_16_ (show cX9_makes.data.toList[36]? = some 0x10 from (LBX9_makesr_2 4).trans (by decide +kernel)) (show cX9_makes.data.toList[37]? = some 0x71 from (LBX9_makesr_2 5).trans (by decide +kernel)) (by decide)
theorem dX9_makes_38 : decode cX9_makes 38 = .ok (.iload 5, 2) := dk_21_ (show cX9_makes.data.toList[38]? = some 0x15 from (LBX9_makesr_2 6).trans (by decide +kernel)) (show cX9_makes.data.toList[39]? = some 0x05 from (LBX9_makesr_2 7).trans (by decide +kernel)) (by decide)
theorem dX9_makes_40 : decode cX9_makes 40 = .ok (.iadd, 1) := dk_96_ (show cX9_makes.data.toList[40]? = some 0x60 from (LBX9_makesr_2 8).trans (by decide +kernel))
theorem dX9_makes_41 : decode cX9_makes 41 = .ok (.iload 4, 2) := dk_21_ (show cX9_makes.data.toList[41]? = some 0x15 from (LBX9_makesr_2 9).trans (by decide +kernel)) (show cX9_makes.data.toList[42]? = some 0x04 from (LBX9_makesr_2 10).trans (by decide +kernel)) (by decide)
theorem dX9_makes_43 : decode cX9_makes 43 = .ok (.iastore, 1) := dk_79_ (show cX9_makes.data.toList[43]? = some 0x4f from (LBX9_makesr_2 11).trans (by decide +kernel))
theorem dX9_makes_44 : decode cX9_makes 44 = .ok (.aload_n 0, 1) := dk_42_ (show cX9_makes.data.toList[44]? = some 0x2a from (LBX9_makesr_2 12).trans (by decide +kernel))
theorem dX9_makes_45 : decode cX9_makes 45 = .ok (.getfield 7, 3) := dk_180_ (show cX9_makes.data.toList[45]? = some 0xb4 from (LBX9_makesr_2 13).trans (by decide +kernel)) (show cX9_makes.data.toList[46]? = some 0x00 from (LBX9_makesr_2 14).trans (by decide +kernel)) (show cX9_makes.data.toList[47]? = some 0x07 from (LBX9_makesr_2 15).trans (by decide +kernel)) (by decide)
theorem dX9_makes_48 : decode cX9_makes 48 = .ok (.sipush 213, 3) := dk_17_ (show cX9_makes.data.toList[48]? = some 0x11 from (LBX9_makesr_3 0).trans (by decide +kernel)) (show cX9_makes.data.toList[49]? = some 0x00 from (LBX9_makesr_3 1).trans (by decide +kernel)) (show cX9_makes.data.toList[50]? = some 0xd5 from (LBX9_makesr_3 2).trans (by decide +kernel)) (by decide)
theorem dX9_makes_51 : decode cX9_makes 51 = .ok (.iload 5, 2) := dk_21_ (show cX9_makes.data.toList[51]? = some 0x15 from (LBX9_makesr_3 3).trans (by decide +kernel)) (show cX9_makes.data.toList[52]? = some 0x05 from (LBX9_makesr_3 4).trans (by decide +kernel)) (by decide)
theorem dX9_makes_53 : decode cX9_makes 53 = .ok (.iadd, 1) := dk_96_ (show cX9_makes.data.toList[53]? = some 0x60 from (LBX9_makesr_3 5).trans (by decide +kernel))
theorem dX9_makes_54 : decode cX9_makes 54 = .ok (.iconst 1, 1) := dk_4_ (show cX9_makes.data.toList[54]? = some 0x04 from (LBX9_makesr_3 6).trans (by decide +kernel))
theorem dX9_makes_55 : decode cX9_makes 55 = .ok (.iastore, 1) := dk_79_ (show cX9_makes.data.toList[55]? = some 0x4f from (LBX9_makesr_3 7).trans (by decide +kernel))
theorem dX9_makes_56 : decode cX9_makes 56 = .ok (.iload 6, 2) := dk_21_ (show cX9_makes.data.toList[56]? = some 0x15 from (LBX9_makesr_3 8).trans (by decide +kernel)) (show cX9_makes.data.toList[57]? = some 0x06 from (LBX9_makesr_3 9).trans (by decide +kernel)) (by decide)
theorem dX9_makes_58 : decode cX9_makes 58 = .ok (.ifCond .ne 7, 3) := dk_154_ (show cX9_makes.data.toList[58]? = some 0x9a from (LBX9_makesr_3 10).trans (by decide +kernel)) (show cX9_makes.data.toList[59]? = some 0x00 from (LBX9_makesr_3 11).trans (by decide +kernel)) (show cX9_makes.data.toList[60]? = some 0x07 from (LBX9_makesr_3 12).trans (by decide +kernel)) (by decide)
theorem dX9_makes_61 : decode cX9_makes 61 = .ok (.iconst 1, 1) := dk_4_ (show cX9_makes.data.toList[61]? = some 0x04 from (LBX9_makesr_3 13).trans (by decide +kernel))
theorem dX9_makes_62 : decode cX9_makes 62 = .ok (.goto 4, 3) := dk_167_ (show cX9_makes.data.toList[62]? = some 0xa7 from (LBX9_makesr_3 14).trans (by decide +kernel)) (show cX9_makes.data.toList[63]? = some 0x00 from (LBX9_makesr_3 15).trans (by decide +kernel)) (show cX9_makes.data.toList[64]? = some 0x04 from (LBX9_makesr_4 0).trans (by decide +kernel)) (by decide)
theorem dX9_makes_65 : decode cX9_makes 65 = .ok (.iconst 0, 1) := dk_3_ (show cX9_makes.data.toList[65]? = some 0x03 from (LBX9_makesr_4 1).trans (by decide +kernel))
theorem dX9_makes_66 : decode cX9_makes 66 = .ok (.ireturn, 1) := dk_172_ (show cX9_makes.data.toList[66]? = some 0xac from (LBX9_makesr_4 2).trans (by decide +kernel))
def LRX9_way_3 : List UInt8 := []
def LBX9_way_2 : List UInt8 := [0x38, 0xb6, 0x00, 0x46, 0xac]
def LRX9_way_2 : List UInt8 := LBX9_way_2 ++ LRX9_way_3
def LBX9_way_1 : List UInt8 := [0x00, 0x0f, 0x2a, 0x1b, 0x1c, 0x1d, 0x15, 0x04, 0xb6, 0x00, 0x57, 0xa7, 0x00, 0x09, 0x2a, 0x12]
def LRX9_way_1 : List UInt8 := LBX9_way_1 ++ LRX9_way_2
def LBX9_way_0 : List UInt8 := [0x2a, 0x1b, 0x1c, 0xb6, 0x00, 0x50, 0x99, 0x00, 0x18, 0x1d, 0x15, 0x04, 0xb8, 0x00, 0x54, 0x99]
def LRX9_way_0 : List UInt8 := LBX9_way_0 ++ LRX9_way_1
set_option maxRecDepth 100000 in
theorem LBX9_way_eq : cX9_way.data.toList = LRX9_way_0 := by decide +kernel
theorem LBX9_wayr_0 (k : Nat) : cX9_way.data.toList[0 + k]? = LRX9_way_0[k]? := by rw [LBX9_way_eq, Nat.zero_add]
theorem LBX9_wayr_1 (k : Nat) : cX9_way.data.toList[16 + k]? = LRX9_way_1[k]? := by
  have h := LBX9_wayr_0 (16 + k)
  rw [show 0 + (16 + k) = 16 + k by omega] at h
  rw [h]
  exact (List.getElem?_append_right (l₁ := LBX9_way_0) (l₂ := LRX9_way_1) (show 16 ≤ 16 + k by omega)).trans (congrArg (fun i => LRX9_way_1[i]?) (show 16 + k - 16 = k by omega))
theorem LBX9_wayr_2 (k : Nat) : cX9_way.data.toList[32 + k]? = LRX9_way_2[k]? := by
  have h := LBX9_wayr_1 (16 + k)
  rw [show 16 + (16 + k) = 32 + k by omega] at h
  rw [h]
  exact (List.getElem?_append_right (l₁ := LBX9_way_1) (l₂ := LRX9_way_2) (show 16 ≤ 16 + k by omega)).trans (congrArg (fun i => LRX9_way_2[i]?) (show 16 + k - 16 = k by omega))
theorem dX9_way_0 : decode cX9_way 0 = .ok (.aload_n 0, 1) := dk_42_ (show cX9_way.data.toList[0]? = some 0x2a from (LBX9_wayr_0 0).trans (by decide +kernel))
theorem dX9_way_1 : decode cX9_way 1 = .ok (.iload_n 1, 1) := dk_27_ (show cX9_way.data.toList[1]? = some 0x1b from (LBX9_wayr_0 1).trans (by decide +kernel))
theorem dX9_way_2 : decode cX9_way 2 = .ok (.iload_n 2, 1) := dk_28_ (show cX9_way.data.toList[2]? = some 0x1c from (LBX9_wayr_0 2).trans (by decide +kernel))
theorem dX9_way_3 : decode cX9_way 3 = .ok (.invokevirtual 80, 3) := dk_182_ (show cX9_way.data.toList[3]? = some 0xb6 from (LBX9_wayr_0 3).trans (by decide +kernel)) (show cX9_way.data.toList[4]? = some 0x00 from (LBX9_wayr_0 4).trans (by decide +kernel)) (show cX9_way.data.toList[5]? = some 0x50 from (LBX9_wayr_0 5).trans (by decide +kernel)) (by decide)
theorem dX9_way_6 : decode cX9_way 6 = .ok (.ifCond .eq 24, 3) := dk_153_ (show cX9_way.data.toList[6]? = some 0x99 from (LBX9_wayr_0 6).trans (by decide +kernel)) (show cX9_way.data.toList[7]? = some 0x00 from (LBX9_wayr_0 7).trans (by decide +kernel)) (show cX9_way.data.toList[8]? = some 0x18 from (LBX9_wayr_0 8).trans (by decide +kernel)) (by decide)
theorem dX9_way_9 : decode cX9_way 9 = .ok (.iload_n 3, 1) := dk_29_ (show cX9_way.data.toList[9]? = some 0x1d from (LBX9_wayr_0 9).trans (by decide +kernel))
theorem dX9_way_10 : decode cX9_way 10 = .ok (.iload 4, 2) := dk_21_ (show cX9_way.data.toList[10]? = some 0x15 from (LBX9_wayr_0 10).trans (by decide +kernel)) (show cX9_way.data.toList[11]? = some 0x04 from (LBX9_wayr_0 11).trans (by decide +kernel)) (by decide)
theorem dX9_way_12 : decode cX9_way 12 = .ok (.invokestatic 84, 3) := dk_184_ (show cX9_way.data.toList[12]? = some 0xb8 from (LBX9_wayr_0 12).trans (by decide +kernel)) (show cX9_way.data.toList[13]? = some 0x00 from (LBX9_wayr_0 13).trans (by decide +kernel)) (show cX9_way.data.toList[14]? = some 0x54 from (LBX9_wayr_0 14).trans (by decide +kernel)) (by decide)
theorem dX9_way_15 : decode cX9_way 15 = .ok (.ifCond .eq 15, 3) := dk_153_ (show cX9_way.data.toList[15]? = some 0x99 from (LBX9_wayr_0 15).trans (by decide +kernel)) (show cX9_way.data.toList[16]? = some 0x00 from (LBX9_wayr_1 0).trans (by decide +kernel)) (show cX9_way.data.toList[17]? = some 0x0f from (LBX9_wayr_1 1).trans (by decide +kernel)) (by decide)
theorem dX9_way_18 : decode cX9_way 18 = .ok (.aload_n 0, 1) := dk_42_ (show cX9_way.data.toList[18]? = some 0x2a from (LBX9_wayr_1 2).trans (by decide +kernel))
theorem dX9_way_19 : decode cX9_way 19 = .ok (.iload_n 1, 1) := dk_27_ (show cX9_way.data.toList[19]? = some 0x1b from (LBX9_wayr_1 3).trans (by decide +kernel))
theorem dX9_way_20 : decode cX9_way 20 = .ok (.iload_n 2, 1) := dk_28_ (show cX9_way.data.toList[20]? = some 0x1c from (LBX9_wayr_1 4).trans (by decide +kernel))
theorem dX9_way_21 : decode cX9_way 21 = .ok (.iload_n 3, 1) := dk_29_ (show cX9_way.data.toList[21]? = some 0x1d from (LBX9_wayr_1 5).trans (by decide +kernel))
theorem dX9_way_22 : decode cX9_way 22 = .ok (.iload 4, 2) := dk_21_ (show cX9_way.data.toList[22]? = some 0x15 from (LBX9_wayr_1 6).trans (by decide +kernel)) (show cX9_way.data.toList[23]? = some 0x04 from (LBX9_wayr_1 7).trans (by decide +kernel)) (by decide)
theorem dX9_way_24 : decode cX9_way 24 = .ok (.invokevirtual 87, 3) := dk_182_ (show cX9_way.data.toList[24]? = some 0xb6 from (LBX9_wayr_1 8).trans (by decide +kernel)) (show cX9_way.data.toList[25]? = some 0x00 from (LBX9_wayr_1 9).trans (by decide +kernel)) (show cX9_way.data.toList[26]? = some 0x57 from (LBX9_wayr_1 10).trans (by decide +kernel)) (by decide)
theorem dX9_way_27 : decode cX9_way 27 = .ok (.goto 9, 3) := dk_167_ (show cX9_way.data.toList[27]? = some 0xa7 from (LBX9_wayr_1 11).trans (by decide +kernel)) (show cX9_way.data.toList[28]? = some 0x00 from (LBX9_wayr_1 12).trans (by decide +kernel)) (show cX9_way.data.toList[29]? = some 0x09 from (LBX9_wayr_1 13).trans (by decide +kernel)) (by decide)
theorem dX9_way_30 : decode cX9_way 30 = .ok (.aload_n 0, 1) := dk_42_ (show cX9_way.data.toList[30]? = some 0x2a from (LBX9_wayr_1 14).trans (by decide +kernel))
theorem dX9_way_31 : decode cX9_way 31 = .ok (.ldc 56, 2) := dk_18_ (show cX9_way.data.toList[31]? = some 0x12 from (LBX9_wayr_1 15).trans (by decide +kernel)) (show cX9_way.data.toList[32]? = some 0x38 from (LBX9_wayr_2 0).trans (by decide +kernel)) (by decide)
theorem dX9_way_33 : decode cX9_way 33 = .ok (.invokevirtual 70, 3) := dk_182_ (show cX9_way.data.toList[33]? = some 0xb6 from (LBX9_wayr_2 1).trans (by decide +kernel)) (show cX9_way.data.toList[34]? = some 0x00 from (LBX9_wayr_2 2).trans (by decide +kernel)) (show cX9_way.data.toList[35]? = some 0x46 from (LBX9_wayr_2 3).trans (by decide +kernel)) (by decide)
theorem dX9_way_36 : decode cX9_way 36 = .ok (.ireturn, 1) := dk_172_ (show cX9_way.data.toList[36]? = some 0xac from (LBX9_wayr_2 4).trans (by decide +kernel))
def LRX9_wayOf_7 : List UInt8 := []
def LBX9_wayOf_6 : List UInt8 := [0x60, 0x2e, 0x04, 0x64, 0xac]
def LRX9_wayOf_6 : List UInt8 := LBX9_wayOf_6 ++ LRX9_wayOf_7
def LBX9_wayOf_5 : List UInt8 := [0x15, 0x04, 0x60, 0x2e, 0xa7, 0x00, 0x10, 0x2a, 0xb4, 0x00, 0x07, 0x11, 0x00, 0xd5, 0x15, 0x04]
def LRX9_wayOf_5 : List UInt8 := LBX9_wayOf_5 ++ LRX9_wayOf_6
def LBX9_wayOf_4 : List UInt8 := [0x60, 0x2e, 0xa7, 0x00, 0x22, 0x1d, 0x04, 0xa0, 0x00, 0x10, 0x2a, 0xb4, 0x00, 0x07, 0x10, 0x71]
def LRX9_wayOf_4 : List UInt8 := LBX9_wayOf_4 ++ LRX9_wayOf_5
def LBX9_wayOf_3 : List UInt8 := [0x1c, 0x60, 0x36, 0x04, 0x1d, 0x9a, 0x00, 0x10, 0x2a, 0xb4, 0x00, 0x07, 0x10, 0x0d, 0x15, 0x04]
def LRX9_wayOf_3 : List UInt8 := LBX9_wayOf_3 ++ LRX9_wayOf_4
def LBX9_wayOf_2 : List UInt8 := [0x00, 0x5d, 0x9a, 0x00, 0x0a, 0x2a, 0x12, 0x60, 0xb6, 0x00, 0x46, 0xac, 0x10, 0x0a, 0x1b, 0x68]
def LRX9_wayOf_2 : List UInt8 := LBX9_wayOf_2 ++ LRX9_wayOf_3
def LBX9_wayOf_1 : List UInt8 := [0x00, 0x39, 0x9a, 0x00, 0x0a, 0x2a, 0x12, 0x38, 0xb6, 0x00, 0x46, 0xac, 0x2a, 0x1b, 0x1c, 0xb6]
def LRX9_wayOf_1 : List UInt8 := LBX9_wayOf_1 ++ LRX9_wayOf_2
def LBX9_wayOf_0 : List UInt8 := [0x2a, 0x1b, 0x1c, 0xb6, 0x00, 0x50, 0x99, 0x00, 0x0f, 0x1d, 0x85, 0x09, 0x14, 0x00, 0x5b, 0xb8]
def LRX9_wayOf_0 : List UInt8 := LBX9_wayOf_0 ++ LRX9_wayOf_1
set_option maxRecDepth 100000 in
theorem LBX9_wayOf_eq : cX9_wayOf.data.toList = LRX9_wayOf_0 := by decide +kernel
theorem LBX9_wayOfr_0 (k : Nat) : cX9_wayOf.data.toList[0 + k]? = LRX9_wayOf_0[k]? := by rw [LBX9_wayOf_eq, Nat.zero_add]
theorem LBX9_wayOfr_1 (k : Nat) : cX9_wayOf.data.toList[16 + k]? = LRX9_wayOf_1[k]? := by
  have h := LBX9_wayOfr_0 (16 + k)
  rw [show 0 + (16 + k) = 16 + k by omega] at h
  rw [h]
  exact (List.getElem?_append_right (l₁ := LBX9_wayOf_0) (l₂ := LRX9_wayOf_1) (show 16 ≤ 16 + k by omega)).trans (congrArg (fun i => LRX9_wayOf_1[i]?) (show 16 + k - 16 = k by omega))
theorem LBX9_wayOfr_2 (k : Nat) : cX9_wayOf.data.toList[32 + k]? = LRX9_wayOf_2[k]? := by
  have h := LBX9_wayOfr_1 (16 + k)
  rw [show 16 + (16 + k) = 32 + k by omega] at h
  rw [h]
  exact (List.getElem?_append_right (l₁ := LBX9_wayOf_1) (l₂ := LRX9_wayOf_2) (show 16 ≤ 16 + k by omega)).trans (congrArg (fun i => LRX9_wayOf_2[i]?) (show 16 + k - 16 = k by omega))
theorem LBX9_wayOfr_3 (k : Nat) : cX9_wayOf.data.toList[48 + k]? = LRX9_wayOf_3[k]? := by
  have h := LBX9_wayOfr_2 (16 + k)
  rw [show 32 + (16 + k) = 48 + k by omega] at h
  rw [h]
  exact (List.getElem?_append_right (l₁ := LBX9_wayOf_2) (l₂ := LRX9_wayOf_3) (show 16 ≤ 16 + k by omega)).trans (congrArg (fun i => LRX9_wayOf_3[i]?) (show 16 + k - 16 = k by omega))
theorem LBX9_wayOfr_4 (k : Nat) : cX9_wayOf.data.toList[64 + k]? = LRX9_wayOf_4[k]? := by
  have h := LBX9_wayOfr_3 (16 + k)
  rw [show 48 + (16 + k) = 64 + k by omega] at h
  rw [h]
  exact (List.getElem?_append_right (l₁ := LBX9_wayOf_3) (l₂ := LRX9_wayOf_4) (show 16 ≤ 16 + k by omega)).trans (congrArg (fun i => LRX9_wayOf_4[i]?) (show 16 + k - 16 = k by omega))
theorem LBX9_wayOfr_5 (k : Nat) : cX9_wayOf.data.toList[80 + k]? = LRX9_wayOf_5[k]? := by
  have h := LBX9_wayOfr_4 (16 + k)
  rw [show 64 + (16 + k) = 80 + k by omega] at h
  rw [h]
  exact (List.getElem?_append_right (l₁ := LBX9_wayOf_4) (l₂ := LRX9_wayOf_5) (show 16 ≤ 16 + k by omega)).trans (congrArg (fun i => LRX9_wayOf_5[i]?) (show 16 + k - 16 = k by omega))
theorem LBX9_wayOfr_6 (k : Nat) : cX9_wayOf.data.toList[96 + k]? = LRX9_wayOf_6[k]? := by
  have h := LBX9_wayOfr_5 (16 + k)
  rw [show 80 + (16 + k) = 96 + k by omega] at h
  rw [h]
  exact (List.getElem?_append_right (l₁ := LBX9_wayOf_5) (l₂ := LRX9_wayOf_6) (show 16 ≤ 16 + k by omega)).trans (congrArg (fun i => LRX9_wayOf_6[i]?) (show 16 + k - 16 = k by omega))
theorem dX9_wayOf_0 : decode cX9_wayOf 0 = .ok (.aload_n 0, 1) := dk_42_ (show cX9_wayOf.data.toList[0]? = some 0x2a from (LBX9_wayOfr_0 0).trans (by decide +kernel))
theorem dX9_wayOf_1 : decode cX9_wayOf 1 = .ok (.iload_n 1, 1) := dk_27_ (show cX9_wayOf.data.toList[1]? = some 0x1b from (LBX9_wayOfr_0 1).trans (by decide +kernel))
theorem dX9_wayOf_2 : decode cX9_wayOf 2 = .ok (.iload_n 2, 1) := dk_28_ (show cX9_wayOf.data.toList[2]? = some 0x1c from (LBX9_wayOfr_0 2).trans (by decide +kernel))
theorem dX9_wayOf_3 : decode cX9_wayOf 3 = .ok (.invokevirtual 80, 3) := dk_182_ (show cX9_wayOf.data.toList[3]? = some 0xb6 from (LBX9_wayOfr_0 3).trans (by decide +kernel)) (show cX9_wayOf.data.toList[4]? = some 0x00 from (LBX9_wayOfr_0 4).trans (by decide +kernel)) (show cX9_wayOf.data.toList[5]? = some 0x50 from (LBX9_wayOfr_0 5).trans (by decide +kernel)) (by decide)
theorem dX9_wayOf_6 : decode cX9_wayOf 6 = .ok (.ifCond .eq 15, 3) := dk_153_ (show cX9_wayOf.data.toList[6]? = some 0x99 from (LBX9_wayOfr_0 6).trans (by decide +kernel)) (show cX9_wayOf.data.toList[7]? = some 0x00 from (LBX9_wayOfr_0 7).trans (by decide +kernel)) (show cX9_wayOf.data.toList[8]? = some 0x0f from (LBX9_wayOfr_0 8).trans (by decide +kernel)) (by decide)
theorem dX9_wayOf_9 : decode cX9_wayOf 9 = .ok (.iload_n 3, 1) := dk_29_ (show cX9_wayOf.data.toList[9]? = some 0x1d from (LBX9_wayOfr_0 9).trans (by decide +kernel))
theorem dX9_wayOf_10 : decode cX9_wayOf 10 = .ok (.i2l, 1) := dk_133_ (show cX9_wayOf.data.toList[10]? = some 0x85 from (LBX9_wayOfr_0 10).trans (by decide +kernel))
theorem dX9_wayOf_11 : decode cX9_wayOf 11 = .ok (.lconst 0, 1) := dk_9_ (show cX9_wayOf.data.toList[11]? = some 0x09 from (LBX9_wayOfr_0 11).trans (by decide +kernel))
theorem dX9_wayOf_12 : decode cX9_wayOf 12 = .ok (.ldc2_w 91, 3) := dk_20_ (show cX9_wayOf.data.toList[12]? = some 0x14 from (LBX9_wayOfr_0 12).trans (by decide +kernel)) (show cX9_wayOf.data.toList[13]? = some 0x00 from (LBX9_wayOfr_0 13).trans (by decide +kernel)) (show cX9_wayOf.data.toList[14]? = some 0x5b from (LBX9_wayOfr_0 14).trans (by decide +kernel)) (by decide)
theorem dX9_wayOf_15 : decode cX9_wayOf 15 = .ok (.invokestatic 57, 3) := dk_184_ (show cX9_wayOf.data.toList[15]? = some 0xb8 from (LBX9_wayOfr_0 15).trans (by decide +kernel)) (show cX9_wayOf.data.toList[16]? = some 0x00 from (LBX9_wayOfr_1 0).trans (by decide +kernel)) (show cX9_wayOf.data.toList[17]? = some 0x39 from (LBX9_wayOfr_1 1).trans (by decide +kernel)) (by decide)
theorem dX9_wayOf_18 : decode cX9_wayOf 18 = .ok (.ifCond .ne 10, 3) := dk_154_ (show cX9_wayOf.data.toList[18]? = some 0x9a from (LBX9_wayOfr_1 2).trans (by decide +kernel)) (show cX9_wayOf.data.toList[19]? = some 0x00 from (LBX9_wayOfr_1 3).trans (by decide +kernel)) (show cX9_wayOf.data.toList[20]? = some 0x0a from (LBX9_wayOfr_1 4).trans (by decide +kernel)) (by decide)
theorem dX9_wayOf_21 : decode cX9_wayOf 21 = .ok (.aload_n 0, 1) := dk_42_ (show cX9_wayOf.data.toList[21]? = some 0x2a from (LBX9_wayOfr_1 5).trans (by decide +kernel))
theorem dX9_wayOf_22 : decode cX9_wayOf 22 = .ok (.ldc 56, 2) := dk_18_ (show cX9_wayOf.data.toList[22]? = some 0x12 from (LBX9_wayOfr_1 6).trans (by decide +kernel)) (show cX9_wayOf.data.toList[23]? = some 0x38 from (LBX9_wayOfr_1 7).trans (by decide +kernel)) (by decide)
theorem dX9_wayOf_24 : decode cX9_wayOf 24 = .ok (.invokevirtual 70, 3) := dk_182_ (show cX9_wayOf.data.toList[24]? = some 0xb6 from (LBX9_wayOfr_1 8).trans (by decide +kernel)) (show cX9_wayOf.data.toList[25]? = some 0x00 from (LBX9_wayOfr_1 9).trans (by decide +kernel)) (show cX9_wayOf.data.toList[26]? = some 0x46 from (LBX9_wayOfr_1 10).trans (by decide +kernel)) (by decide)
theorem dX9_wayOf_27 : decode cX9_wayOf 27 = .ok (.ireturn, 1) := dk_172_ (show cX9_wayOf.data.toList[27]? = some 0xac from (LBX9_wayOfr_1 11).trans (by decide +kernel))
theorem dX9_wayOf_28 : decode cX9_wayOf 28 = .ok (.aload_n 0, 1) := dk_42_ (show cX9_wayOf.data.toList[28]? = some 0x2a from (LBX9_wayOfr_1 12).trans (by decide +kernel))
theorem dX9_wayOf_29 : decode cX9_wayOf 29 = .ok (.iload_n 1, 1) := dk_27_ (show cX9_wayOf.data.toList[29]? = some 0x1b from (LBX9_wayOfr_1 13).trans (by decide +kernel))
theorem dX9_wayOf_30 : decode cX9_wayOf 30 = .ok (.iload_n 2, 1) := dk_28_ (show cX9_wayOf.data.toList[30]? = some 0x1c from (LBX9_wayOfr_1 14).trans (by decide +kernel))
theorem dX9_wayOf_31 : decode cX9_wayOf 31 = .ok (.invokevirtual 93, 3) := dk_182_ (show cX9_wayOf.data.toList[31]? = some 0xb6 from (LBX9_wayOfr_1 15).trans (by decide +kernel)) (show cX9_wayOf.data.toList[32]? = some 0x00 from (LBX9_wayOfr_2 0).trans (by decide +kernel)) (show cX9_wayOf.data.toList[33]? = some 0x5d from (LBX9_wayOfr_2 1).trans (by decide +kernel)) (by decide)
theorem dX9_wayOf_34 : decode cX9_wayOf 34 = .ok (.ifCond .ne 10, 3) := dk_154_ (show cX9_wayOf.data.toList[34]? = some 0x9a from (LBX9_wayOfr_2 2).trans (by decide +kernel)) (show cX9_wayOf.data.toList[35]? = some 0x00 from (LBX9_wayOfr_2 3).trans (by decide +kernel)) (show cX9_wayOf.data.toList[36]? = some 0x0a from (LBX9_wayOfr_2 4).trans (by decide +kernel)) (by decide)
theorem dX9_wayOf_37 : decode cX9_wayOf 37 = .ok (.aload_n 0, 1) := dk_42_ (show cX9_wayOf.data.toList[37]? = some 0x2a from (LBX9_wayOfr_2 5).trans (by decide +kernel))
theorem dX9_wayOf_38 : decode cX9_wayOf 38 = .ok (.ldc 96, 2) := dk_18_ (show cX9_wayOf.data.toList[38]? = some 0x12 from (LBX9_wayOfr_2 6).trans (by decide +kernel)) (show cX9_wayOf.data.toList[39]? = some 0x60 from (LBX9_wayOfr_2 7).trans (by decide +kernel)) (by decide)
theorem dX9_wayOf_40 : decode cX9_wayOf 40 = .ok (.invokevirtual 70, 3) := dk_182_ (show cX9_wayOf.data.toList[40]? = some 0xb6 from (LBX9_wayOfr_2 8).trans (by decide +kernel)) (show cX9_wayOf.data.toList[41]? = some 0x00 from (LBX9_wayOfr_2 9).trans (by decide +kernel)) (show cX9_wayOf.data.toList[42]? = some 0x46 from (LBX9_wayOfr_2 10).trans (by decide +kernel)) (by decide)
theorem dX9_wayOf_43 : decode cX9_wayOf 43 = .ok (.ireturn, 1) := dk_172_ (show cX9_wayOf.data.toList[43]? = some 0xac from (LBX9_wayOfr_2 11).trans (by decide +kernel))
theorem dX9_wayOf_44 : decode cX9_wayOf 44 = .ok (.bipush 10, 2) := dk_16_ (show cX9_wayOf.data.toList[44]? = some 0x10 from (LBX9_wayOfr_2 12).trans (by decide +kernel)) (show cX9_wayOf.data.toList[45]? = some 0x0a from (LBX9_wayOfr_2 13).trans (by decide +kernel)) (by decide)
theorem dX9_wayOf_46 : decode cX9_wayOf 46 = .ok (.iload_n 1, 1) := dk_27_ (show cX9_wayOf.data.toList[46]? = some 0x1b from (LBX9_wayOfr_2 14).trans (by decide +kernel))
theorem dX9_wayOf_47 : decode cX9_wayOf 47 = .ok (.imul, 1) := dk_104_ (show cX9_wayOf.data.toList[47]? = some 0x68 from (LBX9_wayOfr_2 15).trans (by decide +kernel))
theorem dX9_wayOf_48 : decode cX9_wayOf 48 = .ok (.iload_n 2, 1) := dk_28_ (show cX9_wayOf.data.toList[48]? = some 0x1c from (LBX9_wayOfr_3 0).trans (by decide +kernel))
theorem dX9_wayOf_49 : decode cX9_wayOf 49 = .ok (.iadd, 1) := dk_96_ (show cX9_wayOf.data.toList[49]? = some 0x60 from (LBX9_wayOfr_3 1).trans (by decide +kernel))
theorem dX9_wayOf_50 : decode cX9_wayOf 50 = .ok (.istore 4, 2) := dk_54_ (show cX9_wayOf.data.toList[50]? = some 0x36 from (LBX9_wayOfr_3 2).trans (by decide +kernel)) (show cX9_wayOf.data.toList[51]? = some 0x04 from (LBX9_wayOfr_3 3).trans (by decide +kernel)) (by decide)
theorem dX9_wayOf_52 : decode cX9_wayOf 52 = .ok (.iload_n 3, 1) := dk_29_ (show cX9_wayOf.data.toList[52]? = some 0x1d from (LBX9_wayOfr_3 4).trans (by decide +kernel))
theorem dX9_wayOf_53 : decode cX9_wayOf 53 = .ok (.ifCond .ne 16, 3) := dk_154_ (show cX9_wayOf.data.toList[53]? = some 0x9a from (LBX9_wayOfr_3 5).trans (by decide +kernel)) (show cX9_wayOf.data.toList[54]? = some 0x00 from (LBX9_wayOfr_3 6).trans (by decide +kernel)) (show cX9_wayOf.data.toList[55]? = some 0x10 from (LBX9_wayOfr_3 7).trans (by decide +kernel)) (by decide)
theorem dX9_wayOf_56 : decode cX9_wayOf 56 = .ok (.aload_n 0, 1) := dk_42_ (show cX9_wayOf.data.toList[56]? = some 0x2a from (LBX9_wayOfr_3 8).trans (by decide +kernel))
theorem dX9_wayOf_57 : decode cX9_wayOf 57 = .ok (.getfield 7, 3) := dk_180_ (show cX9_wayOf.data.toList[57]? = some 0xb4 from (LBX9_wayOfr_3 9).trans (by decide +kernel)) (show cX9_wayOf.data.toList[58]? = some 0x00 from (LBX9_wayOfr_3 10).trans (by decide +kernel)) (show cX9_wayOf.data.toList[59]? = some 0x07 from (LBX9_wayOfr_3 11).trans (by decide +kernel)) (by decide)
theorem dX9_wayOf_60 : decode cX9_wayOf 60 = .ok (.bipush 13, 2) := dk_16_ (show cX9_wayOf.data.toList[60]? = some 0x10 from (LBX9_wayOfr_3 12).trans (by decide +kernel)) (show cX9_wayOf.data.toList[61]? = some 0x0d from (LBX9_wayOfr_3 13).trans (by decide +kernel)) (by decide)
theorem dX9_wayOf_62 : decode cX9_wayOf 62 = .ok (.iload 4, 2) := dk_21_ (show cX9_wayOf.data.toList[62]? = some 0x15 from (LBX9_wayOfr_3 14).trans (by decide +kernel)) (show cX9_wayOf.data.toList[63]? = some 0x04 from (LBX9_wayOfr_3 15).trans (by decide +kernel)) (by decide)
theorem dX9_wayOf_64 : decode cX9_wayOf 64 = .ok (.iadd, 1) := dk_96_ (show cX9_wayOf.data.toList[64]? = some 0x60 from (LBX9_wayOfr_4 0).trans (by decide +kernel))
theorem dX9_wayOf_65 : decode cX9_wayOf 65 = .ok (.iaload, 1) := dk_46_ (show cX9_wayOf.data.toList[65]? = some 0x2e from (LBX9_wayOfr_4 1).trans (by decide +kernel))
theorem dX9_wayOf_66 : decode cX9_wayOf 66 = .ok (.goto 34, 3) := dk_167_ (show cX9_wayOf.data.toList[66]? = some 0xa7 from (LBX9_wayOfr_4 2).trans (by decide +kernel)) (show cX9_wayOf.data.toList[67]? = some 0x00 from (LBX9_wayOfr_4 3).trans (by decide +kernel)) (show cX9_wayOf.data.toList[68]? = some 0x22 from (LBX9_wayOfr_4 4).trans (by decide +kernel)) (by decide)
theorem dX9_wayOf_69 : decode cX9_wayOf 69 = .ok (.iload_n 3, 1) := dk_29_ (show cX9_wayOf.data.toList[69]? = some 0x1d from (LBX9_wayOfr_4 5).trans (by decide +kernel))
theorem dX9_wayOf_70 : decode cX9_wayOf 70 = .ok (.iconst 1, 1) := dk_4_ (show cX9_wayOf.data.toList[70]? = some 0x04 from (LBX9_wayOfr_4 6).trans (by decide +kernel))
theorem dX9_wayOf_71 : decode cX9_wayOf 71 = .ok (.if_icmp .ne 16, 3) := dk_160_ (show cX9_wayOf.data.toList[71]? = some 0xa0 from (LBX9_wayOfr_4 7).trans (by decide +kernel)) (show cX9_wayOf.data.toList[72]? = some 0x00 from (LBX9_wayOfr_4 8).trans (by decide +kernel)) (show cX9_wayOf.data.toList[73]? = some 0x10 from (LBX9_wayOfr_4 9).trans (by decide +kernel)) (by decide)
theorem dX9_wayOf_74 : decode cX9_wayOf 74 = .ok (.aload_n 0, 1) := dk_42_ (show cX9_wayOf.data.toList[74]? = some 0x2a from (LBX9_wayOfr_4 10).trans (by decide +kernel))
theorem dX9_wayOf_75 : decode cX9_wayOf 75 = .ok (.getfield 7, 3) := dk_180_ (show cX9_wayOf.data.toList[75]? = some 0xb4 from (LBX9_wayOfr_4 11).trans (by decide +kernel)) (show cX9_wayOf.data.toList[76]? = some 0x00 from (LBX9_wayOfr_4 12).trans (by decide +kernel)) (show cX9_wayOf.data.toList[77]? = some 0x07 from (LBX9_wayOfr_4 13).trans (by decide +kernel)) (by decide)
theorem dX9_wayOf_78 : decode cX9_wayOf 78 = .ok (.bipush 113, 2) := dk_16_ (show cX9_wayOf.data.toList[78]? = some 0x10 from (LBX9_wayOfr_4 14).trans (by decide +kernel)) (show cX9_wayOf.data.toList[79]? = some 0x71 from (LBX9_wayOfr_4 15).trans (by decide +kernel)) (by decide)
theorem dX9_wayOf_80 : decode cX9_wayOf 80 = .ok (.iload 4, 2) := dk_21_ (show cX9_wayOf.data.toList[80]? = some 0x15 from (LBX9_wayOfr_5 0).trans (by decide +kernel)) (show cX9_wayOf.data.toList[81]? = some 0x04 from (LBX9_wayOfr_5 1).trans (by decide +kernel)) (by decide)
theorem dX9_wayOf_82 : decode cX9_wayOf 82 = .ok (.iadd, 1) := dk_96_ (show cX9_wayOf.data.toList[82]? = some 0x60 from (LBX9_wayOfr_5 2).trans (by decide +kernel))
theorem dX9_wayOf_83 : decode cX9_wayOf 83 = .ok (.iaload, 1) := dk_46_ (show cX9_wayOf.data.toList[83]? = some 0x2e from (LBX9_wayOfr_5 3).trans (by decide +kernel))
theorem dX9_wayOf_84 : decode cX9_wayOf 84 = .ok (.goto 16, 3) := dk_167_ (show cX9_wayOf.data.toList[84]? = some 0xa7 from (LBX9_wayOfr_5 4).trans (by decide +kernel)) (show cX9_wayOf.data.toList[85]? = some 0x00 from (LBX9_wayOfr_5 5).trans (by decide +kernel)) (show cX9_wayOf.data.toList[86]? = some 0x10 from (LBX9_wayOfr_5 6).trans (by decide +kernel)) (by decide)
theorem dX9_wayOf_87 : decode cX9_wayOf 87 = .ok (.aload_n 0, 1) := dk_42_ (show cX9_wayOf.data.toList[87]? = some 0x2a from (LBX9_wayOfr_5 7).trans (by decide +kernel))
theorem dX9_wayOf_88 : decode cX9_wayOf 88 = .ok (.getfield 7, 3) := dk_180_ (show cX9_wayOf.data.toList[88]? = some 0xb4 from (LBX9_wayOfr_5 8).trans (by decide +kernel)) (show cX9_wayOf.data.toList[89]? = some 0x00 from (LBX9_wayOfr_5 9).trans (by decide +kernel)) (show cX9_wayOf.data.toList[90]? = some 0x07 from (LBX9_wayOfr_5 10).trans (by decide +kernel)) (by decide)
theorem dX9_wayOf_91 : decode cX9_wayOf 91 = .ok (.sipush 213, 3) := dk_17_ (show cX9_wayOf.data.toList[91]? = some 0x11 from (LBX9_wayOfr_5 11).trans (by decide +kernel)) (show cX9_wayOf.data.toList[92]? = some 0x00 from (LBX9_wayOfr_5 12).trans (by decide +kernel)) (show cX9_wayOf.data.toList[93]? = some 0xd5 from (LBX9_wayOfr_5 13).trans (by decide +kernel)) (by decide)
theorem dX9_wayOf_94 : decode cX9_wayOf 94 = .ok (.iload 4, 2) := dk_21_ (show cX9_wayOf.data.toList[94]? = some 0x15 from (LBX9_wayOfr_5 14).trans (by decide +kernel)) (show cX9_wayOf.data.toList[95]? = some 0x04 from (LBX9_wayOfr_5 15).trans (by decide +kernel)) (by decide)
theorem dX9_wayOf_96 : decode cX9_wayOf 96 = .ok (.iadd, 1) := dk_96_ (show cX9_wayOf.data.toList[96]? = some 0x60 from (LBX9_wayOfr_6 0).trans (by decide +kernel))
theorem dX9_wayOf_97 : decode cX9_wayOf 97 = .ok (.iaload, 1) := dk_46_ (show cX9_wayOf.data.toList[97]? = some 0x2e from (LBX9_wayOfr_6 1).trans (by decide +kernel))
theorem dX9_wayOf_98 : decode cX9_wayOf 98 = .ok (.iconst 1, 1) := dk_4_ (show cX9_wayOf.data.toList[98]? = some 0x04 from (LBX9_wayOfr_6 2).trans (by decide +kernel))
theorem dX9_wayOf_99 : decode cX9_wayOf 99 = .ok (.isub, 1) := dk_100_ (show cX9_wayOf.data.toList[99]? = some 0x64 from (LBX9_wayOfr_6 3).trans (by decide +kernel))
theorem dX9_wayOf_100 : decode cX9_wayOf 100 = .ok (.ireturn, 1) := dk_172_ (show cX9_wayOf.data.toList[100]? = some 0xac from (LBX9_wayOfr_6 4).trans (by decide +kernel))
def LRX9_shut_7 : List UInt8 := []
def LBX9_shut_6 : List UInt8 := [0x04, 0x04, 0xac]
def LRX9_shut_6 : List UInt8 := LBX9_shut_6 ++ LRX9_shut_7
def LBX9_shut_5 : List UInt8 := [0x00, 0xd5, 0x10, 0x0a, 0x1b, 0x68, 0x60, 0x1c, 0x60, 0x2e, 0xa0, 0x00, 0x07, 0x03, 0xa7, 0x00]
def LRX9_shut_5 : List UInt8 := LBX9_shut_5 ++ LRX9_shut_6
def LBX9_shut_4 : List UInt8 := [0x99, 0x00, 0x07, 0x05, 0xa7, 0x00, 0x04, 0x04, 0x4f, 0x15, 0x04, 0x2a, 0xb4, 0x00, 0x07, 0x11]
def LRX9_shut_4 : List UInt8 := LBX9_shut_4 ++ LRX9_shut_5
def LBX9_shut_3 : List UInt8 := [0x04, 0x2a, 0xb4, 0x00, 0x07, 0x11, 0x00, 0xd5, 0x10, 0x0a, 0x1b, 0x68, 0x60, 0x1c, 0x60, 0x1d]
def LRX9_shut_3 : List UInt8 := LBX9_shut_3 ++ LRX9_shut_4
def LBX9_shut_2 : List UInt8 := [0x2a, 0xb4, 0x00, 0x07, 0x11, 0x00, 0xd5, 0x10, 0x0a, 0x1b, 0x68, 0x60, 0x1c, 0x60, 0x2e, 0x36]
def LRX9_shut_2 : List UInt8 := LBX9_shut_2 ++ LRX9_shut_3
def LBX9_shut_1 : List UInt8 := [0x2a, 0x1b, 0x1c, 0xb6, 0x00, 0x5d, 0x9a, 0x00, 0x0a, 0x2a, 0x12, 0x60, 0xb6, 0x00, 0x46, 0xac]
def LRX9_shut_1 : List UInt8 := LBX9_shut_1 ++ LRX9_shut_2
def LBX9_shut_0 : List UInt8 := [0x2a, 0x1b, 0x1c, 0xb6, 0x00, 0x50, 0x9a, 0x00, 0x0a, 0x2a, 0x12, 0x38, 0xb6, 0x00, 0x46, 0xac]
def LRX9_shut_0 : List UInt8 := LBX9_shut_0 ++ LRX9_shut_1
set_option maxRecDepth 100000 in
theorem LBX9_shut_eq : cX9_shut.data.toList = LRX9_shut_0 := by decide +kernel
theorem LBX9_shutr_0 (k : Nat) : cX9_shut.data.toList[0 + k]? = LRX9_shut_0[k]? := by rw [LBX9_shut_eq, Nat.zero_add]
theorem LBX9_shutr_1 (k : Nat) : cX9_shut.data.toList[16 + k]? = LRX9_shut_1[k]? := by
  have h := LBX9_shutr_0 (16 + k)
  rw [show 0 + (16 + k) = 16 + k by omega] at h
  rw [h]
  exact (List.getElem?_append_right (l₁ := LBX9_shut_0) (l₂ := LRX9_shut_1) (show 16 ≤ 16 + k by omega)).trans (congrArg (fun i => LRX9_shut_1[i]?) (show 16 + k - 16 = k by omega))
theorem LBX9_shutr_2 (k : Nat) : cX9_shut.data.toList[32 + k]? = LRX9_shut_2[k]? := by
  have h := LBX9_shutr_1 (16 + k)
  rw [show 16 + (16 + k) = 32 + k by omega] at h
  rw [h]
  exact (List.getElem?_append_right (l₁ := LBX9_shut_1) (l₂ := LRX9_shut_2) (show 16 ≤ 16 + k by omega)).trans (congrArg (fun i => LRX9_shut_2[i]?) (show 16 + k - 16 = k by omega))
theorem LBX9_shutr_3 (k : Nat) : cX9_shut.data.toList[48 + k]? = LRX9_shut_3[k]? := by
  have h := LBX9_shutr_2 (16 + k)
  rw [show 32 + (16 + k) = 48 + k by omega] at h
  rw [h]
  exact (List.getElem?_append_right (l₁ := LBX9_shut_2) (l₂ := LRX9_shut_3) (show 16 ≤ 16 + k by omega)).trans (congrArg (fun i => LRX9_shut_3[i]?) (show 16 + k - 16 = k by omega))
theorem LBX9_shutr_4 (k : Nat) : cX9_shut.data.toList[64 + k]? = LRX9_shut_4[k]? := by
  have h := LBX9_shutr_3 (16 + k)
  rw [show 48 + (16 + k) = 64 + k by omega] at h
  rw [h]
  exact (List.getElem?_append_right (l₁ := LBX9_shut_3) (l₂ := LRX9_shut_4) (show 16 ≤ 16 + k by omega)).trans (congrArg (fun i => LRX9_shut_4[i]?) (show 16 + k - 16 = k by omega))
theorem LBX9_shutr_5 (k : Nat) : cX9_shut.data.toList[80 + k]? = LRX9_shut_5[k]? := by
  have h := LBX9_shutr_4 (16 + k)
  rw [show 64 + (16 + k) = 80 + k by omega] at h
  rw [h]
  exact (List.getElem?_append_right (l₁ := LBX9_shut_4) (l₂ := LRX9_shut_5) (show 16 ≤ 16 + k by omega)).trans (congrArg (fun i => LRX9_shut_5[i]?) (show 16 + k - 16 = k by omega))
theorem LBX9_shutr_6 (k : Nat) : cX9_shut.data.toList[96 + k]? = LRX9_shut_6[k]? := by
  have h := LBX9_shutr_5 (16 + k)
  rw [show 80 + (16 + k) = 96 + k by omega] at h
  rw [h]
  exact (List.getElem?_append_right (l₁ := LBX9_shut_5) (l₂ := LRX9_shut_6) (show 16 ≤ 16 + k by omega)).trans (congrArg (fun i => LRX9_shut_6[i]?) (show 16 + k - 16 = k by omega))
theorem dX9_shut_0 : decode cX9_shut 0 = .ok (.aload_n 0, 1) := dk_42_ (show cX9_shut.data.toList[0]? = some 0x2a from (LBX9_shutr_0 0).trans (by decide +kernel))
theorem dX9_shut_1 : decode cX9_shut 1 = .ok (.iload_n 1, 1) := dk_27_ (show cX9_shut.data.toList[1]? = some 0x1b from (LBX9_shutr_0 1).trans (by decide +kernel))
theorem dX9_shut_2 : decode cX9_shut 2 = .ok (.iload_n 2, 1) := dk_28_ (show cX9_shut.data.toList[2]? = some 0x1c from (LBX9_shutr_0 2).trans (by decide +kernel))
theorem dX9_shut_3 : decode cX9_shut 3 = .ok (.invokevirtual 80, 3) := dk_182_ (show cX9_shut.data.toList[3]? = some 0xb6 from (LBX9_shutr_0 3).trans (by decide +kernel)) (show cX9_shut.data.toList[4]? = some 0x00 from (LBX9_shutr_0 4).trans (by decide +kernel)) (show cX9_shut.data.toList[5]? = some 0x50 from (LBX9_shutr_0 5).trans (by decide +kernel)) (by decide)
theorem dX9_shut_6 : decode cX9_shut 6 = .ok (.ifCond .ne 10, 3) := dk_154_ (show cX9_shut.data.toList[6]? = some 0x9a from (LBX9_shutr_0 6).trans (by decide +kernel)) (show cX9_shut.data.toList[7]? = some 0x00 from (LBX9_shutr_0 7).trans (by decide +kernel)) (show cX9_shut.data.toList[8]? = some 0x0a from (LBX9_shutr_0 8).trans (by decide +kernel)) (by decide)
theorem dX9_shut_9 : decode cX9_shut 9 = .ok (.aload_n 0, 1) := dk_42_ (show cX9_shut.data.toList[9]? = some 0x2a from (LBX9_shutr_0 9).trans (by decide +kernel))
theorem dX9_shut_10 : decode cX9_shut 10 = .ok (.ldc 56, 2) := dk_18_ (show cX9_shut.data.toList[10]? = some 0x12 from (LBX9_shutr_0 10).trans (by decide +kernel)) (show cX9_shut.data.toList[11]? = some 0x38 from (LBX9_shutr_0 11).trans (by decide +kernel)) (by decide)
theorem dX9_shut_12 : decode cX9_shut 12 = .ok (.invokevirtual 70, 3) := dk_182_ (show cX9_shut.data.toList[12]? = some 0xb6 from (LBX9_shutr_0 12).trans (by decide +kernel)) (show cX9_shut.data.toList[13]? = some 0x00 from (LBX9_shutr_0 13).trans (by decide +kernel)) (show cX9_shut.data.toList[14]? = some 0x46 from (LBX9_shutr_0 14).trans (by decide +kernel)) (by decide)
theorem dX9_shut_15 : decode cX9_shut 15 = .ok (.ireturn, 1) := dk_172_ (show cX9_shut.data.toList[15]? = some 0xac from (LBX9_shutr_0 15).trans (by decide +kernel))
theorem dX9_shut_16 : decode cX9_shut 16 = .ok (.aload_n 0, 1) := dk_42_ (show cX9_shut.data.toList[16]? = some 0x2a from (LBX9_shutr_1 0).trans (by decide +kernel))
theorem dX9_shut_17 : decode cX9_shut 17 = .ok (.iload_n 1, 1) := dk_27_ (show cX9_shut.data.toList[17]? = some 0x1b from (LBX9_shutr_1 1).trans (by decide +kernel))
theorem dX9_shut_18 : decode cX9_shut 18 = .ok (.iload_n 2, 1) := dk_28_ (show cX9_shut.data.toList[18]? = some 0x1c from (LBX9_shutr_1 2).trans (by decide +kernel))
theorem dX9_shut_19 : decode cX9_shut 19 = .ok (.invokevirtual 93, 3) := dk_182_ (show cX9_shut.data.toList[19]? = some 0xb6 from (LBX9_shutr_1 3).trans (by decide +kernel)) (show cX9_shut.data.toList[20]? = some 0x00 from (LBX9_shutr_1 4).trans (by decide +kernel)) (show cX9_shut.data.toList[21]? = some 0x5d from (LBX9_shutr_1 5).trans (by decide +kernel)) (by decide)
theorem dX9_shut_22 : decode cX9_shut 22 = .ok (.ifCond .ne 10, 3) := dk_154_ (show cX9_shut.data.toList[22]? = some 0x9a from (LBX9_shutr_1 6).trans (by decide +kernel)) (show cX9_shut.data.toList[23]? = some 0x00 from (LBX9_shutr_1 7).trans (by decide +kernel)) (show cX9_shut.data.toList[24]? = some 0x0a from (LBX9_shutr_1 8).trans (by decide +kernel)) (by decide)
theorem dX9_shut_25 : decode cX9_shut 25 = .ok (.aload_n 0, 1) := dk_42_ (show cX9_shut.data.toList[25]? = some 0x2a from (LBX9_shutr_1 9).trans (by decide +kernel))
theorem dX9_shut_26 : decode cX9_shut 26 = .ok (.ldc 96, 2) := dk_18_ (show cX9_shut.data.toList[26]? = some 0x12 from (LBX9_shutr_1 10).trans (by decide +kernel)) (show cX9_shut.data.toList[27]? = some 0x60 from (LBX9_shutr_1 11).trans (by decide +kernel)) (by decide)
theorem dX9_shut_28 : decode cX9_shut 28 = .ok (.invokevirtual 70, 3) := dk_182_ (show cX9_shut.data.toList[28]? = some 0xb6 from (LBX9_shutr_1 12).trans (by decide +kernel)) (show cX9_shut.data.toList[29]? = some 0x00 from (LBX9_shutr_1 13).trans (by decide +kernel)) (show cX9_shut.data.toList[30]? = some 0x46 from (LBX9_shutr_1 14).trans (by decide +kernel)) (by decide)
theorem dX9_shut_31 : decode cX9_shut 31 = .ok (.ireturn, 1) := dk_172_ (show cX9_shut.data.toList[31]? = some 0xac from (LBX9_shutr_1 15).trans (by decide +kernel))
theorem dX9_shut_32 : decode cX9_shut 32 = .ok (.aload_n 0, 1) := dk_42_ (show cX9_shut.data.toList[32]? = some 0x2a from (LBX9_shutr_2 0).trans (by decide +kernel))
theorem dX9_shut_33 : decode cX9_shut 33 = .ok (.getfield 7, 3) := dk_180_ (show cX9_shut.data.toList[33]? = some 0xb4 from (LBX9_shutr_2 1).trans (by decide +kernel)) (show cX9_shut.data.toList[34]? = some 0x00 from (LBX9_shutr_2 2).trans (by decide +kernel)) (show cX9_shut.data.toList[35]? = some 0x07 from (LBX9_shutr_2 3).trans (by decide +kernel)) (by decide)
theorem dX9_shut_36 : decode cX9_shut 36 = .ok (.sipush 213, 3) := dk_17_ (show cX9_shut.data.toList[36]? = some 0x11 from (LBX9_shutr_2 4).trans (by decide +kernel)) (show cX9_shut.data.toList[37]? = some 0x00 from (LBX9_shutr_2 5).trans (by decide +kernel)) (show cX9_shut.data.toList[38]? = some 0xd5 from (LBX9_shutr_2 6).trans (by decide +kernel)) (by decide)
theorem dX9_shut_39 : decode cX9_shut 39 = .ok (.bipush 10, 2) := dk_16_ (show cX9_shut.data.toList[39]? = some 0x10 from (LBX9_shutr_2 7).trans (by decide +kernel)) (show cX9_shut.data.toList[40]? = some 0x0a from (LBX9_shutr_2 8).trans (by decide +kernel)) (by decide)
theorem dX9_shut_41 : decode cX9_shut 41 = .ok (.iload_n 1, 1) := dk_27_ (show cX9_shut.data.toList[41]? = some 0x1b from (LBX9_shutr_2 9).trans (by decide +kernel))
theorem dX9_shut_42 : decode cX9_shut 42 = .ok (.imul, 1) := dk_104_ (show cX9_shut.data.toList[42]? = some 0x68 from (LBX9_shutr_2 10).trans (by decide +kernel))
theorem dX9_shut_43 : decode cX9_shut 43 = .ok (.iadd, 1) := dk_96_ (show cX9_shut.data.toList[43]? = some 0x60 from (LBX9_shutr_2 11).trans (by decide +kernel))
theorem dX9_shut_44 : decode cX9_shut 44 = .ok (.iload_n 2, 1) := dk_28_ (show cX9_shut.data.toList[44]? = some 0x1c from (LBX9_shutr_2 12).trans (by decide +kernel))
theorem dX9_shut_45 : decode cX9_shut 45 = .ok (.iadd, 1) := dk_96_ (show cX9_shut.data.toList[45]? = some 0x60 from (LBX9_shutr_2 13).trans (by decide +kernel))
theorem dX9_shut_46 : decode cX9_shut 46 = .ok (.iaload, 1) := dk_46_ (show cX9_shut.data.toList[46]? = some 0x2e from (LBX9_shutr_2 14).trans (by decide +kernel))
theorem dX9_shut_47 : decode cX9_shut 47 = .ok (.istore 4, 2) := dk_54_ (show cX9_shut.data.toList[47]? = some 0x36 from (LBX9_shutr_2 15).trans (by decide +kernel)) (show cX9_shut.data.toList[48]? = some 0x04 from (LBX9_shutr_3 0).trans (by decide +kernel)) (by decide)
theorem dX9_shut_49 : decode cX9_shut 49 = .ok (.aload_n 0, 1) := dk_42_ (show cX9_shut.data.toList[49]? = some 0x2a from (LBX9_shutr_3 1).trans (by decide +kernel))
theorem dX9_shut_50 : decode cX9_shut 50 = .ok (.getfield 7, 3) := dk_180_ (show cX9_shut.data.toList[50]? = some 0xb4 from (LBX9_shutr_3 2).trans (by decide +kernel)) (show cX9_shut.data.toList[51]? = some 0x00 from (LBX9_shutr_3 3).trans (by decide +kernel)) (show cX9_shut.data.toList[52]? = some 0x07 from (LBX9_shutr_3 4).trans (by decide +kernel)) (by decide)
theorem dX9_shut_53 : decode cX9_shut 53 = .ok (.sipush 213, 3) := dk_17_ (show cX9_shut.data.toList[53]? = some 0x11 from (LBX9_shutr_3 5).trans (by decide +kernel)) (show cX9_shut.data.toList[54]? = some 0x00 from (LBX9_shutr_3 6).trans (by decide +kernel)) (show cX9_shut.data.toList[55]? = some 0xd5 from (LBX9_shutr_3 7).trans (by decide +kernel)) (by decide)
theorem dX9_shut_56 : decode cX9_shut 56 = .ok (.bipush 10, 2) := dk_16_ (show cX9_shut.data.toList[56]? = some 0x10 from (LBX9_shutr_3 8).trans (by decide +kernel)) (show cX9_shut.data.toList[57]? = some 0x0a from (LBX9_shutr_3 9).trans (by decide +kernel)) (by decide)
theorem dX9_shut_58 : decode cX9_shut 58 = .ok (.iload_n 1, 1) := dk_27_ (show cX9_shut.data.toList[58]? = some 0x1b from (LBX9_shutr_3 10).trans (by decide +kernel))
theorem dX9_shut_59 : decode cX9_shut 59 = .ok (.imul, 1) := dk_104_ (show cX9_shut.data.toList[59]? = some 0x68 from (LBX9_shutr_3 11).trans (by decide +kernel))
theorem dX9_shut_60 : decode cX9_shut 60 = .ok (.iadd, 1) := dk_96_ (show cX9_shut.data.toList[60]? = some 0x60 from (LBX9_shutr_3 12).trans (by decide +kernel))
theorem dX9_shut_61 : decode cX9_shut 61 = .ok (.iload_n 2, 1) := dk_28_ (show cX9_shut.data.toList[61]? = some 0x1c from (LBX9_shutr_3 13).trans (by decide +kernel))
theorem dX9_shut_62 : decode cX9_shut 62 = .ok (.iadd, 1) := dk_96_ (show cX9_shut.data.toList[62]? = some 0x60 from (LBX9_shutr_3 14).trans (by decide +kernel))
theorem dX9_shut_63 : decode cX9_shut 63 = .ok (.iload_n 3, 1) := dk_29_ (show cX9_shut.data.toList[63]? = some 0x1d from (LBX9_shutr_3 15).trans (by decide +kernel))
theorem dX9_shut_64 : decode cX9_shut 64 = .ok (.ifCond .eq 7, 3) := dk_153_ (show cX9_shut.data.toList[64]? = some 0x99 from (LBX9_shutr_4 0).trans (by decide +kernel)) (show cX9_shut.data.toList[65]? = some 0x00 from (LBX9_shutr_4 1).trans (by decide +kernel)) (show cX9_shut.data.toList[66]? = some 0x07 from (LBX9_shutr_4 2).trans (by decide +kernel)) (by decide)
theorem dX9_shut_71 : decode cX9_shut 71 = .ok (.iconst 1, 1) := dk_4_ (show cX9_shut.data.toList[71]? = some 0x04 from (LBX9_shutr_4 7).trans (by decide +kernel))
theorem dX9_shut_72 : decode cX9_shut 72 = .ok (.iastore, 1) := dk_79_ (show cX9_shut.data.toList[72]? = some 0x4f from (LBX9_shutr_4 8).trans (by decide +kernel))
theorem dX9_shut_73 : decode cX9_shut 73 = .ok (.iload 4, 2) := dk_21_ (show cX9_shut.data.toList[73]? = some 0x15 from (LBX9_shutr_4 9).trans (by decide +kernel)) (show cX9_shut.data.toList[74]? = some 0x04 from (LBX9_shutr_4 10).trans (by decide +kernel)) (by decide)
theorem dX9_shut_75 : decode cX9_shut 75 = .ok (.aload_n 0, 1) := dk_42_ (show cX9_shut.data.toList[75]? = some 0x2a from (LBX9_shutr_4 11).trans (by decide +kernel))
theorem dX9_shut_76 : decode cX9_shut 76 = .ok (.getfield 7, 3) := dk_180_ (show cX9_shut.data.toList[76]? = some 0xb4 from (LBX9_shutr_4 12).trans (by decide +kernel)) (show cX9_shut.data.toList[77]? = some 0x00 from (LBX9_shutr_4 13).trans (by decide +kernel)) (show cX9_shut.data.toList[78]? = some 0x07 from (LBX9_shutr_4 14).trans (by decide +kernel)) (by decide)
theorem dX9_shut_79 : decode cX9_shut 79 = .ok (.sipush 213, 3) := dk_17_ (show cX9_shut.data.toList[79]? = some 0x11 from (LBX9_shutr_4 15).trans (by decide +kernel)) (show cX9_shut.data.toList[80]? = some 0x00 from (LBX9_shutr_5 0).trans (by decide +kernel)) (show cX9_shut.data.toList[81]? = some 0xd5 from (LBX9_shutr_5 1).trans (by decide +kernel)) (by decide)
theorem dX9_shut_82 : decode cX9_shut 82 = .ok (.bipush 10, 2) := dk_16_ (show cX9_shut.data.toList[82]? = some 0x10 from (LBX9_shutr_5 2).trans (by decide +kernel)) (show cX9_shut.data.toList[83]? = some 0x0a from (LBX9_shutr_5 3).trans (by decide +kernel)) (by decide)
theorem dX9_shut_84 : decode cX9_shut 84 = .ok (.iload_n 1, 1) := dk_27_ (show cX9_shut.data.toList[84]? = some 0x1b from (LBX9_shutr_5 4).trans (by decide +kernel))
theorem dX9_shut_85 : decode cX9_shut 85 = .ok (.imul, 1) := dk_104_ (show cX9_shut.data.toList[85]? = some 0x68 from (LBX9_shutr_5 5).trans (by decide +kernel))
theorem dX9_shut_86 : decode cX9_shut 86 = .ok (.iadd, 1) := dk_96_ (show cX9_shut.data.toList[86]? = some 0x60 from (LBX9_shutr_5 6).trans (by decide +kernel))
theorem dX9_shut_87 : decode cX9_shut 87 = .ok (.iload_n 2, 1) := dk_28_ (show cX9_shut.data.toList[87]? = some 0x1c from (LBX9_shutr_5 7).trans (by decide +kernel))
theorem dX9_shut_88 : decode cX9_shut 88 = .ok (.iadd, 1) := dk_96_ (show cX9_shut.data.toList[88]? = some 0x60 from (LBX9_shutr_5 8).trans (by decide +kernel))
theorem dX9_shut_89 : decode cX9_shut 89 = .ok (.iaload, 1) := dk_46_ (show cX9_shut.data.toList[89]? = some 0x2e from (LBX9_shutr_5 9).trans (by decide +kernel))
theorem dX9_shut_90 : decode cX9_shut 90 = .ok (.if_icmp .ne 7, 3) := dk_160_ (show cX9_shut.data.toList[90]? = some 0xa0 from (LBX9_shutr_5 10).trans (by decide +kernel)) (show cX9_shut.data.toList[91]? = some 0x00 from (LBX9_shutr_5 11).trans (by decide +kernel)) (show cX9_shut.data.toList[92]? = some 0x07 from (LBX9_shutr_5 12).trans (by decide +kernel)) (by decide)
theorem dX9_shut_93 : decode cX9_shut 93 = .ok (.iconst 0, 1) := dk_3_ (show cX9_shut.data.toList[93]? = some 0x03 from (LBX9_shutr_5 13).trans (by decide +kernel))
theorem dX9_shut_94 : decode cX9_shut 94 = .ok (.goto 4, 3) := dk_167_ (show cX9_shut.data.toList[94]? = some 0xa7 from (LBX9_shutr_5 14).trans (by decide +kernel)) (show cX9_shut.data.toList[95]? = some 0x00 from (LBX9_shutr_5 15).trans (by decide +kernel)) (show cX9_shut.data.toList[96]? = some 0x04 from (LBX9_shutr_6 0).trans (by decide +kernel)) (by decide)
theorem dX9_shut_97 : decode cX9_shut 97 = .ok (.iconst 1, 1) := dk_4_ (show cX9_shut.data.toList[97]? = some 0x04 from (LBX9_shutr_6 1).trans (by decide +kernel))
theorem dX9_shut_98 : decode cX9_shut 98 = .ok (.ireturn, 1) := dk_172_ (show cX9_shut.data.toList[98]? = some 0xac from (LBX9_shutr_6 2).trans (by decide +kernel))
theorem dX9_shut_67 : decode cX9_shut 67 = .ok (.iconst 2, 1) := dk_5_ (show cX9_shut.data.toList[67]? = some 0x05 from (LBX9_shutr_4 3).trans (by decide +kernel))
theorem dX9_shut_68 : decode cX9_shut 68 = .ok (.goto 4, 3) := dk_167_ (show cX9_shut.data.toList[68]? = some 0xa7 from (LBX9_shutr_4 4).trans (by decide +kernel)) (show cX9_shut.data.toList[69]? = some 0x00 from (LBX9_shutr_4 5).trans (by decide +kernel)) (show cX9_shut.data.toList[70]? = some 0x04 from (LBX9_shutr_4 6).trans (by decide +kernel)) (by decide)
theorem uw672 : Cond.methodLink RX9 74 yX9_newPlace ∈ wsU := ut5 (List.mem_of_getElem? (i := 60) rfl) rfl
theorem uw673 : Cond.instanceMethod yX9_newPlace ∈ wsU := ut5 (List.mem_of_getElem? (i := 62) rfl) rfl
theorem uw674 : Cond.selects RX9 yX9_newPlace yX9_newPlace ∈ wsU := us_sel (q := (yX9_newPlace, 27)) (List.mem_of_getElem? (i := 30) (by decide +kernel)) rfl
theorem uw675 : Cond.code yX9_newPlace cX9_newPlace 1 (some .int) ∈ wsU := ut5 (List.mem_of_getElem? (i := 63) rfl) rfl
theorem uw676 : Cond.constant RX9 69 (-1000000002) ∈ wsU := ut5 (List.mem_of_getElem? (i := 54) rfl) rfl
theorem uw677 : Cond.methodLink RX9 70 yX9_finds ∈ wsU := ut5 (List.mem_of_getElem? (i := 55) rfl) rfl
theorem uw678 : Cond.instanceMethod yX9_finds ∈ wsU := ut5 (List.mem_of_getElem? (i := 57) rfl) rfl
theorem uw679 : Cond.selects RX9 yX9_finds yX9_finds ∈ wsU := us_sel (q := (yX9_finds, 27)) (List.mem_of_getElem? (i := 29) (by decide +kernel)) rfl
theorem uw680 : Cond.code yX9_finds cX9_finds 2 (some .int) ∈ wsU := ut5 (List.mem_of_getElem? (i := 58) rfl) rfl
theorem uw681 : Cond.constantLong RX9 78 99 ∈ wsU := ut5 (List.mem_of_getElem? (i := 75) rfl) rfl
theorem uw682 : Cond.methodLink RX9 80 yX9_areTwo ∈ wsU := ut5 (List.mem_of_getElem? (i := 80) rfl) rfl
theorem uw683 : Cond.instanceMethod yX9_areTwo ∈ wsU := ut5 (List.mem_of_getElem? (i := 82) rfl) rfl
theorem uw684 : Cond.selects RX9 yX9_areTwo yX9_areTwo ∈ wsU := us_sel (q := (yX9_areTwo, 27)) (List.mem_of_getElem? (i := 32) (by decide +kernel)) rfl
theorem uw685 : Cond.code yX9_areTwo cX9_areTwo 3 (some .boolean) ∈ wsU := ut5 (List.mem_of_getElem? (i := 83) rfl) rfl
theorem uw686 : Cond.methodLink RX9 84 yX9_areEnds ∈ wsU := ut5 (List.mem_of_getElem? (i := 84) rfl) rfl
theorem uw687 : Cond.static yX9_areEnds ∈ wsU := ut5 (List.mem_of_getElem? (i := 85) rfl) rfl
theorem uw688 : Cond.initialized yX9_areEnds.cls ∈ wsU := ut1 (List.mem_of_getElem? (i := 10) rfl) rfl
theorem uw689 : Cond.code yX9_areEnds cX9_areEnds 2 (some .boolean) ∈ wsU := ut5 (List.mem_of_getElem? (i := 86) rfl) rfl
theorem uw690 : Cond.methodLink RX9 87 yX9_makes ∈ wsU := ut5 (List.mem_of_getElem? (i := 89) rfl) rfl
theorem uw691 : Cond.instanceMethod yX9_makes ∈ wsU := ut5 (List.mem_of_getElem? (i := 91) rfl) rfl
theorem uw692 : Cond.selects RX9 yX9_makes yX9_makes ∈ wsU := us_sel (q := (yX9_makes, 27)) (List.mem_of_getElem? (i := 33) (by decide +kernel)) rfl
theorem uw693 : Cond.code yX9_makes cX9_makes 7 (some .int) ∈ wsU := ut5 (List.mem_of_getElem? (i := 92) rfl) rfl
theorem uw694 : Cond.constantLong RX9 91 2 ∈ wsU := ut5 (List.mem_of_getElem? (i := 97) rfl) rfl
theorem uw695 : Cond.methodLink RX9 93 yX9_isWay ∈ wsU := ut5 (List.mem_of_getElem? (i := 98) rfl) rfl
theorem uw696 : Cond.instanceMethod yX9_isWay ∈ wsU := ut5 (List.mem_of_getElem? (i := 100) rfl) rfl
theorem uw697 : Cond.selects RX9 yX9_isWay yX9_isWay ∈ wsU := us_sel (q := (yX9_isWay, 27)) (List.mem_of_getElem? (i := 34) (by decide +kernel)) rfl
theorem uw698 : Cond.code yX9_isWay cX9_isWay 3 (some .boolean) ∈ wsU := ut5 (List.mem_of_getElem? (i := 101) rfl) rfl
theorem uw699 : Cond.constant RX9 96 (-1000000004) ∈ wsU := ut5 (List.mem_of_getElem? (i := 102) rfl) rfl
theorem kv_X9_74 : xWV RX9 74 RX9 yX9_newPlace cX9_newPlace 1 (some .int) 0 := ⟨⟨uw672, uw673, uw674, uw657, uw675⟩, by decide +kernel⟩
theorem kv_X9_70 : xWV RX9 70 RX9 yX9_finds cX9_finds 2 (some .int) 1 := ⟨⟨uw677, uw678, uw679, uw657, uw680⟩, by decide +kernel⟩
theorem kv_X9_80 : xWV RX9 80 RX9 yX9_areTwo cX9_areTwo 3 (some .boolean) 2 := ⟨⟨uw682, uw683, uw684, uw657, uw685⟩, by decide +kernel⟩
theorem ks_X9_84 : xWS RX9 84 yX9_areEnds cX9_areEnds 2 (some .boolean) 2 := ⟨⟨uw686, uw687, uw688, uw689⟩, by decide +kernel⟩
theorem kv_X9_87 : xWV RX9 87 RX9 yX9_makes cX9_makes 7 (some .int) 4 := ⟨⟨uw690, uw691, uw692, uw657, uw693⟩, by decide +kernel⟩
theorem kv_X9_93 : xWV RX9 93 RX9 yX9_isWay cX9_isWay 3 (some .boolean) 2 := ⟨⟨uw695, uw696, uw697, uw657, uw698⟩, by decide +kernel⟩
set_option maxHeartbeats 4000000 in
set_option maxRecDepth 100000 in
theorem c_X9_newPlace (l : Launch) (D : va_G) (cI cJ cZ cS : ClassId) (ta : Nat) (sa sv : Nat → Nat) (sz : Nat) (h0 : Nat) (ys : Nat) (yk : Nat) (yo : Nat) (yt : Nat) (mk0 : Int32) (yfa : Nat) (yfe : Nat) (mL : Int32) (mS : Int32) (mM : Int32) (yro : Nat) (yhe : Nat) (ygr : Nat) (mF : Int32) (mC : Int32) (mY : Int32) (yta : Nat) (mz : Nat) (mf : Nat) (mt : Nat) (mv : Int32) (mw : Int32) (ywa : Nat) (ybi : Nat) (ysi : Nat) (ynu : Nat) (ymo : Nat) (ms : Nat → Int32) (P : Nat) (Rn : Nat) (Wn : Nat) (fae : Nat → Int32) (fal : Nat → Int32) (fau : Nat → Int32) (fao : Nat → Int32) (farn : Nat → Int32) (farp : Nat → Int32) (fak : Nat → Int32) (fawn : Nat → Int32) (fawp : Nat → Int32) (fat : Nat → Int32) (fas : Nat → Int32) (hP1 : P < 10) (hs0 : ms 0 = nI P) (hs1 : ms 1 = nI Rn) (hs2 : ms 2 = nI Wn) (hsS : SI ms) (hsM : MI ms) (hsp : P ≤ 10) (hsr : Rn ≤ 8) (hsw : Wn ≤ 8) (hsR : RI Rn ms) (hsG : FR P ms fae fal fau fao farn farp fak fawn fawp fat fas) : Met l yX9_newPlace (Cond.code yX9_newPlace cX9_newPlace 1 (some .int) :: wsU) ({ frames := 0, cells := 0, slots := 0, locals := 0 }) (va_Pc [.ref h0] (XW D (xT cI cJ cZ cS) ta sa sv [(h0, .inr (9, [.ref ys, .ref yk, .ref yo, .ref yt, .int mk0, .ref yfa, .ref yfe, .int mL, .int mS, .int mM, .ref yro, .ref yhe, .ref ygr, .int mF, .int mC, .int mY, .ref yta, .int (nI (mz)), .int (nI (mf)), .int (nI (mt)), .int mv, .int mw, .ref ywa, .ref ybi, .ref ysi, .ref ynu, .ref ymo])), (ys, .inl (cI, 449, .inl ms))] sz)) (XQi (fun (r : Int32) (ms2 : (Nat → Int32)) => ((r = nI (P))) ∧ (ms2 0 = nI (P + 1)) ∧ (ms2 1 = nI Rn) ∧ (ms2 2 = nI Wn) ∧ (SI ms2) ∧ (MI ms2) ∧ (P + 1 ≤ 10) ∧ (Rn ≤ 8) ∧ (Wn ≤ 8) ∧ (RI Rn ms2) ∧ (FR (P + 1) ms2 (upd fae P 0) fal fau fao farn farp fak fawn fawp fat fas)) D (fun (ms2 : Nat → Int32) => [(h0, .inr (9, [.ref ys, .ref yk, .ref yo, .ref yt, .int mk0, .ref yfa, .ref yfe, .int mL, .int mS, .int mM, .ref yro, .ref yhe, .ref ygr, .int mF, .int mC, .int mY, .ref yta, .int (nI (mz)), .int (nI (mf)), .int (nI (mt)), .int mv, .int mw, .ref ywa, .ref ybi, .ref ysi, .ref ynu, .ref ymo])), (ys, .inl (cI, 449, .inl ms2))]) (va_A [(h0, .inr (9, [.ref ys, .ref yk, .ref yo, .ref yt, .int mk0, .ref yfa, .ref yfe, .int mL, .int mS, .int mM, .ref yro, .ref yhe, .ref ygr, .int mF, .int mC, .int mY, .ref yta, .int (nI (mz)), .int (nI (mf)), .int (nI (mt)), .int mv, .int mw, .ref ywa, .ref ybi, .ref ysi, .ref ynu, .ref ymo])), (ys, .inl (cI, 449, .inl ms))] sz)) 0 0 (va_A [(h0, .inr (9, [.ref ys, .ref yk, .ref yo, .ref yt, .int mk0, .ref yfa, .ref yfe, .int mL, .int mS, .int mM, .ref yro, .ref yhe, .ref ygr, .int mF, .int mC, .int mY, .ref yta, .int (nI (mz)), .int (nI (mf)), .int (nI (mt)), .int mv, .int mw, .ref ywa, .ref ybi, .ref ysi, .ref ynu, .ref ymo])), (ys, .inl (cI, 449, .inl ms))] sz) := by
  refine xh (QA := fun A => XQi (fun (r : Int32) (ms2 : (Nat → Int32)) => ((r = nI (P))) ∧ (ms2 0 = nI (P + 1)) ∧ (ms2 1 = nI Rn) ∧ (ms2 2 = nI Wn) ∧ (SI ms2) ∧ (MI ms2) ∧ (P + 1 ≤ 10) ∧ (Rn ≤ 8) ∧ (Wn ≤ 8) ∧ (RI Rn ms2) ∧ (FR (P + 1) ms2 (upd fae P 0) fal fau fao farn farp fak fawn fawp fat fas)) D (fun (ms2 : Nat → Int32) => [(h0, .inr (9, [.ref ys, .ref yk, .ref yo, .ref yt, .int mk0, .ref yfa, .ref yfe, .int mL, .int mS, .int mM, .ref yro, .ref yhe, .ref ygr, .int mF, .int mC, .int mY, .ref yta, .int (nI (mz)), .int (nI (mf)), .int (nI (mt)), .int mv, .int mw, .ref ywa, .ref ybi, .ref ysi, .ref ynu, .ref ymo])), (ys, .inl (cI, 449, .inl ms2))]) A) (fr := fun A => A) (by decide) (Nat.le_of_ble_eq_true rfl) ?_
  intro p e s m below meth c ls A hF hr hlk hin hsz hP hK hD hN hZ hA hS hl
  have hF : CallFix p m c cX9_newPlace 1 s _ _ RX9 := hF
  have hx := hF.1
  have hb := hF.2.1
  have hml := hF.2.2.1
  have hown := hF.2.2.2.1
  have hu : ∀ w ∈ wsU, w.before _ s = true := fun w h => hF.2.2.2.2 w (List.mem_cons_of_mem _ h)
  have hl : lv_has ls 1 [(0, .ref h0)] := hl
  refine lv_aload_n hx hb dX9_newPlace_0 rfl (lv_at hl 0 rfl) ?_
  refine xg hF kf_X9_7 hK hP 0 rfl rfl dX9_newPlace_1 ?_
  refine lv_iconst (v := 0) hx hb dX9_newPlace_4 (by decide) ?_
  refine lv_dup2_11 hx hb dX9_newPlace_5 rfl rfl ?_
  refine va_iald hx hb hK hP 1 0 rfl rfl (xin 0 449 (by decide) (by decide)) dX9_newPlace_6 ?_
  refine xl_i (y := nI (P)) hs0 ?_
  refine lv_iconst (v := 1) hx hb dX9_newPlace_7 (by decide) ?_
  refine lv_iadd hx hb dX9_newPlace_8 ?_
  refine xl_i (y := nI (P + 1)) (nI_add P 1) ?_
  refine va_iast hx hb hK hP hD hS 1 0 rfl rfl (xin 0 449 (by decide) (by decide)) dX9_newPlace_9 (fun H locs hP hD hS => ?_)
  obtain ⟨f_1, ef_1⟩ : ∃ g, g = upd ms 0 (nI (P + 1)) := ⟨_, rfl⟩
  have hP : va_P D vwCl [(h0, .inr (9, [.ref ys, .ref yk, .ref yo, .ref yt, .int mk0, .ref yfa, .ref yfe, .int mL, .int mS, .int mM, .ref yro, .ref yhe, .ref ygr, .int mF, .int mC, .int mY, .ref yta, .int (nI (mz)), .int (nI (mf)), .int (nI (mt)), .int mv, .int mw, .ref ywa, .ref ybi, .ref ysi, .ref ynu, .ref ymo])), (ys, .inl (cI, 449, .inl (upd ms 0 (nI (P + 1)))))] H := hP
  have hD : va_D A [(h0, .inr (9, [.ref ys, .ref yk, .ref yo, .ref yt, .int mk0, .ref yfa, .ref yfe, .int mL, .int mS, .int mM, .ref yro, .ref yhe, .ref ygr, .int mF, .int mC, .int mY, .ref yta, .int (nI (mz)), .int (nI (mf)), .int (nI (mt)), .int mv, .int mw, .ref ywa, .ref ybi, .ref ysi, .ref ynu, .ref ymo])), (ys, .inl (cI, 449, .inl (upd ms 0 (nI (P + 1)))))] := hD
  rw [← ef_1] at hP hD
  have k0_f_1 : f_1 0 = nI (P + 1) := by rw [ef_1]; exact pk_us
  have kp_f_1 : P + 1 ≤ 10 := by omega
  have k1_f_1 : f_1 1 = nI Rn := by rw [ef_1]; exact (pk_un (show 1 ≠ 0 by omega)).trans hs1
  have k2_f_1 : f_1 2 = nI Wn := by rw [ef_1]; exact (pk_un (show 2 ≠ 0 by omega)).trans hs2
  have kS_f_1 : SI f_1 := by rw [ef_1]; exact SI.upd hsS (okS.low (show 0 < 313 by omega))
  have kM_f_1 : MI f_1 := by rw [ef_1]; exact MI.upd hsM (okM.out (show 0 < 13 ∨ 113 ≤ 0 by omega))
  have kR_f_1 : RI Rn f_1 := by rw [ef_1]; exact RI.upd hsR (fun r9 hr9 e9 => by omega)
  have kG_f_1 : FR (P + 1) f_1 (upd fae P 0) fal fau fao farn farp fak fawn fawp fat fas := by rw [ef_1]; exact FR.inc hsG
  have hP : va_P D vwCl [(h0, .inr (9, [.ref ys, .ref yk, .ref yo, .ref yt, .int mk0, .ref yfa, .ref yfe, .int mL, .int mS, .int mM, .ref yro, .ref yhe, .ref ygr, .int mF, .int mC, .int mY, .ref yta, .int (nI (mz)), .int (nI (mf)), .int (nI (mt)), .int mv, .int mw, .ref ywa, .ref ybi, .ref ysi, .ref ynu, .ref ymo])), (ys, .inl (cI, 449, .inl f_1))] H := hP
  have hD : va_D A [(h0, .inr (9, [.ref ys, .ref yk, .ref yo, .ref yt, .int mk0, .ref yfa, .ref yfe, .int mL, .int mS, .int mM, .ref yro, .ref yhe, .ref ygr, .int mF, .int mC, .int mY, .ref yta, .int (nI (mz)), .int (nI (mf)), .int (nI (mt)), .int mv, .int mw, .ref ywa, .ref ybi, .ref ysi, .ref ynu, .ref ymo])), (ys, .inl (cI, 449, .inl f_1))] := hD
  refine lv_aload_n hx hb dX9_newPlace_10 rfl (lv_at hl 0 rfl) ?_
  refine xg hF kf_X9_7 hK hP 0 rfl rfl dX9_newPlace_11 ?_
  refine lv_iconst (v := 0) hx hb dX9_newPlace_14 (by decide) ?_
  refine va_iald hx hb hK hP 1 0 rfl rfl (xin 0 449 (by decide) (by decide)) dX9_newPlace_15 ?_
  refine xl_i (y := nI (P + 1)) k0_f_1 ?_
  refine lv_iconst (v := 1) hx hb dX9_newPlace_16 (by decide) ?_
  refine lv_isub hx hb dX9_newPlace_17 ?_
  refine xl_i (y := nI (P + 1 - 1)) (pk_sub (show 1 ≤ P + 1 by omega)) ?_
  exact W.iret (v := nI (P + 1 - 1)) hx hb hr (fun t ht hW => ⟨⟨nI (P + 1 - 1), f_1, rfl, ⟨rfl, k0_f_1, k1_f_1, k2_f_1, kS_f_1, kM_f_1, kp_f_1, hsr, hsw, kR_f_1, kG_f_1⟩, by rw [ht]; exact hP.sub [0, 1] rfl, hD.sub [0, 1] (by decide) rfl⟩, hS.F ht⟩) hS.2.2 dX9_newPlace_18 hlk
set_option maxHeartbeats 4000000 in
set_option maxRecDepth 100000 in
theorem c_X9_place (l : Launch) (D : va_G) (cI cJ cZ cS : ClassId) (ta : Nat) (sa sv : Nat → Nat) (sz : Nat) (h0 : Nat) (ys : Nat) (yk : Nat) (yo : Nat) (yt : Nat) (mk0 : Int32) (yfa : Nat) (yfe : Nat) (mL : Int32) (mS : Int32) (mM : Int32) (yro : Nat) (yhe : Nat) (ygr : Nat) (mF : Int32) (mC : Int32) (mY : Int32) (yta : Nat) (mz : Nat) (mf : Nat) (mt : Nat) (mv : Int32) (mw : Int32) (ywa : Nat) (ybi : Nat) (ysi : Nat) (ynu : Nat) (ymo : Nat) (ms : Nat → Int32) (mq : Nat → Int32) (P : Nat) (Rn : Nat) (Wn : Nat) (fae : Nat → Int32) (fal : Nat → Int32) (fau : Nat → Int32) (fao : Nat → Int32) (farn : Nat → Int32) (farp : Nat → Int32) (fak : Nat → Int32) (fawn : Nat → Int32) (fawp : Nat → Int32) (fat : Nat → Int32) (fas : Nat → Int32) (hs0 : ms 0 = nI P) (hs1 : ms 1 = nI Rn) (hs2 : ms 2 = nI Wn) (hsS : SI ms) (hsM : MI ms) (hsp : P ≤ 10) (hsr : Rn ≤ 8) (hsw : Wn ≤ 8) (hsR : RI Rn ms) (hsG : FR P ms fae fal fau fao farn farp fak fawn fawp fat fas) : Met l yX9_place (Cond.code yX9_place cX9_place 1 (some .int) :: wsU) ({ frames := 1, cells := 0, slots := 0, locals := 21 }) (va_Pc [.ref h0] (XW D (xT cI cJ cZ cS) ta sa sv [(h0, .inr (9, [.ref ys, .ref yk, .ref yo, .ref yt, .int mk0, .ref yfa, .ref yfe, .int mL, .int mS, .int mM, .ref yro, .ref yhe, .ref ygr, .int mF, .int mC, .int mY, .ref yta, .int (nI (mz)), .int (nI (mf)), .int (nI (mt)), .int mv, .int mw, .ref ywa, .ref ybi, .ref ysi, .ref ynu, .ref ymo])), (ys, .inl (cI, 449, .inl ms)), (yt, .inl (cI, 7, .inl mq))] sz)) (XQi (fun (r : Int32) (u : (Nat → Int32) × (Nat → Int32) × Nat × (Nat → Int32)) => match u with | (ms2, mq2, P2, ge) => ((r = sp_plr P)) ∧ (P2 = sp_pl P) ∧ (ge = plE P fae) ∧ (ms2 0 = nI P2) ∧ (ms2 1 = nI Rn) ∧ (ms2 2 = nI Wn) ∧ (SI ms2) ∧ (MI ms2) ∧ (P2 ≤ 10) ∧ (Rn ≤ 8) ∧ (Wn ≤ 8) ∧ (RI Rn ms2) ∧ (FR P2 ms2 ge fal fau fao farn farp fak fawn fawp fat fas)) D (fun (u : (Nat → Int32) × (Nat → Int32) × Nat × (Nat → Int32)) => match u with | (ms2, mq2, P2, ge) => [(h0, .inr (9, [.ref ys, .ref yk, .ref yo, .ref yt, .int mk0, .ref yfa, .ref yfe, .int mL, .int mS, .int mM, .ref yro, .ref yhe, .ref ygr, .int mF, .int mC, .int mY, .ref yta, .int (nI (mz)), .int (nI (mf)), .int (nI (mt)), .int mv, .int mw, .ref ywa, .ref ybi, .ref ysi, .ref ynu, .ref ymo])), (ys, .inl (cI, 449, .inl ms2)), (yt, .inl (cI, 7, .inl mq2))]) (va_A [(h0, .inr (9, [.ref ys, .ref yk, .ref yo, .ref yt, .int mk0, .ref yfa, .ref yfe, .int mL, .int mS, .int mM, .ref yro, .ref yhe, .ref ygr, .int mF, .int mC, .int mY, .ref yta, .int (nI (mz)), .int (nI (mf)), .int (nI (mt)), .int mv, .int mw, .ref ywa, .ref ybi, .ref ysi, .ref ynu, .ref ymo])), (ys, .inl (cI, 449, .inl ms)), (yt, .inl (cI, 7, .inl mq))] sz)) 0 0 (va_A [(h0, .inr (9, [.ref ys, .ref yk, .ref yo, .ref yt, .int mk0, .ref yfa, .ref yfe, .int mL, .int mS, .int mM, .ref yro, .ref yhe, .ref ygr, .int mF, .int mC, .int mY, .ref yta, .int (nI (mz)), .int (nI (mf)), .int (nI (mt)), .int mv, .int mw, .ref ywa, .ref ybi, .ref ysi, .ref ynu, .ref ymo])), (ys, .inl (cI, 449, .inl ms)), (yt, .inl (cI, 7, .inl mq))] sz) := by
  refine xh (QA := fun A => XQi (fun (r : Int32) (u : (Nat → Int32) × (Nat → Int32) × Nat × (Nat → Int32)) => match u with | (ms2, mq2, P2, ge) => ((r = sp_plr P)) ∧ (P2 = sp_pl P) ∧ (ge = plE P fae) ∧ (ms2 0 = nI P2) ∧ (ms2 1 = nI Rn) ∧ (ms2 2 = nI Wn) ∧ (SI ms2) ∧ (MI ms2) ∧ (P2 ≤ 10) ∧ (Rn ≤ 8) ∧ (Wn ≤ 8) ∧ (RI Rn ms2) ∧ (FR P2 ms2 ge fal fau fao farn farp fak fawn fawp fat fas)) D (fun (u : (Nat → Int32) × (Nat → Int32) × Nat × (Nat → Int32)) => match u with | (ms2, mq2, P2, ge) => [(h0, .inr (9, [.ref ys, .ref yk, .ref yo, .ref yt, .int mk0, .ref yfa, .ref yfe, .int mL, .int mS, .int mM, .ref yro, .ref yhe, .ref ygr, .int mF, .int mC, .int mY, .ref yta, .int (nI (mz)), .int (nI (mf)), .int (nI (mt)), .int mv, .int mw, .ref ywa, .ref ybi, .ref ysi, .ref ynu, .ref ymo])), (ys, .inl (cI, 449, .inl ms2)), (yt, .inl (cI, 7, .inl mq2))]) A) (fr := fun A => A) (by decide) (Nat.le_of_ble_eq_true rfl) ?_
  intro p e s m below meth c ls A hF hr hlk hin hsz hP hK hD hN hZ hA hS hl
  have hF : CallFix p m c cX9_place 1 s _ _ RX9 := hF
  have hx := hF.1
  have hb := hF.2.1
  have hml := hF.2.2.1
  have hown := hF.2.2.2.1
  have hu : ∀ w ∈ wsU, w.before _ s = true := fun w h => hF.2.2.2.2 w (List.mem_cons_of_mem _ h)
  have hl : lv_has ls 1 [(0, .ref h0)] := hl
  refine lv_aload_n hx hb dX9_place_0 rfl (lv_at hl 0 rfl) ?_
  refine xg hF kf_X9_7 hK hP 0 rfl rfl dX9_place_1 ?_
  refine lv_iconst (v := 0) hx hb dX9_place_4 (by decide) ?_
  refine va_iald hx hb hK hP 1 0 rfl rfl (xin 0 449 (by decide) (by decide)) dX9_place_5 ?_
  refine xl_i (y := nI (P)) hs0 ?_
  refine lv_bipush (v := 10) hx hb dX9_place_6 (by decide) ?_
  refine lv_icmp_ne (tgt := 20) hx hb dX9_place_8 (by decide) (fun c_1 => ?_) (fun c_1 => ?_)
  · skip
    have nc_1 : P ≠ 10 := xn_ne (a := P) (b := 10) (by omega) (by omega) c_1
    refine lv_aload_n hx hb dX9_place_20 rfl (lv_at hl 0 rfl) ?_
    refine xc_Vi (wr := [(yt, .inl (cI, 7, .inl mq))]) hF (c_X9_newPlace l D cI cJ cZ cS ta sa sv s.heap.size h0 ys yk yo yt mk0 yfa yfe mL mS mM yro yhe ygr mF mC mY yta mz mf mt mv mw ywa ybi ysi ynu ymo ms P Rn Wn fae fal fau fao farn farp fak fawn fawp fat fas (by omega) hs0 hs1 hs2 hsS hsM hsp hsr hsw hsR hsG) kv_X9_74 ⟨rfl, rfl, Nat.le_of_ble_eq_true rfl, Nat.le_of_ble_eq_true rfl⟩ ⟨Nat.le_of_ble_eq_true rfl, Nat.le_of_ble_eq_true rfl⟩ hK hN hZ hP hD hS hA [0, 1] [2] rfl rfl rfl rfl (by decide) 0 rfl rfl rfl rfl hl.1 rfl (Nat.le_of_ble_eq_true rfl) dX9_place_21 (fun r_2 u_r_2 H locs hw_r_2 hP hD hS => ?_)
    obtain ⟨ms2_3, rfl⟩ : ∃ z, z = u_r_2 := ⟨_, rfl⟩
    try dsimp only at hw_r_2
    obtain ⟨hw_r_2, i_4, i_5, i_6, i_7, i_8, i_9, i_10, i_11, i_12, i_13⟩ := hw_r_2
    have hP : va_P D vwCl [(yt, .inl (cI, 7, .inl mq)), (h0, .inr (9, [.ref ys, .ref yk, .ref yo, .ref yt, .int mk0, .ref yfa, .ref yfe, .int mL, .int mS, .int mM, .ref yro, .ref yhe, .ref ygr, .int mF, .int mC, .int mY, .ref yta, .int (nI (mz)), .int (nI (mf)), .int (nI (mt)), .int mv, .int mw, .ref ywa, .ref ybi, .ref ysi, .ref ynu, .ref ymo])), (ys, .inl (cI, 449, .inl ms2_3))] H := hP
    have hD : va_D A [(yt, .inl (cI, 7, .inl mq)), (h0, .inr (9, [.ref ys, .ref yk, .ref yo, .ref yt, .int mk0, .ref yfa, .ref yfe, .int mL, .int mS, .int mM, .ref yro, .ref yhe, .ref ygr, .int mF, .int mC, .int mY, .ref yta, .int (nI (mz)), .int (nI (mf)), .int (nI (mt)), .int mv, .int mw, .ref ywa, .ref ybi, .ref ysi, .ref ynu, .ref ymo])), (ys, .inl (cI, 449, .inl ms2_3))] := hD
    subst hw_r_2
    exact W.iret (v := nI (P)) hx hb hr (fun t ht hW => ⟨⟨nI (P), (ms2_3, mq, P + 1, upd fae P 0), rfl, ⟨(sp_pl1 (P := P) (by omega)).2, (sp_pl1 (P := P) (by omega)).1, (if_pos (show P < 10 by omega)).symm, i_4, i_5, i_6, i_7, i_8, i_9, i_10, i_11, i_12, i_13⟩, by rw [ht]; exact hP.sub [1, 2, 0] rfl, hD.sub [1, 2, 0] (by decide) rfl⟩, hS.F ht⟩) hS.2.2 dX9_place_24 hlk
  · skip
    have nc_1 : P = 10 := xn_eq (a := P) (b := 10) (by omega) (by omega) c_1
    refine lv_aload_n hx hb dX9_place_11 rfl (lv_at hl 0 rfl) ?_
    refine lv_ldc (v := (-1000000002)) hx hb hown (hu _ uw676) dX9_place_12 ?_
    refine xc_Vi (wr := [(ys, .inl (cI, 449, .inl ms))]) hF (c_X9_finds_F l D cI cJ cZ cS ta sa sv s.heap.size h0 ys yk yo yt mk0 yfa yfe mL mS mM yro yhe ygr mF mC mY yta mz mf mt mv mw ywa ybi ysi ynu ymo mq ) kv_X9_70 ⟨rfl, rfl, Nat.le_of_ble_eq_true rfl, Nat.le_of_ble_eq_true rfl⟩ ⟨Nat.le_of_ble_eq_true rfl, Nat.le_of_ble_eq_true rfl⟩ hK hN hZ hP hD hS hA [0, 2] [1] rfl rfl rfl rfl (by decide) 0 rfl rfl rfl rfl hl.1 rfl (Nat.le_of_ble_eq_true rfl) dX9_place_14 (fun r_14 u_r_14 H locs hw_r_14 hP hD hS => ?_)
    obtain ⟨mq2_15, rfl⟩ : ∃ z, z = u_r_14 := ⟨_, rfl⟩
    try dsimp only at hw_r_14
    have hP : va_P D vwCl [(ys, .inl (cI, 449, .inl ms)), (h0, .inr (9, [.ref ys, .ref yk, .ref yo, .ref yt, .int mk0, .ref yfa, .ref yfe, .int mL, .int mS, .int mM, .ref yro, .ref yhe, .ref ygr, .int mF, .int mC, .int mY, .ref yta, .int (nI (mz)), .int (nI (mf)), .int (nI (mt)), .int mv, .int mw, .ref ywa, .ref ybi, .ref ysi, .ref ynu, .ref ymo])), (yt, .inl (cI, 7, .inl mq2_15))] H := hP
    have hD : va_D A [(ys, .inl (cI, 449, .inl ms)), (h0, .inr (9, [.ref ys, .ref yk, .ref yo, .ref yt, .int mk0, .ref yfa, .ref yfe, .int mL, .int mS, .int mM, .ref yro, .ref yhe, .ref ygr, .int mF, .int mC, .int mY, .ref yta, .int (nI (mz)), .int (nI (mf)), .int (nI (mt)), .int mv, .int mw, .ref ywa, .ref ybi, .ref ysi, .ref ynu, .ref ymo])), (yt, .inl (cI, 7, .inl mq2_15))] := hD
    subst hw_r_14
    refine lv_goto (tgt := 24) hx hb dX9_place_17 (by decide) ?_
    exact W.iret (v := (-1000000002)) hx hb hr (fun t ht hW => ⟨⟨(-1000000002), (ms, mq2_15, P, fae), rfl, ⟨(sp_pl2 (P := P) (by omega)).2, (sp_pl2 (P := P) (by omega)).1, (if_neg (show ¬ P < 10 by omega)).symm, hs0, hs1, hs2, hsS, hsM, hsp, hsr, hsw, hsR, hsG⟩, by rw [ht]; exact hP.sub [1, 0, 2] rfl, hD.sub [1, 0, 2] (by decide) rfl⟩, hS.F ht⟩) hS.2.2 dX9_place_24 hlk
set_option maxHeartbeats 4000000 in
set_option maxRecDepth 100000 in
theorem c_X9_errands (l : Launch) (D : va_G) (cI cJ cZ cS : ClassId) (ta : Nat) (sa sv : Nat → Nat) (sz : Nat) (h0 : Nat) (ys : Nat) (yk : Nat) (yo : Nat) (yt : Nat) (mk0 : Int32) (yfa : Nat) (yfe : Nat) (mL : Int32) (mS : Int32) (mM : Int32) (yro : Nat) (yhe : Nat) (ygr : Nat) (mF : Int32) (mC : Int32) (mY : Int32) (yta : Nat) (mz : Nat) (mf : Nat) (mt : Nat) (mv : Int32) (mw : Int32) (ywa : Nat) (ybi : Nat) (ysi : Nat) (ynu : Nat) (ymo : Nat) (ms : Nat → Int32) (mq : Nat → Int32) (P : Nat) (Rn : Nat) (Wn : Nat) (fae : Nat → Int32) (fal : Nat → Int32) (fau : Nat → Int32) (fao : Nat → Int32) (farn : Nat → Int32) (farp : Nat → Int32) (fak : Nat → Int32) (fawn : Nat → Int32) (fawp : Nat → Int32) (fat : Nat → Int32) (fas : Nat → Int32) (p0 : Int32) (p1 : Int32) (hs0 : ms 0 = nI P) (hs1 : ms 1 = nI Rn) (hs2 : ms 2 = nI Wn) (hsS : SI ms) (hsM : MI ms) (hsp : P ≤ 10) (hsr : Rn ≤ 8) (hsw : Wn ≤ 8) (hsR : RI Rn ms) (hsG : FR P ms fae fal fau fao farn farp fak fawn fawp fat fas) : Met l yX9_errands (Cond.code yX9_errands cX9_errands 4 (some .int) :: wsU) ({ frames := 2, cells := 0, slots := 0, locals := 46 }) (va_Pc [.ref h0, .int p0, .int p1] (XW D (xT cI cJ cZ cS) ta sa sv [(h0, .inr (9, [.ref ys, .ref yk, .ref yo, .ref yt, .int mk0, .ref yfa, .ref yfe, .int mL, .int mS, .int mM, .ref yro, .ref yhe, .ref ygr, .int mF, .int mC, .int mY, .ref yta, .int (nI (mz)), .int (nI (mf)), .int (nI (mt)), .int mv, .int mw, .ref ywa, .ref ybi, .ref ysi, .ref ynu, .ref ymo])), (ys, .inl (cI, 449, .inl ms)), (yt, .inl (cI, 7, .inl mq))] sz)) (XQi (fun (r : Int32) (u : (Nat → Int32) × (Nat → Int32) × (Nat → Int32)) => match u with | (ms2, mq2, ge) => ((r = erR P fae p0 p1)) ∧ (ge = erE P fae p0 p1) ∧ (ms2 0 = nI P) ∧ (ms2 1 = nI Rn) ∧ (ms2 2 = nI Wn) ∧ (SI ms2) ∧ (MI ms2) ∧ (P ≤ 10) ∧ (Rn ≤ 8) ∧ (Wn ≤ 8) ∧ (RI Rn ms2) ∧ (FR P ms2 ge fal fau fao farn farp fak fawn fawp fat fas)) D (fun (u : (Nat → Int32) × (Nat → Int32) × (Nat → Int32)) => match u with | (ms2, mq2, ge) => [(h0, .inr (9, [.ref ys, .ref yk, .ref yo, .ref yt, .int mk0, .ref yfa, .ref yfe, .int mL, .int mS, .int mM, .ref yro, .ref yhe, .ref ygr, .int mF, .int mC, .int mY, .ref yta, .int (nI (mz)), .int (nI (mf)), .int (nI (mt)), .int mv, .int mw, .ref ywa, .ref ybi, .ref ysi, .ref ynu, .ref ymo])), (ys, .inl (cI, 449, .inl ms2)), (yt, .inl (cI, 7, .inl mq2))]) (va_A [(h0, .inr (9, [.ref ys, .ref yk, .ref yo, .ref yt, .int mk0, .ref yfa, .ref yfe, .int mL, .int mS, .int mM, .ref yro, .ref yhe, .ref ygr, .int mF, .int mC, .int mY, .ref yta, .int (nI (mz)), .int (nI (mf)), .int (nI (mt)), .int mv, .int mw, .ref ywa, .ref ybi, .ref ysi, .ref ynu, .ref ymo])), (ys, .inl (cI, 449, .inl ms)), (yt, .inl (cI, 7, .inl mq))] sz)) 0 0 (va_A [(h0, .inr (9, [.ref ys, .ref yk, .ref yo, .ref yt, .int mk0, .ref yfa, .ref yfe, .int mL, .int mS, .int mM, .ref yro, .ref yhe, .ref ygr, .int mF, .int mC, .int mY, .ref yta, .int (nI (mz)), .int (nI (mf)), .int (nI (mt)), .int mv, .int mw, .ref ywa, .ref ybi, .ref ysi, .ref ynu, .ref ymo])), (ys, .inl (cI, 449, .inl ms)), (yt, .inl (cI, 7, .inl mq))] sz) := by
  refine xh (QA := fun A => XQi (fun (r : Int32) (u : (Nat → Int32) × (Nat → Int32) × (Nat → Int32)) => match u with | (ms2, mq2, ge) => ((r = erR P fae p0 p1)) ∧ (ge = erE P fae p0 p1) ∧ (ms2 0 = nI P) ∧ (ms2 1 = nI Rn) ∧ (ms2 2 = nI Wn) ∧ (SI ms2) ∧ (MI ms2) ∧ (P ≤ 10) ∧ (Rn ≤ 8) ∧ (Wn ≤ 8) ∧ (RI Rn ms2) ∧ (FR P ms2 ge fal fau fao farn farp fak fawn fawp fat fas)) D (fun (u : (Nat → Int32) × (Nat → Int32) × (Nat → Int32)) => match u with | (ms2, mq2, ge) => [(h0, .inr (9, [.ref ys, .ref yk, .ref yo, .ref yt, .int mk0, .ref yfa, .ref yfe, .int mL, .int mS, .int mM, .ref yro, .ref yhe, .ref ygr, .int mF, .int mC, .int mY, .ref yta, .int (nI (mz)), .int (nI (mf)), .int (nI (mt)), .int mv, .int mw, .ref ywa, .ref ybi, .ref ysi, .ref ynu, .ref ymo])), (ys, .inl (cI, 449, .inl ms2)), (yt, .inl (cI, 7, .inl mq2))]) A) (fr := fun A => A) (by decide) (Nat.le_of_ble_eq_true rfl) ?_
  intro p e s m below meth c ls A hF hr hlk hin hsz hP hK hD hN hZ hA hS hl
  have hF : CallFix p m c cX9_errands 4 s _ _ RX9 := hF
  have hx := hF.1
  have hb := hF.2.1
  have hml := hF.2.2.1
  have hown := hF.2.2.2.1
  have hu : ∀ w ∈ wsU, w.before _ s = true := fun w h => hF.2.2.2.2 w (List.mem_cons_of_mem _ h)
  have hl : lv_has ls 4 [(0, .ref h0), (1, .int p0), (2, .int p1)] := hl
  refine lv_aload_n hx hb dX9_errands_0 rfl (lv_at hl 0 rfl) ?_
  refine lv_iload_n hx hb dX9_errands_1 rfl (lv_at hl 1 rfl) ?_
  refine xc_Vr hF (c_X9_isPlace l D cI cJ cZ cS ta sa sv s.heap.size h0 ys yk yo yt mk0 yfa yfe mL mS mM yro yhe ygr mF mC mY yta mz mf mt mv mw ywa ybi ysi ynu ymo ms P Rn Wn fae fal fau fao farn farp fak fawn fawp fat fas p0 hs0 hs1 hs2 hsS hsM hsp hsr hsw hsR hsG) kv_X9_61 ⟨rfl, rfl, Nat.le_of_ble_eq_true rfl, Nat.le_of_ble_eq_true rfl⟩ ⟨Nat.le_of_ble_eq_true rfl, Nat.le_of_ble_eq_true rfl⟩ hK hN hZ hP hD hS hA [0, 1] rfl rfl 0 rfl rfl rfl rfl hl.1 rfl (Nat.le_of_ble_eq_true rfl) dX9_errands_2 (fun r_1 hw_r_1 => ?_)
  rcases hw_r_1 with ⟨k_2, rfl, rfl, h_4⟩ | ⟨rfl, h_5⟩
  · skip
    refine lv_if_eq (tgt := 20) hx hb dX9_errands_5 (by decide) (fun c_6 => absurd c_6 (by decide)) (fun c_6 => ?_)
    refine lv_iload_n hx hb dX9_errands_8 rfl (lv_at hl 2 rfl) ?_
    refine lv_i2l (v := p1.toInt64) hx hb dX9_errands_9 rfl ?_
    refine lv_lconst (v := 0) hx hb dX9_errands_10 (by decide) ?_
    refine xl_l (y := (0 : Int32).toInt64) (by decide) ?_
    refine lv_ldc2 (v := 99) hx hb hown (hu _ uw681) dX9_errands_11 ?_
    refine xl_l (y := (99 : Int32).toInt64) (by decide) ?_
    refine xc_Sr hF (c_X9_in l D cI cJ cZ cS ta sa sv s.heap.size p1 0 99 ) ks_X9_57 ⟨rfl, rfl, Nat.le_of_ble_eq_true rfl, Nat.le_of_ble_eq_true rfl⟩ ⟨Nat.le_of_ble_eq_true rfl, Nat.le_of_ble_eq_true rfl⟩ hK hN hZ hP hD hS hA [] rfl rfl rfl hl.1 rfl (Nat.le_of_ble_eq_true rfl) dX9_errands_14 (fun r_7 hw_r_7 => ?_)
    rcases hw_r_7 with ⟨rfl, h_8, h_9⟩ | ⟨rfl, h_10⟩
    · skip
      refine lv_if_ne (tgt := 27) hx hb dX9_errands_17 (by decide) (fun c_11 => ?_) (fun c_11 => absurd c_11 (by decide))
      refine lv_aload_n hx hb dX9_errands_27 rfl (lv_at hl 0 rfl) ?_
      refine xg hF kf_X9_7 hK hP 0 rfl rfl dX9_errands_28 ?_
      refine lv_iconst (v := 3) hx hb dX9_errands_31 (by decide) ?_
      refine lv_iload_n hx hb dX9_errands_32 rfl (lv_at hl 1 rfl) ?_
      refine lv_iadd hx hb dX9_errands_33 ?_
      refine xl_i (y := nI (3 + k_2)) (nI_add 3 k_2) ?_
      refine va_iald hx hb hK hP 1 0 rfl rfl (vp_in_nI (show 3 + k_2 < 449 by omega) (by decide)) dX9_errands_34 ?_
      refine xl_i (y := ms (3 + k_2)) (congrArg ms (nI_clamp (show 3 + k_2 < 2 ^ 31 by omega))) ?_
      refine xl_i (y := fae (k_2)) (FR.ge hsG (show k_2 < 10 by omega) (by omega)) ?_
      refine lv_istore_n (lv' := [(3, .int (fae (k_2))), (0, .ref h0), (1, .int (nI (k_2))), (2, .int p1)]) hx hb dX9_errands_35 rfl hl (by decide) rfl (fun ls hl => ?_)
      refine lv_aload_n hx hb dX9_errands_36 rfl (lv_at hl 1 rfl) ?_
      refine xg hF kf_X9_7 hK hP 0 rfl rfl dX9_errands_37 ?_
      refine lv_iconst (v := 3) hx hb dX9_errands_40 (by decide) ?_
      refine lv_iload_n hx hb dX9_errands_41 rfl (lv_at hl 2 rfl) ?_
      refine lv_iadd hx hb dX9_errands_42 ?_
      refine xl_i (y := nI (3 + k_2)) (nI_add 3 k_2) ?_
      refine lv_iload_n hx hb dX9_errands_43 rfl (lv_at hl 3 rfl) ?_
      refine va_iast hx hb hK hP hD hS 1 0 rfl rfl (vp_in_nI (show 3 + k_2 < 449 by omega) (by decide)) dX9_errands_44 (fun H locs hP hD hS => ?_)
      rw [nI_clamp (show 3 + k_2 < 2 ^ 31 by omega)] at hP hD
      obtain ⟨f_12, ef_12⟩ : ∃ g, g = upd ms (3 + k_2) p1 := ⟨_, rfl⟩
      rw [← ef_12] at hP hD
      have k0_f_12 : f_12 0 = nI P := by rw [ef_12]; exact (pk_un (show 0 ≠ (3 + k_2) by omega)).trans hs0
      have k1_f_12 : f_12 1 = nI Rn := by rw [ef_12]; exact (pk_un (show 1 ≠ (3 + k_2) by omega)).trans hs1
      have k2_f_12 : f_12 2 = nI Wn := by rw [ef_12]; exact (pk_un (show 2 ≠ (3 + k_2) by omega)).trans hs2
      have kS_f_12 : SI f_12 := by rw [ef_12]; exact SI.upd hsS (okS.low (show (3 + k_2) < 313 by omega))
      have kM_f_12 : MI f_12 := by rw [ef_12]; exact MI.upd hsM (okM.out (show (3 + k_2) < 13 ∨ 113 ≤ (3 + k_2) by omega))
      have kR_f_12 : RI Rn f_12 := by rw [ef_12]; exact RI.upd hsR (fun r9 hr9 e9 => by omega)
      have kG_f_12 : FR P f_12 (upd fae (k_2) p1) fal fau fao farn farp fak fawn fawp fat fas := by rw [ef_12]; exact FR.pe hsG (show k_2 < 10 by omega) (show k_2 < P by omega) (by omega)
      have hP : va_P D vwCl [(h0, .inr (9, [.ref ys, .ref yk, .ref yo, .ref yt, .int mk0, .ref yfa, .ref yfe, .int mL, .int mS, .int mM, .ref yro, .ref yhe, .ref ygr, .int mF, .int mC, .int mY, .ref yta, .int (nI (mz)), .int (nI (mf)), .int (nI (mt)), .int mv, .int mw, .ref ywa, .ref ybi, .ref ysi, .ref ynu, .ref ymo])), (ys, .inl (cI, 449, .inl f_12)), (yt, .inl (cI, 7, .inl mq))] H := hP
      have hD : va_D A [(h0, .inr (9, [.ref ys, .ref yk, .ref yo, .ref yt, .int mk0, .ref yfa, .ref yfe, .int mL, .int mS, .int mM, .ref yro, .ref yhe, .ref ygr, .int mF, .int mC, .int mY, .ref yta, .int (nI (mz)), .int (nI (mf)), .int (nI (mt)), .int mv, .int mw, .ref ywa, .ref ybi, .ref ysi, .ref ynu, .ref ymo])), (ys, .inl (cI, 449, .inl f_12)), (yt, .inl (cI, 7, .inl mq))] := hD
      refine lv_iload_n hx hb dX9_errands_45 rfl (lv_at hl 0 rfl) ?_
      exact W.iret (v := fae (k_2)) hx hb hr (fun t ht hW => ⟨⟨fae (k_2), (f_12, mq, upd fae (k_2) p1), rfl, ⟨(er_yes (P := P) (by omega) (by omega) ⟨h_8, h_9⟩).1 _, ((er_yes (P := P) (by omega) (by omega) ⟨h_8, h_9⟩).2.1 _), k0_f_12, k1_f_12, k2_f_12, kS_f_12, kM_f_12, hsp, hsr, hsw, kR_f_12, kG_f_12⟩, by rw [ht]; exact hP.sub [0, 1, 2] rfl, hD.sub [0, 1, 2] (by decide) rfl⟩, hS.F ht⟩) hS.2.2 dX9_errands_46 hlk
    · skip
      refine lv_if_ne (tgt := 27) hx hb dX9_errands_17 (by decide) (fun c_13 => absurd (by decide) c_13) (fun c_13 => ?_)
      refine lv_aload_n hx hb dX9_errands_20 rfl (lv_at hl 0 rfl) ?_
      refine lv_ldc (v := (-1000000001)) hx hb hown (hu _ uw648) dX9_errands_21 ?_
      refine xc_Vi (wr := [(ys, .inl (cI, 449, .inl ms))]) hF (c_X9_finds_B l D cI cJ cZ cS ta sa sv s.heap.size h0 ys yk yo yt mk0 yfa yfe mL mS mM yro yhe ygr mF mC mY yta mz mf mt mv mw ywa ybi ysi ynu ymo mq ) kv_X9_70 ⟨rfl, rfl, Nat.le_of_ble_eq_true rfl, Nat.le_of_ble_eq_true rfl⟩ ⟨Nat.le_of_ble_eq_true rfl, Nat.le_of_ble_eq_true rfl⟩ hK hN hZ hP hD hS hA [0, 2] [1] rfl rfl rfl rfl (by decide) 0 rfl rfl rfl rfl hl.1 rfl (Nat.le_of_ble_eq_true rfl) dX9_errands_23 (fun r_14 u_r_14 H locs hw_r_14 hP hD hS => ?_)
      obtain ⟨mq2_15, rfl⟩ : ∃ z, z = u_r_14 := ⟨_, rfl⟩
      try dsimp only at hw_r_14
      have hP : va_P D vwCl [(ys, .inl (cI, 449, .inl ms)), (h0, .inr (9, [.ref ys, .ref yk, .ref yo, .ref yt, .int mk0, .ref yfa, .ref yfe, .int mL, .int mS, .int mM, .ref yro, .ref yhe, .ref ygr, .int mF, .int mC, .int mY, .ref yta, .int (nI (mz)), .int (nI (mf)), .int (nI (mt)), .int mv, .int mw, .ref ywa, .ref ybi, .ref ysi, .ref ynu, .ref ymo])), (yt, .inl (cI, 7, .inl mq2_15))] H := hP
      have hD : va_D A [(ys, .inl (cI, 449, .inl ms)), (h0, .inr (9, [.ref ys, .ref yk, .ref yo, .ref yt, .int mk0, .ref yfa, .ref yfe, .int mL, .int mS, .int mM, .ref yro, .ref yhe, .ref ygr, .int mF, .int mC, .int mY, .ref yta, .int (nI (mz)), .int (nI (mf)), .int (nI (mt)), .int mv, .int mw, .ref ywa, .ref ybi, .ref ysi, .ref ynu, .ref ymo])), (yt, .inl (cI, 7, .inl mq2_15))] := hD
      subst hw_r_14
      exact W.iret (v := (-1000000001)) hx hb hr (fun t ht hW => ⟨⟨(-1000000001), (ms, mq2_15, fae), rfl, ⟨(er_no (P := P) (fun h => h_10.elim h.2.1 h.2.2)).1 _, ((er_no (P := P) (fun h => h_10.elim h.2.1 h.2.2)).2.1 _), hs0, hs1, hs2, hsS, hsM, hsp, hsr, hsw, hsR, hsG⟩, by rw [ht]; exact hP.sub [1, 0, 2] rfl, hD.sub [1, 0, 2] (by decide) rfl⟩, hS.F ht⟩) hS.2.2 dX9_errands_26 hlk
  · skip
    refine lv_if_eq (tgt := 20) hx hb dX9_errands_5 (by decide) (fun c_16 => ?_) (fun c_16 => absurd (by decide) c_16)
    refine lv_aload_n hx hb dX9_errands_20 rfl (lv_at hl 0 rfl) ?_
    refine lv_ldc (v := (-1000000001)) hx hb hown (hu _ uw648) dX9_errands_21 ?_
    refine xc_Vi (wr := [(ys, .inl (cI, 449, .inl ms))]) hF (c_X9_finds_B l D cI cJ cZ cS ta sa sv s.heap.size h0 ys yk yo yt mk0 yfa yfe mL mS mM yro yhe ygr mF mC mY yta mz mf mt mv mw ywa ybi ysi ynu ymo mq ) kv_X9_70 ⟨rfl, rfl, Nat.le_of_ble_eq_true rfl, Nat.le_of_ble_eq_true rfl⟩ ⟨Nat.le_of_ble_eq_true rfl, Nat.le_of_ble_eq_true rfl⟩ hK hN hZ hP hD hS hA [0, 2] [1] rfl rfl rfl rfl (by decide) 0 rfl rfl rfl rfl hl.1 rfl (Nat.le_of_ble_eq_true rfl) dX9_errands_23 (fun r_17 u_r_17 H locs hw_r_17 hP hD hS => ?_)
    obtain ⟨mq2_18, rfl⟩ : ∃ z, z = u_r_17 := ⟨_, rfl⟩
    try dsimp only at hw_r_17
    have hP : va_P D vwCl [(ys, .inl (cI, 449, .inl ms)), (h0, .inr (9, [.ref ys, .ref yk, .ref yo, .ref yt, .int mk0, .ref yfa, .ref yfe, .int mL, .int mS, .int mM, .ref yro, .ref yhe, .ref ygr, .int mF, .int mC, .int mY, .ref yta, .int (nI (mz)), .int (nI (mf)), .int (nI (mt)), .int mv, .int mw, .ref ywa, .ref ybi, .ref ysi, .ref ynu, .ref ymo])), (yt, .inl (cI, 7, .inl mq2_18))] H := hP
    have hD : va_D A [(ys, .inl (cI, 449, .inl ms)), (h0, .inr (9, [.ref ys, .ref yk, .ref yo, .ref yt, .int mk0, .ref yfa, .ref yfe, .int mL, .int mS, .int mM, .ref yro, .ref yhe, .ref ygr, .int mF, .int mC, .int mY, .ref yta, .int (nI (mz)), .int (nI (mf)), .int (nI (mt)), .int mv, .int mw, .ref ywa, .ref ybi, .ref ysi, .ref ynu, .ref ymo])), (yt, .inl (cI, 7, .inl mq2_18))] := hD
    subst hw_r_17
    exact W.iret (v := (-1000000001)) hx hb hr (fun t ht hW => ⟨⟨(-1000000001), (ms, mq2_18, fae), rfl, ⟨(er_no (P := P) (v := p1) (fun h => h_5 h.1)).1 _, ((er_no (P := P) (v := p1) (fun h => h_5 h.1)).2.1 _), hs0, hs1, hs2, hsS, hsM, hsp, hsr, hsw, hsR, hsG⟩, by rw [ht]; exact hP.sub [1, 0, 2] rfl, hD.sub [1, 0, 2] (by decide) rfl⟩, hS.F ht⟩) hS.2.2 dX9_errands_26 hlk
set_option maxHeartbeats 4000000 in
set_option maxRecDepth 100000 in
theorem c_X9_makes (l : Launch) (D : va_G) (cI cJ cZ cS : ClassId) (ta : Nat) (sa sv : Nat → Nat) (sz : Nat) (h0 : Nat) (ys : Nat) (yk : Nat) (yo : Nat) (yt : Nat) (mk0 : Int32) (yfa : Nat) (yfe : Nat) (mL : Int32) (mS : Int32) (mM : Int32) (yro : Nat) (yhe : Nat) (ygr : Nat) (mF : Int32) (mC : Int32) (mY : Int32) (yta : Nat) (mz : Nat) (mf : Nat) (mt : Nat) (mv : Int32) (mw : Int32) (ywa : Nat) (ybi : Nat) (ysi : Nat) (ynu : Nat) (ymo : Nat) (ms : Nat → Int32) (P : Nat) (Rn : Nat) (Wn : Nat) (fae : Nat → Int32) (fal : Nat → Int32) (fau : Nat → Int32) (fao : Nat → Int32) (farn : Nat → Int32) (farp : Nat → Int32) (fak : Nat → Int32) (fawn : Nat → Int32) (fawp : Nat → Int32) (fat : Nat → Int32) (fas : Nat → Int32) (j : Nat) (k : Nat) (p0 : Int32) (p1 : Int32) (hj : j < 10) (hk : k < 10) (hlo : -99 ≤ p0.toInt ∧ p0.toInt ≤ 999) (hs0 : ms 0 = nI P) (hs1 : ms 1 = nI Rn) (hs2 : ms 2 = nI Wn) (hsS : SI ms) (hsM : MI ms) (hsp : P ≤ 10) (hsr : Rn ≤ 8) (hsw : Wn ≤ 8) (hsR : RI Rn ms) (hsG : FR P ms fae fal fau fao farn farp fak fawn fawp fat fas) : Met l yX9_makes (Cond.code yX9_makes cX9_makes 7 (some .int) :: wsU) ({ frames := 0, cells := 0, slots := 0, locals := 0 }) (va_Pc [.ref h0, .int (nI (j)), .int (nI (k)), .int p0, .int p1] (XW D (xT cI cJ cZ cS) ta sa sv [(h0, .inr (9, [.ref ys, .ref yk, .ref yo, .ref yt, .int mk0, .ref yfa, .ref yfe, .int mL, .int mS, .int mM, .ref yro, .ref yhe, .ref ygr, .int mF, .int mC, .int mY, .ref yta, .int (nI (mz)), .int (nI (mf)), .int (nI (mt)), .int mv, .int mw, .ref ywa, .ref ybi, .ref ysi, .ref ynu, .ref ymo])), (ys, .inl (cI, 449, .inl ms))] sz)) (XQi (fun (r : Int32) (ms2 : (Nat → Int32)) => ((r = 1 ∧ (fao (10 * j + k) = 0)) ∨ (r = 0 ∧ (¬ fao (10 * j + k) = 0))) ∧ (ms2 0 = nI P) ∧ (ms2 1 = nI Rn) ∧ (ms2 2 = nI Wn) ∧ (SI ms2) ∧ (MI ms2) ∧ (P ≤ 10) ∧ (Rn ≤ 8) ∧ (Wn ≤ 8) ∧ (RI Rn ms2) ∧ (FR P ms2 fae (upd fal (10 * j + k) p0) (upd fau (10 * j + k) p1) (upd fao (10 * j + k) 1) farn farp fak fawn fawp fat fas)) D (fun (ms2 : Nat → Int32) => [(h0, .inr (9, [.ref ys, .ref yk, .ref yo, .ref yt, .int mk0, .ref yfa, .ref yfe, .int mL, .int mS, .int mM, .ref yro, .ref yhe, .ref ygr, .int mF, .int mC, .int mY, .ref yta, .int (nI (mz)), .int (nI (mf)), .int (nI (mt)), .int mv, .int mw, .ref ywa, .ref ybi, .ref ysi, .ref ynu, .ref ymo])), (ys, .inl (cI, 449, .inl ms2))]) (va_A [(h0, .inr (9, [.ref ys, .ref yk, .ref yo, .ref yt, .int mk0, .ref yfa, .ref yfe, .int mL, .int mS, .int mM, .ref yro, .ref yhe, .ref ygr, .int mF, .int mC, .int mY, .ref yta, .int (nI (mz)), .int (nI (mf)), .int (nI (mt)), .int mv, .int mw, .ref ywa, .ref ybi, .ref ysi, .ref ynu, .ref ymo])), (ys, .inl (cI, 449, .inl ms))] sz)) 0 0 (va_A [(h0, .inr (9, [.ref ys, .ref yk, .ref yo, .ref yt, .int mk0, .ref yfa, .ref yfe, .int mL, .int mS, .int mM, .ref yro, .ref yhe, .ref ygr, .int mF, .int mC, .int mY, .ref yta, .int (nI (mz)), .int (nI (mf)), .int (nI (mt)), .int mv, .int mw, .ref ywa, .ref ybi, .ref ysi, .ref ynu, .ref ymo])), (ys, .inl (cI, 449, .inl ms))] sz) := by
  refine xh (QA := fun A => XQi (fun (r : Int32) (ms2 : (Nat → Int32)) => ((r = 1 ∧ (fao (10 * j + k) = 0)) ∨ (r = 0 ∧ (¬ fao (10 * j + k) = 0))) ∧ (ms2 0 = nI P) ∧ (ms2 1 = nI Rn) ∧ (ms2 2 = nI Wn) ∧ (SI ms2) ∧ (MI ms2) ∧ (P ≤ 10) ∧ (Rn ≤ 8) ∧ (Wn ≤ 8) ∧ (RI Rn ms2) ∧ (FR P ms2 fae (upd fal (10 * j + k) p0) (upd fau (10 * j + k) p1) (upd fao (10 * j + k) 1) farn farp fak fawn fawp fat fas)) D (fun (ms2 : Nat → Int32) => [(h0, .inr (9, [.ref ys, .ref yk, .ref yo, .ref yt, .int mk0, .ref yfa, .ref yfe, .int mL, .int mS, .int mM, .ref yro, .ref yhe, .ref ygr, .int mF, .int mC, .int mY, .ref yta, .int (nI (mz)), .int (nI (mf)), .int (nI (mt)), .int mv, .int mw, .ref ywa, .ref ybi, .ref ysi, .ref ynu, .ref ymo])), (ys, .inl (cI, 449, .inl ms2))]) A) (fr := fun A => A) (by decide) (Nat.le_of_ble_eq_true rfl) ?_
  intro p e s m below meth c ls A hF hr hlk hin hsz hP hK hD hN hZ hA hS hl
  have hF : CallFix p m c cX9_makes 7 s _ _ RX9 := hF
  have hx := hF.1
  have hb := hF.2.1
  have hml := hF.2.2.1
  have hown := hF.2.2.2.1
  have hu : ∀ w ∈ wsU, w.before _ s = true := fun w h => hF.2.2.2.2 w (List.mem_cons_of_mem _ h)
  have hl : lv_has ls 7 [(0, .ref h0), (1, .int (nI (j))), (2, .int (nI (k))), (3, .int p0), (4, .int p1)] := hl
  refine lv_bipush (v := 10) hx hb dX9_makes_0 (by decide) ?_
  refine lv_iload_n hx hb dX9_makes_2 rfl (lv_at hl 1 rfl) ?_
  refine lv_imul hx hb dX9_makes_3 ?_
  refine xl_i (y := nI (10 * j)) (pk_mul 10 j) ?_
  refine lv_iload_n hx hb dX9_makes_4 rfl (lv_at hl 2 rfl) ?_
  refine lv_iadd hx hb dX9_makes_5 ?_
  refine xl_i (y := nI (10 * j + k)) (nI_add (10 * j) k) ?_
  refine lv_istore (lv' := [(5, .int (nI (10 * j + k))), (0, .ref h0), (1, .int (nI (j))), (2, .int (nI (k))), (3, .int p0), (4, .int p1)]) hx hb dX9_makes_6 hl (by decide) rfl (fun ls hl => ?_)
  refine lv_aload_n hx hb dX9_makes_8 rfl (lv_at hl 1 rfl) ?_
  refine xg hF kf_X9_7 hK hP 0 rfl rfl dX9_makes_9 ?_
  refine lv_sipush (v := 213) hx hb dX9_makes_12 (by decide) ?_
  refine lv_iload hx hb dX9_makes_15 (lv_at hl 0 rfl) ?_
  refine lv_iadd hx hb dX9_makes_17 ?_
  refine xl_i (y := nI (213 + (10 * j + k))) (nI_add 213 (10 * j + k)) ?_
  refine va_iald hx hb hK hP 1 0 rfl rfl (vp_in_nI (show 213 + (10 * j + k) < 449 by omega) (by decide)) dX9_makes_18 ?_
  refine xl_i (y := ms (213 + (10 * j + k))) (congrArg ms (nI_clamp (show 213 + (10 * j + k) < 2 ^ 31 by omega))) ?_
  refine xl_i (y := fao (10 * j + k)) (FR.go hsG (show 10 * j + k < 100 by omega) (by omega)) ?_
  refine lv_istore (lv' := [(6, .int (fao (10 * j + k))), (5, .int (nI (10 * j + k))), (0, .ref h0), (1, .int (nI (j))), (2, .int (nI (k))), (3, .int p0), (4, .int p1)]) hx hb dX9_makes_19 hl (by decide) rfl (fun ls hl => ?_)
  refine lv_aload_n hx hb dX9_makes_21 rfl (lv_at hl 2 rfl) ?_
  refine xg hF kf_X9_7 hK hP 0 rfl rfl dX9_makes_22 ?_
  refine lv_bipush (v := 13) hx hb dX9_makes_25 (by decide) ?_
  refine lv_iload hx hb dX9_makes_27 (lv_at hl 1 rfl) ?_
  refine lv_iadd hx hb dX9_makes_29 ?_
  refine xl_i (y := nI (13 + (10 * j + k))) (nI_add 13 (10 * j + k)) ?_
  refine lv_iload_n hx hb dX9_makes_30 rfl (lv_at hl 5 rfl) ?_
  refine va_iast hx hb hK hP hD hS 1 0 rfl rfl (vp_in_nI (show 13 + (10 * j + k) < 449 by omega) (by decide)) dX9_makes_31 (fun H locs hP hD hS => ?_)
  rw [nI_clamp (show 13 + (10 * j + k) < 2 ^ 31 by omega)] at hP hD
  obtain ⟨f_1, ef_1⟩ : ∃ g, g = upd ms (13 + (10 * j + k)) p0 := ⟨_, rfl⟩
  rw [← ef_1] at hP hD
  have k0_f_1 : f_1 0 = nI P := by rw [ef_1]; exact (pk_un (show 0 ≠ (13 + (10 * j + k)) by omega)).trans hs0
  have k1_f_1 : f_1 1 = nI Rn := by rw [ef_1]; exact (pk_un (show 1 ≠ (13 + (10 * j + k)) by omega)).trans hs1
  have k2_f_1 : f_1 2 = nI Wn := by rw [ef_1]; exact (pk_un (show 2 ≠ (13 + (10 * j + k)) by omega)).trans hs2
  have kS_f_1 : SI f_1 := by rw [ef_1]; exact SI.upd hsS (okS.low (show (13 + (10 * j + k)) < 313 by omega))
  have kM_f_1 : MI f_1 := by rw [ef_1]; exact MI.upd hsM (fun _ _ => hlo)
  have kR_f_1 : RI Rn f_1 := by rw [ef_1]; exact RI.upd hsR (fun r9 hr9 e9 => by omega)
  have kG_f_1 : FR P f_1 fae (upd fal (10 * j + k) p0) fau fao farn farp fak fawn fawp fat fas := by rw [ef_1]; exact FR.pl hsG (show 10 * j + k < 100 by omega) (by omega)
  have hP : va_P D vwCl [(h0, .inr (9, [.ref ys, .ref yk, .ref yo, .ref yt, .int mk0, .ref yfa, .ref yfe, .int mL, .int mS, .int mM, .ref yro, .ref yhe, .ref ygr, .int mF, .int mC, .int mY, .ref yta, .int (nI (mz)), .int (nI (mf)), .int (nI (mt)), .int mv, .int mw, .ref ywa, .ref ybi, .ref ysi, .ref ynu, .ref ymo])), (ys, .inl (cI, 449, .inl f_1))] H := hP
  have hD : va_D A [(h0, .inr (9, [.ref ys, .ref yk, .ref yo, .ref yt, .int mk0, .ref yfa, .ref yfe, .int mL, .int mS, .int mM, .ref yro, .ref yhe, .ref ygr, .int mF, .int mC, .int mY, .ref yta, .int (nI (mz)), .int (nI (mf)), .int (nI (mt)), .int mv, .int mw, .ref ywa, .ref ybi, .ref ysi, .ref ynu, .ref ymo])), (ys, .inl (cI, 449, .inl f_1))] := hD
  refine lv_aload_n hx hb dX9_makes_32 rfl (lv_at hl 2 rfl) ?_
  refine xg hF kf_X9_7 hK hP 0 rfl rfl dX9_makes_33 ?_
  refine lv_bipush (v := 113) hx hb dX9_makes_36 (by decide) ?_
  refine lv_iload hx hb dX9_makes_38 (lv_at hl 1 rfl) ?_
  refine lv_iadd hx hb dX9_makes_40 ?_
  refine xl_i (y := nI (113 + (10 * j + k))) (nI_add 113 (10 * j + k)) ?_
  refine lv_iload hx hb dX9_makes_41 (lv_at hl 6 rfl) ?_
  refine va_iast hx hb hK hP hD hS 1 0 rfl rfl (vp_in_nI (show 113 + (10 * j + k) < 449 by omega) (by decide)) dX9_makes_43 (fun H locs hP hD hS => ?_)
  rw [nI_clamp (show 113 + (10 * j + k) < 2 ^ 31 by omega)] at hP hD
  obtain ⟨f_2, ef_2⟩ : ∃ g, g = upd f_1 (113 + (10 * j + k)) p1 := ⟨_, rfl⟩
  rw [← ef_2] at hP hD
  have k0_f_2 : f_2 0 = nI P := by rw [ef_2]; exact (pk_un (show 0 ≠ (113 + (10 * j + k)) by omega)).trans k0_f_1
  have k1_f_2 : f_2 1 = nI Rn := by rw [ef_2]; exact (pk_un (show 1 ≠ (113 + (10 * j + k)) by omega)).trans k1_f_1
  have k2_f_2 : f_2 2 = nI Wn := by rw [ef_2]; exact (pk_un (show 2 ≠ (113 + (10 * j + k)) by omega)).trans k2_f_1
  have kS_f_2 : SI f_2 := by rw [ef_2]; exact SI.upd kS_f_1 (okS.low (show (113 + (10 * j + k)) < 313 by omega))
  have kM_f_2 : MI f_2 := by rw [ef_2]; exact MI.upd kM_f_1 (okM.out (show (113 + (10 * j + k)) < 13 ∨ 113 ≤ (113 + (10 * j + k)) by omega))
  have kR_f_2 : RI Rn f_2 := by rw [ef_2]; exact RI.upd kR_f_1 (fun r9 hr9 e9 => by omega)
  have kG_f_2 : FR P f_2 fae (upd fal (10 * j + k) p0) (upd fau (10 * j + k) p1) fao farn farp fak fawn fawp fat fas := by rw [ef_2]; exact FR.pu kG_f_1 (show 10 * j + k < 100 by omega) (by omega)
  have hP : va_P D vwCl [(h0, .inr (9, [.ref ys, .ref yk, .ref yo, .ref yt, .int mk0, .ref yfa, .ref yfe, .int mL, .int mS, .int mM, .ref yro, .ref yhe, .ref ygr, .int mF, .int mC, .int mY, .ref yta, .int (nI (mz)), .int (nI (mf)), .int (nI (mt)), .int mv, .int mw, .ref ywa, .ref ybi, .ref ysi, .ref ynu, .ref ymo])), (ys, .inl (cI, 449, .inl f_2))] H := hP
  have hD : va_D A [(h0, .inr (9, [.ref ys, .ref yk, .ref yo, .ref yt, .int mk0, .ref yfa, .ref yfe, .int mL, .int mS, .int mM, .ref yro, .ref yhe, .ref ygr, .int mF, .int mC, .int mY, .ref yta, .int (nI (mz)), .int (nI (mf)), .int (nI (mt)), .int mv, .int mw, .ref ywa, .ref ybi, .ref ysi, .ref ynu, .ref ymo])), (ys, .inl (cI, 449, .inl f_2))] := hD
  refine lv_aload_n hx hb dX9_makes_44 rfl (lv_at hl 2 rfl) ?_
  refine xg hF kf_X9_7 hK hP 0 rfl rfl dX9_makes_45 ?_
  refine lv_sipush (v := 213) hx hb dX9_makes_48 (by decide) ?_
  refine lv_iload hx hb dX9_makes_51 (lv_at hl 1 rfl) ?_
  refine lv_iadd hx hb dX9_makes_53 ?_
  refine xl_i (y := nI (213 + (10 * j + k))) (nI_add 213 (10 * j + k)) ?_
  refine lv_iconst (v := 1) hx hb dX9_makes_54 (by decide) ?_
  refine va_iast hx hb hK hP hD hS 1 0 rfl rfl (vp_in_nI (show 213 + (10 * j + k) < 449 by omega) (by decide)) dX9_makes_55 (fun H locs hP hD hS => ?_)
  rw [nI_clamp (show 213 + (10 * j + k) < 2 ^ 31 by omega)] at hP hD
  obtain ⟨f_3, ef_3⟩ : ∃ g, g = upd f_2 (213 + (10 * j + k)) 1 := ⟨_, rfl⟩
  rw [← ef_3] at hP hD
  have k0_f_3 : f_3 0 = nI P := by rw [ef_3]; exact (pk_un (show 0 ≠ (213 + (10 * j + k)) by omega)).trans k0_f_2
  have k1_f_3 : f_3 1 = nI Rn := by rw [ef_3]; exact (pk_un (show 1 ≠ (213 + (10 * j + k)) by omega)).trans k1_f_2
  have k2_f_3 : f_3 2 = nI Wn := by rw [ef_3]; exact (pk_un (show 2 ≠ (213 + (10 * j + k)) by omega)).trans k2_f_2
  have kS_f_3 : SI f_3 := by rw [ef_3]; exact SI.upd kS_f_2 (okS.low (show (213 + (10 * j + k)) < 313 by omega))
  have kM_f_3 : MI f_3 := by rw [ef_3]; exact MI.upd kM_f_2 (okM.out (show (213 + (10 * j + k)) < 13 ∨ 113 ≤ (213 + (10 * j + k)) by omega))
  have kR_f_3 : RI Rn f_3 := by rw [ef_3]; exact RI.upd kR_f_2 (fun r9 hr9 e9 => by omega)
  have kG_f_3 : FR P f_3 fae (upd fal (10 * j + k) p0) (upd fau (10 * j + k) p1) (upd fao (10 * j + k) 1) farn farp fak fawn fawp fat fas := by rw [ef_3]; exact FR.po kG_f_2 (show 10 * j + k < 100 by omega) (by decide) (by omega)
  have hP : va_P D vwCl [(h0, .inr (9, [.ref ys, .ref yk, .ref yo, .ref yt, .int mk0, .ref yfa, .ref yfe, .int mL, .int mS, .int mM, .ref yro, .ref yhe, .ref ygr, .int mF, .int mC, .int mY, .ref yta, .int (nI (mz)), .int (nI (mf)), .int (nI (mt)), .int mv, .int mw, .ref ywa, .ref ybi, .ref ysi, .ref ynu, .ref ymo])), (ys, .inl (cI, 449, .inl f_3))] H := hP
  have hD : va_D A [(h0, .inr (9, [.ref ys, .ref yk, .ref yo, .ref yt, .int mk0, .ref yfa, .ref yfe, .int mL, .int mS, .int mM, .ref yro, .ref yhe, .ref ygr, .int mF, .int mC, .int mY, .ref yta, .int (nI (mz)), .int (nI (mf)), .int (nI (mt)), .int mv, .int mw, .ref ywa, .ref ybi, .ref ysi, .ref ynu, .ref ymo])), (ys, .inl (cI, 449, .inl f_3))] := hD
  refine lv_iload hx hb dX9_makes_56 (lv_at hl 0 rfl) ?_
  refine lv_if_ne (tgt := 65) hx hb dX9_makes_58 (by decide) (fun c_4 => ?_) (fun c_4 => ?_)
  · skip
    refine lv_iconst (v := 0) hx hb dX9_makes_65 (by decide) ?_
    exact W.iret (v := 0) hx hb hr (fun t ht hW => ⟨⟨0, f_3, rfl, ⟨(by first | exact Or.inr (⟨rfl, (by first | assumption | omega | exact Or.inl (by first | assumption | omega) | exact Or.inr (by first | assumption | omega))⟩)), k0_f_3, k1_f_3, k2_f_3, kS_f_3, kM_f_3, hsp, hsr, hsw, kR_f_3, kG_f_3⟩, by rw [ht]; exact hP.sub [0, 1] rfl, hD.sub [0, 1] (by decide) rfl⟩, hS.F ht⟩) hS.2.2 dX9_makes_66 hlk
  · skip
    refine lv_iconst (v := 1) hx hb dX9_makes_61 (by decide) ?_
    refine lv_goto (tgt := 66) hx hb dX9_makes_62 (by decide) ?_
    exact W.iret (v := 1) hx hb hr (fun t ht hW => ⟨⟨1, f_3, rfl, ⟨(by first | exact Or.inl ⟨rfl, (by first | assumption | omega | exact Or.inl (by first | assumption | omega) | exact Or.inr (by first | assumption | omega))⟩), k0_f_3, k1_f_3, k2_f_3, kS_f_3, kM_f_3, hsp, hsr, hsw, kR_f_3, kG_f_3⟩, by rw [ht]; exact hP.sub [0, 1] rfl, hD.sub [0, 1] (by decide) rfl⟩, hS.F ht⟩) hS.2.2 dX9_makes_66 hlk
set_option maxHeartbeats 4000000 in
set_option maxRecDepth 100000 in
theorem c_X9_way (l : Launch) (D : va_G) (cI cJ cZ cS : ClassId) (ta : Nat) (sa sv : Nat → Nat) (sz : Nat) (h0 : Nat) (ys : Nat) (yk : Nat) (yo : Nat) (yt : Nat) (mk0 : Int32) (yfa : Nat) (yfe : Nat) (mL : Int32) (mS : Int32) (mM : Int32) (yro : Nat) (yhe : Nat) (ygr : Nat) (mF : Int32) (mC : Int32) (mY : Int32) (yta : Nat) (mz : Nat) (mf : Nat) (mt : Nat) (mv : Int32) (mw : Int32) (ywa : Nat) (ybi : Nat) (ysi : Nat) (ynu : Nat) (ymo : Nat) (ms : Nat → Int32) (mq : Nat → Int32) (P : Nat) (Rn : Nat) (Wn : Nat) (fae : Nat → Int32) (fal : Nat → Int32) (fau : Nat → Int32) (fao : Nat → Int32) (farn : Nat → Int32) (farp : Nat → Int32) (fak : Nat → Int32) (fawn : Nat → Int32) (fawp : Nat → Int32) (fat : Nat → Int32) (fas : Nat → Int32) (p0 : Int32) (p1 : Int32) (p2 : Int32) (p3 : Int32) (hs0 : ms 0 = nI P) (hs1 : ms 1 = nI Rn) (hs2 : ms 2 = nI Wn) (hsS : SI ms) (hsM : MI ms) (hsp : P ≤ 10) (hsr : Rn ≤ 8) (hsw : Wn ≤ 8) (hsR : RI Rn ms) (hsG : FR P ms fae fal fau fao farn farp fak fawn fawp fat fas) : Met l yX9_way (Cond.code yX9_way cX9_way 5 (some .int) :: wsU) ({ frames := 3, cells := 0, slots := 0, locals := 68 }) (va_Pc [.ref h0, .int p0, .int p1, .int p2, .int p3] (XW D (xT cI cJ cZ cS) ta sa sv [(h0, .inr (9, [.ref ys, .ref yk, .ref yo, .ref yt, .int mk0, .ref yfa, .ref yfe, .int mL, .int mS, .int mM, .ref yro, .ref yhe, .ref ygr, .int mF, .int mC, .int mY, .ref yta, .int (nI (mz)), .int (nI (mf)), .int (nI (mt)), .int mv, .int mw, .ref ywa, .ref ybi, .ref ysi, .ref ynu, .ref ymo])), (ys, .inl (cI, 449, .inl ms)), (yt, .inl (cI, 7, .inl mq))] sz)) (XQi (fun (r : Int32) (u : (Nat → Int32) × (Nat → Int32) × (Nat → Int32) × (Nat → Int32) × (Nat → Int32)) => match u with | (ms2, mq2, gl, gu, go) => ((r = wyR P p0 p1 p2 p3 fao)) ∧ (gl = wyF P p0 p1 p2 p3 p2 fal) ∧ (gu = wyF P p0 p1 p2 p3 p3 fau) ∧ (go = wyF P p0 p1 p2 p3 1 fao) ∧ (ms2 0 = nI P) ∧ (ms2 1 = nI Rn) ∧ (ms2 2 = nI Wn) ∧ (SI ms2) ∧ (MI ms2) ∧ (P ≤ 10) ∧ (Rn ≤ 8) ∧ (Wn ≤ 8) ∧ (RI Rn ms2) ∧ (FR P ms2 fae gl gu go farn farp fak fawn fawp fat fas)) D (fun (u : (Nat → Int32) × (Nat → Int32) × (Nat → Int32) × (Nat → Int32) × (Nat → Int32)) => match u with | (ms2, mq2, gl, gu, go) => [(h0, .inr (9, [.ref ys, .ref yk, .ref yo, .ref yt, .int mk0, .ref yfa, .ref yfe, .int mL, .int mS, .int mM, .ref yro, .ref yhe, .ref ygr, .int mF, .int mC, .int mY, .ref yta, .int (nI (mz)), .int (nI (mf)), .int (nI (mt)), .int mv, .int mw, .ref ywa, .ref ybi, .ref ysi, .ref ynu, .ref ymo])), (ys, .inl (cI, 449, .inl ms2)), (yt, .inl (cI, 7, .inl mq2))]) (va_A [(h0, .inr (9, [.ref ys, .ref yk, .ref yo, .ref yt, .int mk0, .ref yfa, .ref yfe, .int mL, .int mS, .int mM, .ref yro, .ref yhe, .ref ygr, .int mF, .int mC, .int mY, .ref yta, .int (nI (mz)), .int (nI (mf)), .int (nI (mt)), .int mv, .int mw, .ref ywa, .ref ybi, .ref ysi, .ref ynu, .ref ymo])), (ys, .inl (cI, 449, .inl ms)), (yt, .inl (cI, 7, .inl mq))] sz)) 0 0 (va_A [(h0, .inr (9, [.ref ys, .ref yk, .ref yo, .ref yt, .int mk0, .ref yfa, .ref yfe, .int mL, .int mS, .int mM, .ref yro, .ref yhe, .ref ygr, .int mF, .int mC, .int mY, .ref yta, .int (nI (mz)), .int (nI (mf)), .int (nI (mt)), .int mv, .int mw, .ref ywa, .ref ybi, .ref ysi, .ref ynu, .ref ymo])), (ys, .inl (cI, 449, .inl ms)), (yt, .inl (cI, 7, .inl mq))] sz) := by
  refine xh (QA := fun A => XQi (fun (r : Int32) (u : (Nat → Int32) × (Nat → Int32) × (Nat → Int32) × (Nat → Int32) × (Nat → Int32)) => match u with | (ms2, mq2, gl, gu, go) => ((r = wyR P p0 p1 p2 p3 fao)) ∧ (gl = wyF P p0 p1 p2 p3 p2 fal) ∧ (gu = wyF P p0 p1 p2 p3 p3 fau) ∧ (go = wyF P p0 p1 p2 p3 1 fao) ∧ (ms2 0 = nI P) ∧ (ms2 1 = nI Rn) ∧ (ms2 2 = nI Wn) ∧ (SI ms2) ∧ (MI ms2) ∧ (P ≤ 10) ∧ (Rn ≤ 8) ∧ (Wn ≤ 8) ∧ (RI Rn ms2) ∧ (FR P ms2 fae gl gu go farn farp fak fawn fawp fat fas)) D (fun (u : (Nat → Int32) × (Nat → Int32) × (Nat → Int32) × (Nat → Int32) × (Nat → Int32)) => match u with | (ms2, mq2, gl, gu, go) => [(h0, .inr (9, [.ref ys, .ref yk, .ref yo, .ref yt, .int mk0, .ref yfa, .ref yfe, .int mL, .int mS, .int mM, .ref yro, .ref yhe, .ref ygr, .int mF, .int mC, .int mY, .ref yta, .int (nI (mz)), .int (nI (mf)), .int (nI (mt)), .int mv, .int mw, .ref ywa, .ref ybi, .ref ysi, .ref ynu, .ref ymo])), (ys, .inl (cI, 449, .inl ms2)), (yt, .inl (cI, 7, .inl mq2))]) A) (fr := fun A => A) (by decide) (Nat.le_of_ble_eq_true rfl) ?_
  intro p e s m below meth c ls A hF hr hlk hin hsz hP hK hD hN hZ hA hS hl
  have hF : CallFix p m c cX9_way 5 s _ _ RX9 := hF
  have hx := hF.1
  have hb := hF.2.1
  have hml := hF.2.2.1
  have hown := hF.2.2.2.1
  have hu : ∀ w ∈ wsU, w.before _ s = true := fun w h => hF.2.2.2.2 w (List.mem_cons_of_mem _ h)
  have hl : lv_has ls 5 [(0, .ref h0), (1, .int p0), (2, .int p1), (3, .int p2), (4, .int p3)] := hl
  refine lv_aload_n hx hb dX9_way_0 rfl (lv_at hl 0 rfl) ?_
  refine lv_iload_n hx hb dX9_way_1 rfl (lv_at hl 1 rfl) ?_
  refine lv_iload_n hx hb dX9_way_2 rfl (lv_at hl 2 rfl) ?_
  refine xc_Vr hF (c_X9_areTwo l D cI cJ cZ cS ta sa sv s.heap.size h0 ys yk yo yt mk0 yfa yfe mL mS mM yro yhe ygr mF mC mY yta mz mf mt mv mw ywa ybi ysi ynu ymo ms P Rn Wn fae fal fau fao farn farp fak fawn fawp fat fas p0 p1 hs0 hs1 hs2 hsS hsM hsp hsr hsw hsR hsG) kv_X9_80 ⟨rfl, rfl, Nat.le_of_ble_eq_true rfl, Nat.le_of_ble_eq_true rfl⟩ ⟨Nat.le_of_ble_eq_true rfl, Nat.le_of_ble_eq_true rfl⟩ hK hN hZ hP hD hS hA [0, 1] rfl rfl 0 rfl rfl rfl rfl hl.1 rfl (Nat.le_of_ble_eq_true rfl) dX9_way_3 (fun r_1 hw_r_1 => ?_)
  rcases hw_r_1 with ⟨j_2, k_3, rfl, rfl, rfl, h_6, h_7, h_8⟩ | ⟨rfl, h_9⟩
  · skip
    refine lv_if_eq (tgt := 30) hx hb dX9_way_6 (by decide) (fun c_10 => absurd c_10 (by decide)) (fun c_10 => ?_)
    refine lv_iload_n hx hb dX9_way_9 rfl (lv_at hl 3 rfl) ?_
    refine lv_iload hx hb dX9_way_10 (lv_at hl 4 rfl) ?_
    refine xc_Sr hF (c_X9_areEnds l D cI cJ cZ cS ta sa sv s.heap.size p2 p3 ) ks_X9_84 ⟨rfl, rfl, Nat.le_of_ble_eq_true rfl, Nat.le_of_ble_eq_true rfl⟩ ⟨Nat.le_of_ble_eq_true rfl, Nat.le_of_ble_eq_true rfl⟩ hK hN hZ hP hD hS hA [] rfl rfl rfl hl.1 rfl (Nat.le_of_ble_eq_true rfl) dX9_way_12 (fun r_11 hw_r_11 => ?_)
    rcases hw_r_11 with ⟨rfl, h_12⟩ | ⟨rfl, h_13⟩
    · skip
      refine lv_if_eq (tgt := 30) hx hb dX9_way_15 (by decide) (fun c_14 => absurd c_14 (by decide)) (fun c_14 => ?_)
      refine lv_aload_n hx hb dX9_way_18 rfl (lv_at hl 0 rfl) ?_
      refine lv_iload_n hx hb dX9_way_19 rfl (lv_at hl 1 rfl) ?_
      refine lv_iload_n hx hb dX9_way_20 rfl (lv_at hl 2 rfl) ?_
      refine lv_iload_n hx hb dX9_way_21 rfl (lv_at hl 3 rfl) ?_
      refine lv_iload hx hb dX9_way_22 (lv_at hl 4 rfl) ?_
      refine xc_Vi (wr := [(yt, .inl (cI, 7, .inl mq))]) hF (c_X9_makes l D cI cJ cZ cS ta sa sv s.heap.size h0 ys yk yo yt mk0 yfa yfe mL mS mM yro yhe ygr mF mC mY yta mz mf mt mv mw ywa ybi ysi ynu ymo ms P Rn Wn fae fal fau fao farn farp fak fawn fawp fat fas j_2 k_3 p2 p3 (by omega) (by omega) (ends_lo h_12) hs0 hs1 hs2 hsS hsM hsp hsr hsw hsR hsG) kv_X9_87 ⟨rfl, rfl, Nat.le_of_ble_eq_true rfl, Nat.le_of_ble_eq_true rfl⟩ ⟨Nat.le_of_ble_eq_true rfl, Nat.le_of_ble_eq_true rfl⟩ hK hN hZ hP hD hS hA [0, 1] [2] rfl rfl rfl rfl (by decide) 0 rfl rfl rfl rfl hl.1 rfl (Nat.le_of_ble_eq_true rfl) dX9_way_24 (fun r_15 u_r_15 H locs hw_r_15 hP hD hS => ?_)
      obtain ⟨ms2_16, rfl⟩ : ∃ z, z = u_r_15 := ⟨_, rfl⟩
      try dsimp only at hw_r_15
      obtain ⟨hw_r_15, i_17, i_18, i_19, i_20, i_21, i_22, i_23, i_24, i_25, i_26⟩ := hw_r_15
      have hP : va_P D vwCl [(yt, .inl (cI, 7, .inl mq)), (h0, .inr (9, [.ref ys, .ref yk, .ref yo, .ref yt, .int mk0, .ref yfa, .ref yfe, .int mL, .int mS, .int mM, .ref yro, .ref yhe, .ref ygr, .int mF, .int mC, .int mY, .ref yta, .int (nI (mz)), .int (nI (mf)), .int (nI (mt)), .int mv, .int mw, .ref ywa, .ref ybi, .ref ysi, .ref ynu, .ref ymo])), (ys, .inl (cI, 449, .inl ms2_16))] H := hP
      have hD : va_D A [(yt, .inl (cI, 7, .inl mq)), (h0, .inr (9, [.ref ys, .ref yk, .ref yo, .ref yt, .int mk0, .ref yfa, .ref yfe, .int mL, .int mS, .int mM, .ref yro, .ref yhe, .ref ygr, .int mF, .int mC, .int mY, .ref yta, .int (nI (mz)), .int (nI (mf)), .int (nI (mt)), .int mv, .int mw, .ref ywa, .ref ybi, .ref ysi, .ref ynu, .ref ymo])), (ys, .inl (cI, 449, .inl ms2_16))] := hD
      rcases hw_r_15 with ⟨rfl, h_27⟩ | ⟨rfl, h_28⟩
      · skip
        refine lv_goto (tgt := 36) hx hb dX9_way_27 (by decide) ?_
        exact W.iret (v := 1) hx hb hr (fun t ht hW => ⟨⟨1, (ms2_16, mq, upd fal (10 * j_2 + k_3) p2, upd fau (10 * j_2 + k_3) p3, upd fao (10 * j_2 + k_3) 1), rfl, ⟨((wy_yes (P := P) (j := j_2) (k := k_3) (by omega) (by omega) (by omega) (by omega) h_12).2.1 _ h_27), ((wy_yes (P := P) (j := j_2) (k := k_3) (by omega) (by omega) (by omega) (by omega) h_12).1 _ _), ((wy_yes (P := P) (j := j_2) (k := k_3) (by omega) (by omega) (by omega) (by omega) h_12).1 _ _), ((wy_yes (P := P) (j := j_2) (k := k_3) (by omega) (by omega) (by omega) (by omega) h_12).1 _ _), i_17, i_18, i_19, i_20, i_21, i_22, i_23, i_24, i_25, i_26⟩, by rw [ht]; exact hP.sub [1, 2, 0] rfl, hD.sub [1, 2, 0] (by decide) rfl⟩, hS.F ht⟩) hS.2.2 dX9_way_36 hlk
      · skip
        refine lv_goto (tgt := 36) hx hb dX9_way_27 (by decide) ?_
        exact W.iret (v := 0) hx hb hr (fun t ht hW => ⟨⟨0, (ms2_16, mq, upd fal (10 * j_2 + k_3) p2, upd fau (10 * j_2 + k_3) p3, upd fao (10 * j_2 + k_3) 1), rfl, ⟨((wy_yes (P := P) (j := j_2) (k := k_3) (by omega) (by omega) (by omega) (by omega) h_12).2.2 _ h_28), ((wy_yes (P := P) (j := j_2) (k := k_3) (by omega) (by omega) (by omega) (by omega) h_12).1 _ _), ((wy_yes (P := P) (j := j_2) (k := k_3) (by omega) (by omega) (by omega) (by omega) h_12).1 _ _), ((wy_yes (P := P) (j := j_2) (k := k_3) (by omega) (by omega) (by omega) (by omega) h_12).1 _ _), i_17, i_18, i_19, i_20, i_21, i_22, i_23, i_24, i_25, i_26⟩, by rw [ht]; exact hP.sub [1, 2, 0] rfl, hD.sub [1, 2, 0] (by decide) rfl⟩, hS.F ht⟩) hS.2.2 dX9_way_36 hlk
    · skip
      refine lv_if_eq (tgt := 30) hx hb dX9_way_15 (by decide) (fun c_29 => ?_) (fun c_29 => absurd (by decide) c_29)
      refine lv_aload_n hx hb dX9_way_30 rfl (lv_at hl 0 rfl) ?_
      refine lv_ldc (v := (-1000000001)) hx hb hown (hu _ uw648) dX9_way_31 ?_
      refine xc_Vi (wr := [(ys, .inl (cI, 449, .inl ms))]) hF (c_X9_finds_B l D cI cJ cZ cS ta sa sv s.heap.size h0 ys yk yo yt mk0 yfa yfe mL mS mM yro yhe ygr mF mC mY yta mz mf mt mv mw ywa ybi ysi ynu ymo mq ) kv_X9_70 ⟨rfl, rfl, Nat.le_of_ble_eq_true rfl, Nat.le_of_ble_eq_true rfl⟩ ⟨Nat.le_of_ble_eq_true rfl, Nat.le_of_ble_eq_true rfl⟩ hK hN hZ hP hD hS hA [0, 2] [1] rfl rfl rfl rfl (by decide) 0 rfl rfl rfl rfl hl.1 rfl (Nat.le_of_ble_eq_true rfl) dX9_way_33 (fun r_30 u_r_30 H locs hw_r_30 hP hD hS => ?_)
      obtain ⟨mq2_31, rfl⟩ : ∃ z, z = u_r_30 := ⟨_, rfl⟩
      try dsimp only at hw_r_30
      have hP : va_P D vwCl [(ys, .inl (cI, 449, .inl ms)), (h0, .inr (9, [.ref ys, .ref yk, .ref yo, .ref yt, .int mk0, .ref yfa, .ref yfe, .int mL, .int mS, .int mM, .ref yro, .ref yhe, .ref ygr, .int mF, .int mC, .int mY, .ref yta, .int (nI (mz)), .int (nI (mf)), .int (nI (mt)), .int mv, .int mw, .ref ywa, .ref ybi, .ref ysi, .ref ynu, .ref ymo])), (yt, .inl (cI, 7, .inl mq2_31))] H := hP
      have hD : va_D A [(ys, .inl (cI, 449, .inl ms)), (h0, .inr (9, [.ref ys, .ref yk, .ref yo, .ref yt, .int mk0, .ref yfa, .ref yfe, .int mL, .int mS, .int mM, .ref yro, .ref yhe, .ref ygr, .int mF, .int mC, .int mY, .ref yta, .int (nI (mz)), .int (nI (mf)), .int (nI (mt)), .int mv, .int mw, .ref ywa, .ref ybi, .ref ysi, .ref ynu, .ref ymo])), (yt, .inl (cI, 7, .inl mq2_31))] := hD
      subst hw_r_30
      exact W.iret (v := (-1000000001)) hx hb hr (fun t ht hW => ⟨⟨(-1000000001), (ms, mq2_31, fal, fau, fao), rfl, ⟨((wy_no (P := P) (fun h => h_13 h.2)).1 _), ((wy_no (P := P) (fun h => h_13 h.2)).2 _ _), ((wy_no (P := P) (fun h => h_13 h.2)).2 _ _), ((wy_no (P := P) (fun h => h_13 h.2)).2 _ _), hs0, hs1, hs2, hsS, hsM, hsp, hsr, hsw, hsR, hsG⟩, by rw [ht]; exact hP.sub [1, 0, 2] rfl, hD.sub [1, 0, 2] (by decide) rfl⟩, hS.F ht⟩) hS.2.2 dX9_way_36 hlk
  · skip
    refine lv_if_eq (tgt := 30) hx hb dX9_way_6 (by decide) (fun c_32 => ?_) (fun c_32 => absurd (by decide) c_32)
    refine lv_aload_n hx hb dX9_way_30 rfl (lv_at hl 0 rfl) ?_
    refine lv_ldc (v := (-1000000001)) hx hb hown (hu _ uw648) dX9_way_31 ?_
    refine xc_Vi (wr := [(ys, .inl (cI, 449, .inl ms))]) hF (c_X9_finds_B l D cI cJ cZ cS ta sa sv s.heap.size h0 ys yk yo yt mk0 yfa yfe mL mS mM yro yhe ygr mF mC mY yta mz mf mt mv mw ywa ybi ysi ynu ymo mq ) kv_X9_70 ⟨rfl, rfl, Nat.le_of_ble_eq_true rfl, Nat.le_of_ble_eq_true rfl⟩ ⟨Nat.le_of_ble_eq_true rfl, Nat.le_of_ble_eq_true rfl⟩ hK hN hZ hP hD hS hA [0, 2] [1] rfl rfl rfl rfl (by decide) 0 rfl rfl rfl rfl hl.1 rfl (Nat.le_of_ble_eq_true rfl) dX9_way_33 (fun r_33 u_r_33 H locs hw_r_33 hP hD hS => ?_)
    obtain ⟨mq2_34, rfl⟩ : ∃ z, z = u_r_33 := ⟨_, rfl⟩
    try dsimp only at hw_r_33
    have hP : va_P D vwCl [(ys, .inl (cI, 449, .inl ms)), (h0, .inr (9, [.ref ys, .ref yk, .ref yo, .ref yt, .int mk0, .ref yfa, .ref yfe, .int mL, .int mS, .int mM, .ref yro, .ref yhe, .ref ygr, .int mF, .int mC, .int mY, .ref yta, .int (nI (mz)), .int (nI (mf)), .int (nI (mt)), .int mv, .int mw, .ref ywa, .ref ybi, .ref ysi, .ref ynu, .ref ymo])), (yt, .inl (cI, 7, .inl mq2_34))] H := hP
    have hD : va_D A [(ys, .inl (cI, 449, .inl ms)), (h0, .inr (9, [.ref ys, .ref yk, .ref yo, .ref yt, .int mk0, .ref yfa, .ref yfe, .int mL, .int mS, .int mM, .ref yro, .ref yhe, .ref ygr, .int mF, .int mC, .int mY, .ref yta, .int (nI (mz)), .int (nI (mf)), .int (nI (mt)), .int mv, .int mw, .ref ywa, .ref ybi, .ref ysi, .ref ynu, .ref ymo])), (yt, .inl (cI, 7, .inl mq2_34))] := hD
    subst hw_r_33
    exact W.iret (v := (-1000000001)) hx hb hr (fun t ht hW => ⟨⟨(-1000000001), (ms, mq2_34, fal, fau, fao), rfl, ⟨((wy_no (P := P) (fun h => h_9 h.1)).1 _), ((wy_no (P := P) (fun h => h_9 h.1)).2 _ _), ((wy_no (P := P) (fun h => h_9 h.1)).2 _ _), ((wy_no (P := P) (fun h => h_9 h.1)).2 _ _), hs0, hs1, hs2, hsS, hsM, hsp, hsr, hsw, hsR, hsG⟩, by rw [ht]; exact hP.sub [1, 0, 2] rfl, hD.sub [1, 0, 2] (by decide) rfl⟩, hS.F ht⟩) hS.2.2 dX9_way_36 hlk
set_option maxHeartbeats 4000000 in
set_option maxRecDepth 100000 in
theorem c_X9_wayOf (l : Launch) (D : va_G) (cI cJ cZ cS : ClassId) (ta : Nat) (sa sv : Nat → Nat) (sz : Nat) (h0 : Nat) (ys : Nat) (yk : Nat) (yo : Nat) (yt : Nat) (mk0 : Int32) (yfa : Nat) (yfe : Nat) (mL : Int32) (mS : Int32) (mM : Int32) (yro : Nat) (yhe : Nat) (ygr : Nat) (mF : Int32) (mC : Int32) (mY : Int32) (yta : Nat) (mz : Nat) (mf : Nat) (mt : Nat) (mv : Int32) (mw : Int32) (ywa : Nat) (ybi : Nat) (ysi : Nat) (ynu : Nat) (ymo : Nat) (ms : Nat → Int32) (mq : Nat → Int32) (P : Nat) (Rn : Nat) (Wn : Nat) (fae : Nat → Int32) (fal : Nat → Int32) (fau : Nat → Int32) (fao : Nat → Int32) (farn : Nat → Int32) (farp : Nat → Int32) (fak : Nat → Int32) (fawn : Nat → Int32) (fawp : Nat → Int32) (fat : Nat → Int32) (fas : Nat → Int32) (p0 : Int32) (p1 : Int32) (p2 : Int32) (hs0 : ms 0 = nI P) (hs1 : ms 1 = nI Rn) (hs2 : ms 2 = nI Wn) (hsS : SI ms) (hsM : MI ms) (hsp : P ≤ 10) (hsr : Rn ≤ 8) (hsw : Wn ≤ 8) (hsR : RI Rn ms) (hsG : FR P ms fae fal fau fao farn farp fak fawn fawp fat fas) : Met l yX9_wayOf (Cond.code yX9_wayOf cX9_wayOf 5 (some .int) :: wsU) ({ frames := 3, cells := 0, slots := 0, locals := 68 }) (va_Pc [.ref h0, .int p0, .int p1, .int p2] (XW D (xT cI cJ cZ cS) ta sa sv [(h0, .inr (9, [.ref ys, .ref yk, .ref yo, .ref yt, .int mk0, .ref yfa, .ref yfe, .int mL, .int mS, .int mM, .ref yro, .ref yhe, .ref ygr, .int mF, .int mC, .int mY, .ref yta, .int (nI (mz)), .int (nI (mf)), .int (nI (mt)), .int mv, .int mw, .ref ywa, .ref ybi, .ref ysi, .ref ynu, .ref ymo])), (ys, .inl (cI, 449, .inl ms)), (yt, .inl (cI, 7, .inl mq))] sz)) (XQi (fun (r : Int32) (mq2 : (Nat → Int32)) => ((r = woR P p0 p1 p2 fal fau fao))) D (fun (mq2 : Nat → Int32) => [(h0, .inr (9, [.ref ys, .ref yk, .ref yo, .ref yt, .int mk0, .ref yfa, .ref yfe, .int mL, .int mS, .int mM, .ref yro, .ref yhe, .ref ygr, .int mF, .int mC, .int mY, .ref yta, .int (nI (mz)), .int (nI (mf)), .int (nI (mt)), .int mv, .int mw, .ref ywa, .ref ybi, .ref ysi, .ref ynu, .ref ymo])), (ys, .inl (cI, 449, .inl ms)), (yt, .inl (cI, 7, .inl mq2))]) (va_A [(h0, .inr (9, [.ref ys, .ref yk, .ref yo, .ref yt, .int mk0, .ref yfa, .ref yfe, .int mL, .int mS, .int mM, .ref yro, .ref yhe, .ref ygr, .int mF, .int mC, .int mY, .ref yta, .int (nI (mz)), .int (nI (mf)), .int (nI (mt)), .int mv, .int mw, .ref ywa, .ref ybi, .ref ysi, .ref ynu, .ref ymo])), (ys, .inl (cI, 449, .inl ms)), (yt, .inl (cI, 7, .inl mq))] sz)) 0 0 (va_A [(h0, .inr (9, [.ref ys, .ref yk, .ref yo, .ref yt, .int mk0, .ref yfa, .ref yfe, .int mL, .int mS, .int mM, .ref yro, .ref yhe, .ref ygr, .int mF, .int mC, .int mY, .ref yta, .int (nI (mz)), .int (nI (mf)), .int (nI (mt)), .int mv, .int mw, .ref ywa, .ref ybi, .ref ysi, .ref ynu, .ref ymo])), (ys, .inl (cI, 449, .inl ms)), (yt, .inl (cI, 7, .inl mq))] sz) := by
  refine xh (QA := fun A => XQi (fun (r : Int32) (mq2 : (Nat → Int32)) => ((r = woR P p0 p1 p2 fal fau fao))) D (fun (mq2 : Nat → Int32) => [(h0, .inr (9, [.ref ys, .ref yk, .ref yo, .ref yt, .int mk0, .ref yfa, .ref yfe, .int mL, .int mS, .int mM, .ref yro, .ref yhe, .ref ygr, .int mF, .int mC, .int mY, .ref yta, .int (nI (mz)), .int (nI (mf)), .int (nI (mt)), .int mv, .int mw, .ref ywa, .ref ybi, .ref ysi, .ref ynu, .ref ymo])), (ys, .inl (cI, 449, .inl ms)), (yt, .inl (cI, 7, .inl mq2))]) A) (fr := fun A => A) (by decide) (Nat.le_of_ble_eq_true rfl) ?_
  intro p e s m below meth c ls A hF hr hlk hin hsz hP hK hD hN hZ hA hS hl
  have hF : CallFix p m c cX9_wayOf 5 s _ _ RX9 := hF
  have hx := hF.1
  have hb := hF.2.1
  have hml := hF.2.2.1
  have hown := hF.2.2.2.1
  have hu : ∀ w ∈ wsU, w.before _ s = true := fun w h => hF.2.2.2.2 w (List.mem_cons_of_mem _ h)
  have hl : lv_has ls 5 [(0, .ref h0), (1, .int p0), (2, .int p1), (3, .int p2)] := hl
  refine lv_aload_n hx hb dX9_wayOf_0 rfl (lv_at hl 0 rfl) ?_
  refine lv_iload_n hx hb dX9_wayOf_1 rfl (lv_at hl 1 rfl) ?_
  refine lv_iload_n hx hb dX9_wayOf_2 rfl (lv_at hl 2 rfl) ?_
  refine xc_Vr hF (c_X9_areTwo l D cI cJ cZ cS ta sa sv s.heap.size h0 ys yk yo yt mk0 yfa yfe mL mS mM yro yhe ygr mF mC mY yta mz mf mt mv mw ywa ybi ysi ynu ymo ms P Rn Wn fae fal fau fao farn farp fak fawn fawp fat fas p0 p1 hs0 hs1 hs2 hsS hsM hsp hsr hsw hsR hsG) kv_X9_80 ⟨rfl, rfl, Nat.le_of_ble_eq_true rfl, Nat.le_of_ble_eq_true rfl⟩ ⟨Nat.le_of_ble_eq_true rfl, Nat.le_of_ble_eq_true rfl⟩ hK hN hZ hP hD hS hA [0, 1] rfl rfl 0 rfl rfl rfl rfl hl.1 rfl (Nat.le_of_ble_eq_true rfl) dX9_wayOf_3 (fun r_1 hw_r_1 => ?_)
  rcases hw_r_1 with ⟨j_2, k_3, rfl, rfl, rfl, h_6, h_7, h_8⟩ | ⟨rfl, h_9⟩
  · skip
    refine lv_if_eq (tgt := 21) hx hb dX9_wayOf_6 (by decide) (fun c_10 => absurd c_10 (by decide)) (fun c_10 => ?_)
    refine lv_iload_n hx hb dX9_wayOf_9 rfl (lv_at hl 3 rfl) ?_
    refine lv_i2l (v := p2.toInt64) hx hb dX9_wayOf_10 rfl ?_
    refine lv_lconst (v := 0) hx hb dX9_wayOf_11 (by decide) ?_
    refine xl_l (y := (0 : Int32).toInt64) (by decide) ?_
    refine lv_ldc2 (v := 2) hx hb hown (hu _ uw694) dX9_wayOf_12 ?_
    refine xl_l (y := (2 : Int32).toInt64) (by decide) ?_
    refine xc_Sr hF (c_X9_in l D cI cJ cZ cS ta sa sv s.heap.size p2 0 2 ) ks_X9_57 ⟨rfl, rfl, Nat.le_of_ble_eq_true rfl, Nat.le_of_ble_eq_true rfl⟩ ⟨Nat.le_of_ble_eq_true rfl, Nat.le_of_ble_eq_true rfl⟩ hK hN hZ hP hD hS hA [] rfl rfl rfl hl.1 rfl (Nat.le_of_ble_eq_true rfl) dX9_wayOf_15 (fun r_11 hw_r_11 => ?_)
    rcases hw_r_11 with ⟨rfl, h_12, h_13⟩ | ⟨rfl, h_14⟩
    · skip
      refine lv_if_ne (tgt := 28) hx hb dX9_wayOf_18 (by decide) (fun c_15 => ?_) (fun c_15 => absurd c_15 (by decide))
      refine lv_aload_n hx hb dX9_wayOf_28 rfl (lv_at hl 0 rfl) ?_
      refine lv_iload_n hx hb dX9_wayOf_29 rfl (lv_at hl 1 rfl) ?_
      refine lv_iload_n hx hb dX9_wayOf_30 rfl (lv_at hl 2 rfl) ?_
      refine xc_Vr hF (c_X9_isWayF l D cI cJ cZ cS ta sa sv s.heap.size h0 ys yk yo yt mk0 yfa yfe mL mS mM yro yhe ygr mF mC mY yta mz mf mt mv mw ywa ybi ysi ynu ymo ms P Rn Wn fae fal fau fao farn farp fak fawn fawp fat fas j_2 k_3 (by omega) (by omega) hs0 hs1 hs2 hsS hsM hsp hsr hsw hsR hsG) kv_X9_93 ⟨rfl, rfl, Nat.le_of_ble_eq_true rfl, Nat.le_of_ble_eq_true rfl⟩ ⟨Nat.le_of_ble_eq_true rfl, Nat.le_of_ble_eq_true rfl⟩ hK hN hZ hP hD hS hA [0, 1] rfl rfl 0 rfl rfl rfl rfl hl.1 rfl (Nat.le_of_ble_eq_true rfl) dX9_wayOf_31 (fun r_16 hw_r_16 => ?_)
      rcases hw_r_16 with ⟨rfl, h_17⟩ | ⟨rfl, h_18⟩
      · skip
        refine lv_if_ne (tgt := 44) hx hb dX9_wayOf_34 (by decide) (fun c_19 => ?_) (fun c_19 => absurd c_19 (by decide))
        refine lv_bipush (v := 10) hx hb dX9_wayOf_44 (by decide) ?_
        refine lv_iload_n hx hb dX9_wayOf_46 rfl (lv_at hl 1 rfl) ?_
        refine lv_imul hx hb dX9_wayOf_47 ?_
        refine xl_i (y := nI (10 * j_2)) (pk_mul 10 j_2) ?_
        refine lv_iload_n hx hb dX9_wayOf_48 rfl (lv_at hl 2 rfl) ?_
        refine lv_iadd hx hb dX9_wayOf_49 ?_
        refine xl_i (y := nI (10 * j_2 + k_3)) (nI_add (10 * j_2) k_3) ?_
        refine lv_istore (lv' := [(4, .int (nI (10 * j_2 + k_3))), (0, .ref h0), (1, .int (nI (j_2))), (2, .int (nI (k_3))), (3, .int p2)]) hx hb dX9_wayOf_50 hl (by decide) rfl (fun ls hl => ?_)
        refine lv_iload_n hx hb dX9_wayOf_52 rfl (lv_at hl 4 rfl) ?_
        refine lv_if_ne (tgt := 69) hx hb dX9_wayOf_53 (by decide) (fun c_20 => ?_) (fun c_20 => ?_)
        · skip
          refine lv_iload_n hx hb dX9_wayOf_69 rfl (lv_at hl 4 rfl) ?_
          refine lv_iconst (v := 1) hx hb dX9_wayOf_70 (by decide) ?_
          refine lv_icmp_ne (tgt := 87) hx hb dX9_wayOf_71 (by decide) (fun c_21 => ?_) (fun c_21 => ?_)
          · skip
            refine lv_aload_n hx hb dX9_wayOf_87 rfl (lv_at hl 1 rfl) ?_
            refine xg hF kf_X9_7 hK hP 0 rfl rfl dX9_wayOf_88 ?_
            refine lv_sipush (v := 213) hx hb dX9_wayOf_91 (by decide) ?_
            refine lv_iload hx hb dX9_wayOf_94 (lv_at hl 0 rfl) ?_
            refine lv_iadd hx hb dX9_wayOf_96 ?_
            refine xl_i (y := nI (213 + (10 * j_2 + k_3))) (nI_add 213 (10 * j_2 + k_3)) ?_
            refine va_iald hx hb hK hP 1 0 rfl rfl (vp_in_nI (show 213 + (10 * j_2 + k_3) < 449 by omega) (by decide)) dX9_wayOf_97 ?_
            refine xl_i (y := ms (213 + (10 * j_2 + k_3))) (congrArg ms (nI_clamp (show 213 + (10 * j_2 + k_3) < 2 ^ 31 by omega))) ?_
            refine xl_i (y := fao (10 * j_2 + k_3)) (FR.go hsG (show 10 * j_2 + k_3 < 100 by omega) (by omega)) ?_
            refine lv_iconst (v := 1) hx hb dX9_wayOf_98 (by decide) ?_
            refine lv_isub hx hb dX9_wayOf_99 ?_
            refine lv_topi (fun x_22 ex_22 => ?_)
            exact W.iret (v := x_22) hx hb hr (fun t ht hW => ⟨⟨x_22, mq, rfl, (ex_22.trans (x_o2 (hsG.di (by omega)) h_17).1).trans (((wo_y (P := P) (l := fal) (u := fau) (o := fao) (j := j_2) (k := k_3) (by omega) (by omega) (by omega) (by omega) ⟨h_12, h_13⟩).trans ((if_neg h_17).trans ((if_neg c_20).trans (if_neg c_21)))).symm), by rw [ht]; exact hP.sub [0, 1, 2] rfl, hD.sub [0, 1, 2] (by decide) rfl⟩, hS.F ht⟩) hS.2.2 dX9_wayOf_100 hlk
          · skip
            refine lv_aload_n hx hb dX9_wayOf_74 rfl (lv_at hl 1 rfl) ?_
            refine xg hF kf_X9_7 hK hP 0 rfl rfl dX9_wayOf_75 ?_
            refine lv_bipush (v := 113) hx hb dX9_wayOf_78 (by decide) ?_
            refine lv_iload hx hb dX9_wayOf_80 (lv_at hl 0 rfl) ?_
            refine lv_iadd hx hb dX9_wayOf_82 ?_
            refine xl_i (y := nI (113 + (10 * j_2 + k_3))) (nI_add 113 (10 * j_2 + k_3)) ?_
            refine va_iald hx hb hK hP 1 0 rfl rfl (vp_in_nI (show 113 + (10 * j_2 + k_3) < 449 by omega) (by decide)) dX9_wayOf_83 ?_
            refine xl_i (y := ms (113 + (10 * j_2 + k_3))) (congrArg ms (nI_clamp (show 113 + (10 * j_2 + k_3) < 2 ^ 31 by omega))) ?_
            refine xl_i (y := fau (10 * j_2 + k_3)) (FR.gu hsG (show 10 * j_2 + k_3 < 100 by omega) (by omega)) ?_
            refine lv_goto (tgt := 100) hx hb dX9_wayOf_84 (by decide) ?_
            exact W.iret (v := fau (10 * j_2 + k_3)) hx hb hr (fun t ht hW => ⟨⟨fau (10 * j_2 + k_3), mq, rfl, ((wo_y (P := P) (l := fal) (u := fau) (o := fao) (j := j_2) (k := k_3) (by omega) (by omega) (by omega) (by omega) ⟨h_12, h_13⟩).trans ((if_neg h_17).trans ((if_neg c_20).trans (if_pos c_21)))).symm, by rw [ht]; exact hP.sub [0, 1, 2] rfl, hD.sub [0, 1, 2] (by decide) rfl⟩, hS.F ht⟩) hS.2.2 dX9_wayOf_100 hlk
        · skip
          refine lv_aload_n hx hb dX9_wayOf_56 rfl (lv_at hl 1 rfl) ?_
          refine xg hF kf_X9_7 hK hP 0 rfl rfl dX9_wayOf_57 ?_
          refine lv_bipush (v := 13) hx hb dX9_wayOf_60 (by decide) ?_
          refine lv_iload hx hb dX9_wayOf_62 (lv_at hl 0 rfl) ?_
          refine lv_iadd hx hb dX9_wayOf_64 ?_
          refine xl_i (y := nI (13 + (10 * j_2 + k_3))) (nI_add 13 (10 * j_2 + k_3)) ?_
          refine va_iald hx hb hK hP 1 0 rfl rfl (vp_in_nI (show 13 + (10 * j_2 + k_3) < 449 by omega) (by decide)) dX9_wayOf_65 ?_
          refine xl_i (y := ms (13 + (10 * j_2 + k_3))) (congrArg ms (nI_clamp (show 13 + (10 * j_2 + k_3) < 2 ^ 31 by omega))) ?_
          refine xl_i (y := fal (10 * j_2 + k_3)) (FR.gl hsG (show 10 * j_2 + k_3 < 100 by omega) (by omega)) ?_
          refine lv_goto (tgt := 100) hx hb dX9_wayOf_66 (by decide) ?_
          exact W.iret (v := fal (10 * j_2 + k_3)) hx hb hr (fun t ht hW => ⟨⟨fal (10 * j_2 + k_3), mq, rfl, ((wo_y (P := P) (l := fal) (u := fau) (o := fao) (j := j_2) (k := k_3) (by omega) (by omega) (by omega) (by omega) ⟨h_12, h_13⟩).trans ((if_neg h_17).trans (if_pos c_20))).symm, by rw [ht]; exact hP.sub [0, 1, 2] rfl, hD.sub [0, 1, 2] (by decide) rfl⟩, hS.F ht⟩) hS.2.2 dX9_wayOf_100 hlk
      · skip
        refine lv_if_ne (tgt := 44) hx hb dX9_wayOf_34 (by decide) (fun c_23 => absurd (by decide) c_23) (fun c_23 => ?_)
        refine lv_aload_n hx hb dX9_wayOf_37 rfl (lv_at hl 0 rfl) ?_
        refine lv_ldc (v := (-1000000004)) hx hb hown (hu _ uw699) dX9_wayOf_38 ?_
        refine xc_Vi (wr := [(ys, .inl (cI, 449, .inl ms))]) hF (c_X9_finds_N l D cI cJ cZ cS ta sa sv s.heap.size h0 ys yk yo yt mk0 yfa yfe mL mS mM yro yhe ygr mF mC mY yta mz mf mt mv mw ywa ybi ysi ynu ymo mq ) kv_X9_70 ⟨rfl, rfl, Nat.le_of_ble_eq_true rfl, Nat.le_of_ble_eq_true rfl⟩ ⟨Nat.le_of_ble_eq_true rfl, Nat.le_of_ble_eq_true rfl⟩ hK hN hZ hP hD hS hA [0, 2] [1] rfl rfl rfl rfl (by decide) 0 rfl rfl rfl rfl hl.1 rfl (Nat.le_of_ble_eq_true rfl) dX9_wayOf_40 (fun r_24 u_r_24 H locs hw_r_24 hP hD hS => ?_)
        obtain ⟨mq2_25, rfl⟩ : ∃ z, z = u_r_24 := ⟨_, rfl⟩
        try dsimp only at hw_r_24
        have hP : va_P D vwCl [(ys, .inl (cI, 449, .inl ms)), (h0, .inr (9, [.ref ys, .ref yk, .ref yo, .ref yt, .int mk0, .ref yfa, .ref yfe, .int mL, .int mS, .int mM, .ref yro, .ref yhe, .ref ygr, .int mF, .int mC, .int mY, .ref yta, .int (nI (mz)), .int (nI (mf)), .int (nI (mt)), .int mv, .int mw, .ref ywa, .ref ybi, .ref ysi, .ref ynu, .ref ymo])), (yt, .inl (cI, 7, .inl mq2_25))] H := hP
        have hD : va_D A [(ys, .inl (cI, 449, .inl ms)), (h0, .inr (9, [.ref ys, .ref yk, .ref yo, .ref yt, .int mk0, .ref yfa, .ref yfe, .int mL, .int mS, .int mM, .ref yro, .ref yhe, .ref ygr, .int mF, .int mC, .int mY, .ref yta, .int (nI (mz)), .int (nI (mf)), .int (nI (mt)), .int mv, .int mw, .ref ywa, .ref ybi, .ref ysi, .ref ynu, .ref ymo])), (yt, .inl (cI, 7, .inl mq2_25))] := hD
        subst hw_r_24
        exact W.iret (v := (-1000000004)) hx hb hr (fun t ht hW => ⟨⟨(-1000000004), mq2_25, rfl, ((wo_y (P := P) (l := fal) (u := fau) (o := fao) (j := j_2) (k := k_3) (by omega) (by omega) (by omega) (by omega) ⟨h_12, h_13⟩).trans (if_pos h_18)).symm, by rw [ht]; exact hP.sub [1, 0, 2] rfl, hD.sub [1, 0, 2] (by decide) rfl⟩, hS.F ht⟩) hS.2.2 dX9_wayOf_43 hlk
    · skip
      refine lv_if_ne (tgt := 28) hx hb dX9_wayOf_18 (by decide) (fun c_26 => absurd (by decide) c_26) (fun c_26 => ?_)
      refine lv_aload_n hx hb dX9_wayOf_21 rfl (lv_at hl 0 rfl) ?_
      refine lv_ldc (v := (-1000000001)) hx hb hown (hu _ uw648) dX9_wayOf_22 ?_
      refine xc_Vi (wr := [(ys, .inl (cI, 449, .inl ms))]) hF (c_X9_finds_B l D cI cJ cZ cS ta sa sv s.heap.size h0 ys yk yo yt mk0 yfa yfe mL mS mM yro yhe ygr mF mC mY yta mz mf mt mv mw ywa ybi ysi ynu ymo mq ) kv_X9_70 ⟨rfl, rfl, Nat.le_of_ble_eq_true rfl, Nat.le_of_ble_eq_true rfl⟩ ⟨Nat.le_of_ble_eq_true rfl, Nat.le_of_ble_eq_true rfl⟩ hK hN hZ hP hD hS hA [0, 2] [1] rfl rfl rfl rfl (by decide) 0 rfl rfl rfl rfl hl.1 rfl (Nat.le_of_ble_eq_true rfl) dX9_wayOf_24 (fun r_27 u_r_27 H locs hw_r_27 hP hD hS => ?_)
      obtain ⟨mq2_28, rfl⟩ : ∃ z, z = u_r_27 := ⟨_, rfl⟩
      try dsimp only at hw_r_27
      have hP : va_P D vwCl [(ys, .inl (cI, 449, .inl ms)), (h0, .inr (9, [.ref ys, .ref yk, .ref yo, .ref yt, .int mk0, .ref yfa, .ref yfe, .int mL, .int mS, .int mM, .ref yro, .ref yhe, .ref ygr, .int mF, .int mC, .int mY, .ref yta, .int (nI (mz)), .int (nI (mf)), .int (nI (mt)), .int mv, .int mw, .ref ywa, .ref ybi, .ref ysi, .ref ynu, .ref ymo])), (yt, .inl (cI, 7, .inl mq2_28))] H := hP
      have hD : va_D A [(ys, .inl (cI, 449, .inl ms)), (h0, .inr (9, [.ref ys, .ref yk, .ref yo, .ref yt, .int mk0, .ref yfa, .ref yfe, .int mL, .int mS, .int mM, .ref yro, .ref yhe, .ref ygr, .int mF, .int mC, .int mY, .ref yta, .int (nI (mz)), .int (nI (mf)), .int (nI (mt)), .int mv, .int mw, .ref ywa, .ref ybi, .ref ysi, .ref ynu, .ref ymo])), (yt, .inl (cI, 7, .inl mq2_28))] := hD
      subst hw_r_27
      exact W.iret (v := (-1000000001)) hx hb hr (fun t ht hW => ⟨⟨(-1000000001), mq2_28, rfl, wo_no (l := fal) (u := fau) (o := fao) (fun h => h_14.elim h.2.1 h.2.2), by rw [ht]; exact hP.sub [1, 0, 2] rfl, hD.sub [1, 0, 2] (by decide) rfl⟩, hS.F ht⟩) hS.2.2 dX9_wayOf_27 hlk
  · skip
    refine lv_if_eq (tgt := 21) hx hb dX9_wayOf_6 (by decide) (fun c_29 => ?_) (fun c_29 => absurd (by decide) c_29)
    refine lv_aload_n hx hb dX9_wayOf_21 rfl (lv_at hl 0 rfl) ?_
    refine lv_ldc (v := (-1000000001)) hx hb hown (hu _ uw648) dX9_wayOf_22 ?_
    refine xc_Vi (wr := [(ys, .inl (cI, 449, .inl ms))]) hF (c_X9_finds_B l D cI cJ cZ cS ta sa sv s.heap.size h0 ys yk yo yt mk0 yfa yfe mL mS mM yro yhe ygr mF mC mY yta mz mf mt mv mw ywa ybi ysi ynu ymo mq ) kv_X9_70 ⟨rfl, rfl, Nat.le_of_ble_eq_true rfl, Nat.le_of_ble_eq_true rfl⟩ ⟨Nat.le_of_ble_eq_true rfl, Nat.le_of_ble_eq_true rfl⟩ hK hN hZ hP hD hS hA [0, 2] [1] rfl rfl rfl rfl (by decide) 0 rfl rfl rfl rfl hl.1 rfl (Nat.le_of_ble_eq_true rfl) dX9_wayOf_24 (fun r_30 u_r_30 H locs hw_r_30 hP hD hS => ?_)
    obtain ⟨mq2_31, rfl⟩ : ∃ z, z = u_r_30 := ⟨_, rfl⟩
    try dsimp only at hw_r_30
    have hP : va_P D vwCl [(ys, .inl (cI, 449, .inl ms)), (h0, .inr (9, [.ref ys, .ref yk, .ref yo, .ref yt, .int mk0, .ref yfa, .ref yfe, .int mL, .int mS, .int mM, .ref yro, .ref yhe, .ref ygr, .int mF, .int mC, .int mY, .ref yta, .int (nI (mz)), .int (nI (mf)), .int (nI (mt)), .int mv, .int mw, .ref ywa, .ref ybi, .ref ysi, .ref ynu, .ref ymo])), (yt, .inl (cI, 7, .inl mq2_31))] H := hP
    have hD : va_D A [(ys, .inl (cI, 449, .inl ms)), (h0, .inr (9, [.ref ys, .ref yk, .ref yo, .ref yt, .int mk0, .ref yfa, .ref yfe, .int mL, .int mS, .int mM, .ref yro, .ref yhe, .ref ygr, .int mF, .int mC, .int mY, .ref yta, .int (nI (mz)), .int (nI (mf)), .int (nI (mt)), .int mv, .int mw, .ref ywa, .ref ybi, .ref ysi, .ref ynu, .ref ymo])), (yt, .inl (cI, 7, .inl mq2_31))] := hD
    subst hw_r_30
    exact W.iret (v := (-1000000001)) hx hb hr (fun t ht hW => ⟨⟨(-1000000001), mq2_31, rfl, wo_no (l := fal) (u := fau) (o := fao) (fun h => h_9 h.1), by rw [ht]; exact hP.sub [1, 0, 2] rfl, hD.sub [1, 0, 2] (by decide) rfl⟩, hS.F ht⟩) hS.2.2 dX9_wayOf_27 hlk
set_option maxHeartbeats 4000000 in
set_option maxRecDepth 100000 in
theorem c_X9_shut_0 (l : Launch) (D : va_G) (cI cJ cZ cS : ClassId) (ta : Nat) (sa sv : Nat → Nat) (sz : Nat) (h0 : Nat) (ys : Nat) (yk : Nat) (yo : Nat) (yt : Nat) (mk0 : Int32) (yfa : Nat) (yfe : Nat) (mL : Int32) (mS : Int32) (mM : Int32) (yro : Nat) (yhe : Nat) (ygr : Nat) (mF : Int32) (mC : Int32) (mY : Int32) (yta : Nat) (mz : Nat) (mf : Nat) (mt : Nat) (mv : Int32) (mw : Int32) (ywa : Nat) (ybi : Nat) (ysi : Nat) (ynu : Nat) (ymo : Nat) (ms : Nat → Int32) (mq : Nat → Int32) (P : Nat) (Rn : Nat) (Wn : Nat) (fae : Nat → Int32) (fal : Nat → Int32) (fau : Nat → Int32) (fao : Nat → Int32) (farn : Nat → Int32) (farp : Nat → Int32) (fak : Nat → Int32) (fawn : Nat → Int32) (fawp : Nat → Int32) (fat : Nat → Int32) (fas : Nat → Int32) (p0 : Int32) (p1 : Int32) (hs0 : ms 0 = nI P) (hs1 : ms 1 = nI Rn) (hs2 : ms 2 = nI Wn) (hsS : SI ms) (hsM : MI ms) (hsp : P ≤ 10) (hsr : Rn ≤ 8) (hsw : Wn ≤ 8) (hsR : RI Rn ms) (hsG : FR P ms fae fal fau fao farn farp fak fawn fawp fat fas) : Met l yX9_shut (Cond.code yX9_shut cX9_shut 5 (some .int) :: wsU) ({ frames := 3, cells := 0, slots := 0, locals := 68 }) (va_Pc [.ref h0, .int p0, .int p1, .int 0] (XW D (xT cI cJ cZ cS) ta sa sv [(h0, .inr (9, [.ref ys, .ref yk, .ref yo, .ref yt, .int mk0, .ref yfa, .ref yfe, .int mL, .int mS, .int mM, .ref yro, .ref yhe, .ref ygr, .int mF, .int mC, .int mY, .ref yta, .int (nI (mz)), .int (nI (mf)), .int (nI (mt)), .int mv, .int mw, .ref ywa, .ref ybi, .ref ysi, .ref ynu, .ref ymo])), (ys, .inl (cI, 449, .inl ms)), (yt, .inl (cI, 7, .inl mq))] sz)) (XQi (fun (r : Int32) (u : (Nat → Int32) × (Nat → Int32) × (Nat → Int32)) => match u with | (ms2, mq2, go) => ((r = shR P p0 p1 0 1 fao)) ∧ (go = shF P p0 p1 1 fao) ∧ (ms2 0 = nI P) ∧ (ms2 1 = nI Rn) ∧ (ms2 2 = nI Wn) ∧ (SI ms2) ∧ (MI ms2) ∧ (P ≤ 10) ∧ (Rn ≤ 8) ∧ (Wn ≤ 8) ∧ (RI Rn ms2) ∧ (FR P ms2 fae fal fau go farn farp fak fawn fawp fat fas)) D (fun (u : (Nat → Int32) × (Nat → Int32) × (Nat → Int32)) => match u with | (ms2, mq2, go) => [(h0, .inr (9, [.ref ys, .ref yk, .ref yo, .ref yt, .int mk0, .ref yfa, .ref yfe, .int mL, .int mS, .int mM, .ref yro, .ref yhe, .ref ygr, .int mF, .int mC, .int mY, .ref yta, .int (nI (mz)), .int (nI (mf)), .int (nI (mt)), .int mv, .int mw, .ref ywa, .ref ybi, .ref ysi, .ref ynu, .ref ymo])), (ys, .inl (cI, 449, .inl ms2)), (yt, .inl (cI, 7, .inl mq2))]) (va_A [(h0, .inr (9, [.ref ys, .ref yk, .ref yo, .ref yt, .int mk0, .ref yfa, .ref yfe, .int mL, .int mS, .int mM, .ref yro, .ref yhe, .ref ygr, .int mF, .int mC, .int mY, .ref yta, .int (nI (mz)), .int (nI (mf)), .int (nI (mt)), .int mv, .int mw, .ref ywa, .ref ybi, .ref ysi, .ref ynu, .ref ymo])), (ys, .inl (cI, 449, .inl ms)), (yt, .inl (cI, 7, .inl mq))] sz)) 0 0 (va_A [(h0, .inr (9, [.ref ys, .ref yk, .ref yo, .ref yt, .int mk0, .ref yfa, .ref yfe, .int mL, .int mS, .int mM, .ref yro, .ref yhe, .ref ygr, .int mF, .int mC, .int mY, .ref yta, .int (nI (mz)), .int (nI (mf)), .int (nI (mt)), .int mv, .int mw, .ref ywa, .ref ybi, .ref ysi, .ref ynu, .ref ymo])), (ys, .inl (cI, 449, .inl ms)), (yt, .inl (cI, 7, .inl mq))] sz) := by
  refine xh (QA := fun A => XQi (fun (r : Int32) (u : (Nat → Int32) × (Nat → Int32) × (Nat → Int32)) => match u with | (ms2, mq2, go) => ((r = shR P p0 p1 0 1 fao)) ∧ (go = shF P p0 p1 1 fao) ∧ (ms2 0 = nI P) ∧ (ms2 1 = nI Rn) ∧ (ms2 2 = nI Wn) ∧ (SI ms2) ∧ (MI ms2) ∧ (P ≤ 10) ∧ (Rn ≤ 8) ∧ (Wn ≤ 8) ∧ (RI Rn ms2) ∧ (FR P ms2 fae fal fau go farn farp fak fawn fawp fat fas)) D (fun (u : (Nat → Int32) × (Nat → Int32) × (Nat → Int32)) => match u with | (ms2, mq2, go) => [(h0, .inr (9, [.ref ys, .ref yk, .ref yo, .ref yt, .int mk0, .ref yfa, .ref yfe, .int mL, .int mS, .int mM, .ref yro, .ref yhe, .ref ygr, .int mF, .int mC, .int mY, .ref yta, .int (nI (mz)), .int (nI (mf)), .int (nI (mt)), .int mv, .int mw, .ref ywa, .ref ybi, .ref ysi, .ref ynu, .ref ymo])), (ys, .inl (cI, 449, .inl ms2)), (yt, .inl (cI, 7, .inl mq2))]) A) (fr := fun A => A) (by decide) (Nat.le_of_ble_eq_true rfl) ?_
  intro p e s m below meth c ls A hF hr hlk hin hsz hP hK hD hN hZ hA hS hl
  have hF : CallFix p m c cX9_shut 5 s _ _ RX9 := hF
  have hx := hF.1
  have hb := hF.2.1
  have hml := hF.2.2.1
  have hown := hF.2.2.2.1
  have hu : ∀ w ∈ wsU, w.before _ s = true := fun w h => hF.2.2.2.2 w (List.mem_cons_of_mem _ h)
  have hl : lv_has ls 5 [(0, .ref h0), (1, .int p0), (2, .int p1), (3, .int 0)] := hl
  refine lv_aload_n hx hb dX9_shut_0 rfl (lv_at hl 0 rfl) ?_
  refine lv_iload_n hx hb dX9_shut_1 rfl (lv_at hl 1 rfl) ?_
  refine lv_iload_n hx hb dX9_shut_2 rfl (lv_at hl 2 rfl) ?_
  refine xc_Vr hF (c_X9_areTwo l D cI cJ cZ cS ta sa sv s.heap.size h0 ys yk yo yt mk0 yfa yfe mL mS mM yro yhe ygr mF mC mY yta mz mf mt mv mw ywa ybi ysi ynu ymo ms P Rn Wn fae fal fau fao farn farp fak fawn fawp fat fas p0 p1 hs0 hs1 hs2 hsS hsM hsp hsr hsw hsR hsG) kv_X9_80 ⟨rfl, rfl, Nat.le_of_ble_eq_true rfl, Nat.le_of_ble_eq_true rfl⟩ ⟨Nat.le_of_ble_eq_true rfl, Nat.le_of_ble_eq_true rfl⟩ hK hN hZ hP hD hS hA [0, 1] rfl rfl 0 rfl rfl rfl rfl hl.1 rfl (Nat.le_of_ble_eq_true rfl) dX9_shut_3 (fun r_1 hw_r_1 => ?_)
  rcases hw_r_1 with ⟨j_2, k_3, rfl, rfl, rfl, h_6, h_7, h_8⟩ | ⟨rfl, h_9⟩
  · skip
    refine lv_if_ne (tgt := 16) hx hb dX9_shut_6 (by decide) (fun c_10 => ?_) (fun c_10 => absurd c_10 (by decide))
    refine lv_aload_n hx hb dX9_shut_16 rfl (lv_at hl 0 rfl) ?_
    refine lv_iload_n hx hb dX9_shut_17 rfl (lv_at hl 1 rfl) ?_
    refine lv_iload_n hx hb dX9_shut_18 rfl (lv_at hl 2 rfl) ?_
    refine xc_Vr hF (c_X9_isWayF l D cI cJ cZ cS ta sa sv s.heap.size h0 ys yk yo yt mk0 yfa yfe mL mS mM yro yhe ygr mF mC mY yta mz mf mt mv mw ywa ybi ysi ynu ymo ms P Rn Wn fae fal fau fao farn farp fak fawn fawp fat fas j_2 k_3 (by omega) (by omega) hs0 hs1 hs2 hsS hsM hsp hsr hsw hsR hsG) kv_X9_93 ⟨rfl, rfl, Nat.le_of_ble_eq_true rfl, Nat.le_of_ble_eq_true rfl⟩ ⟨Nat.le_of_ble_eq_true rfl, Nat.le_of_ble_eq_true rfl⟩ hK hN hZ hP hD hS hA [0, 1] rfl rfl 0 rfl rfl rfl rfl hl.1 rfl (Nat.le_of_ble_eq_true rfl) dX9_shut_19 (fun r_11 hw_r_11 => ?_)
    rcases hw_r_11 with ⟨rfl, h_12⟩ | ⟨rfl, h_13⟩
    · skip
      refine lv_if_ne (tgt := 32) hx hb dX9_shut_22 (by decide) (fun c_14 => ?_) (fun c_14 => absurd c_14 (by decide))
      refine lv_aload_n hx hb dX9_shut_32 rfl (lv_at hl 0 rfl) ?_
      refine xg hF kf_X9_7 hK hP 0 rfl rfl dX9_shut_33 ?_
      refine lv_sipush (v := 213) hx hb dX9_shut_36 (by decide) ?_
      refine lv_bipush (v := 10) hx hb dX9_shut_39 (by decide) ?_
      refine lv_iload_n hx hb dX9_shut_41 rfl (lv_at hl 1 rfl) ?_
      refine lv_imul hx hb dX9_shut_42 ?_
      refine xl_i (y := nI (10 * j_2)) (pk_mul 10 j_2) ?_
      refine lv_iadd hx hb dX9_shut_43 ?_
      refine xl_i (y := nI (213 + (10 * j_2))) (nI_add 213 (10 * j_2)) ?_
      refine lv_iload_n hx hb dX9_shut_44 rfl (lv_at hl 2 rfl) ?_
      refine lv_iadd hx hb dX9_shut_45 ?_
      refine xl_i (y := nI (213 + (10 * j_2) + k_3)) (nI_add (213 + (10 * j_2)) k_3) ?_
      refine va_iald hx hb hK hP 1 0 rfl rfl (vp_in_nI (show 213 + (10 * j_2) + k_3 < 449 by omega) (by decide)) dX9_shut_46 ?_
      refine xl_i (y := ms (213 + (10 * j_2) + k_3)) (congrArg ms (nI_clamp (show 213 + (10 * j_2) + k_3 < 2 ^ 31 by omega))) ?_
      refine xl_i (y := fao (10 * j_2 + k_3)) (FR.go hsG (show 10 * j_2 + k_3 < 100 by omega) (by omega)) ?_
      refine lv_istore (lv' := [(4, .int (fao (10 * j_2 + k_3))), (0, .ref h0), (1, .int (nI (j_2))), (2, .int (nI (k_3))), (3, .int 0)]) hx hb dX9_shut_47 hl (by decide) rfl (fun ls hl => ?_)
      refine lv_aload_n hx hb dX9_shut_49 rfl (lv_at hl 1 rfl) ?_
      refine xg hF kf_X9_7 hK hP 0 rfl rfl dX9_shut_50 ?_
      refine lv_sipush (v := 213) hx hb dX9_shut_53 (by decide) ?_
      refine lv_bipush (v := 10) hx hb dX9_shut_56 (by decide) ?_
      refine lv_iload_n hx hb dX9_shut_58 rfl (lv_at hl 2 rfl) ?_
      refine lv_imul hx hb dX9_shut_59 ?_
      refine xl_i (y := nI (10 * j_2)) (pk_mul 10 j_2) ?_
      refine lv_iadd hx hb dX9_shut_60 ?_
      refine xl_i (y := nI (213 + (10 * j_2))) (nI_add 213 (10 * j_2)) ?_
      refine lv_iload_n hx hb dX9_shut_61 rfl (lv_at hl 3 rfl) ?_
      refine lv_iadd hx hb dX9_shut_62 ?_
      refine xl_i (y := nI (213 + (10 * j_2) + k_3)) (nI_add (213 + (10 * j_2)) k_3) ?_
      refine lv_iload_n hx hb dX9_shut_63 rfl (lv_at hl 4 rfl) ?_
      refine lv_if_eq (tgt := 71) hx hb dX9_shut_64 (by decide) (fun c_15 => ?_) (fun c_15 => absurd (by decide) c_15)
      refine lv_iconst (v := 1) hx hb dX9_shut_71 (by decide) ?_
      refine va_iast hx hb hK hP hD hS 1 0 rfl rfl (vp_in_nI (show 213 + (10 * j_2) + k_3 < 449 by omega) (by decide)) dX9_shut_72 (fun H locs hP hD hS => ?_)
      rw [nI_clamp (show 213 + (10 * j_2) + k_3 < 2 ^ 31 by omega)] at hP hD
      obtain ⟨f_16, ef_16⟩ : ∃ g, g = upd ms (213 + (10 * j_2) + k_3) 1 := ⟨_, rfl⟩
      rw [← ef_16] at hP hD
      have k0_f_16 : f_16 0 = nI P := by rw [ef_16]; exact (pk_un (show 0 ≠ (213 + (10 * j_2) + k_3) by omega)).trans hs0
      have k1_f_16 : f_16 1 = nI Rn := by rw [ef_16]; exact (pk_un (show 1 ≠ (213 + (10 * j_2) + k_3) by omega)).trans hs1
      have k2_f_16 : f_16 2 = nI Wn := by rw [ef_16]; exact (pk_un (show 2 ≠ (213 + (10 * j_2) + k_3) by omega)).trans hs2
      have kS_f_16 : SI f_16 := by rw [ef_16]; exact SI.upd hsS (okS.low (show (213 + (10 * j_2) + k_3) < 313 by omega))
      have kM_f_16 : MI f_16 := by rw [ef_16]; exact MI.upd hsM (okM.out (show (213 + (10 * j_2) + k_3) < 13 ∨ 113 ≤ (213 + (10 * j_2) + k_3) by omega))
      have kR_f_16 : RI Rn f_16 := by rw [ef_16]; exact RI.upd hsR (fun r9 hr9 e9 => by omega)
      have kG_f_16 : FR P f_16 fae fal fau (upd fao (10 * j_2 + k_3) 1) farn farp fak fawn fawp fat fas := by rw [ef_16]; exact FR.po hsG (show 10 * j_2 + k_3 < 100 by omega) (by decide) (by omega)
      have hP : va_P D vwCl [(h0, .inr (9, [.ref ys, .ref yk, .ref yo, .ref yt, .int mk0, .ref yfa, .ref yfe, .int mL, .int mS, .int mM, .ref yro, .ref yhe, .ref ygr, .int mF, .int mC, .int mY, .ref yta, .int (nI (mz)), .int (nI (mf)), .int (nI (mt)), .int mv, .int mw, .ref ywa, .ref ybi, .ref ysi, .ref ynu, .ref ymo])), (ys, .inl (cI, 449, .inl f_16)), (yt, .inl (cI, 7, .inl mq))] H := hP
      have hD : va_D A [(h0, .inr (9, [.ref ys, .ref yk, .ref yo, .ref yt, .int mk0, .ref yfa, .ref yfe, .int mL, .int mS, .int mM, .ref yro, .ref yhe, .ref ygr, .int mF, .int mC, .int mY, .ref yta, .int (nI (mz)), .int (nI (mf)), .int (nI (mt)), .int mv, .int mw, .ref ywa, .ref ybi, .ref ysi, .ref ynu, .ref ymo])), (ys, .inl (cI, 449, .inl f_16)), (yt, .inl (cI, 7, .inl mq))] := hD
      refine lv_iload hx hb dX9_shut_73 (lv_at hl 0 rfl) ?_
      refine lv_aload_n hx hb dX9_shut_75 rfl (lv_at hl 1 rfl) ?_
      refine xg hF kf_X9_7 hK hP 0 rfl rfl dX9_shut_76 ?_
      refine lv_sipush (v := 213) hx hb dX9_shut_79 (by decide) ?_
      refine lv_bipush (v := 10) hx hb dX9_shut_82 (by decide) ?_
      refine lv_iload_n hx hb dX9_shut_84 rfl (lv_at hl 2 rfl) ?_
      refine lv_imul hx hb dX9_shut_85 ?_
      refine xl_i (y := nI (10 * j_2)) (pk_mul 10 j_2) ?_
      refine lv_iadd hx hb dX9_shut_86 ?_
      refine xl_i (y := nI (213 + (10 * j_2))) (nI_add 213 (10 * j_2)) ?_
      refine lv_iload_n hx hb dX9_shut_87 rfl (lv_at hl 3 rfl) ?_
      refine lv_iadd hx hb dX9_shut_88 ?_
      refine xl_i (y := nI (213 + (10 * j_2) + k_3)) (nI_add (213 + (10 * j_2)) k_3) ?_
      refine va_iald hx hb hK hP 1 0 rfl rfl (vp_in_nI (show 213 + (10 * j_2) + k_3 < 449 by omega) (by decide)) dX9_shut_89 ?_
      refine xl_i (y := f_16 (213 + (10 * j_2) + k_3)) (congrArg f_16 (nI_clamp (show 213 + (10 * j_2) + k_3 < 2 ^ 31 by omega))) ?_
      refine xl_i (y := 1) (by rw [ef_16]; exact pk_us) ?_
      refine lv_icmp_ne (tgt := 97) hx hb dX9_shut_90 (by decide) (fun c_17 => ?_) (fun c_17 => ?_)
      · skip
        refine lv_iconst (v := 1) hx hb dX9_shut_97 (by decide) ?_
        exact W.iret (v := 1) hx hb hr (fun t ht hW => ⟨⟨1, (f_16, mq, upd fao (10 * j_2 + k_3) 1), rfl, ⟨((sh_y (P := P) (o := fao) (c1 := 0) (c0 := 1) (j := j_2) (k := k_3) (by omega) (by omega) (by omega) (by omega) h_12).2.1 c_17), ((sh_y (P := P) (o := fao) (c1 := 0) (c0 := 1) (j := j_2) (k := k_3) (by omega) (by omega) (by omega) (by omega) h_12).2.2 _), k0_f_16, k1_f_16, k2_f_16, kS_f_16, kM_f_16, hsp, hsr, hsw, kR_f_16, kG_f_16⟩, by rw [ht]; exact hP.sub [0, 1, 2] rfl, hD.sub [0, 1, 2] (by decide) rfl⟩, hS.F ht⟩) hS.2.2 dX9_shut_98 hlk
      · skip
        refine lv_iconst (v := 0) hx hb dX9_shut_93 (by decide) ?_
        refine lv_goto (tgt := 98) hx hb dX9_shut_94 (by decide) ?_
        exact W.iret (v := 0) hx hb hr (fun t ht hW => ⟨⟨0, (f_16, mq, upd fao (10 * j_2 + k_3) 1), rfl, ⟨((sh_y (P := P) (o := fao) (c1 := 0) (c0 := 1) (j := j_2) (k := k_3) (by omega) (by omega) (by omega) (by omega) h_12).1 c_17), ((sh_y (P := P) (o := fao) (c1 := 0) (c0 := 1) (j := j_2) (k := k_3) (by omega) (by omega) (by omega) (by omega) h_12).2.2 _), k0_f_16, k1_f_16, k2_f_16, kS_f_16, kM_f_16, hsp, hsr, hsw, kR_f_16, kG_f_16⟩, by rw [ht]; exact hP.sub [0, 1, 2] rfl, hD.sub [0, 1, 2] (by decide) rfl⟩, hS.F ht⟩) hS.2.2 dX9_shut_98 hlk
    · skip
      refine lv_if_ne (tgt := 32) hx hb dX9_shut_22 (by decide) (fun c_18 => absurd (by decide) c_18) (fun c_18 => ?_)
      refine lv_aload_n hx hb dX9_shut_25 rfl (lv_at hl 0 rfl) ?_
      refine lv_ldc (v := (-1000000004)) hx hb hown (hu _ uw699) dX9_shut_26 ?_
      refine xc_Vi (wr := [(ys, .inl (cI, 449, .inl ms))]) hF (c_X9_finds_N l D cI cJ cZ cS ta sa sv s.heap.size h0 ys yk yo yt mk0 yfa yfe mL mS mM yro yhe ygr mF mC mY yta mz mf mt mv mw ywa ybi ysi ynu ymo mq ) kv_X9_70 ⟨rfl, rfl, Nat.le_of_ble_eq_true rfl, Nat.le_of_ble_eq_true rfl⟩ ⟨Nat.le_of_ble_eq_true rfl, Nat.le_of_ble_eq_true rfl⟩ hK hN hZ hP hD hS hA [0, 2] [1] rfl rfl rfl rfl (by decide) 0 rfl rfl rfl rfl hl.1 rfl (Nat.le_of_ble_eq_true rfl) dX9_shut_28 (fun r_19 u_r_19 H locs hw_r_19 hP hD hS => ?_)
      obtain ⟨mq2_20, rfl⟩ : ∃ z, z = u_r_19 := ⟨_, rfl⟩
      try dsimp only at hw_r_19
      have hP : va_P D vwCl [(ys, .inl (cI, 449, .inl ms)), (h0, .inr (9, [.ref ys, .ref yk, .ref yo, .ref yt, .int mk0, .ref yfa, .ref yfe, .int mL, .int mS, .int mM, .ref yro, .ref yhe, .ref ygr, .int mF, .int mC, .int mY, .ref yta, .int (nI (mz)), .int (nI (mf)), .int (nI (mt)), .int mv, .int mw, .ref ywa, .ref ybi, .ref ysi, .ref ynu, .ref ymo])), (yt, .inl (cI, 7, .inl mq2_20))] H := hP
      have hD : va_D A [(ys, .inl (cI, 449, .inl ms)), (h0, .inr (9, [.ref ys, .ref yk, .ref yo, .ref yt, .int mk0, .ref yfa, .ref yfe, .int mL, .int mS, .int mM, .ref yro, .ref yhe, .ref ygr, .int mF, .int mC, .int mY, .ref yta, .int (nI (mz)), .int (nI (mf)), .int (nI (mt)), .int mv, .int mw, .ref ywa, .ref ybi, .ref ysi, .ref ynu, .ref ymo])), (yt, .inl (cI, 7, .inl mq2_20))] := hD
      subst hw_r_19
      exact W.iret (v := (-1000000004)) hx hb hr (fun t ht hW => ⟨⟨(-1000000004), (ms, mq2_20, fao), rfl, ⟨(sh_n (P := P) (o := fao) (c1 := 0) (c0 := 1) (j := j_2) (k := k_3) (by omega) (by omega) (by omega) (by omega) h_13).1, ((sh_n (P := P) (o := fao) (c1 := 0) (c0 := 1) (j := j_2) (k := k_3) (by omega) (by omega) (by omega) (by omega) h_13).2 _), hs0, hs1, hs2, hsS, hsM, hsp, hsr, hsw, hsR, hsG⟩, by rw [ht]; exact hP.sub [1, 0, 2] rfl, hD.sub [1, 0, 2] (by decide) rfl⟩, hS.F ht⟩) hS.2.2 dX9_shut_31 hlk
  · skip
    refine lv_if_ne (tgt := 16) hx hb dX9_shut_6 (by decide) (fun c_21 => absurd (by decide) c_21) (fun c_21 => ?_)
    refine lv_aload_n hx hb dX9_shut_9 rfl (lv_at hl 0 rfl) ?_
    refine lv_ldc (v := (-1000000001)) hx hb hown (hu _ uw648) dX9_shut_10 ?_
    refine xc_Vi (wr := [(ys, .inl (cI, 449, .inl ms))]) hF (c_X9_finds_B l D cI cJ cZ cS ta sa sv s.heap.size h0 ys yk yo yt mk0 yfa yfe mL mS mM yro yhe ygr mF mC mY yta mz mf mt mv mw ywa ybi ysi ynu ymo mq ) kv_X9_70 ⟨rfl, rfl, Nat.le_of_ble_eq_true rfl, Nat.le_of_ble_eq_true rfl⟩ ⟨Nat.le_of_ble_eq_true rfl, Nat.le_of_ble_eq_true rfl⟩ hK hN hZ hP hD hS hA [0, 2] [1] rfl rfl rfl rfl (by decide) 0 rfl rfl rfl rfl hl.1 rfl (Nat.le_of_ble_eq_true rfl) dX9_shut_12 (fun r_22 u_r_22 H locs hw_r_22 hP hD hS => ?_)
    obtain ⟨mq2_23, rfl⟩ : ∃ z, z = u_r_22 := ⟨_, rfl⟩
    try dsimp only at hw_r_22
    have hP : va_P D vwCl [(ys, .inl (cI, 449, .inl ms)), (h0, .inr (9, [.ref ys, .ref yk, .ref yo, .ref yt, .int mk0, .ref yfa, .ref yfe, .int mL, .int mS, .int mM, .ref yro, .ref yhe, .ref ygr, .int mF, .int mC, .int mY, .ref yta, .int (nI (mz)), .int (nI (mf)), .int (nI (mt)), .int mv, .int mw, .ref ywa, .ref ybi, .ref ysi, .ref ynu, .ref ymo])), (yt, .inl (cI, 7, .inl mq2_23))] H := hP
    have hD : va_D A [(ys, .inl (cI, 449, .inl ms)), (h0, .inr (9, [.ref ys, .ref yk, .ref yo, .ref yt, .int mk0, .ref yfa, .ref yfe, .int mL, .int mS, .int mM, .ref yro, .ref yhe, .ref ygr, .int mF, .int mC, .int mY, .ref yta, .int (nI (mz)), .int (nI (mf)), .int (nI (mt)), .int mv, .int mw, .ref ywa, .ref ybi, .ref ysi, .ref ynu, .ref ymo])), (yt, .inl (cI, 7, .inl mq2_23))] := hD
    subst hw_r_22
    exact W.iret (v := (-1000000001)) hx hb hr (fun t ht hW => ⟨⟨(-1000000001), (ms, mq2_23, fao), rfl, ⟨(sh_b (P := P) (o := fao) (c1 := 0) (c0 := 1) h_9).1, ((sh_b (P := P) (o := fao) (c1 := 0) (c0 := 1) h_9).2 _), hs0, hs1, hs2, hsS, hsM, hsp, hsr, hsw, hsR, hsG⟩, by rw [ht]; exact hP.sub [1, 0, 2] rfl, hD.sub [1, 0, 2] (by decide) rfl⟩, hS.F ht⟩) hS.2.2 dX9_shut_15 hlk
set_option maxHeartbeats 4000000 in
set_option maxRecDepth 100000 in
theorem c_X9_shut_1 (l : Launch) (D : va_G) (cI cJ cZ cS : ClassId) (ta : Nat) (sa sv : Nat → Nat) (sz : Nat) (h0 : Nat) (ys : Nat) (yk : Nat) (yo : Nat) (yt : Nat) (mk0 : Int32) (yfa : Nat) (yfe : Nat) (mL : Int32) (mS : Int32) (mM : Int32) (yro : Nat) (yhe : Nat) (ygr : Nat) (mF : Int32) (mC : Int32) (mY : Int32) (yta : Nat) (mz : Nat) (mf : Nat) (mt : Nat) (mv : Int32) (mw : Int32) (ywa : Nat) (ybi : Nat) (ysi : Nat) (ynu : Nat) (ymo : Nat) (ms : Nat → Int32) (mq : Nat → Int32) (P : Nat) (Rn : Nat) (Wn : Nat) (fae : Nat → Int32) (fal : Nat → Int32) (fau : Nat → Int32) (fao : Nat → Int32) (farn : Nat → Int32) (farp : Nat → Int32) (fak : Nat → Int32) (fawn : Nat → Int32) (fawp : Nat → Int32) (fat : Nat → Int32) (fas : Nat → Int32) (p0 : Int32) (p1 : Int32) (hs0 : ms 0 = nI P) (hs1 : ms 1 = nI Rn) (hs2 : ms 2 = nI Wn) (hsS : SI ms) (hsM : MI ms) (hsp : P ≤ 10) (hsr : Rn ≤ 8) (hsw : Wn ≤ 8) (hsR : RI Rn ms) (hsG : FR P ms fae fal fau fao farn farp fak fawn fawp fat fas) : Met l yX9_shut (Cond.code yX9_shut cX9_shut 5 (some .int) :: wsU) ({ frames := 3, cells := 0, slots := 0, locals := 68 }) (va_Pc [.ref h0, .int p0, .int p1, .int 1] (XW D (xT cI cJ cZ cS) ta sa sv [(h0, .inr (9, [.ref ys, .ref yk, .ref yo, .ref yt, .int mk0, .ref yfa, .ref yfe, .int mL, .int mS, .int mM, .ref yro, .ref yhe, .ref ygr, .int mF, .int mC, .int mY, .ref yta, .int (nI (mz)), .int (nI (mf)), .int (nI (mt)), .int mv, .int mw, .ref ywa, .ref ybi, .ref ysi, .ref ynu, .ref ymo])), (ys, .inl (cI, 449, .inl ms)), (yt, .inl (cI, 7, .inl mq))] sz)) (XQi (fun (r : Int32) (u : (Nat → Int32) × (Nat → Int32) × (Nat → Int32)) => match u with | (ms2, mq2, go) => ((r = shR P p0 p1 1 0 fao)) ∧ (go = shF P p0 p1 2 fao) ∧ (ms2 0 = nI P) ∧ (ms2 1 = nI Rn) ∧ (ms2 2 = nI Wn) ∧ (SI ms2) ∧ (MI ms2) ∧ (P ≤ 10) ∧ (Rn ≤ 8) ∧ (Wn ≤ 8) ∧ (RI Rn ms2) ∧ (FR P ms2 fae fal fau go farn farp fak fawn fawp fat fas)) D (fun (u : (Nat → Int32) × (Nat → Int32) × (Nat → Int32)) => match u with | (ms2, mq2, go) => [(h0, .inr (9, [.ref ys, .ref yk, .ref yo, .ref yt, .int mk0, .ref yfa, .ref yfe, .int mL, .int mS, .int mM, .ref yro, .ref yhe, .ref ygr, .int mF, .int mC, .int mY, .ref yta, .int (nI (mz)), .int (nI (mf)), .int (nI (mt)), .int mv, .int mw, .ref ywa, .ref ybi, .ref ysi, .ref ynu, .ref ymo])), (ys, .inl (cI, 449, .inl ms2)), (yt, .inl (cI, 7, .inl mq2))]) (va_A [(h0, .inr (9, [.ref ys, .ref yk, .ref yo, .ref yt, .int mk0, .ref yfa, .ref yfe, .int mL, .int mS, .int mM, .ref yro, .ref yhe, .ref ygr, .int mF, .int mC, .int mY, .ref yta, .int (nI (mz)), .int (nI (mf)), .int (nI (mt)), .int mv, .int mw, .ref ywa, .ref ybi, .ref ysi, .ref ynu, .ref ymo])), (ys, .inl (cI, 449, .inl ms)), (yt, .inl (cI, 7, .inl mq))] sz)) 0 0 (va_A [(h0, .inr (9, [.ref ys, .ref yk, .ref yo, .ref yt, .int mk0, .ref yfa, .ref yfe, .int mL, .int mS, .int mM, .ref yro, .ref yhe, .ref ygr, .int mF, .int mC, .int mY, .ref yta, .int (nI (mz)), .int (nI (mf)), .int (nI (mt)), .int mv, .int mw, .ref ywa, .ref ybi, .ref ysi, .ref ynu, .ref ymo])), (ys, .inl (cI, 449, .inl ms)), (yt, .inl (cI, 7, .inl mq))] sz) := by
  refine xh (QA := fun A => XQi (fun (r : Int32) (u : (Nat → Int32) × (Nat → Int32) × (Nat → Int32)) => match u with | (ms2, mq2, go) => ((r = shR P p0 p1 1 0 fao)) ∧ (go = shF P p0 p1 2 fao) ∧ (ms2 0 = nI P) ∧ (ms2 1 = nI Rn) ∧ (ms2 2 = nI Wn) ∧ (SI ms2) ∧ (MI ms2) ∧ (P ≤ 10) ∧ (Rn ≤ 8) ∧ (Wn ≤ 8) ∧ (RI Rn ms2) ∧ (FR P ms2 fae fal fau go farn farp fak fawn fawp fat fas)) D (fun (u : (Nat → Int32) × (Nat → Int32) × (Nat → Int32)) => match u with | (ms2, mq2, go) => [(h0, .inr (9, [.ref ys, .ref yk, .ref yo, .ref yt, .int mk0, .ref yfa, .ref yfe, .int mL, .int mS, .int mM, .ref yro, .ref yhe, .ref ygr, .int mF, .int mC, .int mY, .ref yta, .int (nI (mz)), .int (nI (mf)), .int (nI (mt)), .int mv, .int mw, .ref ywa, .ref ybi, .ref ysi, .ref ynu, .ref ymo])), (ys, .inl (cI, 449, .inl ms2)), (yt, .inl (cI, 7, .inl mq2))]) A) (fr := fun A => A) (by decide) (Nat.le_of_ble_eq_true rfl) ?_
  intro p e s m below meth c ls A hF hr hlk hin hsz hP hK hD hN hZ hA hS hl
  have hF : CallFix p m c cX9_shut 5 s _ _ RX9 := hF
  have hx := hF.1
  have hb := hF.2.1
  have hml := hF.2.2.1
  have hown := hF.2.2.2.1
  have hu : ∀ w ∈ wsU, w.before _ s = true := fun w h => hF.2.2.2.2 w (List.mem_cons_of_mem _ h)
  have hl : lv_has ls 5 [(0, .ref h0), (1, .int p0), (2, .int p1), (3, .int 1)] := hl
  refine lv_aload_n hx hb dX9_shut_0 rfl (lv_at hl 0 rfl) ?_
  refine lv_iload_n hx hb dX9_shut_1 rfl (lv_at hl 1 rfl) ?_
  refine lv_iload_n hx hb dX9_shut_2 rfl (lv_at hl 2 rfl) ?_
  refine xc_Vr hF (c_X9_areTwo l D cI cJ cZ cS ta sa sv s.heap.size h0 ys yk yo yt mk0 yfa yfe mL mS mM yro yhe ygr mF mC mY yta mz mf mt mv mw ywa ybi ysi ynu ymo ms P Rn Wn fae fal fau fao farn farp fak fawn fawp fat fas p0 p1 hs0 hs1 hs2 hsS hsM hsp hsr hsw hsR hsG) kv_X9_80 ⟨rfl, rfl, Nat.le_of_ble_eq_true rfl, Nat.le_of_ble_eq_true rfl⟩ ⟨Nat.le_of_ble_eq_true rfl, Nat.le_of_ble_eq_true rfl⟩ hK hN hZ hP hD hS hA [0, 1] rfl rfl 0 rfl rfl rfl rfl hl.1 rfl (Nat.le_of_ble_eq_true rfl) dX9_shut_3 (fun r_1 hw_r_1 => ?_)
  rcases hw_r_1 with ⟨j_2, k_3, rfl, rfl, rfl, h_6, h_7, h_8⟩ | ⟨rfl, h_9⟩
  · skip
    refine lv_if_ne (tgt := 16) hx hb dX9_shut_6 (by decide) (fun c_10 => ?_) (fun c_10 => absurd c_10 (by decide))
    refine lv_aload_n hx hb dX9_shut_16 rfl (lv_at hl 0 rfl) ?_
    refine lv_iload_n hx hb dX9_shut_17 rfl (lv_at hl 1 rfl) ?_
    refine lv_iload_n hx hb dX9_shut_18 rfl (lv_at hl 2 rfl) ?_
    refine xc_Vr hF (c_X9_isWayF l D cI cJ cZ cS ta sa sv s.heap.size h0 ys yk yo yt mk0 yfa yfe mL mS mM yro yhe ygr mF mC mY yta mz mf mt mv mw ywa ybi ysi ynu ymo ms P Rn Wn fae fal fau fao farn farp fak fawn fawp fat fas j_2 k_3 (by omega) (by omega) hs0 hs1 hs2 hsS hsM hsp hsr hsw hsR hsG) kv_X9_93 ⟨rfl, rfl, Nat.le_of_ble_eq_true rfl, Nat.le_of_ble_eq_true rfl⟩ ⟨Nat.le_of_ble_eq_true rfl, Nat.le_of_ble_eq_true rfl⟩ hK hN hZ hP hD hS hA [0, 1] rfl rfl 0 rfl rfl rfl rfl hl.1 rfl (Nat.le_of_ble_eq_true rfl) dX9_shut_19 (fun r_11 hw_r_11 => ?_)
    rcases hw_r_11 with ⟨rfl, h_12⟩ | ⟨rfl, h_13⟩
    · skip
      refine lv_if_ne (tgt := 32) hx hb dX9_shut_22 (by decide) (fun c_14 => ?_) (fun c_14 => absurd c_14 (by decide))
      refine lv_aload_n hx hb dX9_shut_32 rfl (lv_at hl 0 rfl) ?_
      refine xg hF kf_X9_7 hK hP 0 rfl rfl dX9_shut_33 ?_
      refine lv_sipush (v := 213) hx hb dX9_shut_36 (by decide) ?_
      refine lv_bipush (v := 10) hx hb dX9_shut_39 (by decide) ?_
      refine lv_iload_n hx hb dX9_shut_41 rfl (lv_at hl 1 rfl) ?_
      refine lv_imul hx hb dX9_shut_42 ?_
      refine xl_i (y := nI (10 * j_2)) (pk_mul 10 j_2) ?_
      refine lv_iadd hx hb dX9_shut_43 ?_
      refine xl_i (y := nI (213 + (10 * j_2))) (nI_add 213 (10 * j_2)) ?_
      refine lv_iload_n hx hb dX9_shut_44 rfl (lv_at hl 2 rfl) ?_
      refine lv_iadd hx hb dX9_shut_45 ?_
      refine xl_i (y := nI (213 + (10 * j_2) + k_3)) (nI_add (213 + (10 * j_2)) k_3) ?_
      refine va_iald hx hb hK hP 1 0 rfl rfl (vp_in_nI (show 213 + (10 * j_2) + k_3 < 449 by omega) (by decide)) dX9_shut_46 ?_
      refine xl_i (y := ms (213 + (10 * j_2) + k_3)) (congrArg ms (nI_clamp (show 213 + (10 * j_2) + k_3 < 2 ^ 31 by omega))) ?_
      refine xl_i (y := fao (10 * j_2 + k_3)) (FR.go hsG (show 10 * j_2 + k_3 < 100 by omega) (by omega)) ?_
      refine lv_istore (lv' := [(4, .int (fao (10 * j_2 + k_3))), (0, .ref h0), (1, .int (nI (j_2))), (2, .int (nI (k_3))), (3, .int 1)]) hx hb dX9_shut_47 hl (by decide) rfl (fun ls hl => ?_)
      refine lv_aload_n hx hb dX9_shut_49 rfl (lv_at hl 1 rfl) ?_
      refine xg hF kf_X9_7 hK hP 0 rfl rfl dX9_shut_50 ?_
      refine lv_sipush (v := 213) hx hb dX9_shut_53 (by decide) ?_
      refine lv_bipush (v := 10) hx hb dX9_shut_56 (by decide) ?_
      refine lv_iload_n hx hb dX9_shut_58 rfl (lv_at hl 2 rfl) ?_
      refine lv_imul hx hb dX9_shut_59 ?_
      refine xl_i (y := nI (10 * j_2)) (pk_mul 10 j_2) ?_
      refine lv_iadd hx hb dX9_shut_60 ?_
      refine xl_i (y := nI (213 + (10 * j_2))) (nI_add 213 (10 * j_2)) ?_
      refine lv_iload_n hx hb dX9_shut_61 rfl (lv_at hl 3 rfl) ?_
      refine lv_iadd hx hb dX9_shut_62 ?_
      refine xl_i (y := nI (213 + (10 * j_2) + k_3)) (nI_add (213 + (10 * j_2)) k_3) ?_
      refine lv_iload_n hx hb dX9_shut_63 rfl (lv_at hl 4 rfl) ?_
      refine lv_if_eq (tgt := 71) hx hb dX9_shut_64 (by decide) (fun c_15 => absurd c_15 (by decide)) (fun c_15 => ?_)
      refine lv_iconst (v := 2) hx hb dX9_shut_67 (by decide) ?_
      refine lv_goto (tgt := 72) hx hb dX9_shut_68 (by decide) ?_
      refine va_iast hx hb hK hP hD hS 1 0 rfl rfl (vp_in_nI (show 213 + (10 * j_2) + k_3 < 449 by omega) (by decide)) dX9_shut_72 (fun H locs hP hD hS => ?_)
      rw [nI_clamp (show 213 + (10 * j_2) + k_3 < 2 ^ 31 by omega)] at hP hD
      obtain ⟨f_16, ef_16⟩ : ∃ g, g = upd ms (213 + (10 * j_2) + k_3) 2 := ⟨_, rfl⟩
      rw [← ef_16] at hP hD
      have k0_f_16 : f_16 0 = nI P := by rw [ef_16]; exact (pk_un (show 0 ≠ (213 + (10 * j_2) + k_3) by omega)).trans hs0
      have k1_f_16 : f_16 1 = nI Rn := by rw [ef_16]; exact (pk_un (show 1 ≠ (213 + (10 * j_2) + k_3) by omega)).trans hs1
      have k2_f_16 : f_16 2 = nI Wn := by rw [ef_16]; exact (pk_un (show 2 ≠ (213 + (10 * j_2) + k_3) by omega)).trans hs2
      have kS_f_16 : SI f_16 := by rw [ef_16]; exact SI.upd hsS (okS.low (show (213 + (10 * j_2) + k_3) < 313 by omega))
      have kM_f_16 : MI f_16 := by rw [ef_16]; exact MI.upd hsM (okM.out (show (213 + (10 * j_2) + k_3) < 13 ∨ 113 ≤ (213 + (10 * j_2) + k_3) by omega))
      have kR_f_16 : RI Rn f_16 := by rw [ef_16]; exact RI.upd hsR (fun r9 hr9 e9 => by omega)
      have kG_f_16 : FR P f_16 fae fal fau (upd fao (10 * j_2 + k_3) 2) farn farp fak fawn fawp fat fas := by rw [ef_16]; exact FR.po hsG (show 10 * j_2 + k_3 < 100 by omega) (by decide) (by omega)
      have hP : va_P D vwCl [(h0, .inr (9, [.ref ys, .ref yk, .ref yo, .ref yt, .int mk0, .ref yfa, .ref yfe, .int mL, .int mS, .int mM, .ref yro, .ref yhe, .ref ygr, .int mF, .int mC, .int mY, .ref yta, .int (nI (mz)), .int (nI (mf)), .int (nI (mt)), .int mv, .int mw, .ref ywa, .ref ybi, .ref ysi, .ref ynu, .ref ymo])), (ys, .inl (cI, 449, .inl f_16)), (yt, .inl (cI, 7, .inl mq))] H := hP
      have hD : va_D A [(h0, .inr (9, [.ref ys, .ref yk, .ref yo, .ref yt, .int mk0, .ref yfa, .ref yfe, .int mL, .int mS, .int mM, .ref yro, .ref yhe, .ref ygr, .int mF, .int mC, .int mY, .ref yta, .int (nI (mz)), .int (nI (mf)), .int (nI (mt)), .int mv, .int mw, .ref ywa, .ref ybi, .ref ysi, .ref ynu, .ref ymo])), (ys, .inl (cI, 449, .inl f_16)), (yt, .inl (cI, 7, .inl mq))] := hD
      refine lv_iload hx hb dX9_shut_73 (lv_at hl 0 rfl) ?_
      refine lv_aload_n hx hb dX9_shut_75 rfl (lv_at hl 1 rfl) ?_
      refine xg hF kf_X9_7 hK hP 0 rfl rfl dX9_shut_76 ?_
      refine lv_sipush (v := 213) hx hb dX9_shut_79 (by decide) ?_
      refine lv_bipush (v := 10) hx hb dX9_shut_82 (by decide) ?_
      refine lv_iload_n hx hb dX9_shut_84 rfl (lv_at hl 2 rfl) ?_
      refine lv_imul hx hb dX9_shut_85 ?_
      refine xl_i (y := nI (10 * j_2)) (pk_mul 10 j_2) ?_
      refine lv_iadd hx hb dX9_shut_86 ?_
      refine xl_i (y := nI (213 + (10 * j_2))) (nI_add 213 (10 * j_2)) ?_
      refine lv_iload_n hx hb dX9_shut_87 rfl (lv_at hl 3 rfl) ?_
      refine lv_iadd hx hb dX9_shut_88 ?_
      refine xl_i (y := nI (213 + (10 * j_2) + k_3)) (nI_add (213 + (10 * j_2)) k_3) ?_
      refine va_iald hx hb hK hP 1 0 rfl rfl (vp_in_nI (show 213 + (10 * j_2) + k_3 < 449 by omega) (by decide)) dX9_shut_89 ?_
      refine xl_i (y := f_16 (213 + (10 * j_2) + k_3)) (congrArg f_16 (nI_clamp (show 213 + (10 * j_2) + k_3 < 2 ^ 31 by omega))) ?_
      refine xl_i (y := 2) (by rw [ef_16]; exact pk_us) ?_
      refine lv_icmp_ne (tgt := 97) hx hb dX9_shut_90 (by decide) (fun c_17 => ?_) (fun c_17 => ?_)
      · skip
        refine lv_iconst (v := 1) hx hb dX9_shut_97 (by decide) ?_
        exact W.iret (v := 1) hx hb hr (fun t ht hW => ⟨⟨1, (f_16, mq, upd fao (10 * j_2 + k_3) 2), rfl, ⟨((sh_y (P := P) (o := fao) (c1 := 1) (c0 := 0) (j := j_2) (k := k_3) (by omega) (by omega) (by omega) (by omega) h_12).1 (x_o1 (hsG.di (by omega)) h_12 c_17)), ((sh_y (P := P) (o := fao) (c1 := 1) (c0 := 0) (j := j_2) (k := k_3) (by omega) (by omega) (by omega) (by omega) h_12).2.2 _), k0_f_16, k1_f_16, k2_f_16, kS_f_16, kM_f_16, hsp, hsr, hsw, kR_f_16, kG_f_16⟩, by rw [ht]; exact hP.sub [0, 1, 2] rfl, hD.sub [0, 1, 2] (by decide) rfl⟩, hS.F ht⟩) hS.2.2 dX9_shut_98 hlk
      · skip
        refine lv_iconst (v := 0) hx hb dX9_shut_93 (by decide) ?_
        refine lv_goto (tgt := 98) hx hb dX9_shut_94 (by decide) ?_
        exact W.iret (v := 0) hx hb hr (fun t ht hW => ⟨⟨0, (f_16, mq, upd fao (10 * j_2 + k_3) 2), rfl, ⟨((sh_y (P := P) (o := fao) (c1 := 1) (c0 := 0) (j := j_2) (k := k_3) (by omega) (by omega) (by omega) (by omega) h_12).2.1 (fun h => absurd (h.symm.trans c_17) (by decide))), ((sh_y (P := P) (o := fao) (c1 := 1) (c0 := 0) (j := j_2) (k := k_3) (by omega) (by omega) (by omega) (by omega) h_12).2.2 _), k0_f_16, k1_f_16, k2_f_16, kS_f_16, kM_f_16, hsp, hsr, hsw, kR_f_16, kG_f_16⟩, by rw [ht]; exact hP.sub [0, 1, 2] rfl, hD.sub [0, 1, 2] (by decide) rfl⟩, hS.F ht⟩) hS.2.2 dX9_shut_98 hlk
    · skip
      refine lv_if_ne (tgt := 32) hx hb dX9_shut_22 (by decide) (fun c_18 => absurd (by decide) c_18) (fun c_18 => ?_)
      refine lv_aload_n hx hb dX9_shut_25 rfl (lv_at hl 0 rfl) ?_
      refine lv_ldc (v := (-1000000004)) hx hb hown (hu _ uw699) dX9_shut_26 ?_
      refine xc_Vi (wr := [(ys, .inl (cI, 449, .inl ms))]) hF (c_X9_finds_N l D cI cJ cZ cS ta sa sv s.heap.size h0 ys yk yo yt mk0 yfa yfe mL mS mM yro yhe ygr mF mC mY yta mz mf mt mv mw ywa ybi ysi ynu ymo mq ) kv_X9_70 ⟨rfl, rfl, Nat.le_of_ble_eq_true rfl, Nat.le_of_ble_eq_true rfl⟩ ⟨Nat.le_of_ble_eq_true rfl, Nat.le_of_ble_eq_true rfl⟩ hK hN hZ hP hD hS hA [0, 2] [1] rfl rfl rfl rfl (by decide) 0 rfl rfl rfl rfl hl.1 rfl (Nat.le_of_ble_eq_true rfl) dX9_shut_28 (fun r_19 u_r_19 H locs hw_r_19 hP hD hS => ?_)
      obtain ⟨mq2_20, rfl⟩ : ∃ z, z = u_r_19 := ⟨_, rfl⟩
      try dsimp only at hw_r_19
      have hP : va_P D vwCl [(ys, .inl (cI, 449, .inl ms)), (h0, .inr (9, [.ref ys, .ref yk, .ref yo, .ref yt, .int mk0, .ref yfa, .ref yfe, .int mL, .int mS, .int mM, .ref yro, .ref yhe, .ref ygr, .int mF, .int mC, .int mY, .ref yta, .int (nI (mz)), .int (nI (mf)), .int (nI (mt)), .int mv, .int mw, .ref ywa, .ref ybi, .ref ysi, .ref ynu, .ref ymo])), (yt, .inl (cI, 7, .inl mq2_20))] H := hP
      have hD : va_D A [(ys, .inl (cI, 449, .inl ms)), (h0, .inr (9, [.ref ys, .ref yk, .ref yo, .ref yt, .int mk0, .ref yfa, .ref yfe, .int mL, .int mS, .int mM, .ref yro, .ref yhe, .ref ygr, .int mF, .int mC, .int mY, .ref yta, .int (nI (mz)), .int (nI (mf)), .int (nI (mt)), .int mv, .int mw, .ref ywa, .ref ybi, .ref ysi, .ref ynu, .ref ymo])), (yt, .inl (cI, 7, .inl mq2_20))] := hD
      subst hw_r_19
      exact W.iret (v := (-1000000004)) hx hb hr (fun t ht hW => ⟨⟨(-1000000004), (ms, mq2_20, fao), rfl, ⟨(sh_n (P := P) (o := fao) (c1 := 1) (c0 := 0) (j := j_2) (k := k_3) (by omega) (by omega) (by omega) (by omega) h_13).1, ((sh_n (P := P) (o := fao) (c1 := 1) (c0 := 0) (j := j_2) (k := k_3) (by omega) (by omega) (by omega) (by omega) h_13).2 _), hs0, hs1, hs2, hsS, hsM, hsp, hsr, hsw, hsR, hsG⟩, by rw [ht]; exact hP.sub [1, 0, 2] rfl, hD.sub [1, 0, 2] (by decide) rfl⟩, hS.F ht⟩) hS.2.2 dX9_shut_31 hlk
  · skip
    refine lv_if_ne (tgt := 16) hx hb dX9_shut_6 (by decide) (fun c_21 => absurd (by decide) c_21) (fun c_21 => ?_)
    refine lv_aload_n hx hb dX9_shut_9 rfl (lv_at hl 0 rfl) ?_
    refine lv_ldc (v := (-1000000001)) hx hb hown (hu _ uw648) dX9_shut_10 ?_
    refine xc_Vi (wr := [(ys, .inl (cI, 449, .inl ms))]) hF (c_X9_finds_B l D cI cJ cZ cS ta sa sv s.heap.size h0 ys yk yo yt mk0 yfa yfe mL mS mM yro yhe ygr mF mC mY yta mz mf mt mv mw ywa ybi ysi ynu ymo mq ) kv_X9_70 ⟨rfl, rfl, Nat.le_of_ble_eq_true rfl, Nat.le_of_ble_eq_true rfl⟩ ⟨Nat.le_of_ble_eq_true rfl, Nat.le_of_ble_eq_true rfl⟩ hK hN hZ hP hD hS hA [0, 2] [1] rfl rfl rfl rfl (by decide) 0 rfl rfl rfl rfl hl.1 rfl (Nat.le_of_ble_eq_true rfl) dX9_shut_12 (fun r_22 u_r_22 H locs hw_r_22 hP hD hS => ?_)
    obtain ⟨mq2_23, rfl⟩ : ∃ z, z = u_r_22 := ⟨_, rfl⟩
    try dsimp only at hw_r_22
    have hP : va_P D vwCl [(ys, .inl (cI, 449, .inl ms)), (h0, .inr (9, [.ref ys, .ref yk, .ref yo, .ref yt, .int mk0, .ref yfa, .ref yfe, .int mL, .int mS, .int mM, .ref yro, .ref yhe, .ref ygr, .int mF, .int mC, .int mY, .ref yta, .int (nI (mz)), .int (nI (mf)), .int (nI (mt)), .int mv, .int mw, .ref ywa, .ref ybi, .ref ysi, .ref ynu, .ref ymo])), (yt, .inl (cI, 7, .inl mq2_23))] H := hP
    have hD : va_D A [(ys, .inl (cI, 449, .inl ms)), (h0, .inr (9, [.ref ys, .ref yk, .ref yo, .ref yt, .int mk0, .ref yfa, .ref yfe, .int mL, .int mS, .int mM, .ref yro, .ref yhe, .ref ygr, .int mF, .int mC, .int mY, .ref yta, .int (nI (mz)), .int (nI (mf)), .int (nI (mt)), .int mv, .int mw, .ref ywa, .ref ybi, .ref ysi, .ref ynu, .ref ymo])), (yt, .inl (cI, 7, .inl mq2_23))] := hD
    subst hw_r_22
    exact W.iret (v := (-1000000001)) hx hb hr (fun t ht hW => ⟨⟨(-1000000001), (ms, mq2_23, fao), rfl, ⟨(sh_b (P := P) (o := fao) (c1 := 1) (c0 := 0) h_9).1, ((sh_b (P := P) (o := fao) (c1 := 1) (c0 := 0) h_9).2 _), hs0, hs1, hs2, hsS, hsM, hsp, hsr, hsw, hsR, hsG⟩, by rw [ht]; exact hP.sub [1, 0, 2] rfl, hD.sub [1, 0, 2] (by decide) rfl⟩, hS.F ht⟩) hS.2.2 dX9_shut_15 hlk
