def LRX8_lies_2 : List UInt8 := []
def LBX8_lies_1 : List UInt8 := [0xb4, 0x00, 0x13, 0xb6, 0x00, 0xee, 0x57, 0x2a, 0xb4, 0x00, 0x35, 0xb4, 0x00, 0xf4, 0xac]
def LRX8_lies_1 : List UInt8 := LBX8_lies_1 ++ LRX8_lies_2
def LBX8_lies_0 : List UInt8 := [0x2a, 0xb4, 0x00, 0x13, 0x2a, 0xb4, 0x00, 0x0c, 0xb6, 0x00, 0xf1, 0x2a, 0xb4, 0x00, 0x35, 0x2a]
def LRX8_lies_0 : List UInt8 := LBX8_lies_0 ++ LRX8_lies_1
set_option maxRecDepth 100000 in
theorem LBX8_lies_eq : cX8_lies.data.toList = LRX8_lies_0 := by decide +kernel
theorem LBX8_liesr_0 (k : Nat) : cX8_lies.data.toList[0 + k]? = LRX8_lies_0[k]? := by rw [LBX8_lies_eq, Nat.zero_add]
theorem LBX8_liesr_1 (k : Nat) : cX8_lies.data.toList[16 + k]? = LRX8_lies_1[k]? := by
  have h := LBX8_liesr_0 (16 + k)
  rw [show 0 + (16 + k) = 16 + k by omega] at h
  rw [h]
  exact (List.getElem?_append_right (l₁ := LBX8_lies_0) (l₂ := LRX8_lies_1) (show 16 ≤ 16 + k by omega)).trans (congrArg (fun i => LRX8_lies_1[i]?) (show 16 + k - 16 = k by omega))
theorem dX8_lies_0 : decode cX8_lies 0 = .ok (.aload_n 0, 1) := dk_42_ (show cX8_lies.data.toList[0]? = some 0x2a from (LBX8_liesr_0 0).trans (by decide +kernel))
theorem dX8_lies_1 : decode cX8_lies 1 = .ok (.getfield 19, 3) := dk_180_ (show cX8_lies.data.toList[1]? = some 0xb4 from (LBX8_liesr_0 1).trans (by decide +kernel)) (show cX8_lies.data.toList[2]? = some 0x00 from (LBX8_liesr_0 2).trans (by decide +kernel)) (show cX8_lies.data.toList[3]? = some 0x13 from (LBX8_liesr_0 3).trans (by decide +kernel)) (by decide)
theorem dX8_lies_4 : decode cX8_lies 4 = .ok (.aload_n 0, 1) := dk_42_ (show cX8_lies.data.toList[4]? = some 0x2a from (LBX8_liesr_0 4).trans (by decide +kernel))
theorem dX8_lies_5 : decode cX8_lies 5 = .ok (.getfield 12, 3) := dk_180_ (show cX8_lies.data.toList[5]? = some 0xb4 from (LBX8_liesr_0 5).trans (by decide +kernel)) (show cX8_lies.data.toList[6]? = some 0x00 from (LBX8_liesr_0 6).trans (by decide +kernel)) (show cX8_lies.data.toList[7]? = some 0x0c from (LBX8_liesr_0 7).trans (by decide +kernel)) (by decide)
theorem dX8_lies_8 : decode cX8_lies 8 = .ok (.invokevirtual 241, 3) := dk_182_ (show cX8_lies.data.toList[8]? = some 0xb6 from (LBX8_liesr_0 8).trans (by decide +kernel)) (show cX8_lies.data.toList[9]? = some 0x00 from (LBX8_liesr_0 9).trans (by decide +kernel)) (show cX8_lies.data.toList[10]? = some 0xf1 from (LBX8_liesr_0 10).trans (by decide +kernel)) (by decide)
theorem dX8_lies_11 : decode cX8_lies 11 = .ok (.aload_n 0, 1) := dk_42_ (show cX8_lies.data.toList[11]? = some 0x2a from (LBX8_liesr_0 11).trans (by decide +kernel))
theorem dX8_lies_12 : decode cX8_lies 12 = .ok (.getfield 53, 3) := dk_180_ (show cX8_lies.data.toList[12]? = some 0xb4 from (LBX8_liesr_0 12).trans (by decide +kernel)) (show cX8_lies.data.toList[13]? = some 0x00 from (LBX8_liesr_0 13).trans (by decide +kernel)) (show cX8_lies.data.toList[14]? = some 0x35 from (LBX8_liesr_0 14).trans (by decide +kernel)) (by decide)
theorem dX8_lies_15 : decode cX8_lies 15 = .ok (.aload_n 0, 1) := dk_42_ (show cX8_lies.data.toList[15]? = some 0x2a from (LBX8_liesr_0 15).trans (by decide +kernel))
theorem dX8_lies_16 : decode cX8_lies 16 = .ok (.getfield 19, 3) := dk_180_ (show cX8_lies.data.toList[16]? = some 0xb4 from (LBX8_liesr_1 0).trans (by decide +kernel)) (show cX8_lies.data.toList[17]? = some 0x00 from (LBX8_liesr_1 1).trans (by decide +kernel)) (show cX8_lies.data.toList[18]? = some 0x13 from (LBX8_liesr_1 2).trans (by decide +kernel)) (by decide)
theorem dX8_lies_19 : decode cX8_lies 19 = .ok (.invokevirtual 238, 3) := dk_182_ (show cX8_lies.data.toList[19]? = some 0xb6 from (LBX8_liesr_1 3).trans (by decide +kernel)) (show cX8_lies.data.toList[20]? = some 0x00 from (LBX8_liesr_1 4).trans (by decide +kernel)) (show cX8_lies.data.toList[21]? = some 0xee from (LBX8_liesr_1 5).trans (by decide +kernel)) (by decide)
theorem dX8_lies_22 : decode cX8_lies 22 = .ok (.pop, 1) := dk_87_ (show cX8_lies.data.toList[22]? = some 0x57 from (LBX8_liesr_1 6).trans (by decide +kernel))
theorem dX8_lies_23 : decode cX8_lies 23 = .ok (.aload_n 0, 1) := dk_42_ (show cX8_lies.data.toList[23]? = some 0x2a from (LBX8_liesr_1 7).trans (by decide +kernel))
theorem dX8_lies_24 : decode cX8_lies 24 = .ok (.getfield 53, 3) := dk_180_ (show cX8_lies.data.toList[24]? = some 0xb4 from (LBX8_liesr_1 8).trans (by decide +kernel)) (show cX8_lies.data.toList[25]? = some 0x00 from (LBX8_liesr_1 9).trans (by decide +kernel)) (show cX8_lies.data.toList[26]? = some 0x35 from (LBX8_liesr_1 10).trans (by decide +kernel)) (by decide)
theorem dX8_lies_27 : decode cX8_lies 27 = .ok (.getfield 244, 3) := dk_180_ (show cX8_lies.data.toList[27]? = some 0xb4 from (LBX8_liesr_1 11).trans (by decide +kernel)) (show cX8_lies.data.toList[28]? = some 0x00 from (LBX8_liesr_1 12).trans (by decide +kernel)) (show cX8_lies.data.toList[29]? = some 0xf4 from (LBX8_liesr_1 13).trans (by decide +kernel)) (by decide)
theorem dX8_lies_30 : decode cX8_lies 30 = .ok (.ireturn, 1) := dk_172_ (show cX8_lies.data.toList[30]? = some 0xac from (LBX8_liesr_1 14).trans (by decide +kernel))
def LRX8_known_3 : List UInt8 := []
def LBX8_known_2 : List UInt8 := [0x00, 0x0c, 0xb6, 0x00, 0xfd, 0xac, 0x2a, 0x12, 0x5f, 0xb6, 0x00, 0x50, 0xac]
def LRX8_known_2 : List UInt8 := LBX8_known_2 ++ LRX8_known_3
def LBX8_known_1 : List UInt8 := [0x0b, 0x2a, 0xb4, 0x00, 0x0c, 0xb6, 0x00, 0xfa, 0xac, 0x1b, 0x05, 0xa0, 0x00, 0x0b, 0x2a, 0xb4]
def LRX8_known_1 : List UInt8 := LBX8_known_1 ++ LRX8_known_2
def LBX8_known_0 : List UInt8 := [0x1b, 0x9a, 0x00, 0x0b, 0x2a, 0xb4, 0x00, 0x0c, 0xb6, 0x00, 0xf7, 0xac, 0x1b, 0x04, 0xa0, 0x00]
def LRX8_known_0 : List UInt8 := LBX8_known_0 ++ LRX8_known_1
set_option maxRecDepth 100000 in
theorem LBX8_known_eq : cX8_known.data.toList = LRX8_known_0 := by decide +kernel
theorem LBX8_knownr_0 (k : Nat) : cX8_known.data.toList[0 + k]? = LRX8_known_0[k]? := by rw [LBX8_known_eq, Nat.zero_add]
theorem LBX8_knownr_1 (k : Nat) : cX8_known.data.toList[16 + k]? = LRX8_known_1[k]? := by
  have h := LBX8_knownr_0 (16 + k)
  rw [show 0 + (16 + k) = 16 + k by omega] at h
  rw [h]
  exact (List.getElem?_append_right (l₁ := LBX8_known_0) (l₂ := LRX8_known_1) (show 16 ≤ 16 + k by omega)).trans (congrArg (fun i => LRX8_known_1[i]?) (show 16 + k - 16 = k by omega))
theorem LBX8_knownr_2 (k : Nat) : cX8_known.data.toList[32 + k]? = LRX8_known_2[k]? := by
  have h := LBX8_knownr_1 (16 + k)
  rw [show 16 + (16 + k) = 32 + k by omega] at h
  rw [h]
  exact (List.getElem?_append_right (l₁ := LBX8_known_1) (l₂ := LRX8_known_2) (show 16 ≤ 16 + k by omega)).trans (congrArg (fun i => LRX8_known_2[i]?) (show 16 + k - 16 = k by omega))
theorem dX8_known_0 : decode cX8_known 0 = .ok (.iload_n 1, 1) := dk_27_ (show cX8_known.data.toList[0]? = some 0x1b from (LBX8_knownr_0 0).trans (by decide +kernel))
theorem dX8_known_1 : decode cX8_known 1 = .ok (.ifCond .ne 11, 3) := dk_154_ (show cX8_known.data.toList[1]? = some 0x9a from (LBX8_knownr_0 1).trans (by decide +kernel)) (show cX8_known.data.toList[2]? = some 0x00 from (LBX8_knownr_0 2).trans (by decide +kernel)) (show cX8_known.data.toList[3]? = some 0x0b from (LBX8_knownr_0 3).trans (by decide +kernel)) (by decide)
theorem dX8_known_4 : decode cX8_known 4 = .ok (.aload_n 0, 1) := dk_42_ (show cX8_known.data.toList[4]? = some 0x2a from (LBX8_knownr_0 4).trans (by decide +kernel))
theorem dX8_known_5 : decode cX8_known 5 = .ok (.getfield 12, 3) := dk_180_ (show cX8_known.data.toList[5]? = some 0xb4 from (LBX8_knownr_0 5).trans (by decide +kernel)) (show cX8_known.data.toList[6]? = some 0x00 from (LBX8_knownr_0 6).trans (by decide +kernel)) (show cX8_known.data.toList[7]? = some 0x0c from (LBX8_knownr_0 7).trans (by decide +kernel)) (by decide)
theorem dX8_known_8 : decode cX8_known 8 = .ok (.invokevirtual 247, 3) := dk_182_ (show cX8_known.data.toList[8]? = some 0xb6 from (LBX8_knownr_0 8).trans (by decide +kernel)) (show cX8_known.data.toList[9]? = some 0x00 from (LBX8_knownr_0 9).trans (by decide +kernel)) (show cX8_known.data.toList[10]? = some 0xf7 from (LBX8_knownr_0 10).trans (by decide +kernel)) (by decide)
theorem dX8_known_11 : decode cX8_known 11 = .ok (.ireturn, 1) := dk_172_ (show cX8_known.data.toList[11]? = some 0xac from (LBX8_knownr_0 11).trans (by decide +kernel))
theorem dX8_known_12 : decode cX8_known 12 = .ok (.iload_n 1, 1) := dk_27_ (show cX8_known.data.toList[12]? = some 0x1b from (LBX8_knownr_0 12).trans (by decide +kernel))
theorem dX8_known_13 : decode cX8_known 13 = .ok (.iconst 1, 1) := dk_4_ (show cX8_known.data.toList[13]? = some 0x04 from (LBX8_knownr_0 13).trans (by decide +kernel))
theorem dX8_known_14 : decode cX8_known 14 = .ok (.if_icmp .ne 11, 3) := dk_160_ (show cX8_known.data.toList[14]? = some 0xa0 from (LBX8_knownr_0 14).trans (by decide +kernel)) (show cX8_known.data.toList[15]? = some 0x00 from (LBX8_knownr_0 15).trans (by decide +kernel)) (show cX8_known.data.toList[16]? = some 0x0b from (LBX8_knownr_1 0).trans (by decide +kernel)) (by decide)
theorem dX8_known_17 : decode cX8_known 17 = .ok (.aload_n 0, 1) := dk_42_ (show cX8_known.data.toList[17]? = some 0x2a from (LBX8_knownr_1 1).trans (by decide +kernel))
theorem dX8_known_18 : decode cX8_known 18 = .ok (.getfield 12, 3) := dk_180_ (show cX8_known.data.toList[18]? = some 0xb4 from (LBX8_knownr_1 2).trans (by decide +kernel)) (show cX8_known.data.toList[19]? = some 0x00 from (LBX8_knownr_1 3).trans (by decide +kernel)) (show cX8_known.data.toList[20]? = some 0x0c from (LBX8_knownr_1 4).trans (by decide +kernel)) (by decide)
theorem dX8_known_21 : decode cX8_known 21 = .ok (.invokevirtual 250, 3) := dk_182_ (show cX8_known.data.toList[21]? = some 0xb6 from (LBX8_knownr_1 5).trans (by decide +kernel)) (show cX8_known.data.toList[22]? = some 0x00 from (LBX8_knownr_1 6).trans (by decide +kernel)) (show cX8_known.data.toList[23]? = some 0xfa from (LBX8_knownr_1 7).trans (by decide +kernel)) (by decide)
theorem dX8_known_24 : decode cX8_known 24 = .ok (.ireturn, 1) := dk_172_ (show cX8_known.data.toList[24]? = some 0xac from (LBX8_knownr_1 8).trans (by decide +kernel))
theorem dX8_known_25 : decode cX8_known 25 = .ok (.iload_n 1, 1) := dk_27_ (show cX8_known.data.toList[25]? = some 0x1b from (LBX8_knownr_1 9).trans (by decide +kernel))
theorem dX8_known_26 : decode cX8_known 26 = .ok (.iconst 2, 1) := dk_5_ (show cX8_known.data.toList[26]? = some 0x05 from (LBX8_knownr_1 10).trans (by decide +kernel))
theorem dX8_known_27 : decode cX8_known 27 = .ok (.if_icmp .ne 11, 3) := dk_160_ (show cX8_known.data.toList[27]? = some 0xa0 from (LBX8_knownr_1 11).trans (by decide +kernel)) (show cX8_known.data.toList[28]? = some 0x00 from (LBX8_knownr_1 12).trans (by decide +kernel)) (show cX8_known.data.toList[29]? = some 0x0b from (LBX8_knownr_1 13).trans (by decide +kernel)) (by decide)
theorem dX8_known_30 : decode cX8_known 30 = .ok (.aload_n 0, 1) := dk_42_ (show cX8_known.data.toList[30]? = some 0x2a from (LBX8_knownr_1 14).trans (by decide +kernel))
theorem dX8_known_31 : decode cX8_known 31 = .ok (.getfield 12, 3) := dk_180_ (show cX8_known.data.toList[31]? = some 0xb4 from (LBX8_knownr_1 15).trans (by decide +kernel)) (show cX8_known.data.toList[32]? = some 0x00 from (LBX8_knownr_2 0).trans (by decide +kernel)) (show cX8_known.data.toList[33]? = some 0x0c from (LBX8_knownr_2 1).trans (by decide +kernel)) (by decide)
theorem dX8_known_34 : decode cX8_known 34 = .ok (.invokevirtual 253, 3) := dk_182_ (show cX8_known.data.toList[34]? = some 0xb6 from (LBX8_knownr_2 2).trans (by decide +kernel)) (show cX8_known.data.toList[35]? = some 0x00 from (LBX8_knownr_2 3).trans (by decide +kernel)) (show cX8_known.data.toList[36]? = some 0xfd from (LBX8_knownr_2 4).trans (by decide +kernel)) (by decide)
theorem dX8_known_37 : decode cX8_known 37 = .ok (.ireturn, 1) := dk_172_ (show cX8_known.data.toList[37]? = some 0xac from (LBX8_knownr_2 5).trans (by decide +kernel))
theorem dX8_known_38 : decode cX8_known 38 = .ok (.aload_n 0, 1) := dk_42_ (show cX8_known.data.toList[38]? = some 0x2a from (LBX8_knownr_2 6).trans (by decide +kernel))
theorem dX8_known_39 : decode cX8_known 39 = .ok (.ldc 95, 2) := dk_18_ (show cX8_known.data.toList[39]? = some 0x12 from (LBX8_knownr_2 7).trans (by decide +kernel)) (show cX8_known.data.toList[40]? = some 0x5f from (LBX8_knownr_2 8).trans (by decide +kernel)) (by decide)
theorem dX8_known_41 : decode cX8_known 41 = .ok (.invokevirtual 80, 3) := dk_182_ (show cX8_known.data.toList[41]? = some 0xb6 from (LBX8_knownr_2 9).trans (by decide +kernel)) (show cX8_known.data.toList[42]? = some 0x00 from (LBX8_knownr_2 10).trans (by decide +kernel)) (show cX8_known.data.toList[43]? = some 0x50 from (LBX8_knownr_2 11).trans (by decide +kernel)) (by decide)
theorem dX8_known_44 : decode cX8_known 44 = .ok (.ireturn, 1) := dk_172_ (show cX8_known.data.toList[44]? = some 0xac from (LBX8_knownr_2 12).trans (by decide +kernel))
def LRX8_ask_2 : List UInt8 := []
def LBX8_ask_1 : List UInt8 := [0x00, 0x50, 0xa7, 0x00, 0x04, 0x1b, 0xac]
def LRX8_ask_1 : List UInt8 := LBX8_ask_1 ++ LRX8_ask_2
def LBX8_ask_0 : List UInt8 := [0x2a, 0xb4, 0x00, 0x0c, 0xb6, 0x01, 0x00, 0x3c, 0x1b, 0x9c, 0x00, 0x0c, 0x2a, 0x12, 0x71, 0xb6]
def LRX8_ask_0 : List UInt8 := LBX8_ask_0 ++ LRX8_ask_1
set_option maxRecDepth 100000 in
theorem LBX8_ask_eq : cX8_ask.data.toList = LRX8_ask_0 := by decide +kernel
theorem LBX8_askr_0 (k : Nat) : cX8_ask.data.toList[0 + k]? = LRX8_ask_0[k]? := by rw [LBX8_ask_eq, Nat.zero_add]
theorem LBX8_askr_1 (k : Nat) : cX8_ask.data.toList[16 + k]? = LRX8_ask_1[k]? := by
  have h := LBX8_askr_0 (16 + k)
  rw [show 0 + (16 + k) = 16 + k by omega] at h
  rw [h]
  exact (List.getElem?_append_right (l₁ := LBX8_ask_0) (l₂ := LRX8_ask_1) (show 16 ≤ 16 + k by omega)).trans (congrArg (fun i => LRX8_ask_1[i]?) (show 16 + k - 16 = k by omega))
theorem dX8_ask_0 : decode cX8_ask 0 = .ok (.aload_n 0, 1) := dk_42_ (show cX8_ask.data.toList[0]? = some 0x2a from (LBX8_askr_0 0).trans (by decide +kernel))
theorem dX8_ask_1 : decode cX8_ask 1 = .ok (.getfield 12, 3) := dk_180_ (show cX8_ask.data.toList[1]? = some 0xb4 from (LBX8_askr_0 1).trans (by decide +kernel)) (show cX8_ask.data.toList[2]? = some 0x00 from (LBX8_askr_0 2).trans (by decide +kernel)) (show cX8_ask.data.toList[3]? = some 0x0c from (LBX8_askr_0 3).trans (by decide +kernel)) (by decide)
theorem dX8_ask_4 : decode cX8_ask 4 = .ok (.invokevirtual 256, 3) := dk_182_ (show cX8_ask.data.toList[4]? = some 0xb6 from (LBX8_askr_0 4).trans (by decide +kernel)) (show cX8_ask.data.toList[5]? = some 0x01 from (LBX8_askr_0 5).trans (by decide +kernel)) (show cX8_ask.data.toList[6]? = some 0x00 from (LBX8_askr_0 6).trans (by decide +kernel)) (by decide)
theorem dX8_ask_7 : decode cX8_ask 7 = .ok (.istore_n 1, 1) := dk_60_ (show cX8_ask.data.toList[7]? = some 0x3c from (LBX8_askr_0 7).trans (by decide +kernel))
theorem dX8_ask_8 : decode cX8_ask 8 = .ok (.iload_n 1, 1) := dk_27_ (show cX8_ask.data.toList[8]? = some 0x1b from (LBX8_askr_0 8).trans (by decide +kernel))
theorem dX8_ask_9 : decode cX8_ask 9 = .ok (.ifCond .ge 12, 3) := dk_156_ (show cX8_ask.data.toList[9]? = some 0x9c from (LBX8_askr_0 9).trans (by decide +kernel)) (show cX8_ask.data.toList[10]? = some 0x00 from (LBX8_askr_0 10).trans (by decide +kernel)) (show cX8_ask.data.toList[11]? = some 0x0c from (LBX8_askr_0 11).trans (by decide +kernel)) (by decide)
theorem dX8_ask_12 : decode cX8_ask 12 = .ok (.aload_n 0, 1) := dk_42_ (show cX8_ask.data.toList[12]? = some 0x2a from (LBX8_askr_0 12).trans (by decide +kernel))
theorem dX8_ask_13 : decode cX8_ask 13 = .ok (.ldc 113, 2) := dk_18_ (show cX8_ask.data.toList[13]? = some 0x12 from (LBX8_askr_0 13).trans (by decide +kernel)) (show cX8_ask.data.toList[14]? = some 0x71 from (LBX8_askr_0 14).trans (by decide +kernel)) (by decide)
theorem dX8_ask_15 : decode cX8_ask 15 = .ok (.invokevirtual 80, 3) := dk_182_ (show cX8_ask.data.toList[15]? = some 0xb6 from (LBX8_askr_0 15).trans (by decide +kernel)) (show cX8_ask.data.toList[16]? = some 0x00 from (LBX8_askr_1 0).trans (by decide +kernel)) (show cX8_ask.data.toList[17]? = some 0x50 from (LBX8_askr_1 1).trans (by decide +kernel)) (by decide)
theorem dX8_ask_18 : decode cX8_ask 18 = .ok (.goto 4, 3) := dk_167_ (show cX8_ask.data.toList[18]? = some 0xa7 from (LBX8_askr_1 2).trans (by decide +kernel)) (show cX8_ask.data.toList[19]? = some 0x00 from (LBX8_askr_1 3).trans (by decide +kernel)) (show cX8_ask.data.toList[20]? = some 0x04 from (LBX8_askr_1 4).trans (by decide +kernel)) (by decide)
theorem dX8_ask_21 : decode cX8_ask 21 = .ok (.iload_n 1, 1) := dk_27_ (show cX8_ask.data.toList[21]? = some 0x1b from (LBX8_askr_1 5).trans (by decide +kernel))
theorem dX8_ask_22 : decode cX8_ask 22 = .ok (.ireturn, 1) := dk_172_ (show cX8_ask.data.toList[22]? = some 0xac from (LBX8_askr_1 6).trans (by decide +kernel))
def LRX8_saves_7 : List UInt8 := []
def LBX8_saves_6 : List UInt8 := [0xac, 0x1d, 0x2a, 0xb4, 0x00, 0x21, 0x2a, 0xb4, 0x00, 0x0c, 0xb6, 0x01, 0x07, 0x64, 0xac]
def LRX8_saves_6 : List UInt8 := LBX8_saves_6 ++ LRX8_saves_7
def LBX8_saves_5 : List UInt8 := [0xb6, 0x01, 0x07, 0x3e, 0x1d, 0x12, 0x9a, 0xa0, 0x00, 0x0a, 0x2a, 0x12, 0x71, 0xb6, 0x00, 0x50]
def LRX8_saves_5 : List UInt8 := LBX8_saves_5 ++ LRX8_saves_6
def LBX8_saves_4 : List UInt8 := [0x0a, 0x2a, 0x12, 0x84, 0xb6, 0x00, 0x50, 0xac, 0x2a, 0xb4, 0x00, 0x1d, 0x2a, 0xb4, 0x00, 0x0c]
def LRX8_saves_4 : List UInt8 := LBX8_saves_4 ++ LRX8_saves_5
def LBX8_saves_3 : List UInt8 := [0x21, 0x2a, 0xb4, 0x00, 0x1d, 0x2a, 0xb4, 0x00, 0x0c, 0x1b, 0x1c, 0xb6, 0x01, 0x03, 0x9a, 0x00]
def LRX8_saves_3 : List UInt8 := LBX8_saves_3 ++ LRX8_saves_4
def LBX8_saves_2 : List UInt8 := [0x12, 0x71, 0xb6, 0x00, 0x50, 0xac, 0x2a, 0xb6, 0x00, 0x80, 0x9a, 0x00, 0x17, 0x2a, 0xb4, 0x00]
def LRX8_saves_2 : List UInt8 := LBX8_saves_2 ++ LRX8_saves_3
def LBX8_saves_1 : List UInt8 := [0x00, 0x50, 0xac, 0x2a, 0xb4, 0x00, 0x0c, 0x1b, 0x1c, 0xb6, 0x00, 0xdb, 0x9a, 0x00, 0x0a, 0x2a]
def LRX8_saves_1 : List UInt8 := LBX8_saves_1 ++ LRX8_saves_2
def LBX8_saves_0 : List UInt8 := [0x2a, 0xb4, 0x00, 0x0c, 0x1b, 0x1c, 0xb6, 0x00, 0x63, 0x9a, 0x00, 0x0a, 0x2a, 0x12, 0x5f, 0xb6]
def LRX8_saves_0 : List UInt8 := LBX8_saves_0 ++ LRX8_saves_1
set_option maxRecDepth 100000 in
theorem LBX8_saves_eq : cX8_saves.data.toList = LRX8_saves_0 := by decide +kernel
theorem LBX8_savesr_0 (k : Nat) : cX8_saves.data.toList[0 + k]? = LRX8_saves_0[k]? := by rw [LBX8_saves_eq, Nat.zero_add]
theorem LBX8_savesr_1 (k : Nat) : cX8_saves.data.toList[16 + k]? = LRX8_saves_1[k]? := by
  have h := LBX8_savesr_0 (16 + k)
  rw [show 0 + (16 + k) = 16 + k by omega] at h
  rw [h]
  exact (List.getElem?_append_right (l₁ := LBX8_saves_0) (l₂ := LRX8_saves_1) (show 16 ≤ 16 + k by omega)).trans (congrArg (fun i => LRX8_saves_1[i]?) (show 16 + k - 16 = k by omega))
theorem LBX8_savesr_2 (k : Nat) : cX8_saves.data.toList[32 + k]? = LRX8_saves_2[k]? := by
  have h := LBX8_savesr_1 (16 + k)
  rw [show 16 + (16 + k) = 32 + k by omega] at h
  rw [h]
  exact (List.getElem?_append_right (l₁ := LBX8_saves_1) (l₂ := LRX8_saves_2) (show 16 ≤ 16 + k by omega)).trans (congrArg (fun i => LRX8_saves_2[i]?) (show 16 + k - 16 = k by omega))
theorem LBX8_savesr_3 (k : Nat) : cX8_saves.data.toList[48 + k]? = LRX8_saves_3[k]? := by
  have h := LBX8_savesr_2 (16 + k)
  rw [show 32 + (16 + k) = 48 + k by omega] at h
  rw [h]
  exact (List.getElem?_append_right (l₁ := LBX8_saves_2) (l₂ := LRX8_saves_3) (show 16 ≤ 16 + k by omega)).trans (congrArg (fun i => LRX8_saves_3[i]?) (show 16 + k - 16 = k by omega))
theorem LBX8_savesr_4 (k : Nat) : cX8_saves.data.toList[64 + k]? = LRX8_saves_4[k]? := by
  have h := LBX8_savesr_3 (16 + k)
  rw [show 48 + (16 + k) = 64 + k by omega] at h
  rw [h]
  exact (List.getElem?_append_right (l₁ := LBX8_saves_3) (l₂ := LRX8_saves_4) (show 16 ≤ 16 + k by omega)).trans (congrArg (fun i => LRX8_saves_4[i]?) (show 16 + k - 16 = k by omega))
theorem LBX8_savesr_5 (k : Nat) : cX8_saves.data.toList[80 + k]? = LRX8_saves_5[k]? := by
  have h := LBX8_savesr_4 (16 + k)
  rw [show 64 + (16 + k) = 80 + k by omega] at h
  rw [h]
  exact (List.getElem?_append_right (l₁ := LBX8_saves_4) (l₂ := LRX8_saves_5) (show 16 ≤ 16 + k by omega)).trans (congrArg (fun i => LRX8_saves_5[i]?) (show 16 + k - 16 = k by omega))
theorem LBX8_savesr_6 (k : Nat) : cX8_saves.data.toList[96 + k]? = LRX8_saves_6[k]? := by
  have h := LBX8_savesr_5 (16 + k)
  rw [show 80 + (16 + k) = 96 + k by omega] at h
  rw [h]
  exact (List.getElem?_append_right (l₁ := LBX8_saves_5) (l₂ := LRX8_saves_6) (show 16 ≤ 16 + k by omega)).trans (congrArg (fun i => LRX8_saves_6[i]?) (show 16 + k - 16 = k by omega))
theorem dX8_saves_0 : decode cX8_saves 0 = .ok (.aload_n 0, 1) := dk_42_ (show cX8_saves.data.toList[0]? = some 0x2a from (LBX8_savesr_0 0).trans (by decide +kernel))
theorem dX8_saves_1 : decode cX8_saves 1 = .ok (.getfield 12, 3) := dk_180_ (show cX8_saves.data.toList[1]? = some 0xb4 from (LBX8_savesr_0 1).trans (by decide +kernel)) (show cX8_saves.data.toList[2]? = some 0x00 from (LBX8_savesr_0 2).trans (by decide +kernel)) (show cX8_saves.data.toList[3]? = some 0x0c from (LBX8_savesr_0 3).trans (by decide +kernel)) (by decide)
theorem dX8_saves_4 : decode cX8_saves 4 = .ok (.iload_n 1, 1) := dk_27_ (show cX8_saves.data.toList[4]? = some 0x1b from (LBX8_savesr_0 4).trans (by decide +kernel))
theorem dX8_saves_5 : decode cX8_saves 5 = .ok (.iload_n 2, 1) := dk_28_ (show cX8_saves.data.toList[5]? = some 0x1c from (LBX8_savesr_0 5).trans (by decide +kernel))
theorem dX8_saves_6 : decode cX8_saves 6 = .ok (.invokevirtual 99, 3) := dk_182_ (show cX8_saves.data.toList[6]? = some 0xb6 from (LBX8_savesr_0 6).trans (by decide +kernel)) (show cX8_saves.data.toList[7]? = some 0x00 from (LBX8_savesr_0 7).trans (by decide +kernel)) (show cX8_saves.data.toList[8]? = some 0x63 from (LBX8_savesr_0 8).trans (by decide +kernel)) (by decide)
theorem dX8_saves_9 : decode cX8_saves 9 = .ok (.ifCond .ne 10, 3) := dk_154_ (show cX8_saves.data.toList[9]? = some 0x9a from (LBX8_savesr_0 9).trans (by decide +kernel)) (show cX8_saves.data.toList[10]? = some 0x00 from (LBX8_savesr_0 10).trans (by decide +kernel)) (show cX8_saves.data.toList[11]? = some 0x0a from (LBX8_savesr_0 11).trans (by decide +kernel)) (by decide)
theorem dX8_saves_12 : decode cX8_saves 12 = .ok (.aload_n 0, 1) := dk_42_ (show cX8_saves.data.toList[12]? = some 0x2a from (LBX8_savesr_0 12).trans (by decide +kernel))
theorem dX8_saves_13 : decode cX8_saves 13 = .ok (.ldc 95, 2) := dk_18_ (show cX8_saves.data.toList[13]? = some 0x12 from (LBX8_savesr_0 13).trans (by decide +kernel)) (show cX8_saves.data.toList[14]? = some 0x5f from (LBX8_savesr_0 14).trans (by decide +kernel)) (by decide)
theorem dX8_saves_15 : decode cX8_saves 15 = .ok (.invokevirtual 80, 3) := dk_182_ (show cX8_saves.data.toList[15]? = some 0xb6 from (LBX8_savesr_0 15).trans (by decide +kernel)) (show cX8_saves.data.toList[16]? = some 0x00 from (LBX8_savesr_1 0).trans (by decide +kernel)) (show cX8_saves.data.toList[17]? = some 0x50 from (LBX8_savesr_1 1).trans (by decide +kernel)) (by decide)
theorem dX8_saves_18 : decode cX8_saves 18 = .ok (.ireturn, 1) := dk_172_ (show cX8_saves.data.toList[18]? = some 0xac from (LBX8_savesr_1 2).trans (by decide +kernel))
theorem dX8_saves_19 : decode cX8_saves 19 = .ok (.aload_n 0, 1) := dk_42_ (show cX8_saves.data.toList[19]? = some 0x2a from (LBX8_savesr_1 3).trans (by decide +kernel))
theorem dX8_saves_20 : decode cX8_saves 20 = .ok (.getfield 12, 3) := dk_180_ (show cX8_saves.data.toList[20]? = some 0xb4 from (LBX8_savesr_1 4).trans (by decide +kernel)) (show cX8_saves.data.toList[21]? = some 0x00 from (LBX8_savesr_1 5).trans (by decide +kernel)) (show cX8_saves.data.toList[22]? = some 0x0c from (LBX8_savesr_1 6).trans (by decide +kernel)) (by decide)
theorem dX8_saves_23 : decode cX8_saves 23 = .ok (.iload_n 1, 1) := dk_27_ (show cX8_saves.data.toList[23]? = some 0x1b from (LBX8_savesr_1 7).trans (by decide +kernel))
theorem dX8_saves_24 : decode cX8_saves 24 = .ok (.iload_n 2, 1) := dk_28_ (show cX8_saves.data.toList[24]? = some 0x1c from (LBX8_savesr_1 8).trans (by decide +kernel))
theorem dX8_saves_25 : decode cX8_saves 25 = .ok (.invokevirtual 219, 3) := dk_182_ (show cX8_saves.data.toList[25]? = some 0xb6 from (LBX8_savesr_1 9).trans (by decide +kernel)) (show cX8_saves.data.toList[26]? = some 0x00 from (LBX8_savesr_1 10).trans (by decide +kernel)) (show cX8_saves.data.toList[27]? = some 0xdb from (LBX8_savesr_1 11).trans (by decide +kernel)) (by decide)
theorem dX8_saves_28 : decode cX8_saves 28 = .ok (.ifCond .ne 10, 3) := dk_154_ (show cX8_saves.data.toList[28]? = some 0x9a from (LBX8_savesr_1 12).trans (by decide +kernel)) (show cX8_saves.data.toList[29]? = some 0x00 from (LBX8_savesr_1 13).trans (by decide +kernel)) (show cX8_saves.data.toList[30]? = some 0x0a from (LBX8_savesr_1 14).trans (by decide +kernel)) (by decide)
theorem dX8_saves_31 : decode cX8_saves 31 = .ok (.aload_n 0, 1) := dk_42_ (show cX8_saves.data.toList[31]? = some 0x2a from (LBX8_savesr_1 15).trans (by decide +kernel))
theorem dX8_saves_32 : decode cX8_saves 32 = .ok (.ldc 113, 2) := dk_18_ (show cX8_saves.data.toList[32]? = some 0x12 from (LBX8_savesr_2 0).trans (by decide +kernel)) (show cX8_saves.data.toList[33]? = some 0x71 from (LBX8_savesr_2 1).trans (by decide +kernel)) (by decide)
theorem dX8_saves_34 : decode cX8_saves 34 = .ok (.invokevirtual 80, 3) := dk_182_ (show cX8_saves.data.toList[34]? = some 0xb6 from (LBX8_savesr_2 2).trans (by decide +kernel)) (show cX8_saves.data.toList[35]? = some 0x00 from (LBX8_savesr_2 3).trans (by decide +kernel)) (show cX8_saves.data.toList[36]? = some 0x50 from (LBX8_savesr_2 4).trans (by decide +kernel)) (by decide)
theorem dX8_saves_37 : decode cX8_saves 37 = .ok (.ireturn, 1) := dk_172_ (show cX8_saves.data.toList[37]? = some 0xac from (LBX8_savesr_2 5).trans (by decide +kernel))
theorem dX8_saves_38 : decode cX8_saves 38 = .ok (.aload_n 0, 1) := dk_42_ (show cX8_saves.data.toList[38]? = some 0x2a from (LBX8_savesr_2 6).trans (by decide +kernel))
theorem dX8_saves_39 : decode cX8_saves 39 = .ok (.invokevirtual 128, 3) := dk_182_ (show cX8_saves.data.toList[39]? = some 0xb6 from (LBX8_savesr_2 7).trans (by decide +kernel)) (show cX8_saves.data.toList[40]? = some 0x00 from (LBX8_savesr_2 8).trans (by decide +kernel)) (show cX8_saves.data.toList[41]? = some 0x80 from (LBX8_savesr_2 9).trans (by decide +kernel)) (by decide)
theorem dX8_saves_42 : decode cX8_saves 42 = .ok (.ifCond .ne 23, 3) := dk_154_ (show cX8_saves.data.toList[42]? = some 0x9a from (LBX8_savesr_2 10).trans (by decide +kernel)) (show cX8_saves.data.toList[43]? = some 0x00 from (LBX8_savesr_2 11).trans (by decide +kernel)) (show cX8_saves.data.toList[44]? = some 0x17 from (LBX8_savesr_2 12).trans (by decide +kernel)) (by decide)
theorem dX8_saves_45 : decode cX8_saves 45 = .ok (.aload_n 0, 1) := dk_42_ (show cX8_saves.data.toList[45]? = some 0x2a from (LBX8_savesr_2 13).trans (by decide +kernel))
theorem dX8_saves_46 : decode cX8_saves 46 = .ok (.getfield 33, 3) := dk_180_ (show cX8_saves.data.toList[46]? = some 0xb4 from (LBX8_savesr_2 14).trans (by decide +kernel)) (show cX8_saves.data.toList[47]? = some 0x00 from (LBX8_savesr_2 15).trans (by decide +kernel)) (show cX8_saves.data.toList[48]? = some 0x21 from (LBX8_savesr_3 0).trans (by decide +kernel)) (by decide)
theorem dX8_saves_49 : decode cX8_saves 49 = .ok (.aload_n 0, 1) := dk_42_ (show cX8_saves.data.toList[49]? = some 0x2a from (LBX8_savesr_3 1).trans (by decide +kernel))
theorem dX8_saves_50 : decode cX8_saves 50 = .ok (.getfield 29, 3) := dk_180_ (show cX8_saves.data.toList[50]? = some 0xb4 from (LBX8_savesr_3 2).trans (by decide +kernel)) (show cX8_saves.data.toList[51]? = some 0x00 from (LBX8_savesr_3 3).trans (by decide +kernel)) (show cX8_saves.data.toList[52]? = some 0x1d from (LBX8_savesr_3 4).trans (by decide +kernel)) (by decide)
theorem dX8_saves_53 : decode cX8_saves 53 = .ok (.aload_n 0, 1) := dk_42_ (show cX8_saves.data.toList[53]? = some 0x2a from (LBX8_savesr_3 5).trans (by decide +kernel))
theorem dX8_saves_54 : decode cX8_saves 54 = .ok (.getfield 12, 3) := dk_180_ (show cX8_saves.data.toList[54]? = some 0xb4 from (LBX8_savesr_3 6).trans (by decide +kernel)) (show cX8_saves.data.toList[55]? = some 0x00 from (LBX8_savesr_3 7).trans (by decide +kernel)) (show cX8_saves.data.toList[56]? = some 0x0c from (LBX8_savesr_3 8).trans (by decide +kernel)) (by decide)
theorem dX8_saves_57 : decode cX8_saves 57 = .ok (.iload_n 1, 1) := dk_27_ (show cX8_saves.data.toList[57]? = some 0x1b from (LBX8_savesr_3 9).trans (by decide +kernel))
theorem dX8_saves_58 : decode cX8_saves 58 = .ok (.iload_n 2, 1) := dk_28_ (show cX8_saves.data.toList[58]? = some 0x1c from (LBX8_savesr_3 10).trans (by decide +kernel))
theorem dX8_saves_59 : decode cX8_saves 59 = .ok (.invokevirtual 259, 3) := dk_182_ (show cX8_saves.data.toList[59]? = some 0xb6 from (LBX8_savesr_3 11).trans (by decide +kernel)) (show cX8_saves.data.toList[60]? = some 0x01 from (LBX8_savesr_3 12).trans (by decide +kernel)) (show cX8_saves.data.toList[61]? = some 0x03 from (LBX8_savesr_3 13).trans (by decide +kernel)) (by decide)
theorem dX8_saves_62 : decode cX8_saves 62 = .ok (.ifCond .ne 10, 3) := dk_154_ (show cX8_saves.data.toList[62]? = some 0x9a from (LBX8_savesr_3 14).trans (by decide +kernel)) (show cX8_saves.data.toList[63]? = some 0x00 from (LBX8_savesr_3 15).trans (by decide +kernel)) (show cX8_saves.data.toList[64]? = some 0x0a from (LBX8_savesr_4 0).trans (by decide +kernel)) (by decide)
theorem dX8_saves_65 : decode cX8_saves 65 = .ok (.aload_n 0, 1) := dk_42_ (show cX8_saves.data.toList[65]? = some 0x2a from (LBX8_savesr_4 1).trans (by decide +kernel))
theorem dX8_saves_66 : decode cX8_saves 66 = .ok (.ldc 132, 2) := dk_18_ (show cX8_saves.data.toList[66]? = some 0x12 from (LBX8_savesr_4 2).trans (by decide +kernel)) (show cX8_saves.data.toList[67]? = some 0x84 from (LBX8_savesr_4 3).trans (by decide +kernel)) (by decide)
theorem dX8_saves_68 : decode cX8_saves 68 = .ok (.invokevirtual 80, 3) := dk_182_ (show cX8_saves.data.toList[68]? = some 0xb6 from (LBX8_savesr_4 4).trans (by decide +kernel)) (show cX8_saves.data.toList[69]? = some 0x00 from (LBX8_savesr_4 5).trans (by decide +kernel)) (show cX8_saves.data.toList[70]? = some 0x50 from (LBX8_savesr_4 6).trans (by decide +kernel)) (by decide)
theorem dX8_saves_71 : decode cX8_saves 71 = .ok (.ireturn, 1) := dk_172_ (show cX8_saves.data.toList[71]? = some 0xac from (LBX8_savesr_4 7).trans (by decide +kernel))
theorem dX8_saves_72 : decode cX8_saves 72 = .ok (.aload_n 0, 1) := dk_42_ (show cX8_saves.data.toList[72]? = some 0x2a from (LBX8_savesr_4 8).trans (by decide +kernel))
theorem dX8_saves_73 : decode cX8_saves 73 = .ok (.getfield 29, 3) := dk_180_ (show cX8_saves.data.toList[73]? = some 0xb4 from (LBX8_savesr_4 9).trans (by decide +kernel)) (show cX8_saves.data.toList[74]? = some 0x00 from (LBX8_savesr_4 10).trans (by decide +kernel)) (show cX8_saves.data.toList[75]? = some 0x1d from (LBX8_savesr_4 11).trans (by decide +kernel)) (by decide)
theorem dX8_saves_76 : decode cX8_saves 76 = .ok (.aload_n 0, 1) := dk_42_ (show cX8_saves.data.toList[76]? = some 0x2a from (LBX8_savesr_4 12).trans (by decide +kernel))
theorem dX8_saves_77 : decode cX8_saves 77 = .ok (.getfield 12, 3) := dk_180_ (show cX8_saves.data.toList[77]? = some 0xb4 from (LBX8_savesr_4 13).trans (by decide +kernel)) (show cX8_saves.data.toList[78]? = some 0x00 from (LBX8_savesr_4 14).trans (by decide +kernel)) (show cX8_saves.data.toList[79]? = some 0x0c from (LBX8_savesr_4 15).trans (by decide +kernel)) (by decide)
theorem dX8_saves_80 : decode cX8_saves 80 = .ok (.invokevirtual 263, 3) := dk_182_ (show cX8_saves.data.toList[80]? = some 0xb6 from (LBX8_savesr_5 0).trans (by decide +kernel)) (show cX8_saves.data.toList[81]? = some 0x01 from (LBX8_savesr_5 1).trans (by decide +kernel)) (show cX8_saves.data.toList[82]? = some 0x07 from (LBX8_savesr_5 2).trans (by decide +kernel)) (by decide)
theorem dX8_saves_83 : decode cX8_saves 83 = .ok (.istore_n 3, 1) := dk_62_ (show cX8_saves.data.toList[83]? = some 0x3e from (LBX8_savesr_5 3).trans (by decide +kernel))
theorem dX8_saves_84 : decode cX8_saves 84 = .ok (.iload_n 3, 1) := dk_29_ (show cX8_saves.data.toList[84]? = some 0x1d from (LBX8_savesr_5 4).trans (by decide +kernel))
theorem dX8_saves_85 : decode cX8_saves 85 = .ok (.ldc 154, 2) := dk_18_ (show cX8_saves.data.toList[85]? = some 0x12 from (LBX8_savesr_5 5).trans (by decide +kernel)) (show cX8_saves.data.toList[86]? = some 0x9a from (LBX8_savesr_5 6).trans (by decide +kernel)) (by decide)
theorem dX8_saves_87 : decode cX8_saves 87 = .ok (.if_icmp .ne 10, 3) := dk_160_ (show cX8_saves.data.toList[87]? = some 0xa0 from (LBX8_savesr_5 7).trans (by decide +kernel)) (show cX8_saves.data.toList[88]? = some 0x00 from (LBX8_savesr_5 8).trans (by decide +kernel)) (show cX8_saves.data.toList[89]? = some 0x0a from (LBX8_savesr_5 9).trans (by decide +kernel)) (by decide)
theorem dX8_saves_90 : decode cX8_saves 90 = .ok (.aload_n 0, 1) := dk_42_ (show cX8_saves.data.toList[90]? = some 0x2a from (LBX8_savesr_5 10).trans (by decide +kernel))
theorem dX8_saves_91 : decode cX8_saves 91 = .ok (.ldc 113, 2) := dk_18_ (show cX8_saves.data.toList[91]? = some 0x12 from (LBX8_savesr_5 11).trans (by decide +kernel)) (show cX8_saves.data.toList[92]? = some 0x71 from (LBX8_savesr_5 12).trans (by decide +kernel)) (by decide)
theorem dX8_saves_93 : decode cX8_saves 93 = .ok (.invokevirtual 80, 3) := dk_182_ (show cX8_saves.data.toList[93]? = some 0xb6 from (LBX8_savesr_5 13).trans (by decide +kernel)) (show cX8_saves.data.toList[94]? = some 0x00 from (LBX8_savesr_5 14).trans (by decide +kernel)) (show cX8_saves.data.toList[95]? = some 0x50 from (LBX8_savesr_5 15).trans (by decide +kernel)) (by decide)
theorem dX8_saves_96 : decode cX8_saves 96 = .ok (.ireturn, 1) := dk_172_ (show cX8_saves.data.toList[96]? = some 0xac from (LBX8_savesr_6 0).trans (by decide +kernel))
theorem dX8_saves_97 : decode cX8_saves 97 = .ok (.iload_n 3, 1) := dk_29_ (show cX8_saves.data.toList[97]? = some 0x1d from (LBX8_savesr_6 1).trans (by decide +kernel))
theorem dX8_saves_98 : decode cX8_saves 98 = .ok (.aload_n 0, 1) := dk_42_ (show cX8_saves.data.toList[98]? = some 0x2a from (LBX8_savesr_6 2).trans (by decide +kernel))
theorem dX8_saves_99 : decode cX8_saves 99 = .ok (.getfield 33, 3) := dk_180_ (show cX8_saves.data.toList[99]? = some 0xb4 from (LBX8_savesr_6 3).trans (by decide +kernel)) (show cX8_saves.data.toList[100]? = some 0x00 from (LBX8_savesr_6 4).trans (by decide +kernel)) (show cX8_saves.data.toList[101]? = some 0x21 from (LBX8_savesr_6 5).trans (by decide +kernel)) (by decide)
theorem dX8_saves_102 : decode cX8_saves 102 = .ok (.aload_n 0, 1) := dk_42_ (show cX8_saves.data.toList[102]? = some 0x2a from (LBX8_savesr_6 6).trans (by decide +kernel))
theorem dX8_saves_103 : decode cX8_saves 103 = .ok (.getfield 12, 3) := dk_180_ (show cX8_saves.data.toList[103]? = some 0xb4 from (LBX8_savesr_6 7).trans (by decide +kernel)) (show cX8_saves.data.toList[104]? = some 0x00 from (LBX8_savesr_6 8).trans (by decide +kernel)) (show cX8_saves.data.toList[105]? = some 0x0c from (LBX8_savesr_6 9).trans (by decide +kernel)) (by decide)
theorem dX8_saves_106 : decode cX8_saves 106 = .ok (.invokevirtual 263, 3) := dk_182_ (show cX8_saves.data.toList[106]? = some 0xb6 from (LBX8_savesr_6 10).trans (by decide +kernel)) (show cX8_saves.data.toList[107]? = some 0x01 from (LBX8_savesr_6 11).trans (by decide +kernel)) (show cX8_saves.data.toList[108]? = some 0x07 from (LBX8_savesr_6 12).trans (by decide +kernel)) (by decide)
theorem dX8_saves_109 : decode cX8_saves 109 = .ok (.isub, 1) := dk_100_ (show cX8_saves.data.toList[109]? = some 0x64 from (LBX8_savesr_6 13).trans (by decide +kernel))
theorem dX8_saves_110 : decode cX8_saves 110 = .ok (.ireturn, 1) := dk_172_ (show cX8_saves.data.toList[110]? = some 0xac from (LBX8_savesr_6 14).trans (by decide +kernel))
def LRX8_bestToMend_8 : List UInt8 := []
def LBX8_bestToMend_7 : List UInt8 := [0x01, 0xa7, 0xff, 0xa8, 0x84, 0x04, 0x01, 0xa7, 0xff, 0x90, 0x1c, 0xac]
def LRX8_bestToMend_7 : List UInt8 := LBX8_bestToMend_7 ++ LRX8_bestToMend_8
def LBX8_bestToMend_6 : List UInt8 := [0x00, 0x0f, 0x10, 0x0a, 0x15, 0x04, 0x68, 0x15, 0x05, 0x60, 0x3d, 0x15, 0x06, 0x3e, 0x84, 0x05]
def LRX8_bestToMend_6 : List UInt8 := LBX8_bestToMend_6 ++ LRX8_bestToMend_7
def LBX8_bestToMend_5 : List UInt8 := [0x00, 0x0c, 0xb6, 0x01, 0x07, 0x64, 0x36, 0x06, 0x1c, 0x9b, 0x00, 0x09, 0x15, 0x06, 0x1d, 0xa4]
def LRX8_bestToMend_5 : List UInt8 := LBX8_bestToMend_5 ++ LRX8_bestToMend_6
def LBX8_bestToMend_4 : List UInt8 := [0x04, 0x15, 0x05, 0xb6, 0x01, 0x03, 0x99, 0x00, 0x28, 0x1b, 0x2a, 0xb4, 0x00, 0x21, 0x2a, 0xb4]
def LRX8_bestToMend_4 : List UInt8 := LBX8_bestToMend_4 ++ LRX8_bestToMend_5
def LBX8_bestToMend_3 : List UInt8 := [0x99, 0x00, 0x3e, 0x2a, 0xb4, 0x00, 0x21, 0x2a, 0xb4, 0x00, 0x1d, 0x2a, 0xb4, 0x00, 0x0c, 0x15]
def LRX8_bestToMend_3 : List UInt8 := LBX8_bestToMend_3 ++ LRX8_bestToMend_4
def LBX8_bestToMend_2 : List UInt8 := [0x00, 0x4b, 0xa2, 0x00, 0x52, 0x2a, 0xb4, 0x00, 0x0c, 0x15, 0x04, 0x15, 0x05, 0xb6, 0x00, 0xdb]
def LRX8_bestToMend_2 : List UInt8 := LBX8_bestToMend_2 ++ LRX8_bestToMend_3
def LBX8_bestToMend_1 : List UInt8 := [0xa2, 0x00, 0x6a, 0x15, 0x04, 0x04, 0x60, 0x36, 0x05, 0x15, 0x05, 0x2a, 0xb4, 0x00, 0x0c, 0xb4]
def LRX8_bestToMend_1 : List UInt8 := LBX8_bestToMend_1 ++ LRX8_bestToMend_2
def LBX8_bestToMend_0 : List UInt8 := [0x02, 0x3d, 0x03, 0x3e, 0x03, 0x36, 0x04, 0x15, 0x04, 0x2a, 0xb4, 0x00, 0x0c, 0xb4, 0x00, 0x4b]
def LRX8_bestToMend_0 : List UInt8 := LBX8_bestToMend_0 ++ LRX8_bestToMend_1
set_option maxRecDepth 100000 in
theorem LBX8_bestToMend_eq : cX8_bestToMend.data.toList = LRX8_bestToMend_0 := by decide +kernel
theorem LBX8_bestToMendr_0 (k : Nat) : cX8_bestToMend.data.toList[0 + k]? = LRX8_bestToMend_0[k]? := by rw [LBX8_bestToMend_eq, Nat.zero_add]
theorem LBX8_bestToMendr_1 (k : Nat) : cX8_bestToMend.data.toList[16 + k]? = LRX8_bestToMend_1[k]? := by
  have h := LBX8_bestToMendr_0 (16 + k)
  rw [show 0 + (16 + k) = 16 + k by omega] at h
  rw [h]
  exact (List.getElem?_append_right (l₁ := LBX8_bestToMend_0) (l₂ := LRX8_bestToMend_1) (show 16 ≤ 16 + k by omega)).trans (congrArg (fun i => LRX8_bestToMend_1[i]?) (show 16 + k - 16 = k by omega))
theorem LBX8_bestToMendr_2 (k : Nat) : cX8_bestToMend.data.toList[32 + k]? = LRX8_bestToMend_2[k]? := by
  have h := LBX8_bestToMendr_1 (16 + k)
  rw [show 16 + (16 + k) = 32 + k by omega] at h
  rw [h]
  exact (List.getElem?_append_right (l₁ := LBX8_bestToMend_1) (l₂ := LRX8_bestToMend_2) (show 16 ≤ 16 + k by omega)).trans (congrArg (fun i => LRX8_bestToMend_2[i]?) (show 16 + k - 16 = k by omega))
theorem LBX8_bestToMendr_3 (k : Nat) : cX8_bestToMend.data.toList[48 + k]? = LRX8_bestToMend_3[k]? := by
  have h := LBX8_bestToMendr_2 (16 + k)
  rw [show 32 + (16 + k) = 48 + k by omega] at h
  rw [h]
  exact (List.getElem?_append_right (l₁ := LBX8_bestToMend_2) (l₂ := LRX8_bestToMend_3) (show 16 ≤ 16 + k by omega)).trans (congrArg (fun i => LRX8_bestToMend_3[i]?) (show 16 + k - 16 = k by omega))
theorem LBX8_bestToMendr_4 (k : Nat) : cX8_bestToMend.data.toList[64 + k]? = LRX8_bestToMend_4[k]? := by
  have h := LBX8_bestToMendr_3 (16 + k)
  rw [show 48 + (16 + k) = 64 + k by omega] at h
  rw [h]
  exact (List.getElem?_append_right (l₁ := LBX8_bestToMend_3) (l₂ := LRX8_bestToMend_4) (show 16 ≤ 16 + k by omega)).trans (congrArg (fun i => LRX8_bestToMend_4[i]?) (show 16 + k - 16 = k by omega))
theorem LBX8_bestToMendr_5 (k : Nat) : cX8_bestToMend.data.toList[80 + k]? = LRX8_bestToMend_5[k]? := by
  have h := LBX8_bestToMendr_4 (16 + k)
  rw [show 64 + (16 + k) = 80 + k by omega] at h
  rw [h]
  exact (List.getElem?_append_right (l₁ := LBX8_bestToMend_4) (l₂ := LRX8_bestToMend_5) (show 16 ≤ 16 + k by omega)).trans (congrArg (fun i => LRX8_bestToMend_5[i]?) (show 16 + k - 16 = k by omega))
theorem LBX8_bestToMendr_6 (k : Nat) : cX8_bestToMend.data.toList[96 + k]? = LRX8_bestToMend_6[k]? := by
  have h := LBX8_bestToMendr_5 (16 + k)
  rw [show 80 + (16 + k) = 96 + k by omega] at h
  rw [h]
  exact (List.getElem?_append_right (l₁ := LBX8_bestToMend_5) (l₂ := LRX8_bestToMend_6) (show 16 ≤ 16 + k by omega)).trans (congrArg (fun i => LRX8_bestToMend_6[i]?) (show 16 + k - 16 = k by omega))
theorem LBX8_bestToMendr_7 (k : Nat) : cX8_bestToMend.data.toList[112 + k]? = LRX8_bestToMend_7[k]? := by
  have h := LBX8_bestToMendr_6 (16 + k)
  rw [show 96 + (16 + k) = 112 + k by omega] at h
  rw [h]
  exact (List.getElem?_append_right (l₁ := LBX8_bestToMend_6) (l₂ := LRX8_bestToMend_7) (show 16 ≤ 16 + k by omega)).trans (congrArg (fun i => LRX8_bestToMend_7[i]?) (show 16 + k - 16 = k by omega))
theorem dX8_bestToMend_0 : decode cX8_bestToMend 0 = .ok (.iconst (-1), 1) := dk_2_ (show cX8_bestToMend.data.toList[0]? = some 0x02 from (LBX8_bestToMendr_0 0).trans (by decide +kernel))
theorem dX8_bestToMend_1 : decode cX8_bestToMend 1 = .ok (.istore_n 2, 1) := dk_61_ (show cX8_bestToMend.data.toList[1]? = some 0x3d from (LBX8_bestToMendr_0 1).trans (by decide +kernel))
theorem dX8_bestToMend_2 : decode cX8_bestToMend 2 = .ok (.iconst 0, 1) := dk_3_ (show cX8_bestToMend.data.toList[2]? = some 0x03 from (LBX8_bestToMendr_0 2).trans (by decide +kernel))
theorem dX8_bestToMend_3 : decode cX8_bestToMend 3 = .ok (.istore_n 3, 1) := dk_62_ (show cX8_bestToMend.data.toList[3]? = some 0x3e from (LBX8_bestToMendr_0 3).trans (by decide +kernel))
theorem dX8_bestToMend_4 : decode cX8_bestToMend 4 = .ok (.iconst 0, 1) := dk_3_ (show cX8_bestToMend.data.toList[4]? = some 0x03 from (LBX8_bestToMendr_0 4).trans (by decide +kernel))
theorem dX8_bestToMend_5 : decode cX8_bestToMend 5 = .ok (.istore 4, 2) := dk_54_ (show cX8_bestToMend.data.toList[5]? = some 0x36 from (LBX8_bestToMendr_0 5).trans (by decide +kernel)) (show cX8_bestToMend.data.toList[6]? = some 0x04 from (LBX8_bestToMendr_0 6).trans (by decide +kernel)) (by decide)
theorem dX8_bestToMend_7 : decode cX8_bestToMend 7 = .ok (.iload 4, 2) := dk_21_ (show cX8_bestToMend.data.toList[7]? = some 0x15 from (LBX8_bestToMendr_0 7).trans (by decide +kernel)) (show cX8_bestToMend.data.toList[8]? = some 0x04 from (LBX8_bestToMendr_0 8).trans (by decide +kernel)) (by decide)
theorem dX8_bestToMend_9 : decode cX8_bestToMend 9 = .ok (.aload_n 0, 1) := dk_42_ (show cX8_bestToMend.data.toList[9]? = some 0x2a from (LBX8_bestToMendr_0 9).trans (by decide +kernel))
theorem dX8_bestToMend_10 : decode cX8_bestToMend 10 = .ok (.getfield 12, 3) := dk_180_ (show cX8_bestToMend.data.toList[10]? = some 0xb4 from (LBX8_bestToMendr_0 10).trans (by decide +kernel)) (show cX8_bestToMend.data.toList[11]? = some 0x00 from (LBX8_bestToMendr_0 11).trans (by decide +kernel)) (show cX8_bestToMend.data.toList[12]? = some 0x0c from (LBX8_bestToMendr_0 12).trans (by decide +kernel)) (by decide)
theorem dX8_bestToMend_13 : decode cX8_bestToMend 13 = .ok (.getfield 75, 3) := dk_180_ (show cX8_bestToMend.data.toList[13]? = some 0xb4 from (LBX8_bestToMendr_0 13).trans (by decide +kernel)) (show cX8_bestToMend.data.toList[14]? = some 0x00 from (LBX8_bestToMendr_0 14).trans (by decide +kernel)) (show cX8_bestToMend.data.toList[15]? = some 0x4b from (LBX8_bestToMendr_0 15).trans (by decide +kernel)) (by decide)
theorem dX8_bestToMend_16 : decode cX8_bestToMend 16 = .ok (.if_icmp .ge 106, 3) := dk_162_ (show cX8_bestToMend.data.toList[16]? = some 0xa2 from (LBX8_bestToMendr_1 0).trans (by decide +kernel)) (show cX8_bestToMend.data.toList[17]? = some 0x00 from (LBX8_bestToMendr_1 1).trans (by decide +kernel)) (show cX8_bestToMend.data.toList[18]? = some 0x6a from (LBX8_bestToMendr_1 2).trans (by decide +kernel)) (by decide)
theorem dX8_bestToMend_19 : decode cX8_bestToMend 19 = .ok (.iload 4, 2) := dk_21_ (show cX8_bestToMend.data.toList[19]? = some 0x15 from (LBX8_bestToMendr_1 3).trans (by decide +kernel)) (show cX8_bestToMend.data.toList[20]? = some 0x04 from (LBX8_bestToMendr_1 4).trans (by decide +kernel)) (by decide)
theorem dX8_bestToMend_21 : decode cX8_bestToMend 21 = .ok (.iconst 1, 1) := dk_4_ (show cX8_bestToMend.data.toList[21]? = some 0x04 from (LBX8_bestToMendr_1 5).trans (by decide +kernel))
theorem dX8_bestToMend_22 : decode cX8_bestToMend 22 = .ok (.iadd, 1) := dk_96_ (show cX8_bestToMend.data.toList[22]? = some 0x60 from (LBX8_bestToMendr_1 6).trans (by decide +kernel))
theorem dX8_bestToMend_23 : decode cX8_bestToMend 23 = .ok (.istore 5, 2) := dk_54_ (show cX8_bestToMend.data.toList[23]? = some 0x36 from (LBX8_bestToMendr_1 7).trans (by decide +kernel)) (show cX8_bestToMend.data.toList[24]? = some 0x05 from (LBX8_bestToMendr_1 8).trans (by decide +kernel)) (by decide)
theorem dX8_bestToMend_25 : decode cX8_bestToMend 25 = .ok (.iload 5, 2) := dk_21_ (show cX8_bestToMend.data.toList[25]? = some 0x15 from (LBX8_bestToMendr_1 9).trans (by decide +kernel)) (show cX8_bestToMend.data.toList[26]? = some 0x05 from (LBX8_bestToMendr_1 10).trans (by decide +kernel)) (by decide)
theorem dX8_bestToMend_27 : decode cX8_bestToMend 27 = .ok (.aload_n 0, 1) := dk_42_ (show cX8_bestToMend.data.toList[27]? = some 0x2a from (LBX8_bestToMendr_1 11).trans (by decide +kernel))
theorem dX8_bestToMend_28 : decode cX8_bestToMend 28 = .ok (.getfield 12, 3) := dk_180_ (show cX8_bestToMend.data.toList[28]? = some 0xb4 from (LBX8_bestToMendr_1 12).trans (by decide +kernel)) (show cX8_bestToMend.data.toList[29]? = some 0x00 from (LBX8_bestToMendr_1 13).trans (by decide +kernel)) (show cX8_bestToMend.data.toList[30]? = some 0x0c from (LBX8_bestToMendr_1 14).trans (by decide +kernel)) (by decide)
theorem dX8_bestToMend_31 : decode cX8_bestToMend 31 = .ok (.getfield 75, 3) := dk_180_ (show cX8_bestToMend.data.toList[31]? = some 0xb4 from (LBX8_bestToMendr_1 15).trans (by decide +kernel)) (show cX8_bestToMend.data.toList[32]? = some 0x00 from (LBX8_bestToMendr_2 0).trans (by decide +kernel)) (show cX8_bestToMend.data.toList[33]? = some 0x4b from (LBX8_bestToMendr_2 1).trans (by decide +kernel)) (by decide)
theorem dX8_bestToMend_34 : decode cX8_bestToMend 34 = .ok (.if_icmp .ge 82, 3) := dk_162_ (show cX8_bestToMend.data.toList[34]? = some 0xa2 from (LBX8_bestToMendr_2 2).trans (by decide +kernel)) (show cX8_bestToMend.data.toList[35]? = some 0x00 from (LBX8_bestToMendr_2 3).trans (by decide +kernel)) (show cX8_bestToMend.data.toList[36]? = some 0x52 from (LBX8_bestToMendr_2 4).trans (by decide +kernel)) (by decide)
theorem dX8_bestToMend_37 : decode cX8_bestToMend 37 = .ok (.aload_n 0, 1) := dk_42_ (show cX8_bestToMend.data.toList[37]? = some 0x2a from (LBX8_bestToMendr_2 5).trans (by decide +kernel))
theorem dX8_bestToMend_38 : decode cX8_bestToMend 38 = .ok (.getfield 12, 3) := dk_180_ (show cX8_bestToMend.data.toList[38]? = some 0xb4 from (LBX8_bestToMendr_2 6).trans (by decide +kernel)) (show cX8_bestToMend.data.toList[39]? = some 0x00 from (LBX8_bestToMendr_2 7).trans (by decide +kernel)) (show cX8_bestToMend.data.toList[40]? = some 0x0c from (LBX8_bestToMendr_2 8).trans (by decide +kernel)) (by decide)
theorem dX8_bestToMend_41 : decode cX8_bestToMend 41 = .ok (.iload 4, 2) := dk_21_ (show cX8_bestToMend.data.toList[41]? = some 0x15 from (LBX8_bestToMendr_2 9).trans (by decide +kernel)) (show cX8_bestToMend.data.toList[42]? = some 0x04 from (LBX8_bestToMendr_2 10).trans (by decide +kernel)) (by decide)
theorem dX8_bestToMend_43 : decode cX8_bestToMend 43 = .ok (.iload 5, 2) := dk_21_ (show cX8_bestToMend.data.toList[43]? = some 0x15 from (LBX8_bestToMendr_2 11).trans (by decide +kernel)) (show cX8_bestToMend.data.toList[44]? = some 0x05 from (LBX8_bestToMendr_2 12).trans (by decide +kernel)) (by decide)
theorem dX8_bestToMend_45 : decode cX8_bestToMend 45 = .ok (.invokevirtual 219, 3) := dk_182_ (show cX8_bestToMend.data.toList[45]? = some 0xb6 from (LBX8_bestToMendr_2 13).trans (by decide +kernel)) (show cX8_bestToMend.data.toList[46]? = some 0x00 from (LBX8_bestToMendr_2 14).trans (by decide +kernel)) (show cX8_bestToMend.data.toList[47]? = some 0xdb from (LBX8_bestToMendr_2 15).trans (by decide +kernel)) (by decide)
theorem dX8_bestToMend_48 : decode cX8_bestToMend 48 = .ok (.ifCond .eq 62, 3) := dk_153_ (show cX8_bestToMend.data.toList[48]? = some 0x99 from (LBX8_bestToMendr_3 0).trans (by decide +kernel)) (show cX8_bestToMend.data.toList[49]? = some 0x00 from (LBX8_bestToMendr_3 1).trans (by decide +kernel)) (show cX8_bestToMend.data.toList[50]? = some 0x3e from (LBX8_bestToMendr_3 2).trans (by decide +kernel)) (by decide)
theorem dX8_bestToMend_51 : decode cX8_bestToMend 51 = .ok (.aload_n 0, 1) := dk_42_ (show cX8_bestToMend.data.toList[51]? = some 0x2a from (LBX8_bestToMendr_3 3).trans (by decide +kernel))
theorem dX8_bestToMend_52 : decode cX8_bestToMend 52 = .ok (.getfield 33, 3) := dk_180_ (show cX8_bestToMend.data.toList[52]? = some 0xb4 from (LBX8_bestToMendr_3 4).trans (by decide +kernel)) (show cX8_bestToMend.data.toList[53]? = some 0x00 from (LBX8_bestToMendr_3 5).trans (by decide +kernel)) (show cX8_bestToMend.data.toList[54]? = some 0x21 from (LBX8_bestToMendr_3 6).trans (by decide +kernel)) (by decide)
theorem dX8_bestToMend_55 : decode cX8_bestToMend 55 = .ok (.aload_n 0, 1) := dk_42_ (show cX8_bestToMend.data.toList[55]? = some 0x2a from (LBX8_bestToMendr_3 7).trans (by decide +kernel))
theorem dX8_bestToMend_56 : decode cX8_bestToMend 56 = .ok (.getfield 29, 3) := dk_180_ (show cX8_bestToMend.data.toList[56]? = some 0xb4 from (LBX8_bestToMendr_3 8).trans (by decide +kernel)) (show cX8_bestToMend.data.toList[57]? = some 0x00 from (LBX8_bestToMendr_3 9).trans (by decide +kernel)) (show cX8_bestToMend.data.toList[58]? = some 0x1d from (LBX8_bestToMendr_3 10).trans (by decide +kernel)) (by decide)
theorem dX8_bestToMend_59 : decode cX8_bestToMend 59 = .ok (.aload_n 0, 1) := dk_42_ (show cX8_bestToMend.data.toList[59]? = some 0x2a from (LBX8_bestToMendr_3 11).trans (by decide +kernel))
theorem dX8_bestToMend_60 : decode cX8_bestToMend 60 = .ok (.getfield 12, 3) := dk_180_ (show cX8_bestToMend.data.toList[60]? = some 0xb4 from (LBX8_bestToMendr_3 12).trans (by decide +kernel)) (show cX8_bestToMend.data.toList[61]? = some 0x00 from (LBX8_bestToMendr_3 13).trans (by decide +kernel)) (show cX8_bestToMend.data.toList[62]? = some 0x0c from (LBX8_bestToMendr_3 14).trans (by decide +kernel)) (by decide)
theorem dX8_bestToMend_63 : decode cX8_bestToMend 63 = .ok (.iload 4, 2) := dk_21_ (show cX8_bestToMend.data.toList[63]? = some 0x15 from (LBX8_bestToMendr_3 15).trans (by decide +kernel)) (show cX8_bestToMend.data.toList[64]? = some 0x04 from (LBX8_bestToMendr_4 0).trans (by decide +kernel)) (by decide)
theorem dX8_bestToMend_65 : decode cX8_bestToMend 65 = .ok (.iload 5, 2) := dk_21_ (show cX8_bestToMend.data.toList[65]? = some 0x15 from (LBX8_bestToMendr_4 1).trans (by decide +kernel)) (show cX8_bestToMend.data.toList[66]? = some 0x05 from (LBX8_bestToMendr_4 2).trans (by decide +kernel)) (by decide)
theorem dX8_bestToMend_67 : decode cX8_bestToMend 67 = .ok (.invokevirtual 259, 3) := dk_182_ (show cX8_bestToMend.data.toList[67]? = some 0xb6 from (LBX8_bestToMendr_4 3).trans (by decide +kernel)) (show cX8_bestToMend.data.toList[68]? = some 0x01 from (LBX8_bestToMendr_4 4).trans (by decide +kernel)) (show cX8_bestToMend.data.toList[69]? = some 0x03 from (LBX8_bestToMendr_4 5).trans (by decide +kernel)) (by decide)
theorem dX8_bestToMend_70 : decode cX8_bestToMend 70 = .ok (.ifCond .eq 40, 3) := dk_153_ (show cX8_bestToMend.data.toList[70]? = some 0x99 from (LBX8_bestToMendr_4 6).trans (by decide +kernel)) (show cX8_bestToMend.data.toList[71]? = some 0x00 from (LBX8_bestToMendr_4 7).trans (by decide +kernel)) (show cX8_bestToMend.data.toList[72]? = some 0x28 from (LBX8_bestToMendr_4 8).trans (by decide +kernel)) (by decide)
theorem dX8_bestToMend_73 : decode cX8_bestToMend 73 = .ok (.iload_n 1, 1) := dk_27_ (show cX8_bestToMend.data.toList[73]? = some 0x1b from (LBX8_bestToMendr_4 9).trans (by decide +kernel))
theorem dX8_bestToMend_74 : decode cX8_bestToMend 74 = .ok (.aload_n 0, 1) := dk_42_ (show cX8_bestToMend.data.toList[74]? = some 0x2a from (LBX8_bestToMendr_4 10).trans (by decide +kernel))
theorem dX8_bestToMend_75 : decode cX8_bestToMend 75 = .ok (.getfield 33, 3) := dk_180_ (show cX8_bestToMend.data.toList[75]? = some 0xb4 from (LBX8_bestToMendr_4 11).trans (by decide +kernel)) (show cX8_bestToMend.data.toList[76]? = some 0x00 from (LBX8_bestToMendr_4 12).trans (by decide +kernel)) (show cX8_bestToMend.data.toList[77]? = some 0x21 from (LBX8_bestToMendr_4 13).trans (by decide +kernel)) (by decide)
theorem dX8_bestToMend_78 : decode cX8_bestToMend 78 = .ok (.aload_n 0, 1) := dk_42_ (show cX8_bestToMend.data.toList[78]? = some 0x2a from (LBX8_bestToMendr_4 14).trans (by decide +kernel))
theorem dX8_bestToMend_79 : decode cX8_bestToMend 79 = .ok (.getfield 12, 3) := dk_180_ (show cX8_bestToMend.data.toList[79]? = some 0xb4 from (LBX8_bestToMendr_4 15).trans (by decide +kernel)) (show cX8_bestToMend.data.toList[80]? = some 0x00 from (LBX8_bestToMendr_5 0).trans (by decide +kernel)) (show cX8_bestToMend.data.toList[81]? = some 0x0c from (LBX8_bestToMendr_5 1).trans (by decide +kernel)) (by decide)
theorem dX8_bestToMend_82 : decode cX8_bestToMend 82 = .ok (.invokevirtual 263, 3) := dk_182_ (show cX8_bestToMend.data.toList[82]? = some 0xb6 from (LBX8_bestToMendr_5 2).trans (by decide +kernel)) (show cX8_bestToMend.data.toList[83]? = some 0x01 from (LBX8_bestToMendr_5 3).trans (by decide +kernel)) (show cX8_bestToMend.data.toList[84]? = some 0x07 from (LBX8_bestToMendr_5 4).trans (by decide +kernel)) (by decide)
theorem dX8_bestToMend_85 : decode cX8_bestToMend 85 = .ok (.isub, 1) := dk_100_ (show cX8_bestToMend.data.toList[85]? = some 0x64 from (LBX8_bestToMendr_5 5).trans (by decide +kernel))
theorem dX8_bestToMend_86 : decode cX8_bestToMend 86 = .ok (.istore 6, 2) := dk_54_ (show cX8_bestToMend.data.toList[86]? = some 0x36 from (LBX8_bestToMendr_5 6).trans (by decide +kernel)) (show cX8_bestToMend.data.toList[87]? = some 0x06 from (LBX8_bestToMendr_5 7).trans (by decide +kernel)) (by decide)
theorem dX8_bestToMend_88 : decode cX8_bestToMend 88 = .ok (.iload_n 2, 1) := dk_28_ (show cX8_bestToMend.data.toList[88]? = some 0x1c from (LBX8_bestToMendr_5 8).trans (by decide +kernel))
theorem dX8_bestToMend_89 : decode cX8_bestToMend 89 = .ok (.ifCond .lt 9, 3) := dk_155_ (show cX8_bestToMend.data.toList[89]? = some 0x9b from (LBX8_bestToMendr_5 9).trans (by decide +kernel)) (show cX8_bestToMend.data.toList[90]? = some 0x00 from (LBX8_bestToMendr_5 10).trans (by decide +kernel)) (show cX8_bestToMend.data.toList[91]? = some 0x09 from (LBX8_bestToMendr_5 11).trans (by decide +kernel)) (by decide)
theorem dX8_bestToMend_92 : decode cX8_bestToMend 92 = .ok (.iload 6, 2) := dk_21_ (show cX8_bestToMend.data.toList[92]? = some 0x15 from (LBX8_bestToMendr_5 12).trans (by decide +kernel)) (show cX8_bestToMend.data.toList[93]? = some 0x06 from (LBX8_bestToMendr_5 13).trans (by decide +kernel)) (by decide)
theorem dX8_bestToMend_94 : decode cX8_bestToMend 94 = .ok (.iload_n 3, 1) := dk_29_ (show cX8_bestToMend.data.toList[94]? = some 0x1d from (LBX8_bestToMendr_5 14).trans (by decide +kernel))
theorem dX8_bestToMend_95 : decode cX8_bestToMend 95 = .ok (.if_icmp .le 15, 3) := dk_164_ (show cX8_bestToMend.data.toList[95]? = some 0xa4 from (LBX8_bestToMendr_5 15).trans (by decide +kernel)) (show cX8_bestToMend.data.toList[96]? = some 0x00 from (LBX8_bestToMendr_6 0).trans (by decide +kernel)) (show cX8_bestToMend.data.toList[97]? = some 0x0f from (LBX8_bestToMendr_6 1).trans (by decide +kernel)) (by decide)
theorem dX8_bestToMend_98 : decode cX8_bestToMend 98 = .ok (.bipush 10, 2) := dk_16_ (show cX8_bestToMend.data.toList[98]? = some 0x10 from (LBX8_bestToMendr_6 2).trans (by decide +kernel)) (show cX8_bestToMend.data.toList[99]? = some 0x0a from (LBX8_bestToMendr_6 3).trans (by decide +kernel)) (by decide)
theorem dX8_bestToMend_100 : decode cX8_bestToMend 100 = .ok (.iload 4, 2) := dk_21_ (show cX8_bestToMend.data.toList[100]? = some 0x15 from (LBX8_bestToMendr_6 4).trans (by decide +kernel)) (show cX8_bestToMend.data.toList[101]? = some 0x04 from (LBX8_bestToMendr_6 5).trans (by decide +kernel)) (by decide)
theorem dX8_bestToMend_102 : decode cX8_bestToMend 102 = .ok (.imul, 1) := dk_104_ (show cX8_bestToMend.data.toList[102]? = some 0x68 from (LBX8_bestToMendr_6 6).trans (by decide +kernel))
theorem dX8_bestToMend_103 : decode cX8_bestToMend 103 = .ok (.iload 5, 2) := dk_21_ (show cX8_bestToMend.data.toList[103]? = some 0x15 from (LBX8_bestToMendr_6 7).trans (by decide +kernel)) (show cX8_bestToMend.data.toList[104]? = some 0x05 from (LBX8_bestToMendr_6 8).trans (by decide +kernel)) (by decide)
theorem dX8_bestToMend_105 : decode cX8_bestToMend 105 = .ok (.iadd, 1) := dk_96_ (show cX8_bestToMend.data.toList[105]? = some 0x60 from (LBX8_bestToMendr_6 9).trans (by decide +kernel))
theorem dX8_bestToMend_106 : decode cX8_bestToMend 106 = .ok (.istore_n 2, 1) := dk_61_ (show cX8_bestToMend.data.toList[106]? = some 0x3d from (LBX8_bestToMendr_6 10).trans (by decide +kernel))
theorem dX8_bestToMend_107 : decode cX8_bestToMend 107 = .ok (.iload 6, 2) := dk_21_ (show cX8_bestToMend.data.toList[107]? = some 0x15 from (LBX8_bestToMendr_6 11).trans (by decide +kernel)) (show cX8_bestToMend.data.toList[108]? = some 0x06 from (LBX8_bestToMendr_6 12).trans (by decide +kernel)) (by decide)
theorem dX8_bestToMend_109 : decode cX8_bestToMend 109 = .ok (.istore_n 3, 1) := dk_62_ (show cX8_bestToMend.data.toList[109]? = some 0x3e from (LBX8_bestToMendr_6 13).trans (by decide +kernel))
theorem dX8_bestToMend_110 : decode cX8_bestToMend 110 = .ok (.iinc 5 1, 3) := dk_132_ (show cX8_bestToMend.data.toList[110]? = some 0x84 from (LBX8_bestToMendr_6 14).trans (by decide +kernel)) (show cX8_bestToMend.data.toList[111]? = some 0x05 from (LBX8_bestToMendr_6 15).trans (by decide +kernel)) (show cX8_bestToMend.data.toList[112]? = some 0x01 from (LBX8_bestToMendr_7 0).trans (by decide +kernel)) (by decide) (by decide)
theorem dX8_bestToMend_113 : decode cX8_bestToMend 113 = .ok (.goto (-88), 3) := dk_167_ (show cX8_bestToMend.data.toList[113]? = some 0xa7 from (LBX8_bestToMendr_7 1).trans (by decide +kernel)) (show cX8_bestToMend.data.toList[114]? = some 0xff from (LBX8_bestToMendr_7 2).trans (by decide +kernel)) (show cX8_bestToMend.data.toList[115]? = some 0xa8 from (LBX8_bestToMendr_7 3).trans (by decide +kernel)) (by decide)
theorem dX8_bestToMend_116 : decode cX8_bestToMend 116 = .ok (.iinc 4 1, 3) := dk_132_ (show cX8_bestToMend.data.toList[116]? = some 0x84 from (LBX8_bestToMendr_7 4).trans (by decide +kernel)) (show cX8_bestToMend.data.toList[117]? = some 0x04 from (LBX8_bestToMendr_7 5).trans (by decide +kernel)) (show cX8_bestToMend.data.toList[118]? = some 0x01 from (LBX8_bestToMendr_7 6).trans (by decide +kernel)) (by decide) (by decide)
theorem dX8_bestToMend_119 : decode cX8_bestToMend 119 = .ok (.goto (-112), 3) := dk_167_ (show cX8_bestToMend.data.toList[119]? = some 0xa7 from (LBX8_bestToMendr_7 7).trans (by decide +kernel)) (show cX8_bestToMend.data.toList[120]? = some 0xff from (LBX8_bestToMendr_7 8).trans (by decide +kernel)) (show cX8_bestToMend.data.toList[121]? = some 0x90 from (LBX8_bestToMendr_7 9).trans (by decide +kernel)) (by decide)
theorem dX8_bestToMend_122 : decode cX8_bestToMend 122 = .ok (.iload_n 2, 1) := dk_28_ (show cX8_bestToMend.data.toList[122]? = some 0x1c from (LBX8_bestToMendr_7 10).trans (by decide +kernel))
theorem dX8_bestToMend_123 : decode cX8_bestToMend 123 = .ok (.ireturn, 1) := dk_172_ (show cX8_bestToMend.data.toList[123]? = some 0xac from (LBX8_bestToMendr_7 11).trans (by decide +kernel))
def LRX8_mend_4 : List UInt8 := []
def LBX8_mend_3 : List UInt8 := [0x71, 0xb6, 0x00, 0x50, 0xa7, 0x00, 0x04, 0x1c, 0xac]
def LRX8_mend_3 : List UInt8 := LBX8_mend_3 ++ LRX8_mend_4
def LBX8_mend_2 : List UInt8 := [0x02, 0xa7, 0x00, 0x08, 0x2a, 0x1b, 0xb6, 0x01, 0x0a, 0x3d, 0x1c, 0x9c, 0x00, 0x0c, 0x2a, 0x12]
def LRX8_mend_2 : List UInt8 := LBX8_mend_2 ++ LRX8_mend_3
def LBX8_mend_1 : List UInt8 := [0x00, 0x1d, 0x2a, 0xb4, 0x00, 0x0c, 0xb6, 0x01, 0x07, 0x3c, 0x1b, 0x12, 0x9a, 0xa0, 0x00, 0x07]
def LRX8_mend_1 : List UInt8 := LBX8_mend_1 ++ LRX8_mend_2
def LBX8_mend_0 : List UInt8 := [0x2a, 0xb6, 0x00, 0x80, 0x99, 0x00, 0x0a, 0x2a, 0x12, 0x84, 0xb6, 0x00, 0x50, 0xac, 0x2a, 0xb4]
def LRX8_mend_0 : List UInt8 := LBX8_mend_0 ++ LRX8_mend_1
set_option maxRecDepth 100000 in
theorem LBX8_mend_eq : cX8_mend.data.toList = LRX8_mend_0 := by decide +kernel
theorem LBX8_mendr_0 (k : Nat) : cX8_mend.data.toList[0 + k]? = LRX8_mend_0[k]? := by rw [LBX8_mend_eq, Nat.zero_add]
theorem LBX8_mendr_1 (k : Nat) : cX8_mend.data.toList[16 + k]? = LRX8_mend_1[k]? := by
  have h := LBX8_mendr_0 (16 + k)
  rw [show 0 + (16 + k) = 16 + k by omega] at h
  rw [h]
  exact (List.getElem?_append_right (l₁ := LBX8_mend_0) (l₂ := LRX8_mend_1) (show 16 ≤ 16 + k by omega)).trans (congrArg (fun i => LRX8_mend_1[i]?) (show 16 + k - 16 = k by omega))
theorem LBX8_mendr_2 (k : Nat) : cX8_mend.data.toList[32 + k]? = LRX8_mend_2[k]? := by
  have h := LBX8_mendr_1 (16 + k)
  rw [show 16 + (16 + k) = 32 + k by omega] at h
  rw [h]
  exact (List.getElem?_append_right (l₁ := LBX8_mend_1) (l₂ := LRX8_mend_2) (show 16 ≤ 16 + k by omega)).trans (congrArg (fun i => LRX8_mend_2[i]?) (show 16 + k - 16 = k by omega))
theorem LBX8_mendr_3 (k : Nat) : cX8_mend.data.toList[48 + k]? = LRX8_mend_3[k]? := by
  have h := LBX8_mendr_2 (16 + k)
  rw [show 32 + (16 + k) = 48 + k by omega] at h
  rw [h]
  exact (List.getElem?_append_right (l₁ := LBX8_mend_2) (l₂ := LRX8_mend_3) (show 16 ≤ 16 + k by omega)).trans (congrArg (fun i => LRX8_mend_3[i]?) (show 16 + k - 16 = k by omega))
theorem dX8_mend_0 : decode cX8_mend 0 = .ok (.aload_n 0, 1) := dk_42_ (show cX8_mend.data.toList[0]? = some 0x2a from (LBX8_mendr_0 0).trans (by decide +kernel))
theorem dX8_mend_1 : decode cX8_mend 1 = .ok (.invokevirtual 128, 3) := dk_182_ (show cX8_mend.data.toList[1]? = some 0xb6 from (LBX8_mendr_0 1).trans (by decide +kernel)) (show cX8_mend.data.toList[2]? = some 0x00 from (LBX8_mendr_0 2).trans (by decide +kernel)) (show cX8_mend.data.toList[3]? = some 0x80 from (LBX8_mendr_0 3).trans (by decide +kernel)) (by decide)
theorem dX8_mend_4 : decode cX8_mend 4 = .ok (.ifCond .eq 10, 3) := dk_153_ (show cX8_mend.data.toList[4]? = some 0x99 from (LBX8_mendr_0 4).trans (by decide +kernel)) (show cX8_mend.data.toList[5]? = some 0x00 from (LBX8_mendr_0 5).trans (by decide +kernel)) (show cX8_mend.data.toList[6]? = some 0x0a from (LBX8_mendr_0 6).trans (by decide +kernel)) (by decide)
theorem dX8_mend_7 : decode cX8_mend 7 = .ok (.aload_n 0, 1) := dk_42_ (show cX8_mend.data.toList[7]? = some 0x2a from (LBX8_mendr_0 7).trans (by decide +kernel))
theorem dX8_mend_8 : decode cX8_mend 8 = .ok (.ldc 132, 2) := dk_18_ (show cX8_mend.data.toList[8]? = some 0x12 from (LBX8_mendr_0 8).trans (by decide +kernel)) (show cX8_mend.data.toList[9]? = some 0x84 from (LBX8_mendr_0 9).trans (by decide +kernel)) (by decide)
theorem dX8_mend_10 : decode cX8_mend 10 = .ok (.invokevirtual 80, 3) := dk_182_ (show cX8_mend.data.toList[10]? = some 0xb6 from (LBX8_mendr_0 10).trans (by decide +kernel)) (show cX8_mend.data.toList[11]? = some 0x00 from (LBX8_mendr_0 11).trans (by decide +kernel)) (show cX8_mend.data.toList[12]? = some 0x50 from (LBX8_mendr_0 12).trans (by decide +kernel)) (by decide)
theorem dX8_mend_13 : decode cX8_mend 13 = .ok (.ireturn, 1) := dk_172_ (show cX8_mend.data.toList[13]? = some 0xac from (LBX8_mendr_0 13).trans (by decide +kernel))
theorem dX8_mend_14 : decode cX8_mend 14 = .ok (.aload_n 0, 1) := dk_42_ (show cX8_mend.data.toList[14]? = some 0x2a from (LBX8_mendr_0 14).trans (by decide +kernel))
theorem dX8_mend_15 : decode cX8_mend 15 = .ok (.getfield 29, 3) := dk_180_ (show cX8_mend.data.toList[15]? = some 0xb4 from (LBX8_mendr_0 15).trans (by decide +kernel)) (show cX8_mend.data.toList[16]? = some 0x00 from (LBX8_mendr_1 0).trans (by decide +kernel)) (show cX8_mend.data.toList[17]? = some 0x1d from (LBX8_mendr_1 1).trans (by decide +kernel)) (by decide)
theorem dX8_mend_18 : decode cX8_mend 18 = .ok (.aload_n 0, 1) := dk_42_ (show cX8_mend.data.toList[18]? = some 0x2a from (LBX8_mendr_1 2).trans (by decide +kernel))
theorem dX8_mend_19 : decode cX8_mend 19 = .ok (.getfield 12, 3) := dk_180_ (show cX8_mend.data.toList[19]? = some 0xb4 from (LBX8_mendr_1 3).trans (by decide +kernel)) (show cX8_mend.data.toList[20]? = some 0x00 from (LBX8_mendr_1 4).trans (by decide +kernel)) (show cX8_mend.data.toList[21]? = some 0x0c from (LBX8_mendr_1 5).trans (by decide +kernel)) (by decide)
theorem dX8_mend_22 : decode cX8_mend 22 = .ok (.invokevirtual 263, 3) := dk_182_ (show cX8_mend.data.toList[22]? = some 0xb6 from (LBX8_mendr_1 6).trans (by decide +kernel)) (show cX8_mend.data.toList[23]? = some 0x01 from (LBX8_mendr_1 7).trans (by decide +kernel)) (show cX8_mend.data.toList[24]? = some 0x07 from (LBX8_mendr_1 8).trans (by decide +kernel)) (by decide)
theorem dX8_mend_25 : decode cX8_mend 25 = .ok (.istore_n 1, 1) := dk_60_ (show cX8_mend.data.toList[25]? = some 0x3c from (LBX8_mendr_1 9).trans (by decide +kernel))
theorem dX8_mend_26 : decode cX8_mend 26 = .ok (.iload_n 1, 1) := dk_27_ (show cX8_mend.data.toList[26]? = some 0x1b from (LBX8_mendr_1 10).trans (by decide +kernel))
theorem dX8_mend_27 : decode cX8_mend 27 = .ok (.ldc 154, 2) := dk_18_ (show cX8_mend.data.toList[27]? = some 0x12 from (LBX8_mendr_1 11).trans (by decide +kernel)) (show cX8_mend.data.toList[28]? = some 0x9a from (LBX8_mendr_1 12).trans (by decide +kernel)) (by decide)
theorem dX8_mend_29 : decode cX8_mend 29 = .ok (.if_icmp .ne 7, 3) := dk_160_ (show cX8_mend.data.toList[29]? = some 0xa0 from (LBX8_mendr_1 13).trans (by decide +kernel)) (show cX8_mend.data.toList[30]? = some 0x00 from (LBX8_mendr_1 14).trans (by decide +kernel)) (show cX8_mend.data.toList[31]? = some 0x07 from (LBX8_mendr_1 15).trans (by decide +kernel)) (by decide)
theorem dX8_mend_32 : decode cX8_mend 32 = .ok (.iconst (-1), 1) := dk_2_ (show cX8_mend.data.toList[32]? = some 0x02 from (LBX8_mendr_2 0).trans (by decide +kernel))
theorem dX8_mend_33 : decode cX8_mend 33 = .ok (.goto 8, 3) := dk_167_ (show cX8_mend.data.toList[33]? = some 0xa7 from (LBX8_mendr_2 1).trans (by decide +kernel)) (show cX8_mend.data.toList[34]? = some 0x00 from (LBX8_mendr_2 2).trans (by decide +kernel)) (show cX8_mend.data.toList[35]? = some 0x08 from (LBX8_mendr_2 3).trans (by decide +kernel)) (by decide)
theorem dX8_mend_36 : decode cX8_mend 36 = .ok (.aload_n 0, 1) := dk_42_ (show cX8_mend.data.toList[36]? = some 0x2a from (LBX8_mendr_2 4).trans (by decide +kernel))
theorem dX8_mend_37 : decode cX8_mend 37 = .ok (.iload_n 1, 1) := dk_27_ (show cX8_mend.data.toList[37]? = some 0x1b from (LBX8_mendr_2 5).trans (by decide +kernel))
theorem dX8_mend_38 : decode cX8_mend 38 = .ok (.invokevirtual 266, 3) := dk_182_ (show cX8_mend.data.toList[38]? = some 0xb6 from (LBX8_mendr_2 6).trans (by decide +kernel)) (show cX8_mend.data.toList[39]? = some 0x01 from (LBX8_mendr_2 7).trans (by decide +kernel)) (show cX8_mend.data.toList[40]? = some 0x0a from (LBX8_mendr_2 8).trans (by decide +kernel)) (by decide)
theorem dX8_mend_41 : decode cX8_mend 41 = .ok (.istore_n 2, 1) := dk_61_ (show cX8_mend.data.toList[41]? = some 0x3d from (LBX8_mendr_2 9).trans (by decide +kernel))
theorem dX8_mend_42 : decode cX8_mend 42 = .ok (.iload_n 2, 1) := dk_28_ (show cX8_mend.data.toList[42]? = some 0x1c from (LBX8_mendr_2 10).trans (by decide +kernel))
theorem dX8_mend_43 : decode cX8_mend 43 = .ok (.ifCond .ge 12, 3) := dk_156_ (show cX8_mend.data.toList[43]? = some 0x9c from (LBX8_mendr_2 11).trans (by decide +kernel)) (show cX8_mend.data.toList[44]? = some 0x00 from (LBX8_mendr_2 12).trans (by decide +kernel)) (show cX8_mend.data.toList[45]? = some 0x0c from (LBX8_mendr_2 13).trans (by decide +kernel)) (by decide)
theorem dX8_mend_46 : decode cX8_mend 46 = .ok (.aload_n 0, 1) := dk_42_ (show cX8_mend.data.toList[46]? = some 0x2a from (LBX8_mendr_2 14).trans (by decide +kernel))
theorem dX8_mend_47 : decode cX8_mend 47 = .ok (.ldc 113, 2) := dk_18_ (show cX8_mend.data.toList[47]? = some 0x12 from (LBX8_mendr_2 15).trans (by decide +kernel)) (show cX8_mend.data.toList[48]? = some 0x71 from (LBX8_mendr_3 0).trans (by decide +kernel)) (by decide)
theorem dX8_mend_49 : decode cX8_mend 49 = .ok (.invokevirtual 80, 3) := dk_182_ (show cX8_mend.data.toList[49]? = some 0xb6 from (LBX8_mendr_3 1).trans (by decide +kernel)) (show cX8_mend.data.toList[50]? = some 0x00 from (LBX8_mendr_3 2).trans (by decide +kernel)) (show cX8_mend.data.toList[51]? = some 0x50 from (LBX8_mendr_3 3).trans (by decide +kernel)) (by decide)
theorem dX8_mend_52 : decode cX8_mend 52 = .ok (.goto 4, 3) := dk_167_ (show cX8_mend.data.toList[52]? = some 0xa7 from (LBX8_mendr_3 4).trans (by decide +kernel)) (show cX8_mend.data.toList[53]? = some 0x00 from (LBX8_mendr_3 5).trans (by decide +kernel)) (show cX8_mend.data.toList[54]? = some 0x04 from (LBX8_mendr_3 6).trans (by decide +kernel)) (by decide)
theorem dX8_mend_55 : decode cX8_mend 55 = .ok (.iload_n 2, 1) := dk_28_ (show cX8_mend.data.toList[55]? = some 0x1c from (LBX8_mendr_3 7).trans (by decide +kernel))
theorem dX8_mend_56 : decode cX8_mend 56 = .ok (.ireturn, 1) := dk_172_ (show cX8_mend.data.toList[56]? = some 0xac from (LBX8_mendr_3 8).trans (by decide +kernel))
def LRX8_goes_4 : List UInt8 := []
def LBX8_goes_3 : List UInt8 := [0x00, 0x50, 0xa7, 0x00, 0x04, 0x1d, 0xac]
def LRX8_goes_3 : List UInt8 := LBX8_goes_3 ++ LRX8_goes_4
def LBX8_goes_2 : List UInt8 := [0x00, 0x0c, 0x1b, 0x1c, 0xb6, 0x01, 0x0d, 0x3e, 0x1d, 0x9c, 0x00, 0x0c, 0x2a, 0x12, 0x71, 0xb6]
def LRX8_goes_2 : List UInt8 := LBX8_goes_2 ++ LRX8_goes_3
def LBX8_goes_1 : List UInt8 := [0xe8, 0xb8, 0x00, 0x5b, 0x9a, 0x00, 0x0a, 0x2a, 0x12, 0x5f, 0xb6, 0x00, 0x50, 0xac, 0x2a, 0xb4]
def LRX8_goes_1 : List UInt8 := LBX8_goes_1 ++ LRX8_goes_2
def LBX8_goes_0 : List UInt8 := [0x2a, 0xb4, 0x00, 0x0c, 0x1b, 0x85, 0xb6, 0x00, 0x57, 0x99, 0x00, 0x0e, 0x1c, 0x03, 0x11, 0x03]
def LRX8_goes_0 : List UInt8 := LBX8_goes_0 ++ LRX8_goes_1
set_option maxRecDepth 100000 in
theorem LBX8_goes_eq : cX8_goes.data.toList = LRX8_goes_0 := by decide +kernel
theorem LBX8_goesr_0 (k : Nat) : cX8_goes.data.toList[0 + k]? = LRX8_goes_0[k]? := by rw [LBX8_goes_eq, Nat.zero_add]
theorem LBX8_goesr_1 (k : Nat) : cX8_goes.data.toList[16 + k]? = LRX8_goes_1[k]? := by
  have h := LBX8_goesr_0 (16 + k)
  rw [show 0 + (16 + k) = 16 + k by omega] at h
  rw [h]
  exact (List.getElem?_append_right (l₁ := LBX8_goes_0) (l₂ := LRX8_goes_1) (show 16 ≤ 16 + k by omega)).trans (congrArg (fun i => LRX8_goes_1[i]?) (show 16 + k - 16 = k by omega))
theorem LBX8_goesr_2 (k : Nat) : cX8_goes.data.toList[32 + k]? = LRX8_goes_2[k]? := by
  have h := LBX8_goesr_1 (16 + k)
  rw [show 16 + (16 + k) = 32 + k by omega] at h
  rw [h]
  exact (List.getElem?_append_right (l₁ := LBX8_goes_1) (l₂ := LRX8_goes_2) (show 16 ≤ 16 + k by omega)).trans (congrArg (fun i => LRX8_goes_2[i]?) (show 16 + k - 16 = k by omega))
theorem LBX8_goesr_3 (k : Nat) : cX8_goes.data.toList[48 + k]? = LRX8_goes_3[k]? := by
  have h := LBX8_goesr_2 (16 + k)
  rw [show 32 + (16 + k) = 48 + k by omega] at h
  rw [h]
  exact (List.getElem?_append_right (l₁ := LBX8_goes_2) (l₂ := LRX8_goes_3) (show 16 ≤ 16 + k by omega)).trans (congrArg (fun i => LRX8_goes_3[i]?) (show 16 + k - 16 = k by omega))
theorem dX8_goes_0 : decode cX8_goes 0 = .ok (.aload_n 0, 1) := dk_42_ (show cX8_goes.data.toList[0]? = some 0x2a from (LBX8_goesr_0 0).trans (by decide +kernel))
theorem dX8_goes_1 : decode cX8_goes 1 = .ok (.getfield 12, 3) := dk_180_ (show cX8_goes.data.toList[1]? = some 0xb4 from (LBX8_goesr_0 1).trans (by decide +kernel)) (show cX8_goes.data.toList[2]? = some 0x00 from (LBX8_goesr_0 2).trans (by decide +kernel)) (show cX8_goes.data.toList[3]? = some 0x0c from (LBX8_goesr_0 3).trans (by decide +kernel)) (by decide)
theorem dX8_goes_4 : decode cX8_goes 4 = .ok (.iload_n 1, 1) := dk_27_ (show cX8_goes.data.toList[4]? = some 0x1b from (LBX8_goesr_0 4).trans (by decide +kernel))
theorem dX8_goes_5 : decode cX8_goes 5 = .ok (.i2l, 1) := dk_133_ (show cX8_goes.data.toList[5]? = some 0x85 from (LBX8_goesr_0 5).trans (by decide +kernel))
theorem dX8_goes_6 : decode cX8_goes 6 = .ok (.invokevirtual 87, 3) := dk_182_ (show cX8_goes.data.toList[6]? = some 0xb6 from (LBX8_goesr_0 6).trans (by decide +kernel)) (show cX8_goes.data.toList[7]? = some 0x00 from (LBX8_goesr_0 7).trans (by decide +kernel)) (show cX8_goes.data.toList[8]? = some 0x57 from (LBX8_goesr_0 8).trans (by decide +kernel)) (by decide)
theorem dX8_goes_9 : decode cX8_goes 9 = .ok (.ifCond .eq 14, 3) := dk_153_ (show cX8_goes.data.toList[9]? = some 0x99 from (LBX8_goesr_0 9).trans (by decide +kernel)) (show cX8_goes.data.toList[10]? = some 0x00 from (LBX8_goesr_0 10).trans (by decide +kernel)) (show cX8_goes.data.toList[11]? = some 0x0e from (LBX8_goesr_0 11).trans (by decide +kernel)) (by decide)
theorem dX8_goes_12 : decode cX8_goes 12 = .ok (.iload_n 2, 1) := dk_28_ (show cX8_goes.data.toList[12]? = some 0x1c from (LBX8_goesr_0 12).trans (by decide +kernel))
theorem dX8_goes_13 : decode cX8_goes 13 = .ok (.iconst 0, 1) := dk_3_ (show cX8_goes.data.toList[13]? = some 0x03 from (LBX8_goesr_0 13).trans (by decide +kernel))
theorem dX8_goes_14 : decode cX8_goes 14 = .ok (.sipush 1000, 3) := dk_17_ (show cX8_goes.data.toList[14]? = some 0x11 from (LBX8_goesr_0 14).trans (by decide +kernel)) (show cX8_goes.data.toList[15]? = some 0x03 from (LBX8_goesr_0 15).trans (by decide +kernel)) (show cX8_goes.data.toList[16]? = some 0xe8 from (LBX8_goesr_1 0).trans (by decide +kernel)) (by decide)
theorem dX8_goes_17 : decode cX8_goes 17 = .ok (.invokestatic 91, 3) := dk_184_ (show cX8_goes.data.toList[17]? = some 0xb8 from (LBX8_goesr_1 1).trans (by decide +kernel)) (show cX8_goes.data.toList[18]? = some 0x00 from (LBX8_goesr_1 2).trans (by decide +kernel)) (show cX8_goes.data.toList[19]? = some 0x5b from (LBX8_goesr_1 3).trans (by decide +kernel)) (by decide)
theorem dX8_goes_20 : decode cX8_goes 20 = .ok (.ifCond .ne 10, 3) := dk_154_ (show cX8_goes.data.toList[20]? = some 0x9a from (LBX8_goesr_1 4).trans (by decide +kernel)) (show cX8_goes.data.toList[21]? = some 0x00 from (LBX8_goesr_1 5).trans (by decide +kernel)) (show cX8_goes.data.toList[22]? = some 0x0a from (LBX8_goesr_1 6).trans (by decide +kernel)) (by decide)
theorem dX8_goes_23 : decode cX8_goes 23 = .ok (.aload_n 0, 1) := dk_42_ (show cX8_goes.data.toList[23]? = some 0x2a from (LBX8_goesr_1 7).trans (by decide +kernel))
theorem dX8_goes_24 : decode cX8_goes 24 = .ok (.ldc 95, 2) := dk_18_ (show cX8_goes.data.toList[24]? = some 0x12 from (LBX8_goesr_1 8).trans (by decide +kernel)) (show cX8_goes.data.toList[25]? = some 0x5f from (LBX8_goesr_1 9).trans (by decide +kernel)) (by decide)
theorem dX8_goes_26 : decode cX8_goes 26 = .ok (.invokevirtual 80, 3) := dk_182_ (show cX8_goes.data.toList[26]? = some 0xb6 from (LBX8_goesr_1 10).trans (by decide +kernel)) (show cX8_goes.data.toList[27]? = some 0x00 from (LBX8_goesr_1 11).trans (by decide +kernel)) (show cX8_goes.data.toList[28]? = some 0x50 from (LBX8_goesr_1 12).trans (by decide +kernel)) (by decide)
theorem dX8_goes_29 : decode cX8_goes 29 = .ok (.ireturn, 1) := dk_172_ (show cX8_goes.data.toList[29]? = some 0xac from (LBX8_goesr_1 13).trans (by decide +kernel))
theorem dX8_goes_30 : decode cX8_goes 30 = .ok (.aload_n 0, 1) := dk_42_ (show cX8_goes.data.toList[30]? = some 0x2a from (LBX8_goesr_1 14).trans (by decide +kernel))
theorem dX8_goes_31 : decode cX8_goes 31 = .ok (.getfield 12, 3) := dk_180_ (show cX8_goes.data.toList[31]? = some 0xb4 from (LBX8_goesr_1 15).trans (by decide +kernel)) (show cX8_goes.data.toList[32]? = some 0x00 from (LBX8_goesr_2 0).trans (by decide +kernel)) (show cX8_goes.data.toList[33]? = some 0x0c from (LBX8_goesr_2 1).trans (by decide +kernel)) (by decide)
theorem dX8_goes_34 : decode cX8_goes 34 = .ok (.iload_n 1, 1) := dk_27_ (show cX8_goes.data.toList[34]? = some 0x1b from (LBX8_goesr_2 2).trans (by decide +kernel))
theorem dX8_goes_35 : decode cX8_goes 35 = .ok (.iload_n 2, 1) := dk_28_ (show cX8_goes.data.toList[35]? = some 0x1c from (LBX8_goesr_2 3).trans (by decide +kernel))
theorem dX8_goes_36 : decode cX8_goes 36 = .ok (.invokevirtual 269, 3) := dk_182_ (show cX8_goes.data.toList[36]? = some 0xb6 from (LBX8_goesr_2 4).trans (by decide +kernel)) (show cX8_goes.data.toList[37]? = some 0x01 from (LBX8_goesr_2 5).trans (by decide +kernel)) (show cX8_goes.data.toList[38]? = some 0x0d from (LBX8_goesr_2 6).trans (by decide +kernel)) (by decide)
theorem dX8_goes_39 : decode cX8_goes 39 = .ok (.istore_n 3, 1) := dk_62_ (show cX8_goes.data.toList[39]? = some 0x3e from (LBX8_goesr_2 7).trans (by decide +kernel))
theorem dX8_goes_40 : decode cX8_goes 40 = .ok (.iload_n 3, 1) := dk_29_ (show cX8_goes.data.toList[40]? = some 0x1d from (LBX8_goesr_2 8).trans (by decide +kernel))
theorem dX8_goes_41 : decode cX8_goes 41 = .ok (.ifCond .ge 12, 3) := dk_156_ (show cX8_goes.data.toList[41]? = some 0x9c from (LBX8_goesr_2 9).trans (by decide +kernel)) (show cX8_goes.data.toList[42]? = some 0x00 from (LBX8_goesr_2 10).trans (by decide +kernel)) (show cX8_goes.data.toList[43]? = some 0x0c from (LBX8_goesr_2 11).trans (by decide +kernel)) (by decide)
theorem dX8_goes_44 : decode cX8_goes 44 = .ok (.aload_n 0, 1) := dk_42_ (show cX8_goes.data.toList[44]? = some 0x2a from (LBX8_goesr_2 12).trans (by decide +kernel))
theorem dX8_goes_45 : decode cX8_goes 45 = .ok (.ldc 113, 2) := dk_18_ (show cX8_goes.data.toList[45]? = some 0x12 from (LBX8_goesr_2 13).trans (by decide +kernel)) (show cX8_goes.data.toList[46]? = some 0x71 from (LBX8_goesr_2 14).trans (by decide +kernel)) (by decide)
theorem dX8_goes_47 : decode cX8_goes 47 = .ok (.invokevirtual 80, 3) := dk_182_ (show cX8_goes.data.toList[47]? = some 0xb6 from (LBX8_goesr_2 15).trans (by decide +kernel)) (show cX8_goes.data.toList[48]? = some 0x00 from (LBX8_goesr_3 0).trans (by decide +kernel)) (show cX8_goes.data.toList[49]? = some 0x50 from (LBX8_goesr_3 1).trans (by decide +kernel)) (by decide)
theorem dX8_goes_50 : decode cX8_goes 50 = .ok (.goto 4, 3) := dk_167_ (show cX8_goes.data.toList[50]? = some 0xa7 from (LBX8_goesr_3 2).trans (by decide +kernel)) (show cX8_goes.data.toList[51]? = some 0x00 from (LBX8_goesr_3 3).trans (by decide +kernel)) (show cX8_goes.data.toList[52]? = some 0x04 from (LBX8_goesr_3 4).trans (by decide +kernel)) (by decide)
theorem dX8_goes_53 : decode cX8_goes 53 = .ok (.iload_n 3, 1) := dk_29_ (show cX8_goes.data.toList[53]? = some 0x1d from (LBX8_goesr_3 5).trans (by decide +kernel))
theorem dX8_goes_54 : decode cX8_goes 54 = .ok (.ireturn, 1) := dk_172_ (show cX8_goes.data.toList[54]? = some 0xac from (LBX8_goesr_3 6).trans (by decide +kernel))
theorem dX8_hollow_0 : decode cX8_hollow 0 = .ok (.aload_n 0, 1) := dk_42_ (show cX8_hollow.data.toList[0]? = some 0x2a from by decide +kernel)
theorem dX8_hollow_1 : decode cX8_hollow 1 = .ok (.getfield 12, 3) := dk_180_ (show cX8_hollow.data.toList[1]? = some 0xb4 from by decide +kernel) (show cX8_hollow.data.toList[2]? = some 0x00 from by decide +kernel) (show cX8_hollow.data.toList[3]? = some 0x0c from by decide +kernel) (by decide)
theorem dX8_hollow_4 : decode cX8_hollow 4 = .ok (.invokevirtual 272, 3) := dk_182_ (show cX8_hollow.data.toList[4]? = some 0xb6 from by decide +kernel) (show cX8_hollow.data.toList[5]? = some 0x01 from by decide +kernel) (show cX8_hollow.data.toList[6]? = some 0x10 from by decide +kernel) (by decide)
theorem dX8_hollow_7 : decode cX8_hollow 7 = .ok (.ireturn, 1) := dk_172_ (show cX8_hollow.data.toList[7]? = some 0xac from by decide +kernel)
def LRX8_feed_5 : List UInt8 := []
def LBX8_feed_4 : List UInt8 := [0xff, 0xa7, 0xff, 0xe8, 0x2a, 0xb4, 0x00, 0x3c, 0xb4, 0x01, 0x13, 0xac]
def LRX8_feed_4 : List UInt8 := LBX8_feed_4 ++ LRX8_feed_5
def LBX8_feed_3 : List UInt8 := [0x3c, 0x1b, 0x10, 0x08, 0x1d, 0x68, 0x7c, 0x11, 0x00, 0xff, 0x7e, 0xb6, 0x01, 0x16, 0x84, 0x03]
def LRX8_feed_3 : List UInt8 := LBX8_feed_3 ++ LRX8_feed_4
def LBX8_feed_2 : List UInt8 := [0x4f, 0xb6, 0x00, 0x50, 0xac, 0x1c, 0x04, 0x64, 0x3e, 0x1d, 0x9b, 0x00, 0x1a, 0x2a, 0xb4, 0x00]
def LRX8_feed_2 : List UInt8 := LBX8_feed_2 ++ LRX8_feed_3
def LBX8_feed_1 : List UInt8 := [0x2a, 0xb4, 0x00, 0x3c, 0xb4, 0x01, 0x13, 0x1c, 0x60, 0x10, 0x78, 0xa4, 0x00, 0x0a, 0x2a, 0x12]
def LRX8_feed_1 : List UInt8 := LBX8_feed_1 ++ LRX8_feed_2
def LBX8_feed_0 : List UInt8 := [0x1c, 0x04, 0x07, 0xb8, 0x00, 0x5b, 0x9a, 0x00, 0x0a, 0x2a, 0x12, 0x5f, 0xb6, 0x00, 0x50, 0xac]
def LRX8_feed_0 : List UInt8 := LBX8_feed_0 ++ LRX8_feed_1
set_option maxRecDepth 100000 in
theorem LBX8_feed_eq : cX8_feed.data.toList = LRX8_feed_0 := by decide +kernel
theorem LBX8_feedr_0 (k : Nat) : cX8_feed.data.toList[0 + k]? = LRX8_feed_0[k]? := by rw [LBX8_feed_eq, Nat.zero_add]
theorem LBX8_feedr_1 (k : Nat) : cX8_feed.data.toList[16 + k]? = LRX8_feed_1[k]? := by
  have h := LBX8_feedr_0 (16 + k)
  rw [show 0 + (16 + k) = 16 + k by omega] at h
  rw [h]
  exact (List.getElem?_append_right (l₁ := LBX8_feed_0) (l₂ := LRX8_feed_1) (show 16 ≤ 16 + k by omega)).trans (congrArg (fun i => LRX8_feed_1[i]?) (show 16 + k - 16 = k by omega))
theorem LBX8_feedr_2 (k : Nat) : cX8_feed.data.toList[32 + k]? = LRX8_feed_2[k]? := by
  have h := LBX8_feedr_1 (16 + k)
  rw [show 16 + (16 + k) = 32 + k by omega] at h
  rw [h]
  exact (List.getElem?_append_right (l₁ := LBX8_feed_1) (l₂ := LRX8_feed_2) (show 16 ≤ 16 + k by omega)).trans (congrArg (fun i => LRX8_feed_2[i]?) (show 16 + k - 16 = k by omega))
theorem LBX8_feedr_3 (k : Nat) : cX8_feed.data.toList[48 + k]? = LRX8_feed_3[k]? := by
  have h := LBX8_feedr_2 (16 + k)
  rw [show 32 + (16 + k) = 48 + k by omega] at h
  rw [h]
  exact (List.getElem?_append_right (l₁ := LBX8_feed_2) (l₂ := LRX8_feed_3) (show 16 ≤ 16 + k by omega)).trans (congrArg (fun i => LRX8_feed_3[i]?) (show 16 + k - 16 = k by omega))
theorem LBX8_feedr_4 (k : Nat) : cX8_feed.data.toList[64 + k]? = LRX8_feed_4[k]? := by
  have h := LBX8_feedr_3 (16 + k)
  rw [show 48 + (16 + k) = 64 + k by omega] at h
  rw [h]
  exact (List.getElem?_append_right (l₁ := LBX8_feed_3) (l₂ := LRX8_feed_4) (show 16 ≤ 16 + k by omega)).trans (congrArg (fun i => LRX8_feed_4[i]?) (show 16 + k - 16 = k by omega))
theorem dX8_feed_0 : decode cX8_feed 0 = .ok (.iload_n 2, 1) := dk_28_ (show cX8_feed.data.toList[0]? = some 0x1c from (LBX8_feedr_0 0).trans (by decide +kernel))
theorem dX8_feed_1 : decode cX8_feed 1 = .ok (.iconst 1, 1) := dk_4_ (show cX8_feed.data.toList[1]? = some 0x04 from (LBX8_feedr_0 1).trans (by decide +kernel))
theorem dX8_feed_2 : decode cX8_feed 2 = .ok (.iconst 4, 1) := dk_7_ (show cX8_feed.data.toList[2]? = some 0x07 from (LBX8_feedr_0 2).trans (by decide +kernel))
theorem dX8_feed_3 : decode cX8_feed 3 = .ok (.invokestatic 91, 3) := dk_184_ (show cX8_feed.data.toList[3]? = some 0xb8 from (LBX8_feedr_0 3).trans (by decide +kernel)) (show cX8_feed.data.toList[4]? = some 0x00 from (LBX8_feedr_0 4).trans (by decide +kernel)) (show cX8_feed.data.toList[5]? = some 0x5b from (LBX8_feedr_0 5).trans (by decide +kernel)) (by decide)
theorem dX8_feed_6 : decode cX8_feed 6 = .ok (.ifCond .ne 10, 3) := dk_154_ (show cX8_feed.data.toList[6]? = some 0x9a from (LBX8_feedr_0 6).trans (by decide +kernel)) (show cX8_feed.data.toList[7]? = some 0x00 from (LBX8_feedr_0 7).trans (by decide +kernel)) (show cX8_feed.data.toList[8]? = some 0x0a from (LBX8_feedr_0 8).trans (by decide +kernel)) (by decide)
theorem dX8_feed_9 : decode cX8_feed 9 = .ok (.aload_n 0, 1) := dk_42_ (show cX8_feed.data.toList[9]? = some 0x2a from (LBX8_feedr_0 9).trans (by decide +kernel))
theorem dX8_feed_10 : decode cX8_feed 10 = .ok (.ldc 95, 2) := dk_18_ (show cX8_feed.data.toList[10]? = some 0x12 from (LBX8_feedr_0 10).trans (by decide +kernel)) (show cX8_feed.data.toList[11]? = some 0x5f from (LBX8_feedr_0 11).trans (by decide +kernel)) (by decide)
theorem dX8_feed_12 : decode cX8_feed 12 = .ok (.invokevirtual 80, 3) := dk_182_ (show cX8_feed.data.toList[12]? = some 0xb6 from (LBX8_feedr_0 12).trans (by decide +kernel)) (show cX8_feed.data.toList[13]? = some 0x00 from (LBX8_feedr_0 13).trans (by decide +kernel)) (show cX8_feed.data.toList[14]? = some 0x50 from (LBX8_feedr_0 14).trans (by decide +kernel)) (by decide)
theorem dX8_feed_15 : decode cX8_feed 15 = .ok (.ireturn, 1) := dk_172_ (show cX8_feed.data.toList[15]? = some 0xac from (LBX8_feedr_0 15).trans (by decide +kernel))
theorem dX8_feed_16 : decode cX8_feed 16 = .ok (.aload_n 0, 1) := dk_42_ (show cX8_feed.data.toList[16]? = some 0x2a from (LBX8_feedr_1 0).trans (by decide +kernel))
theorem dX8_feed_17 : decode cX8_feed 17 = .ok (.getfield 60, 3) := dk_180_ (show cX8_feed.data.toList[17]? = some 0xb4 from (LBX8_feedr_1 1).trans (by decide +kernel)) (show cX8_feed.data.toList[18]? = some 0x00 from (LBX8_feedr_1 2).trans (by decide +kernel)) (show cX8_feed.data.toList[19]? = some 0x3c from (LBX8_feedr_1 3).trans (by decide +kernel)) (by decide)
theorem dX8_feed_20 : decode cX8_feed 20 = .ok (.getfield 275, 3) := dk_180_ (show cX8_feed.data.toList[20]? = some 0xb4 from (LBX8_feedr_1 4).trans (by decide +kernel)) (show cX8_feed.data.toList[21]? = some 0x01 from (LBX8_feedr_1 5).trans (by decide +kernel)) (show cX8_feed.data.toList[22]? = some 0x13 from (LBX8_feedr_1 6).trans (by decide +kernel)) (by decide)
theorem dX8_feed_23 : decode cX8_feed 23 = .ok (.iload_n 2, 1) := dk_28_ (show cX8_feed.data.toList[23]? = some 0x1c from (LBX8_feedr_1 7).trans (by decide +kernel))
theorem dX8_feed_24 : decode cX8_feed 24 = .ok (.iadd, 1) := dk_96_ (show cX8_feed.data.toList[24]? = some 0x60 from (LBX8_feedr_1 8).trans (by decide +kernel))
theorem dX8_feed_25 : decode cX8_feed 25 = .ok (.bipush 120, 2) := dk_16_ (show cX8_feed.data.toList[25]? = some 0x10 from (LBX8_feedr_1 9).trans (by decide +kernel)) (show cX8_feed.data.toList[26]? = some 0x78 from (LBX8_feedr_1 10).trans (by decide +kernel)) (by decide)
theorem dX8_feed_27 : decode cX8_feed 27 = .ok (.if_icmp .le 10, 3) := dk_164_ (show cX8_feed.data.toList[27]? = some 0xa4 from (LBX8_feedr_1 11).trans (by decide +kernel)) (show cX8_feed.data.toList[28]? = some 0x00 from (LBX8_feedr_1 12).trans (by decide +kernel)) (show cX8_feed.data.toList[29]? = some 0x0a from (LBX8_feedr_1 13).trans (by decide +kernel)) (by decide)
theorem dX8_feed_30 : decode cX8_feed 30 = .ok (.aload_n 0, 1) := dk_42_ (show cX8_feed.data.toList[30]? = some 0x2a from (LBX8_feedr_1 14).trans (by decide +kernel))
theorem dX8_feed_31 : decode cX8_feed 31 = .ok (.ldc 79, 2) := dk_18_ (show cX8_feed.data.toList[31]? = some 0x12 from (LBX8_feedr_1 15).trans (by decide +kernel)) (show cX8_feed.data.toList[32]? = some 0x4f from (LBX8_feedr_2 0).trans (by decide +kernel)) (by decide)
theorem dX8_feed_33 : decode cX8_feed 33 = .ok (.invokevirtual 80, 3) := dk_182_ (show cX8_feed.data.toList[33]? = some 0xb6 from (LBX8_feedr_2 1).trans (by decide +kernel)) (show cX8_feed.data.toList[34]? = some 0x00 from (LBX8_feedr_2 2).trans (by decide +kernel)) (show cX8_feed.data.toList[35]? = some 0x50 from (LBX8_feedr_2 3).trans (by decide +kernel)) (by decide)
theorem dX8_feed_36 : decode cX8_feed 36 = .ok (.ireturn, 1) := dk_172_ (show cX8_feed.data.toList[36]? = some 0xac from (LBX8_feedr_2 4).trans (by decide +kernel))
theorem dX8_feed_37 : decode cX8_feed 37 = .ok (.iload_n 2, 1) := dk_28_ (show cX8_feed.data.toList[37]? = some 0x1c from (LBX8_feedr_2 5).trans (by decide +kernel))
theorem dX8_feed_38 : decode cX8_feed 38 = .ok (.iconst 1, 1) := dk_4_ (show cX8_feed.data.toList[38]? = some 0x04 from (LBX8_feedr_2 6).trans (by decide +kernel))
theorem dX8_feed_39 : decode cX8_feed 39 = .ok (.isub, 1) := dk_100_ (show cX8_feed.data.toList[39]? = some 0x64 from (LBX8_feedr_2 7).trans (by decide +kernel))
theorem dX8_feed_40 : decode cX8_feed 40 = .ok (.istore_n 3, 1) := dk_62_ (show cX8_feed.data.toList[40]? = some 0x3e from (LBX8_feedr_2 8).trans (by decide +kernel))
theorem dX8_feed_41 : decode cX8_feed 41 = .ok (.iload_n 3, 1) := dk_29_ (show cX8_feed.data.toList[41]? = some 0x1d from (LBX8_feedr_2 9).trans (by decide +kernel))
theorem dX8_feed_42 : decode cX8_feed 42 = .ok (.ifCond .lt 26, 3) := dk_155_ (show cX8_feed.data.toList[42]? = some 0x9b from (LBX8_feedr_2 10).trans (by decide +kernel)) (show cX8_feed.data.toList[43]? = some 0x00 from (LBX8_feedr_2 11).trans (by decide +kernel)) (show cX8_feed.data.toList[44]? = some 0x1a from (LBX8_feedr_2 12).trans (by decide +kernel)) (by decide)
theorem dX8_feed_45 : decode cX8_feed 45 = .ok (.aload_n 0, 1) := dk_42_ (show cX8_feed.data.toList[45]? = some 0x2a from (LBX8_feedr_2 13).trans (by decide +kernel))
theorem dX8_feed_46 : decode cX8_feed 46 = .ok (.getfield 60, 3) := dk_180_ (show cX8_feed.data.toList[46]? = some 0xb4 from (LBX8_feedr_2 14).trans (by decide +kernel)) (show cX8_feed.data.toList[47]? = some 0x00 from (LBX8_feedr_2 15).trans (by decide +kernel)) (show cX8_feed.data.toList[48]? = some 0x3c from (LBX8_feedr_3 0).trans (by decide +kernel)) (by decide)
theorem dX8_feed_49 : decode cX8_feed 49 = .ok (.iload_n 1, 1) := dk_27_ (show cX8_feed.data.toList[49]? = some 0x1b from (LBX8_feedr_3 1).trans (by decide +kernel))
theorem dX8_feed_50 : decode cX8_feed 50 = .ok (.bipush 8, 2) := dk_16_ (show cX8_feed.data.toList[50]? = some 0x10 from (LBX8_feedr_3 2).trans (by decide +kernel)) (show cX8_feed.data.toList[51]? = some 0x08 from (LBX8_feedr_3 3).trans (by decide +kernel)) (by decide)
theorem dX8_feed_52 : decode cX8_feed 52 = .ok (.iload_n 3, 1) := dk_29_ (show cX8_feed.data.toList[52]? = some 0x1d from (LBX8_feedr_3 4).trans (by decide +kernel))
theorem dX8_feed_53 : decode cX8_feed 53 = .ok (.imul, 1) := dk_104_ (show cX8_feed.data.toList[53]? = some 0x68 from (LBX8_feedr_3 5).trans (by decide +kernel))
theorem dX8_feed_54 : decode cX8_feed 54 = .ok (.iushr, 1) := dk_124_ (show cX8_feed.data.toList[54]? = some 0x7c from (LBX8_feedr_3 6).trans (by decide +kernel))
theorem dX8_feed_55 : decode cX8_feed 55 = .ok (.sipush 255, 3) := dk_17_ (show cX8_feed.data.toList[55]? = some 0x11 from (LBX8_feedr_3 7).trans (by decide +kernel)) (show cX8_feed.data.toList[56]? = some 0x00 from (LBX8_feedr_3 8).trans (by decide +kernel)) (show cX8_feed.data.toList[57]? = some 0xff from (LBX8_feedr_3 9).trans (by decide +kernel)) (by decide)
theorem dX8_feed_58 : decode cX8_feed 58 = .ok (.iand, 1) := dk_126_ (show cX8_feed.data.toList[58]? = some 0x7e from (LBX8_feedr_3 10).trans (by decide +kernel))
theorem dX8_feed_59 : decode cX8_feed 59 = .ok (.invokevirtual 278, 3) := dk_182_ (show cX8_feed.data.toList[59]? = some 0xb6 from (LBX8_feedr_3 11).trans (by decide +kernel)) (show cX8_feed.data.toList[60]? = some 0x01 from (LBX8_feedr_3 12).trans (by decide +kernel)) (show cX8_feed.data.toList[61]? = some 0x16 from (LBX8_feedr_3 13).trans (by decide +kernel)) (by decide)
theorem dX8_feed_62 : decode cX8_feed 62 = .ok (.iinc 3 (-1), 3) := dk_132_ (show cX8_feed.data.toList[62]? = some 0x84 from (LBX8_feedr_3 14).trans (by decide +kernel)) (show cX8_feed.data.toList[63]? = some 0x03 from (LBX8_feedr_3 15).trans (by decide +kernel)) (show cX8_feed.data.toList[64]? = some 0xff from (LBX8_feedr_4 0).trans (by decide +kernel)) (by decide) (by decide)
theorem dX8_feed_65 : decode cX8_feed 65 = .ok (.goto (-24), 3) := dk_167_ (show cX8_feed.data.toList[65]? = some 0xa7 from (LBX8_feedr_4 1).trans (by decide +kernel)) (show cX8_feed.data.toList[66]? = some 0xff from (LBX8_feedr_4 2).trans (by decide +kernel)) (show cX8_feed.data.toList[67]? = some 0xe8 from (LBX8_feedr_4 3).trans (by decide +kernel)) (by decide)
theorem dX8_feed_68 : decode cX8_feed 68 = .ok (.aload_n 0, 1) := dk_42_ (show cX8_feed.data.toList[68]? = some 0x2a from (LBX8_feedr_4 4).trans (by decide +kernel))
theorem dX8_feed_69 : decode cX8_feed 69 = .ok (.getfield 60, 3) := dk_180_ (show cX8_feed.data.toList[69]? = some 0xb4 from (LBX8_feedr_4 5).trans (by decide +kernel)) (show cX8_feed.data.toList[70]? = some 0x00 from (LBX8_feedr_4 6).trans (by decide +kernel)) (show cX8_feed.data.toList[71]? = some 0x3c from (LBX8_feedr_4 7).trans (by decide +kernel)) (by decide)
theorem dX8_feed_72 : decode cX8_feed 72 = .ok (.getfield 275, 3) := dk_180_ (show cX8_feed.data.toList[72]? = some 0xb4 from (LBX8_feedr_4 8).trans (by decide +kernel)) (show cX8_feed.data.toList[73]? = some 0x01 from (LBX8_feedr_4 9).trans (by decide +kernel)) (show cX8_feed.data.toList[74]? = some 0x13 from (LBX8_feedr_4 10).trans (by decide +kernel)) (by decide)
theorem dX8_feed_75 : decode cX8_feed 75 = .ok (.ireturn, 1) := dk_172_ (show cX8_feed.data.toList[75]? = some 0xac from (LBX8_feedr_4 11).trans (by decide +kernel))
def LRX8_wipe_2 : List UInt8 := []
def LBX8_wipe_1 : List UInt8 := [0x1b, 0xac]
def LRX8_wipe_1 : List UInt8 := LBX8_wipe_1 ++ LRX8_wipe_2
def LBX8_wipe_0 : List UInt8 := [0x2a, 0xb4, 0x00, 0x3c, 0xb4, 0x01, 0x13, 0x3c, 0x2a, 0xb4, 0x00, 0x3c, 0x03, 0xb5, 0x01, 0x13]
def LRX8_wipe_0 : List UInt8 := LBX8_wipe_0 ++ LRX8_wipe_1
set_option maxRecDepth 100000 in
theorem LBX8_wipe_eq : cX8_wipe.data.toList = LRX8_wipe_0 := by decide +kernel
theorem LBX8_wiper_0 (k : Nat) : cX8_wipe.data.toList[0 + k]? = LRX8_wipe_0[k]? := by rw [LBX8_wipe_eq, Nat.zero_add]
theorem LBX8_wiper_1 (k : Nat) : cX8_wipe.data.toList[16 + k]? = LRX8_wipe_1[k]? := by
  have h := LBX8_wiper_0 (16 + k)
  rw [show 0 + (16 + k) = 16 + k by omega] at h
  rw [h]
  exact (List.getElem?_append_right (l₁ := LBX8_wipe_0) (l₂ := LRX8_wipe_1) (show 16 ≤ 16 + k by omega)).trans (congrArg (fun i => LRX8_wipe_1[i]?) (show 16 + k - 16 = k by omega))
theorem dX8_wipe_0 : decode cX8_wipe 0 = .ok (.aload_n 0, 1) := dk_42_ (show cX8_wipe.data.toList[0]? = some 0x2a from (LBX8_wiper_0 0).trans (by decide +kernel))
theorem dX8_wipe_1 : decode cX8_wipe 1 = .ok (.getfield 60, 3) := dk_180_ (show cX8_wipe.data.toList[1]? = some 0xb4 from (LBX8_wiper_0 1).trans (by decide +kernel)) (show cX8_wipe.data.toList[2]? = some 0x00 from (LBX8_wiper_0 2).trans (by decide +kernel)) (show cX8_wipe.data.toList[3]? = some 0x3c from (LBX8_wiper_0 3).trans (by decide +kernel)) (by decide)
theorem dX8_wipe_4 : decode cX8_wipe 4 = .ok (.getfield 275, 3) := dk_180_ (show cX8_wipe.data.toList[4]? = some 0xb4 from (LBX8_wiper_0 4).trans (by decide +kernel)) (show cX8_wipe.data.toList[5]? = some 0x01 from (LBX8_wiper_0 5).trans (by decide +kernel)) (show cX8_wipe.data.toList[6]? = some 0x13 from (LBX8_wiper_0 6).trans (by decide +kernel)) (by decide)
theorem dX8_wipe_7 : decode cX8_wipe 7 = .ok (.istore_n 1, 1) := dk_60_ (show cX8_wipe.data.toList[7]? = some 0x3c from (LBX8_wiper_0 7).trans (by decide +kernel))
theorem dX8_wipe_8 : decode cX8_wipe 8 = .ok (.aload_n 0, 1) := dk_42_ (show cX8_wipe.data.toList[8]? = some 0x2a from (LBX8_wiper_0 8).trans (by decide +kernel))
theorem dX8_wipe_9 : decode cX8_wipe 9 = .ok (.getfield 60, 3) := dk_180_ (show cX8_wipe.data.toList[9]? = some 0xb4 from (LBX8_wiper_0 9).trans (by decide +kernel)) (show cX8_wipe.data.toList[10]? = some 0x00 from (LBX8_wiper_0 10).trans (by decide +kernel)) (show cX8_wipe.data.toList[11]? = some 0x3c from (LBX8_wiper_0 11).trans (by decide +kernel)) (by decide)
theorem dX8_wipe_12 : decode cX8_wipe 12 = .ok (.iconst 0, 1) := dk_3_ (show cX8_wipe.data.toList[12]? = some 0x03 from (LBX8_wiper_0 12).trans (by decide +kernel))
theorem dX8_wipe_13 : decode cX8_wipe 13 = .ok (.putfield 275, 3) := dk_181_ (show cX8_wipe.data.toList[13]? = some 0xb5 from (LBX8_wiper_0 13).trans (by decide +kernel)) (show cX8_wipe.data.toList[14]? = some 0x01 from (LBX8_wiper_0 14).trans (by decide +kernel)) (show cX8_wipe.data.toList[15]? = some 0x13 from (LBX8_wiper_0 15).trans (by decide +kernel)) (by decide)
theorem dX8_wipe_16 : decode cX8_wipe 16 = .ok (.iload_n 1, 1) := dk_27_ (show cX8_wipe.data.toList[16]? = some 0x1b from (LBX8_wiper_1 0).trans (by decide +kernel))
theorem dX8_wipe_17 : decode cX8_wipe 17 = .ok (.ireturn, 1) := dk_172_ (show cX8_wipe.data.toList[17]? = some 0xac from (LBX8_wiper_1 1).trans (by decide +kernel))
def LRX8_land_3 : List UInt8 := []
def LBX8_land_2 : List UInt8 := [0xb4, 0x00, 0x13, 0xb6, 0x00, 0xf1, 0x2a, 0xb4, 0x00, 0x3c, 0x03, 0xb5, 0x01, 0x13, 0x1b, 0xac]
def LRX8_land_2 : List UInt8 := LBX8_land_2 ++ LRX8_land_3
def LBX8_land_1 : List UInt8 := [0xb4, 0x00, 0x13, 0xb6, 0x01, 0x1a, 0x3c, 0x1b, 0x9b, 0x00, 0x0e, 0x2a, 0xb4, 0x00, 0x0c, 0x2a]
def LRX8_land_1 : List UInt8 := LBX8_land_1 ++ LRX8_land_2
def LBX8_land_0 : List UInt8 := [0x2a, 0xb4, 0x00, 0x13, 0x2a, 0xb4, 0x00, 0x0c, 0xb6, 0x00, 0xf1, 0x2a, 0xb4, 0x00, 0x3c, 0x2a]
def LRX8_land_0 : List UInt8 := LBX8_land_0 ++ LRX8_land_1
set_option maxRecDepth 100000 in
theorem LBX8_land_eq : cX8_land.data.toList = LRX8_land_0 := by decide +kernel
theorem LBX8_landr_0 (k : Nat) : cX8_land.data.toList[0 + k]? = LRX8_land_0[k]? := by rw [LBX8_land_eq, Nat.zero_add]
theorem LBX8_landr_1 (k : Nat) : cX8_land.data.toList[16 + k]? = LRX8_land_1[k]? := by
  have h := LBX8_landr_0 (16 + k)
  rw [show 0 + (16 + k) = 16 + k by omega] at h
  rw [h]
  exact (List.getElem?_append_right (l₁ := LBX8_land_0) (l₂ := LRX8_land_1) (show 16 ≤ 16 + k by omega)).trans (congrArg (fun i => LRX8_land_1[i]?) (show 16 + k - 16 = k by omega))
theorem LBX8_landr_2 (k : Nat) : cX8_land.data.toList[32 + k]? = LRX8_land_2[k]? := by
  have h := LBX8_landr_1 (16 + k)
  rw [show 16 + (16 + k) = 32 + k by omega] at h
  rw [h]
  exact (List.getElem?_append_right (l₁ := LBX8_land_1) (l₂ := LRX8_land_2) (show 16 ≤ 16 + k by omega)).trans (congrArg (fun i => LRX8_land_2[i]?) (show 16 + k - 16 = k by omega))
theorem dX8_land_0 : decode cX8_land 0 = .ok (.aload_n 0, 1) := dk_42_ (show cX8_land.data.toList[0]? = some 0x2a from (LBX8_landr_0 0).trans (by decide +kernel))
theorem dX8_land_1 : decode cX8_land 1 = .ok (.getfield 19, 3) := dk_180_ (show cX8_land.data.toList[1]? = some 0xb4 from (LBX8_landr_0 1).trans (by decide +kernel)) (show cX8_land.data.toList[2]? = some 0x00 from (LBX8_landr_0 2).trans (by decide +kernel)) (show cX8_land.data.toList[3]? = some 0x13 from (LBX8_landr_0 3).trans (by decide +kernel)) (by decide)
theorem dX8_land_4 : decode cX8_land 4 = .ok (.aload_n 0, 1) := dk_42_ (show cX8_land.data.toList[4]? = some 0x2a from (LBX8_landr_0 4).trans (by decide +kernel))
theorem dX8_land_5 : decode cX8_land 5 = .ok (.getfield 12, 3) := dk_180_ (show cX8_land.data.toList[5]? = some 0xb4 from (LBX8_landr_0 5).trans (by decide +kernel)) (show cX8_land.data.toList[6]? = some 0x00 from (LBX8_landr_0 6).trans (by decide +kernel)) (show cX8_land.data.toList[7]? = some 0x0c from (LBX8_landr_0 7).trans (by decide +kernel)) (by decide)
theorem dX8_land_8 : decode cX8_land 8 = .ok (.invokevirtual 241, 3) := dk_182_ (show cX8_land.data.toList[8]? = some 0xb6 from (LBX8_landr_0 8).trans (by decide +kernel)) (show cX8_land.data.toList[9]? = some 0x00 from (LBX8_landr_0 9).trans (by decide +kernel)) (show cX8_land.data.toList[10]? = some 0xf1 from (LBX8_landr_0 10).trans (by decide +kernel)) (by decide)
theorem dX8_land_11 : decode cX8_land 11 = .ok (.aload_n 0, 1) := dk_42_ (show cX8_land.data.toList[11]? = some 0x2a from (LBX8_landr_0 11).trans (by decide +kernel))
theorem dX8_land_12 : decode cX8_land 12 = .ok (.getfield 60, 3) := dk_180_ (show cX8_land.data.toList[12]? = some 0xb4 from (LBX8_landr_0 12).trans (by decide +kernel)) (show cX8_land.data.toList[13]? = some 0x00 from (LBX8_landr_0 13).trans (by decide +kernel)) (show cX8_land.data.toList[14]? = some 0x3c from (LBX8_landr_0 14).trans (by decide +kernel)) (by decide)
theorem dX8_land_15 : decode cX8_land 15 = .ok (.aload_n 0, 1) := dk_42_ (show cX8_land.data.toList[15]? = some 0x2a from (LBX8_landr_0 15).trans (by decide +kernel))
theorem dX8_land_16 : decode cX8_land 16 = .ok (.getfield 19, 3) := dk_180_ (show cX8_land.data.toList[16]? = some 0xb4 from (LBX8_landr_1 0).trans (by decide +kernel)) (show cX8_land.data.toList[17]? = some 0x00 from (LBX8_landr_1 1).trans (by decide +kernel)) (show cX8_land.data.toList[18]? = some 0x13 from (LBX8_landr_1 2).trans (by decide +kernel)) (by decide)
theorem dX8_land_19 : decode cX8_land 19 = .ok (.invokevirtual 282, 3) := dk_182_ (show cX8_land.data.toList[19]? = some 0xb6 from (LBX8_landr_1 3).trans (by decide +kernel)) (show cX8_land.data.toList[20]? = some 0x01 from (LBX8_landr_1 4).trans (by decide +kernel)) (show cX8_land.data.toList[21]? = some 0x1a from (LBX8_landr_1 5).trans (by decide +kernel)) (by decide)
theorem dX8_land_22 : decode cX8_land 22 = .ok (.istore_n 1, 1) := dk_60_ (show cX8_land.data.toList[22]? = some 0x3c from (LBX8_landr_1 6).trans (by decide +kernel))
theorem dX8_land_23 : decode cX8_land 23 = .ok (.iload_n 1, 1) := dk_27_ (show cX8_land.data.toList[23]? = some 0x1b from (LBX8_landr_1 7).trans (by decide +kernel))
theorem dX8_land_24 : decode cX8_land 24 = .ok (.ifCond .lt 14, 3) := dk_155_ (show cX8_land.data.toList[24]? = some 0x9b from (LBX8_landr_1 8).trans (by decide +kernel)) (show cX8_land.data.toList[25]? = some 0x00 from (LBX8_landr_1 9).trans (by decide +kernel)) (show cX8_land.data.toList[26]? = some 0x0e from (LBX8_landr_1 10).trans (by decide +kernel)) (by decide)
theorem dX8_land_27 : decode cX8_land 27 = .ok (.aload_n 0, 1) := dk_42_ (show cX8_land.data.toList[27]? = some 0x2a from (LBX8_landr_1 11).trans (by decide +kernel))
theorem dX8_land_28 : decode cX8_land 28 = .ok (.getfield 12, 3) := dk_180_ (show cX8_land.data.toList[28]? = some 0xb4 from (LBX8_landr_1 12).trans (by decide +kernel)) (show cX8_land.data.toList[29]? = some 0x00 from (LBX8_landr_1 13).trans (by decide +kernel)) (show cX8_land.data.toList[30]? = some 0x0c from (LBX8_landr_1 14).trans (by decide +kernel)) (by decide)
theorem dX8_land_31 : decode cX8_land 31 = .ok (.aload_n 0, 1) := dk_42_ (show cX8_land.data.toList[31]? = some 0x2a from (LBX8_landr_1 15).trans (by decide +kernel))
theorem dX8_land_32 : decode cX8_land 32 = .ok (.getfield 19, 3) := dk_180_ (show cX8_land.data.toList[32]? = some 0xb4 from (LBX8_landr_2 0).trans (by decide +kernel)) (show cX8_land.data.toList[33]? = some 0x00 from (LBX8_landr_2 1).trans (by decide +kernel)) (show cX8_land.data.toList[34]? = some 0x13 from (LBX8_landr_2 2).trans (by decide +kernel)) (by decide)
theorem dX8_land_35 : decode cX8_land 35 = .ok (.invokevirtual 241, 3) := dk_182_ (show cX8_land.data.toList[35]? = some 0xb6 from (LBX8_landr_2 3).trans (by decide +kernel)) (show cX8_land.data.toList[36]? = some 0x00 from (LBX8_landr_2 4).trans (by decide +kernel)) (show cX8_land.data.toList[37]? = some 0xf1 from (LBX8_landr_2 5).trans (by decide +kernel)) (by decide)
theorem dX8_land_38 : decode cX8_land 38 = .ok (.aload_n 0, 1) := dk_42_ (show cX8_land.data.toList[38]? = some 0x2a from (LBX8_landr_2 6).trans (by decide +kernel))
theorem dX8_land_39 : decode cX8_land 39 = .ok (.getfield 60, 3) := dk_180_ (show cX8_land.data.toList[39]? = some 0xb4 from (LBX8_landr_2 7).trans (by decide +kernel)) (show cX8_land.data.toList[40]? = some 0x00 from (LBX8_landr_2 8).trans (by decide +kernel)) (show cX8_land.data.toList[41]? = some 0x3c from (LBX8_landr_2 9).trans (by decide +kernel)) (by decide)
theorem dX8_land_42 : decode cX8_land 42 = .ok (.iconst 0, 1) := dk_3_ (show cX8_land.data.toList[42]? = some 0x03 from (LBX8_landr_2 10).trans (by decide +kernel))
theorem dX8_land_43 : decode cX8_land 43 = .ok (.putfield 275, 3) := dk_181_ (show cX8_land.data.toList[43]? = some 0xb5 from (LBX8_landr_2 11).trans (by decide +kernel)) (show cX8_land.data.toList[44]? = some 0x01 from (LBX8_landr_2 12).trans (by decide +kernel)) (show cX8_land.data.toList[45]? = some 0x13 from (LBX8_landr_2 13).trans (by decide +kernel)) (by decide)
theorem dX8_land_46 : decode cX8_land 46 = .ok (.iload_n 1, 1) := dk_27_ (show cX8_land.data.toList[46]? = some 0x1b from (LBX8_landr_2 14).trans (by decide +kernel))
theorem dX8_land_47 : decode cX8_land 47 = .ok (.ireturn, 1) := dk_172_ (show cX8_land.data.toList[47]? = some 0xac from (LBX8_landr_2 15).trans (by decide +kernel))
def LRX8_image_2 : List UInt8 := []
def LBX8_image_1 : List UInt8 := [0x04, 0xac]
def LRX8_image_1 : List UInt8 := LBX8_image_1 ++ LRX8_image_2
def LBX8_image_0 : List UInt8 := [0x2a, 0xb4, 0x00, 0x10, 0x2a, 0xb4, 0x00, 0x0c, 0xb6, 0x00, 0xf1, 0x2a, 0x04, 0xb5, 0x00, 0x16]
def LRX8_image_0 : List UInt8 := LBX8_image_0 ++ LRX8_image_1
set_option maxRecDepth 100000 in
theorem LBX8_image_eq : cX8_image.data.toList = LRX8_image_0 := by decide +kernel
theorem LBX8_imager_0 (k : Nat) : cX8_image.data.toList[0 + k]? = LRX8_image_0[k]? := by rw [LBX8_image_eq, Nat.zero_add]
theorem LBX8_imager_1 (k : Nat) : cX8_image.data.toList[16 + k]? = LRX8_image_1[k]? := by
  have h := LBX8_imager_0 (16 + k)
  rw [show 0 + (16 + k) = 16 + k by omega] at h
  rw [h]
  exact (List.getElem?_append_right (l₁ := LBX8_image_0) (l₂ := LRX8_image_1) (show 16 ≤ 16 + k by omega)).trans (congrArg (fun i => LRX8_image_1[i]?) (show 16 + k - 16 = k by omega))
theorem dX8_image_0 : decode cX8_image 0 = .ok (.aload_n 0, 1) := dk_42_ (show cX8_image.data.toList[0]? = some 0x2a from (LBX8_imager_0 0).trans (by decide +kernel))
theorem dX8_image_1 : decode cX8_image 1 = .ok (.getfield 16, 3) := dk_180_ (show cX8_image.data.toList[1]? = some 0xb4 from (LBX8_imager_0 1).trans (by decide +kernel)) (show cX8_image.data.toList[2]? = some 0x00 from (LBX8_imager_0 2).trans (by decide +kernel)) (show cX8_image.data.toList[3]? = some 0x10 from (LBX8_imager_0 3).trans (by decide +kernel)) (by decide)
theorem dX8_image_4 : decode cX8_image 4 = .ok (.aload_n 0, 1) := dk_42_ (show cX8_image.data.toList[4]? = some 0x2a from (LBX8_imager_0 4).trans (by decide +kernel))
theorem dX8_image_5 : decode cX8_image 5 = .ok (.getfield 12, 3) := dk_180_ (show cX8_image.data.toList[5]? = some 0xb4 from (LBX8_imager_0 5).trans (by decide +kernel)) (show cX8_image.data.toList[6]? = some 0x00 from (LBX8_imager_0 6).trans (by decide +kernel)) (show cX8_image.data.toList[7]? = some 0x0c from (LBX8_imager_0 7).trans (by decide +kernel)) (by decide)
theorem dX8_image_8 : decode cX8_image 8 = .ok (.invokevirtual 241, 3) := dk_182_ (show cX8_image.data.toList[8]? = some 0xb6 from (LBX8_imager_0 8).trans (by decide +kernel)) (show cX8_image.data.toList[9]? = some 0x00 from (LBX8_imager_0 9).trans (by decide +kernel)) (show cX8_image.data.toList[10]? = some 0xf1 from (LBX8_imager_0 10).trans (by decide +kernel)) (by decide)
theorem dX8_image_11 : decode cX8_image 11 = .ok (.aload_n 0, 1) := dk_42_ (show cX8_image.data.toList[11]? = some 0x2a from (LBX8_imager_0 11).trans (by decide +kernel))
theorem dX8_image_12 : decode cX8_image 12 = .ok (.iconst 1, 1) := dk_4_ (show cX8_image.data.toList[12]? = some 0x04 from (LBX8_imager_0 12).trans (by decide +kernel))
theorem dX8_image_13 : decode cX8_image 13 = .ok (.putfield 22, 3) := dk_181_ (show cX8_image.data.toList[13]? = some 0xb5 from (LBX8_imager_0 13).trans (by decide +kernel)) (show cX8_image.data.toList[14]? = some 0x00 from (LBX8_imager_0 14).trans (by decide +kernel)) (show cX8_image.data.toList[15]? = some 0x16 from (LBX8_imager_0 15).trans (by decide +kernel)) (by decide)
theorem dX8_image_16 : decode cX8_image 16 = .ok (.iconst 1, 1) := dk_4_ (show cX8_image.data.toList[16]? = some 0x04 from (LBX8_imager_1 0).trans (by decide +kernel))
theorem dX8_image_17 : decode cX8_image 17 = .ok (.ireturn, 1) := dk_172_ (show cX8_image.data.toList[17]? = some 0xac from (LBX8_imager_1 1).trans (by decide +kernel))
def LRX8_undo_3 : List UInt8 := []
def LBX8_undo_2 : List UInt8 := [0xac]
def LRX8_undo_2 : List UInt8 := LBX8_undo_2 ++ LRX8_undo_3
def LBX8_undo_1 : List UInt8 := [0x00, 0x0c, 0x2a, 0xb4, 0x00, 0x10, 0xb6, 0x00, 0xf1, 0x2a, 0xb4, 0x00, 0x0c, 0xb4, 0x00, 0x4b]
def LRX8_undo_1 : List UInt8 := LBX8_undo_1 ++ LRX8_undo_2
def LBX8_undo_0 : List UInt8 := [0x2a, 0xb4, 0x00, 0x16, 0x9a, 0x00, 0x0a, 0x2a, 0x12, 0x71, 0xb6, 0x00, 0x50, 0xac, 0x2a, 0xb4]
def LRX8_undo_0 : List UInt8 := LBX8_undo_0 ++ LRX8_undo_1
set_option maxRecDepth 100000 in
theorem LBX8_undo_eq : cX8_undo.data.toList = LRX8_undo_0 := by decide +kernel
theorem LBX8_undor_0 (k : Nat) : cX8_undo.data.toList[0 + k]? = LRX8_undo_0[k]? := by rw [LBX8_undo_eq, Nat.zero_add]
theorem LBX8_undor_1 (k : Nat) : cX8_undo.data.toList[16 + k]? = LRX8_undo_1[k]? := by
  have h := LBX8_undor_0 (16 + k)
  rw [show 0 + (16 + k) = 16 + k by omega] at h
  rw [h]
  exact (List.getElem?_append_right (l₁ := LBX8_undo_0) (l₂ := LRX8_undo_1) (show 16 ≤ 16 + k by omega)).trans (congrArg (fun i => LRX8_undo_1[i]?) (show 16 + k - 16 = k by omega))
theorem LBX8_undor_2 (k : Nat) : cX8_undo.data.toList[32 + k]? = LRX8_undo_2[k]? := by
  have h := LBX8_undor_1 (16 + k)
  rw [show 16 + (16 + k) = 32 + k by omega] at h
  rw [h]
  exact (List.getElem?_append_right (l₁ := LBX8_undo_1) (l₂ := LRX8_undo_2) (show 16 ≤ 16 + k by omega)).trans (congrArg (fun i => LRX8_undo_2[i]?) (show 16 + k - 16 = k by omega))
theorem dX8_undo_0 : decode cX8_undo 0 = .ok (.aload_n 0, 1) := dk_42_ (show cX8_undo.data.toList[0]? = some 0x2a from (LBX8_undor_0 0).trans (by decide +kernel))
theorem dX8_undo_1 : decode cX8_undo 1 = .ok (.getfield 22, 3) := dk_180_ (show cX8_undo.data.toList[1]? = some 0xb4 from (LBX8_undor_0 1).trans (by decide +kernel)) (show cX8_undo.data.toList[2]? = some 0x00 from (LBX8_undor_0 2).trans (by decide +kernel)) (show cX8_undo.data.toList[3]? = some 0x16 from (LBX8_undor_0 3).trans (by decide +kernel)) (by decide)
theorem dX8_undo_4 : decode cX8_undo 4 = .ok (.ifCond .ne 10, 3) := dk_154_ (show cX8_undo.data.toList[4]? = some 0x9a from (LBX8_undor_0 4).trans (by decide +kernel)) (show cX8_undo.data.toList[5]? = some 0x00 from (LBX8_undor_0 5).trans (by decide +kernel)) (show cX8_undo.data.toList[6]? = some 0x0a from (LBX8_undor_0 6).trans (by decide +kernel)) (by decide)
theorem dX8_undo_7 : decode cX8_undo 7 = .ok (.aload_n 0, 1) := dk_42_ (show cX8_undo.data.toList[7]? = some 0x2a from (LBX8_undor_0 7).trans (by decide +kernel))
theorem dX8_undo_8 : decode cX8_undo 8 = .ok (.ldc 113, 2) := dk_18_ (show cX8_undo.data.toList[8]? = some 0x12 from (LBX8_undor_0 8).trans (by decide +kernel)) (show cX8_undo.data.toList[9]? = some 0x71 from (LBX8_undor_0 9).trans (by decide +kernel)) (by decide)
theorem dX8_undo_10 : decode cX8_undo 10 = .ok (.invokevirtual 80, 3) := dk_182_ (show cX8_undo.data.toList[10]? = some 0xb6 from (LBX8_undor_0 10).trans (by decide +kernel)) (show cX8_undo.data.toList[11]? = some 0x00 from (LBX8_undor_0 11).trans (by decide +kernel)) (show cX8_undo.data.toList[12]? = some 0x50 from (LBX8_undor_0 12).trans (by decide +kernel)) (by decide)
theorem dX8_undo_13 : decode cX8_undo 13 = .ok (.ireturn, 1) := dk_172_ (show cX8_undo.data.toList[13]? = some 0xac from (LBX8_undor_0 13).trans (by decide +kernel))
theorem dX8_undo_14 : decode cX8_undo 14 = .ok (.aload_n 0, 1) := dk_42_ (show cX8_undo.data.toList[14]? = some 0x2a from (LBX8_undor_0 14).trans (by decide +kernel))
theorem dX8_undo_15 : decode cX8_undo 15 = .ok (.getfield 12, 3) := dk_180_ (show cX8_undo.data.toList[15]? = some 0xb4 from (LBX8_undor_0 15).trans (by decide +kernel)) (show cX8_undo.data.toList[16]? = some 0x00 from (LBX8_undor_1 0).trans (by decide +kernel)) (show cX8_undo.data.toList[17]? = some 0x0c from (LBX8_undor_1 1).trans (by decide +kernel)) (by decide)
theorem dX8_undo_18 : decode cX8_undo 18 = .ok (.aload_n 0, 1) := dk_42_ (show cX8_undo.data.toList[18]? = some 0x2a from (LBX8_undor_1 2).trans (by decide +kernel))
theorem dX8_undo_19 : decode cX8_undo 19 = .ok (.getfield 16, 3) := dk_180_ (show cX8_undo.data.toList[19]? = some 0xb4 from (LBX8_undor_1 3).trans (by decide +kernel)) (show cX8_undo.data.toList[20]? = some 0x00 from (LBX8_undor_1 4).trans (by decide +kernel)) (show cX8_undo.data.toList[21]? = some 0x10 from (LBX8_undor_1 5).trans (by decide +kernel)) (by decide)
theorem dX8_undo_22 : decode cX8_undo 22 = .ok (.invokevirtual 241, 3) := dk_182_ (show cX8_undo.data.toList[22]? = some 0xb6 from (LBX8_undor_1 6).trans (by decide +kernel)) (show cX8_undo.data.toList[23]? = some 0x00 from (LBX8_undor_1 7).trans (by decide +kernel)) (show cX8_undo.data.toList[24]? = some 0xf1 from (LBX8_undor_1 8).trans (by decide +kernel)) (by decide)
theorem dX8_undo_25 : decode cX8_undo 25 = .ok (.aload_n 0, 1) := dk_42_ (show cX8_undo.data.toList[25]? = some 0x2a from (LBX8_undor_1 9).trans (by decide +kernel))
theorem dX8_undo_26 : decode cX8_undo 26 = .ok (.getfield 12, 3) := dk_180_ (show cX8_undo.data.toList[26]? = some 0xb4 from (LBX8_undor_1 10).trans (by decide +kernel)) (show cX8_undo.data.toList[27]? = some 0x00 from (LBX8_undor_1 11).trans (by decide +kernel)) (show cX8_undo.data.toList[28]? = some 0x0c from (LBX8_undor_1 12).trans (by decide +kernel)) (by decide)
theorem dX8_undo_29 : decode cX8_undo 29 = .ok (.getfield 75, 3) := dk_180_ (show cX8_undo.data.toList[29]? = some 0xb4 from (LBX8_undor_1 13).trans (by decide +kernel)) (show cX8_undo.data.toList[30]? = some 0x00 from (LBX8_undor_1 14).trans (by decide +kernel)) (show cX8_undo.data.toList[31]? = some 0x4b from (LBX8_undor_1 15).trans (by decide +kernel)) (by decide)
theorem dX8_undo_32 : decode cX8_undo 32 = .ok (.ireturn, 1) := dk_172_ (show cX8_undo.data.toList[32]? = some 0xac from (LBX8_undor_2 0).trans (by decide +kernel))
def LRX8_tear_2 : List UInt8 := []
def LBX8_tear_1 : List UInt8 := [0x00, 0x16, 0x1b, 0xac]
def LRX8_tear_1 : List UInt8 := LBX8_tear_1 ++ LRX8_tear_2
def LBX8_tear_0 : List UInt8 := [0x2a, 0xb4, 0x00, 0x16, 0x99, 0x00, 0x07, 0x04, 0xa7, 0x00, 0x04, 0x03, 0x3c, 0x2a, 0x03, 0xb5]
def LRX8_tear_0 : List UInt8 := LBX8_tear_0 ++ LRX8_tear_1
set_option maxRecDepth 100000 in
theorem LBX8_tear_eq : cX8_tear.data.toList = LRX8_tear_0 := by decide +kernel
theorem LBX8_tearr_0 (k : Nat) : cX8_tear.data.toList[0 + k]? = LRX8_tear_0[k]? := by rw [LBX8_tear_eq, Nat.zero_add]
theorem LBX8_tearr_1 (k : Nat) : cX8_tear.data.toList[16 + k]? = LRX8_tear_1[k]? := by
  have h := LBX8_tearr_0 (16 + k)
  rw [show 0 + (16 + k) = 16 + k by omega] at h
  rw [h]
  exact (List.getElem?_append_right (l₁ := LBX8_tear_0) (l₂ := LRX8_tear_1) (show 16 ≤ 16 + k by omega)).trans (congrArg (fun i => LRX8_tear_1[i]?) (show 16 + k - 16 = k by omega))
theorem dX8_tear_0 : decode cX8_tear 0 = .ok (.aload_n 0, 1) := dk_42_ (show cX8_tear.data.toList[0]? = some 0x2a from (LBX8_tearr_0 0).trans (by decide +kernel))
theorem dX8_tear_1 : decode cX8_tear 1 = .ok (.getfield 22, 3) := dk_180_ (show cX8_tear.data.toList[1]? = some 0xb4 from (LBX8_tearr_0 1).trans (by decide +kernel)) (show cX8_tear.data.toList[2]? = some 0x00 from (LBX8_tearr_0 2).trans (by decide +kernel)) (show cX8_tear.data.toList[3]? = some 0x16 from (LBX8_tearr_0 3).trans (by decide +kernel)) (by decide)
theorem dX8_tear_4 : decode cX8_tear 4 = .ok (.ifCond .eq 7, 3) := dk_153_ (show cX8_tear.data.toList[4]? = some 0x99 from (LBX8_tearr_0 4).trans (by decide +kernel)) (show cX8_tear.data.toList[5]? = some 0x00 from (LBX8_tearr_0 5).trans (by decide +kernel)) (show cX8_tear.data.toList[6]? = some 0x07 from (LBX8_tearr_0 6).trans (by decide +kernel)) (by decide)
theorem dX8_tear_7 : decode cX8_tear 7 = .ok (.iconst 1, 1) := dk_4_ (show cX8_tear.data.toList[7]? = some 0x04 from (LBX8_tearr_0 7).trans (by decide +kernel))
theorem dX8_tear_8 : decode cX8_tear 8 = .ok (.goto 4, 3) := dk_167_ (show cX8_tear.data.toList[8]? = some 0xa7 from (LBX8_tearr_0 8).trans (by decide +kernel)) (show cX8_tear.data.toList[9]? = some 0x00 from (LBX8_tearr_0 9).trans (by decide +kernel)) (show cX8_tear.data.toList[10]? = some 0x04 from (LBX8_tearr_0 10).trans (by decide +kernel)) (by decide)
theorem dX8_tear_11 : decode cX8_tear 11 = .ok (.iconst 0, 1) := dk_3_ (show cX8_tear.data.toList[11]? = some 0x03 from (LBX8_tearr_0 11).trans (by decide +kernel))
theorem dX8_tear_12 : decode cX8_tear 12 = .ok (.istore_n 1, 1) := dk_60_ (show cX8_tear.data.toList[12]? = some 0x3c from (LBX8_tearr_0 12).trans (by decide +kernel))
theorem dX8_tear_13 : decode cX8_tear 13 = .ok (.aload_n 0, 1) := dk_42_ (show cX8_tear.data.toList[13]? = some 0x2a from (LBX8_tearr_0 13).trans (by decide +kernel))
theorem dX8_tear_14 : decode cX8_tear 14 = .ok (.iconst 0, 1) := dk_3_ (show cX8_tear.data.toList[14]? = some 0x03 from (LBX8_tearr_0 14).trans (by decide +kernel))
theorem dX8_tear_15 : decode cX8_tear 15 = .ok (.putfield 22, 3) := dk_181_ (show cX8_tear.data.toList[15]? = some 0xb5 from (LBX8_tearr_0 15).trans (by decide +kernel)) (show cX8_tear.data.toList[16]? = some 0x00 from (LBX8_tearr_1 0).trans (by decide +kernel)) (show cX8_tear.data.toList[17]? = some 0x16 from (LBX8_tearr_1 1).trans (by decide +kernel)) (by decide)
theorem dX8_tear_18 : decode cX8_tear 18 = .ok (.iload_n 1, 1) := dk_27_ (show cX8_tear.data.toList[18]? = some 0x1b from (LBX8_tearr_1 2).trans (by decide +kernel))
theorem dX8_tear_19 : decode cX8_tear 19 = .ok (.ireturn, 1) := dk_172_ (show cX8_tear.data.toList[19]? = some 0xac from (LBX8_tearr_1 3).trans (by decide +kernel))
def LRX8_count_7 : List UInt8 := []
def LBX8_count_6 : List UInt8 := [0x5f, 0xb6, 0x00, 0x50, 0xac]
def LRX8_count_6 : List UInt8 := LBX8_count_6 ++ LRX8_count_7
def LBX8_count_5 : List UInt8 := [0x00, 0x3c, 0xb4, 0x01, 0x13, 0xac, 0x2a, 0xb4, 0x00, 0x0c, 0xb6, 0x01, 0x49, 0xac, 0x2a, 0x12]
def LRX8_count_5 : List UInt8 := LBX8_count_5 ++ LRX8_count_6
def LBX8_count_4 : List UInt8 := [0x01, 0x46, 0xac, 0x2a, 0xb4, 0x00, 0x0c, 0xb4, 0x00, 0xe5, 0xb4, 0x01, 0x46, 0xac, 0x2a, 0xb4]
def LRX8_count_4 : List UInt8 := LBX8_count_4 ++ LRX8_count_5
def LBX8_count_3 : List UInt8 := [0x2a, 0xb4, 0x00, 0x0c, 0xb6, 0x00, 0xf7, 0xac, 0x2a, 0xb4, 0x00, 0x0c, 0xb4, 0x00, 0x9f, 0xb4]
def LRX8_count_3 : List UInt8 := LBX8_count_3 ++ LRX8_count_4
def LBX8_count_2 : List UInt8 := [0x00, 0x00, 0x00, 0x4d, 0x00, 0x00, 0x00, 0x55, 0x2a, 0xb4, 0x00, 0x0c, 0xb4, 0x00, 0x4b, 0xac]
def LRX8_count_2 : List UInt8 := LBX8_count_2 ++ LRX8_count_3
def LBX8_count_1 : List UInt8 := [0x00, 0x00, 0x00, 0x27, 0x00, 0x00, 0x00, 0x2f, 0x00, 0x00, 0x00, 0x37, 0x00, 0x00, 0x00, 0x42]
def LRX8_count_1 : List UInt8 := LBX8_count_1 ++ LRX8_count_2
def LBX8_count_0 : List UInt8 := [0x1b, 0xaa, 0x00, 0x00, 0x00, 0x00, 0x00, 0x5d, 0x00, 0x00, 0x00, 0x00, 0x00, 0x00, 0x00, 0x05]
def LRX8_count_0 : List UInt8 := LBX8_count_0 ++ LRX8_count_1
set_option maxRecDepth 100000 in
theorem LBX8_count_eq : cX8_count.data.toList = LRX8_count_0 := by decide +kernel
theorem LBX8_countr_0 (k : Nat) : cX8_count.data.toList[0 + k]? = LRX8_count_0[k]? := by rw [LBX8_count_eq, Nat.zero_add]
theorem LBX8_countr_1 (k : Nat) : cX8_count.data.toList[16 + k]? = LRX8_count_1[k]? := by
  have h := LBX8_countr_0 (16 + k)
  rw [show 0 + (16 + k) = 16 + k by omega] at h
  rw [h]
  exact (List.getElem?_append_right (l₁ := LBX8_count_0) (l₂ := LRX8_count_1) (show 16 ≤ 16 + k by omega)).trans (congrArg (fun i => LRX8_count_1[i]?) (show 16 + k - 16 = k by omega))
theorem LBX8_countr_2 (k : Nat) : cX8_count.data.toList[32 + k]? = LRX8_count_2[k]? := by
  have h := LBX8_countr_1 (16 + k)
  rw [show 16 + (16 + k) = 32 + k by omega] at h
  rw [h]
  exact (List.getElem?_append_right (l₁ := LBX8_count_1) (l₂ := LRX8_count_2) (show 16 ≤ 16 + k by omega)).trans (congrArg (fun i => LRX8_count_2[i]?) (show 16 + k - 16 = k by omega))
theorem LBX8_countr_3 (k : Nat) : cX8_count.data.toList[48 + k]? = LRX8_count_3[k]? := by
  have h := LBX8_countr_2 (16 + k)
  rw [show 32 + (16 + k) = 48 + k by omega] at h
  rw [h]
  exact (List.getElem?_append_right (l₁ := LBX8_count_2) (l₂ := LRX8_count_3) (show 16 ≤ 16 + k by omega)).trans (congrArg (fun i => LRX8_count_3[i]?) (show 16 + k - 16 = k by omega))
theorem LBX8_countr_4 (k : Nat) : cX8_count.data.toList[64 + k]? = LRX8_count_4[k]? := by
  have h := LBX8_countr_3 (16 + k)
  rw [show 48 + (16 + k) = 64 + k by omega] at h
  rw [h]
  exact (List.getElem?_append_right (l₁ := LBX8_count_3) (l₂ := LRX8_count_4) (show 16 ≤ 16 + k by omega)).trans (congrArg (fun i => LRX8_count_4[i]?) (show 16 + k - 16 = k by omega))
theorem LBX8_countr_5 (k : Nat) : cX8_count.data.toList[80 + k]? = LRX8_count_5[k]? := by
  have h := LBX8_countr_4 (16 + k)
  rw [show 64 + (16 + k) = 80 + k by omega] at h
  rw [h]
  exact (List.getElem?_append_right (l₁ := LBX8_count_4) (l₂ := LRX8_count_5) (show 16 ≤ 16 + k by omega)).trans (congrArg (fun i => LRX8_count_5[i]?) (show 16 + k - 16 = k by omega))
theorem LBX8_countr_6 (k : Nat) : cX8_count.data.toList[96 + k]? = LRX8_count_6[k]? := by
  have h := LBX8_countr_5 (16 + k)
  rw [show 80 + (16 + k) = 96 + k by omega] at h
  rw [h]
  exact (List.getElem?_append_right (l₁ := LBX8_count_5) (l₂ := LRX8_count_6) (show 16 ≤ 16 + k by omega)).trans (congrArg (fun i => LRX8_count_6[i]?) (show 16 + k - 16 = k by omega))
theorem dX8_count_0 : decode cX8_count 0 = .ok (.iload_n 1, 1) := dk_27_ (show cX8_count.data.toList[0]? = some 0x1b from (LBX8_countr_0 0).trans (by decide +kernel))
theorem dX8_count_1 : decode cX8_count 1 = .ok (.tableswitch 93 0 5 #[39, 47, 55, 66, 77, 85], 39) := by decide +kernel
theorem dX8_count_40 : decode cX8_count 40 = .ok (.aload_n 0, 1) := dk_42_ (show cX8_count.data.toList[40]? = some 0x2a from (LBX8_countr_2 8).trans (by decide +kernel))
theorem dX8_count_41 : decode cX8_count 41 = .ok (.getfield 12, 3) := dk_180_ (show cX8_count.data.toList[41]? = some 0xb4 from (LBX8_countr_2 9).trans (by decide +kernel)) (show cX8_count.data.toList[42]? = some 0x00 from (LBX8_countr_2 10).trans (by decide +kernel)) (show cX8_count.data.toList[43]? = some 0x0c from (LBX8_countr_2 11).trans (by decide +kernel)) (by decide)
theorem dX8_count_44 : decode cX8_count 44 = .ok (.getfield 75, 3) := dk_180_ (show cX8_count.data.toList[44]? = some 0xb4 from (LBX8_countr_2 12).trans (by decide +kernel)) (show cX8_count.data.toList[45]? = some 0x00 from (LBX8_countr_2 13).trans (by decide +kernel)) (show cX8_count.data.toList[46]? = some 0x4b from (LBX8_countr_2 14).trans (by decide +kernel)) (by decide)
theorem dX8_count_47 : decode cX8_count 47 = .ok (.ireturn, 1) := dk_172_ (show cX8_count.data.toList[47]? = some 0xac from (LBX8_countr_2 15).trans (by decide +kernel))
theorem dX8_count_48 : decode cX8_count 48 = .ok (.aload_n 0, 1) := dk_42_ (show cX8_count.data.toList[48]? = some 0x2a from (LBX8_countr_3 0).trans (by decide +kernel))
theorem dX8_count_49 : decode cX8_count 49 = .ok (.getfield 12, 3) := dk_180_ (show cX8_count.data.toList[49]? = some 0xb4 from (LBX8_countr_3 1).trans (by decide +kernel)) (show cX8_count.data.toList[50]? = some 0x00 from (LBX8_countr_3 2).trans (by decide +kernel)) (show cX8_count.data.toList[51]? = some 0x0c from (LBX8_countr_3 3).trans (by decide +kernel)) (by decide)
theorem dX8_count_52 : decode cX8_count 52 = .ok (.invokevirtual 247, 3) := dk_182_ (show cX8_count.data.toList[52]? = some 0xb6 from (LBX8_countr_3 4).trans (by decide +kernel)) (show cX8_count.data.toList[53]? = some 0x00 from (LBX8_countr_3 5).trans (by decide +kernel)) (show cX8_count.data.toList[54]? = some 0xf7 from (LBX8_countr_3 6).trans (by decide +kernel)) (by decide)
theorem dX8_count_55 : decode cX8_count 55 = .ok (.ireturn, 1) := dk_172_ (show cX8_count.data.toList[55]? = some 0xac from (LBX8_countr_3 7).trans (by decide +kernel))
theorem dX8_count_56 : decode cX8_count 56 = .ok (.aload_n 0, 1) := dk_42_ (show cX8_count.data.toList[56]? = some 0x2a from (LBX8_countr_3 8).trans (by decide +kernel))
theorem dX8_count_57 : decode cX8_count 57 = .ok (.getfield 12, 3) := dk_180_ (show cX8_count.data.toList[57]? = some 0xb4 from (LBX8_countr_3 9).trans (by decide +kernel)) (show cX8_count.data.toList[58]? = some 0x00 from (LBX8_countr_3 10).trans (by decide +kernel)) (show cX8_count.data.toList[59]? = some 0x0c from (LBX8_countr_3 11).trans (by decide +kernel)) (by decide)
theorem dX8_count_60 : decode cX8_count 60 = .ok (.getfield 159, 3) := dk_180_ (show cX8_count.data.toList[60]? = some 0xb4 from (LBX8_countr_3 12).trans (by decide +kernel)) (show cX8_count.data.toList[61]? = some 0x00 from (LBX8_countr_3 13).trans (by decide +kernel)) (show cX8_count.data.toList[62]? = some 0x9f from (LBX8_countr_3 14).trans (by decide +kernel)) (by decide)
theorem dX8_count_63 : decode cX8_count 63 = .ok (.getfield 326, 3) := dk_180_ (show cX8_count.data.toList[63]? = some 0xb4 from (LBX8_countr_3 15).trans (by decide +kernel)) (show cX8_count.data.toList[64]? = some 0x01 from (LBX8_countr_4 0).trans (by decide +kernel)) (show cX8_count.data.toList[65]? = some 0x46 from (LBX8_countr_4 1).trans (by decide +kernel)) (by decide)
theorem dX8_count_66 : decode cX8_count 66 = .ok (.ireturn, 1) := dk_172_ (show cX8_count.data.toList[66]? = some 0xac from (LBX8_countr_4 2).trans (by decide +kernel))
theorem dX8_count_67 : decode cX8_count 67 = .ok (.aload_n 0, 1) := dk_42_ (show cX8_count.data.toList[67]? = some 0x2a from (LBX8_countr_4 3).trans (by decide +kernel))
theorem dX8_count_68 : decode cX8_count 68 = .ok (.getfield 12, 3) := dk_180_ (show cX8_count.data.toList[68]? = some 0xb4 from (LBX8_countr_4 4).trans (by decide +kernel)) (show cX8_count.data.toList[69]? = some 0x00 from (LBX8_countr_4 5).trans (by decide +kernel)) (show cX8_count.data.toList[70]? = some 0x0c from (LBX8_countr_4 6).trans (by decide +kernel)) (by decide)
theorem dX8_count_71 : decode cX8_count 71 = .ok (.getfield 229, 3) := dk_180_ (show cX8_count.data.toList[71]? = some 0xb4 from (LBX8_countr_4 7).trans (by decide +kernel)) (show cX8_count.data.toList[72]? = some 0x00 from (LBX8_countr_4 8).trans (by decide +kernel)) (show cX8_count.data.toList[73]? = some 0xe5 from (LBX8_countr_4 9).trans (by decide +kernel)) (by decide)
theorem dX8_count_74 : decode cX8_count 74 = .ok (.getfield 326, 3) := dk_180_ (show cX8_count.data.toList[74]? = some 0xb4 from (LBX8_countr_4 10).trans (by decide +kernel)) (show cX8_count.data.toList[75]? = some 0x01 from (LBX8_countr_4 11).trans (by decide +kernel)) (show cX8_count.data.toList[76]? = some 0x46 from (LBX8_countr_4 12).trans (by decide +kernel)) (by decide)
theorem dX8_count_77 : decode cX8_count 77 = .ok (.ireturn, 1) := dk_172_ (show cX8_count.data.toList[77]? = some 0xac from (LBX8_countr_4 13).trans (by decide +kernel))
theorem dX8_count_78 : decode cX8_count 78 = .ok (.aload_n 0, 1) := dk_42_ (show cX8_count.data.toList[78]? = some 0x2a from (LBX8_countr_4 14).trans (by decide +kernel))
theorem dX8_count_79 : decode cX8_count 79 = .ok (.getfield 60, 3) := dk_180_ (show cX8_count.data.toList[79]? = some 0xb4 from (LBX8_countr_4 15).trans (by decide +kernel)) (show cX8_count.data.toList[80]? = some 0x00 from (LBX8_countr_5 0).trans (by decide +kernel)) (show cX8_count.data.toList[81]? = some 0x3c from (LBX8_countr_5 1).trans (by decide +kernel)) (by decide)
theorem dX8_count_82 : decode cX8_count 82 = .ok (.getfield 275, 3) := dk_180_ (show cX8_count.data.toList[82]? = some 0xb4 from (LBX8_countr_5 2).trans (by decide +kernel)) (show cX8_count.data.toList[83]? = some 0x01 from (LBX8_countr_5 3).trans (by decide +kernel)) (show cX8_count.data.toList[84]? = some 0x13 from (LBX8_countr_5 4).trans (by decide +kernel)) (by decide)
theorem dX8_count_85 : decode cX8_count 85 = .ok (.ireturn, 1) := dk_172_ (show cX8_count.data.toList[85]? = some 0xac from (LBX8_countr_5 5).trans (by decide +kernel))
theorem dX8_count_86 : decode cX8_count 86 = .ok (.aload_n 0, 1) := dk_42_ (show cX8_count.data.toList[86]? = some 0x2a from (LBX8_countr_5 6).trans (by decide +kernel))
theorem dX8_count_87 : decode cX8_count 87 = .ok (.getfield 12, 3) := dk_180_ (show cX8_count.data.toList[87]? = some 0xb4 from (LBX8_countr_5 7).trans (by decide +kernel)) (show cX8_count.data.toList[88]? = some 0x00 from (LBX8_countr_5 8).trans (by decide +kernel)) (show cX8_count.data.toList[89]? = some 0x0c from (LBX8_countr_5 9).trans (by decide +kernel)) (by decide)
theorem dX8_count_90 : decode cX8_count 90 = .ok (.invokevirtual 329, 3) := dk_182_ (show cX8_count.data.toList[90]? = some 0xb6 from (LBX8_countr_5 10).trans (by decide +kernel)) (show cX8_count.data.toList[91]? = some 0x01 from (LBX8_countr_5 11).trans (by decide +kernel)) (show cX8_count.data.toList[92]? = some 0x49 from (LBX8_countr_5 12).trans (by decide +kernel)) (by decide)
theorem dX8_count_93 : decode cX8_count 93 = .ok (.ireturn, 1) := dk_172_ (show cX8_count.data.toList[93]? = some 0xac from (LBX8_countr_5 13).trans (by decide +kernel))
theorem dX8_count_94 : decode cX8_count 94 = .ok (.aload_n 0, 1) := dk_42_ (show cX8_count.data.toList[94]? = some 0x2a from (LBX8_countr_5 14).trans (by decide +kernel))
theorem dX8_count_95 : decode cX8_count 95 = .ok (.ldc 95, 2) := dk_18_ (show cX8_count.data.toList[95]? = some 0x12 from (LBX8_countr_5 15).trans (by decide +kernel)) (show cX8_count.data.toList[96]? = some 0x5f from (LBX8_countr_6 0).trans (by decide +kernel)) (by decide)
theorem dX8_count_97 : decode cX8_count 97 = .ok (.invokevirtual 80, 3) := dk_182_ (show cX8_count.data.toList[97]? = some 0xb6 from (LBX8_countr_6 1).trans (by decide +kernel)) (show cX8_count.data.toList[98]? = some 0x00 from (LBX8_countr_6 2).trans (by decide +kernel)) (show cX8_count.data.toList[99]? = some 0x50 from (LBX8_countr_6 3).trans (by decide +kernel)) (by decide)
theorem dX8_count_100 : decode cX8_count 100 = .ok (.ireturn, 1) := dk_172_ (show cX8_count.data.toList[100]? = some 0xac from (LBX8_countr_6 4).trans (by decide +kernel))
def LRX8_status_4 : List UInt8 := []
def LBX8_status_3 : List UInt8 := [0x03, 0x01, 0xa7, 0xff, 0xee, 0x1c, 0xac]
def LRX8_status_3 : List UInt8 := LBX8_status_3 ++ LRX8_status_4
def LBX8_status_2 : List UInt8 := [0x1d, 0x10, 0x07, 0xa2, 0x00, 0x12, 0x1c, 0x2a, 0xb4, 0x00, 0x46, 0x1d, 0x2e, 0x60, 0x3d, 0x84]
def LRX8_status_2 : List UInt8 := LBX8_status_2 ++ LRX8_status_3
def LBX8_status_1 : List UInt8 := [0xac, 0x1b, 0x9b, 0x00, 0x0a, 0x2a, 0xb4, 0x00, 0x46, 0x1b, 0x2e, 0xac, 0x03, 0x3d, 0x03, 0x3e]
def LRX8_status_1 : List UInt8 := LBX8_status_1 ++ LRX8_status_2
def LBX8_status_0 : List UInt8 := [0x1b, 0x02, 0x10, 0x06, 0xb8, 0x00, 0x5b, 0x9a, 0x00, 0x0a, 0x2a, 0x12, 0x5f, 0xb6, 0x00, 0x50]
def LRX8_status_0 : List UInt8 := LBX8_status_0 ++ LRX8_status_1
set_option maxRecDepth 100000 in
theorem LBX8_status_eq : cX8_status.data.toList = LRX8_status_0 := by decide +kernel
theorem LBX8_statusr_0 (k : Nat) : cX8_status.data.toList[0 + k]? = LRX8_status_0[k]? := by rw [LBX8_status_eq, Nat.zero_add]
theorem LBX8_statusr_1 (k : Nat) : cX8_status.data.toList[16 + k]? = LRX8_status_1[k]? := by
  have h := LBX8_statusr_0 (16 + k)
  rw [show 0 + (16 + k) = 16 + k by omega] at h
  rw [h]
  exact (List.getElem?_append_right (l₁ := LBX8_status_0) (l₂ := LRX8_status_1) (show 16 ≤ 16 + k by omega)).trans (congrArg (fun i => LRX8_status_1[i]?) (show 16 + k - 16 = k by omega))
theorem LBX8_statusr_2 (k : Nat) : cX8_status.data.toList[32 + k]? = LRX8_status_2[k]? := by
  have h := LBX8_statusr_1 (16 + k)
  rw [show 16 + (16 + k) = 32 + k by omega] at h
  rw [h]
  exact (List.getElem?_append_right (l₁ := LBX8_status_1) (l₂ := LRX8_status_2) (show 16 ≤ 16 + k by omega)).trans (congrArg (fun i => LRX8_status_2[i]?) (show 16 + k - 16 = k by omega))
theorem LBX8_statusr_3 (k : Nat) : cX8_status.data.toList[48 + k]? = LRX8_status_3[k]? := by
  have h := LBX8_statusr_2 (16 + k)
  rw [show 32 + (16 + k) = 48 + k by omega] at h
  rw [h]
  exact (List.getElem?_append_right (l₁ := LBX8_status_2) (l₂ := LRX8_status_3) (show 16 ≤ 16 + k by omega)).trans (congrArg (fun i => LRX8_status_3[i]?) (show 16 + k - 16 = k by omega))
theorem dX8_status_0 : decode cX8_status 0 = .ok (.iload_n 1, 1) := dk_27_ (show cX8_status.data.toList[0]? = some 0x1b from (LBX8_statusr_0 0).trans (by decide +kernel))
theorem dX8_status_1 : decode cX8_status 1 = .ok (.iconst (-1), 1) := dk_2_ (show cX8_status.data.toList[1]? = some 0x02 from (LBX8_statusr_0 1).trans (by decide +kernel))
theorem dX8_status_2 : decode cX8_status 2 = .ok (.bipush 6, 2) := dk_16_ (show cX8_status.data.toList[2]? = some 0x10 from (LBX8_statusr_0 2).trans (by decide +kernel)) (show cX8_status.data.toList[3]? = some 0x06 from (LBX8_statusr_0 3).trans (by decide +kernel)) (by decide)
theorem dX8_status_4 : decode cX8_status 4 = .ok (.invokestatic 91, 3) := dk_184_ (show cX8_status.data.toList[4]? = some 0xb8 from (LBX8_statusr_0 4).trans (by decide +kernel)) (show cX8_status.data.toList[5]? = some 0x00 from (LBX8_statusr_0 5).trans (by decide +kernel)) (show cX8_status.data.toList[6]? = some 0x5b from (LBX8_statusr_0 6).trans (by decide +kernel)) (by decide)
theorem dX8_status_7 : decode cX8_status 7 = .ok (.ifCond .ne 10, 3) := dk_154_ (show cX8_status.data.toList[7]? = some 0x9a from (LBX8_statusr_0 7).trans (by decide +kernel)) (show cX8_status.data.toList[8]? = some 0x00 from (LBX8_statusr_0 8).trans (by decide +kernel)) (show cX8_status.data.toList[9]? = some 0x0a from (LBX8_statusr_0 9).trans (by decide +kernel)) (by decide)
theorem dX8_status_10 : decode cX8_status 10 = .ok (.aload_n 0, 1) := dk_42_ (show cX8_status.data.toList[10]? = some 0x2a from (LBX8_statusr_0 10).trans (by decide +kernel))
theorem dX8_status_11 : decode cX8_status 11 = .ok (.ldc 95, 2) := dk_18_ (show cX8_status.data.toList[11]? = some 0x12 from (LBX8_statusr_0 11).trans (by decide +kernel)) (show cX8_status.data.toList[12]? = some 0x5f from (LBX8_statusr_0 12).trans (by decide +kernel)) (by decide)
theorem dX8_status_13 : decode cX8_status 13 = .ok (.invokevirtual 80, 3) := dk_182_ (show cX8_status.data.toList[13]? = some 0xb6 from (LBX8_statusr_0 13).trans (by decide +kernel)) (show cX8_status.data.toList[14]? = some 0x00 from (LBX8_statusr_0 14).trans (by decide +kernel)) (show cX8_status.data.toList[15]? = some 0x50 from (LBX8_statusr_0 15).trans (by decide +kernel)) (by decide)
theorem dX8_status_16 : decode cX8_status 16 = .ok (.ireturn, 1) := dk_172_ (show cX8_status.data.toList[16]? = some 0xac from (LBX8_statusr_1 0).trans (by decide +kernel))
theorem dX8_status_17 : decode cX8_status 17 = .ok (.iload_n 1, 1) := dk_27_ (show cX8_status.data.toList[17]? = some 0x1b from (LBX8_statusr_1 1).trans (by decide +kernel))
theorem dX8_status_18 : decode cX8_status 18 = .ok (.ifCond .lt 10, 3) := dk_155_ (show cX8_status.data.toList[18]? = some 0x9b from (LBX8_statusr_1 2).trans (by decide +kernel)) (show cX8_status.data.toList[19]? = some 0x00 from (LBX8_statusr_1 3).trans (by decide +kernel)) (show cX8_status.data.toList[20]? = some 0x0a from (LBX8_statusr_1 4).trans (by decide +kernel)) (by decide)
theorem dX8_status_21 : decode cX8_status 21 = .ok (.aload_n 0, 1) := dk_42_ (show cX8_status.data.toList[21]? = some 0x2a from (LBX8_statusr_1 5).trans (by decide +kernel))
theorem dX8_status_22 : decode cX8_status 22 = .ok (.getfield 70, 3) := dk_180_ (show cX8_status.data.toList[22]? = some 0xb4 from (LBX8_statusr_1 6).trans (by decide +kernel)) (show cX8_status.data.toList[23]? = some 0x00 from (LBX8_statusr_1 7).trans (by decide +kernel)) (show cX8_status.data.toList[24]? = some 0x46 from (LBX8_statusr_1 8).trans (by decide +kernel)) (by decide)
theorem dX8_status_25 : decode cX8_status 25 = .ok (.iload_n 1, 1) := dk_27_ (show cX8_status.data.toList[25]? = some 0x1b from (LBX8_statusr_1 9).trans (by decide +kernel))
theorem dX8_status_26 : decode cX8_status 26 = .ok (.iaload, 1) := dk_46_ (show cX8_status.data.toList[26]? = some 0x2e from (LBX8_statusr_1 10).trans (by decide +kernel))
theorem dX8_status_27 : decode cX8_status 27 = .ok (.ireturn, 1) := dk_172_ (show cX8_status.data.toList[27]? = some 0xac from (LBX8_statusr_1 11).trans (by decide +kernel))
theorem dX8_status_28 : decode cX8_status 28 = .ok (.iconst 0, 1) := dk_3_ (show cX8_status.data.toList[28]? = some 0x03 from (LBX8_statusr_1 12).trans (by decide +kernel))
theorem dX8_status_29 : decode cX8_status 29 = .ok (.istore_n 2, 1) := dk_61_ (show cX8_status.data.toList[29]? = some 0x3d from (LBX8_statusr_1 13).trans (by decide +kernel))
theorem dX8_status_30 : decode cX8_status 30 = .ok (.iconst 0, 1) := dk_3_ (show cX8_status.data.toList[30]? = some 0x03 from (LBX8_statusr_1 14).trans (by decide +kernel))
theorem dX8_status_31 : decode cX8_status 31 = .ok (.istore_n 3, 1) := dk_62_ (show cX8_status.data.toList[31]? = some 0x3e from (LBX8_statusr_1 15).trans (by decide +kernel))
theorem dX8_status_32 : decode cX8_status 32 = .ok (.iload_n 3, 1) := dk_29_ (show cX8_status.data.toList[32]? = some 0x1d from (LBX8_statusr_2 0).trans (by decide +kernel))
theorem dX8_status_33 : decode cX8_status 33 = .ok (.bipush 7, 2) := dk_16_ (show cX8_status.data.toList[33]? = some 0x10 from (LBX8_statusr_2 1).trans (by decide +kernel)) (show cX8_status.data.toList[34]? = some 0x07 from (LBX8_statusr_2 2).trans (by decide +kernel)) (by decide)
theorem dX8_status_35 : decode cX8_status 35 = .ok (.if_icmp .ge 18, 3) := dk_162_ (show cX8_status.data.toList[35]? = some 0xa2 from (LBX8_statusr_2 3).trans (by decide +kernel)) (show cX8_status.data.toList[36]? = some 0x00 from (LBX8_statusr_2 4).trans (by decide +kernel)) (show cX8_status.data.toList[37]? = some 0x12 from (LBX8_statusr_2 5).trans (by decide +kernel)) (by decide)
theorem dX8_status_38 : decode cX8_status 38 = .ok (.iload_n 2, 1) := dk_28_ (show cX8_status.data.toList[38]? = some 0x1c from (LBX8_statusr_2 6).trans (by decide +kernel))
theorem dX8_status_39 : decode cX8_status 39 = .ok (.aload_n 0, 1) := dk_42_ (show cX8_status.data.toList[39]? = some 0x2a from (LBX8_statusr_2 7).trans (by decide +kernel))
theorem dX8_status_40 : decode cX8_status 40 = .ok (.getfield 70, 3) := dk_180_ (show cX8_status.data.toList[40]? = some 0xb4 from (LBX8_statusr_2 8).trans (by decide +kernel)) (show cX8_status.data.toList[41]? = some 0x00 from (LBX8_statusr_2 9).trans (by decide +kernel)) (show cX8_status.data.toList[42]? = some 0x46 from (LBX8_statusr_2 10).trans (by decide +kernel)) (by decide)
theorem dX8_status_43 : decode cX8_status 43 = .ok (.iload_n 3, 1) := dk_29_ (show cX8_status.data.toList[43]? = some 0x1d from (LBX8_statusr_2 11).trans (by decide +kernel))
theorem dX8_status_44 : decode cX8_status 44 = .ok (.iaload, 1) := dk_46_ (show cX8_status.data.toList[44]? = some 0x2e from (LBX8_statusr_2 12).trans (by decide +kernel))
theorem dX8_status_45 : decode cX8_status 45 = .ok (.iadd, 1) := dk_96_ (show cX8_status.data.toList[45]? = some 0x60 from (LBX8_statusr_2 13).trans (by decide +kernel))
theorem dX8_status_46 : decode cX8_status 46 = .ok (.istore_n 2, 1) := dk_61_ (show cX8_status.data.toList[46]? = some 0x3d from (LBX8_statusr_2 14).trans (by decide +kernel))
theorem dX8_status_47 : decode cX8_status 47 = .ok (.iinc 3 1, 3) := dk_132_ (show cX8_status.data.toList[47]? = some 0x84 from (LBX8_statusr_2 15).trans (by decide +kernel)) (show cX8_status.data.toList[48]? = some 0x03 from (LBX8_statusr_3 0).trans (by decide +kernel)) (show cX8_status.data.toList[49]? = some 0x01 from (LBX8_statusr_3 1).trans (by decide +kernel)) (by decide) (by decide)
theorem dX8_status_50 : decode cX8_status 50 = .ok (.goto (-18), 3) := dk_167_ (show cX8_status.data.toList[50]? = some 0xa7 from (LBX8_statusr_3 2).trans (by decide +kernel)) (show cX8_status.data.toList[51]? = some 0xff from (LBX8_statusr_3 3).trans (by decide +kernel)) (show cX8_status.data.toList[52]? = some 0xee from (LBX8_statusr_3 4).trans (by decide +kernel)) (by decide)
theorem dX8_status_53 : decode cX8_status 53 = .ok (.iload_n 2, 1) := dk_28_ (show cX8_status.data.toList[53]? = some 0x1c from (LBX8_statusr_3 5).trans (by decide +kernel))
theorem dX8_status_54 : decode cX8_status 54 = .ok (.ireturn, 1) := dk_172_ (show cX8_status.data.toList[54]? = some 0xac from (LBX8_statusr_3 6).trans (by decide +kernel))
theorem uw525 : Cond.fieldLink RX8 19 "LongerBack" "draft" "LLongerBack$Land;" ∈ wsU := ut1 (List.mem_of_getElem? (i := 211) rfl) rfl
theorem uw526 : Cond.methodLink RX8 241 yX1_become ∈ wsU := ut3 (List.mem_of_getElem? (i := 153) rfl) rfl
theorem uw527 : Cond.instanceMethod yX1_become ∈ wsU := ut3 (List.mem_of_getElem? (i := 154) rfl) rfl
theorem uw528 : Cond.selects RX1 yX1_become yX1_become ∈ wsU := ut3 (List.mem_of_getElem? (i := 155) rfl) rfl
theorem uw529 : Cond.code yX1_become cX1_become 2 none ∈ wsU := ut3 (List.mem_of_getElem? (i := 156) rfl) rfl
theorem uw530 : Cond.fieldLink RX8 244 "LongerBack$Learner" "liars" "I" ∈ wsU := ut1 (List.mem_of_getElem? (i := 152) rfl) rfl
theorem uw531 : Cond.methodLink RX8 253 yX1_allBetweenEnds ∈ wsU := ut3 (List.mem_of_getElem? (i := 177) rfl) rfl
theorem uw532 : Cond.instanceMethod yX1_allBetweenEnds ∈ wsU := ut3 (List.mem_of_getElem? (i := 178) rfl) rfl
theorem uw533 : Cond.selects RX1 yX1_allBetweenEnds yX1_allBetweenEnds ∈ wsU := ut3 (List.mem_of_getElem? (i := 179) rfl) rfl
theorem uw534 : Cond.code yX1_allBetweenEnds cX1_allBetweenEnds 3 (some .int) ∈ wsU := ut3 (List.mem_of_getElem? (i := 180) rfl) rfl
theorem uw535 : Cond.methodLink RX8 250 yX1_countUnknown ∈ wsU := ut3 (List.mem_of_getElem? (i := 173) rfl) rfl
theorem uw536 : Cond.instanceMethod yX1_countUnknown ∈ wsU := ut3 (List.mem_of_getElem? (i := 174) rfl) rfl
theorem uw537 : Cond.selects RX1 yX1_countUnknown yX1_countUnknown ∈ wsU := ut3 (List.mem_of_getElem? (i := 175) rfl) rfl
theorem uw538 : Cond.code yX1_countUnknown cX1_countUnknown 3 (some .int) ∈ wsU := ut3 (List.mem_of_getElem? (i := 176) rfl) rfl
theorem uw539 : Cond.methodLink RX8 247 yX1_countWays ∈ wsU := ut3 (List.mem_of_getElem? (i := 169) rfl) rfl
theorem uw540 : Cond.instanceMethod yX1_countWays ∈ wsU := ut3 (List.mem_of_getElem? (i := 170) rfl) rfl
theorem uw541 : Cond.selects RX1 yX1_countWays yX1_countWays ∈ wsU := ut3 (List.mem_of_getElem? (i := 171) rfl) rfl
theorem uw542 : Cond.code yX1_countWays cX1_countWays 3 (some .int) ∈ wsU := ut3 (List.mem_of_getElem? (i := 172) rfl) rfl
theorem uw543 : Cond.methodLink RX8 256 yX1_widestWay ∈ wsU := ut3 (List.mem_of_getElem? (i := 185) rfl) rfl
theorem uw544 : Cond.instanceMethod yX1_widestWay ∈ wsU := ut3 (List.mem_of_getElem? (i := 186) rfl) rfl
theorem uw545 : Cond.selects RX1 yX1_widestWay yX1_widestWay ∈ wsU := ut3 (List.mem_of_getElem? (i := 187) rfl) rfl
theorem uw546 : Cond.code yX1_widestWay cX1_widestWay 4 (some .int) ∈ wsU := ut3 (List.mem_of_getElem? (i := 188) rfl) rfl
theorem uw547 : Cond.fieldLink RX8 33 "LongerBack" "mended" "LLongerBack$Atlas;" ∈ wsU := ut1 (List.mem_of_getElem? (i := 214) rfl) rfl
theorem uw548 : Cond.methodLink RX8 259 yX0_mendFrom ∈ wsU := ut3 (List.mem_of_getElem? (i := 193) rfl) rfl
theorem uw549 : Cond.instanceMethod yX0_mendFrom ∈ wsU := ut3 (List.mem_of_getElem? (i := 194) rfl) rfl
theorem uw550 : Cond.selects RX0 yX0_mendFrom yX0_mendFrom ∈ wsU := ut3 (List.mem_of_getElem? (i := 195) rfl) rfl
theorem uw551 : Cond.code yX0_mendFrom cX0_mendFrom 13 (some .boolean) ∈ wsU := ut3 (List.mem_of_getElem? (i := 196) rfl) rfl
theorem uw552 : Cond.methodLink RX8 263 yX0_leastTrip ∈ wsU := ut3 (List.mem_of_getElem? (i := 198) rfl) rfl
theorem uw553 : Cond.instanceMethod yX0_leastTrip ∈ wsU := ut3 (List.mem_of_getElem? (i := 199) rfl) rfl
theorem uw554 : Cond.selects RX0 yX0_leastTrip yX0_leastTrip ∈ wsU := ut3 (List.mem_of_getElem? (i := 200) rfl) rfl
theorem uw555 : Cond.code yX0_leastTrip cX0_leastTrip 3 (some .int) ∈ wsU := ut3 (List.mem_of_getElem? (i := 201) rfl) rfl
theorem uw556 : Cond.methodLink RX8 266 yX8_bestToMend ∈ wsU := ut3 (List.mem_of_getElem? (i := 207) rfl) rfl
theorem uw557 : Cond.instanceMethod yX8_bestToMend ∈ wsU := ut3 (List.mem_of_getElem? (i := 209) rfl) rfl
theorem uw558 : Cond.selects RX8 yX8_bestToMend yX8_bestToMend ∈ wsU := us_sel (q := (yX8_bestToMend, 12)) (List.mem_of_getElem? (i := 13) (by decide +kernel)) rfl
theorem uw559 : Cond.code yX8_bestToMend cX8_bestToMend 7 (some .int) ∈ wsU := ut3 (List.mem_of_getElem? (i := 210) rfl) rfl
theorem uw560 : Cond.methodLink RX8 269 yX1_comesTo ∈ wsU := ut3 (List.mem_of_getElem? (i := 215) rfl) rfl
theorem uw561 : Cond.methodLink RX8 272 yX1_hollowSet ∈ wsU := ut3 (List.mem_of_getElem? (i := 229) rfl) rfl
theorem uw562 : Cond.instanceMethod yX1_hollowSet ∈ wsU := ut3 (List.mem_of_getElem? (i := 230) rfl) rfl
theorem uw563 : Cond.selects RX1 yX1_hollowSet yX1_hollowSet ∈ wsU := ut3 (List.mem_of_getElem? (i := 231) rfl) rfl
theorem uw564 : Cond.code yX1_hollowSet cX1_hollowSet 5 (some .int) ∈ wsU := ut3 (List.mem_of_getElem? (i := 232) rfl) rfl
theorem uw565 : Cond.fieldLink RX8 60 "LongerBack" "text" "LLongerBack$Text;" ∈ wsU := ut1 (List.mem_of_getElem? (i := 218) rfl) rfl
theorem uw566 : Cond.fieldLink RX8 275 "LongerBack$Text" "size" "I" ∈ wsU := ut1 (List.mem_of_getElem? (i := 166) rfl) rfl
theorem uw567 : Cond.methodLink RX8 278 yX7_addByte ∈ wsU := ut3 (List.mem_of_getElem? (i := 238) rfl) rfl
theorem uw568 : Cond.instanceMethod yX7_addByte ∈ wsU := ut3 (List.mem_of_getElem? (i := 239) rfl) rfl
theorem uw569 : Cond.selects RX7 yX7_addByte yX7_addByte ∈ wsU := ut4 (List.mem_of_getElem? (i := 0) rfl) rfl
theorem uw570 : Cond.code yX7_addByte cX7_addByte 2 none ∈ wsU := ut4 (List.mem_of_getElem? (i := 1) rfl) rfl
theorem uw571 : Cond.methodLink RX8 282 yX7_tellTo ∈ wsU := ut4 (List.mem_of_getElem? (i := 10) rfl) rfl
theorem uw572 : Cond.instanceMethod yX7_tellTo ∈ wsU := ut4 (List.mem_of_getElem? (i := 11) rfl) rfl
theorem uw573 : Cond.selects RX7 yX7_tellTo yX7_tellTo ∈ wsU := ut4 (List.mem_of_getElem? (i := 12) rfl) rfl
theorem uw574 : Cond.code yX7_tellTo cX7_tellTo 3 (some .int) ∈ wsU := ut4 (List.mem_of_getElem? (i := 13) rfl) rfl
theorem uw575 : Cond.fieldLink RX8 16 "LongerBack" "kept" "LLongerBack$Land;" ∈ wsU := ut1 (List.mem_of_getElem? (i := 210) rfl) rfl
theorem uw576 : Cond.fieldLink RX8 22 "LongerBack" "isKept" "Z" ∈ wsU := ut1 (List.mem_of_getElem? (i := 212) rfl) rfl
theorem uw577 : Cond.fieldLink RX8 326 "LongerBack$Rows" "count" "I" ∈ wsU := ut1 (List.mem_of_getElem? (i := 39) rfl) rfl
theorem uw578 : Cond.methodLink RX8 329 yX1_allErrands ∈ wsU := ut4 (List.mem_of_getElem? (i := 194) rfl) rfl
theorem uw579 : Cond.instanceMethod yX1_allErrands ∈ wsU := ut4 (List.mem_of_getElem? (i := 195) rfl) rfl
theorem uw580 : Cond.selects RX1 yX1_allErrands yX1_allErrands ∈ wsU := ut4 (List.mem_of_getElem? (i := 196) rfl) rfl
theorem uw581 : Cond.code yX1_allErrands cX1_allErrands 3 (some .int) ∈ wsU := ut4 (List.mem_of_getElem? (i := 197) rfl) rfl
theorem kf_X8_19 : xWF RX8 19 8 2 RX8 TX8 12 := ⟨inUX8, rfl, by decide, uw525⟩
theorem kv_X8_241 : xWV RX8 241 RX1 yX1_become cX1_become 2 none 1 := ⟨⟨uw526, uw527, uw528, uw19, uw529⟩, by decide +kernel⟩
theorem kf_X8_244 : xWF RX8 244 2 0 RX2 TX2 2 := ⟨inUX2, rfl, by decide, uw530⟩
theorem kv_X8_253 : xWV RX8 253 RX1 yX1_allBetweenEnds cX1_allBetweenEnds 3 (some .int) 0 := ⟨⟨uw531, uw532, uw533, uw19, uw534⟩, by decide +kernel⟩
theorem kv_X8_250 : xWV RX8 250 RX1 yX1_countUnknown cX1_countUnknown 3 (some .int) 0 := ⟨⟨uw535, uw536, uw537, uw19, uw538⟩, by decide +kernel⟩
theorem kv_X8_247 : xWV RX8 247 RX1 yX1_countWays cX1_countWays 3 (some .int) 0 := ⟨⟨uw539, uw540, uw541, uw19, uw542⟩, by decide +kernel⟩
theorem kv_X8_256 : xWV RX8 256 RX1 yX1_widestWay cX1_widestWay 4 (some .int) 0 := ⟨⟨uw543, uw544, uw545, uw19, uw546⟩, by decide +kernel⟩
theorem kf_X8_33 : xWF RX8 33 8 5 RX8 TX8 12 := ⟨inUX8, rfl, by decide, uw547⟩
theorem kv_X8_259 : xWV RX8 259 RX0 yX0_mendFrom cX0_mendFrom 13 (some .boolean) 4 := ⟨⟨uw548, uw549, uw550, uw84, uw551⟩, by decide +kernel⟩
theorem kv_X8_263 : xWV RX8 263 RX0 yX0_leastTrip cX0_leastTrip 3 (some .int) 1 := ⟨⟨uw552, uw553, uw554, uw84, uw555⟩, by decide +kernel⟩
theorem kv_X8_266 : xWV RX8 266 RX8 yX8_bestToMend cX8_bestToMend 7 (some .int) 1 := ⟨⟨uw556, uw557, uw558, uw414, uw559⟩, by decide +kernel⟩
theorem kv_X8_269 : xWV RX8 269 RX1 yX1_comesTo cX1_comesTo 5 (some .int) 2 := ⟨⟨uw560, uw62, uw63, uw19, uw64⟩, by decide +kernel⟩
theorem kv_X8_272 : xWV RX8 272 RX1 yX1_hollowSet cX1_hollowSet 5 (some .int) 0 := ⟨⟨uw561, uw562, uw563, uw19, uw564⟩, by decide +kernel⟩
theorem kf_X8_60 : xWF RX8 60 8 9 RX8 TX8 12 := ⟨inUX8, rfl, by decide, uw565⟩
theorem kf_X8_275 : xWF RX8 275 7 0 RX7 TX7 7 := ⟨inUX7, rfl, by decide, uw566⟩
theorem kv_X8_278 : xWV RX8 278 RX7 yX7_addByte cX7_addByte 2 none 1 := ⟨⟨uw567, uw568, uw569, uw299, uw570⟩, by decide +kernel⟩
theorem kv_X8_282 : xWV RX8 282 RX7 yX7_tellTo cX7_tellTo 3 (some .int) 1 := ⟨⟨uw571, uw572, uw573, uw299, uw574⟩, by decide +kernel⟩
theorem kf_X8_16 : xWF RX8 16 8 1 RX8 TX8 12 := ⟨inUX8, rfl, by decide, uw575⟩
theorem kf_X8_22 : xWF RX8 22 8 3 RX8 TX8 12 := ⟨inUX8, rfl, by decide, uw576⟩
theorem kf_X8_326 : xWF RX8 326 3 0 RX3 TX3 3 := ⟨inUX3, rfl, by decide, uw577⟩
theorem kv_X8_329 : xWV RX8 329 RX1 yX1_allErrands cX1_allErrands 3 (some .int) 0 := ⟨⟨uw578, uw579, uw580, uw19, uw581⟩, by decide +kernel⟩
set_option maxHeartbeats 4000000 in
set_option maxRecDepth 100000 in
theorem c_X8_lies (l : Launch) (D : va_G) (cI cJ cZ cS : ClassId) (ta : Nat) (sa sv : Nat → Nat) (sz : Nat) (h0 : Nat) (qh : Nat) (qk : Nat) (qd : Nat) (b0 : Int32) (qa : Nat) (qm : Nat) (qs : Nat) (qp : Nat) (ql : Nat) (qt : Nat) (qz : Nat) (qf : Nat) (Pa : Nat) (ae : Nat) (al : Nat) (au : Nat) (ao : Nat) (ar : Nat) (ak : Nat) (aw : Nat) (att : Nat) (ass : Nat) (fae : Nat → Int32) (fal : Nat → Int32) (fau : Nat → Int32) (fao : Nat → Int32) (Ra : Nat) (aRn : Nat) (aRp : Nat) (farn : Nat → Int32) (farp : Nat → Int32) (fak : Nat → Int32) (Wa : Nat) (aWn : Nat) (aWp : Nat) (fawn : Nat → Int32) (fawp : Nat → Int32) (fat : Nat → Int32) (fas : Nat → Int32) (Pv : Nat) (ve : Nat) (vl : Nat) (vu : Nat) (vo : Nat) (vr : Nat) (vk : Nat) (vw : Nat) (vtt : Nat) (vss : Nat) (fve : Nat → Int32) (fvl : Nat → Int32) (fvu : Nat → Int32) (fvo : Nat → Int32) (Rv : Nat) (vRn : Nat) (vRp : Nat) (fvrn : Nat → Int32) (fvrp : Nat → Int32) (fvk : Nat → Int32) (Wv : Nat) (vWn : Nat) (vWp : Nat) (fvwn : Nat → Int32) (fvwp : Nat → Int32) (fvt : Nat → Int32) (fvs : Nat → Int32) (i0 : Int32) (i1 : Int32) (hP0 : Pa ≤ 10) (hR : Ra ≤ 8) (hLLr : LL Ra farn) (hWa : Wa ≤ 8) (hLLw : LL Wa fawn) (harn : BA 8 7 farn) (harp : BA 48 10 farp) (hawn : BA 8 7 fawn) (hawp : BA 48 10 fawp) (hvrn : BA 8 7 fvrn) (hvrp : BA 48 10 fvrp) (hvwn : BA 8 7 fvwn) (hvwp : BA 48 10 fvwp) : Met l yX8_lies (Cond.code yX8_lies cX8_lies 1 (some .int) :: wsU) ({ frames := 5, cells := 0, slots := 0, locals := 121 }) (va_Pc [.ref h0] (XW D (xT cI cJ cZ cS) ta sa sv [(h0, .inr (8, [.ref qh, .ref qk, .ref qd, .int b0, .ref qa, .ref qm, .ref qs, .ref qp, .ref ql, .ref qt, .ref qz, .ref qf])), (qh, .inr (1, [.int (nI (Pa)), .ref ae, .ref al, .ref au, .ref ao, .ref ar, .ref ak, .ref aw, .ref att, .ref ass])), (ae, .inl (cI, 10, .inl fae)), (al, .inl (cI, 100, .inl fal)), (au, .inl (cI, 100, .inl fau)), (ao, .inl (cI, 100, .inl fao)), (ar, .inr (3, [.int (nI (Ra)), .ref aRn, .ref aRp])), (aRn, .inl (cI, 8, .inl farn)), (aRp, .inl (cI, 48, .inl farp)), (ak, .inl (cI, 8, .inl fak)), (aw, .inr (3, [.int (nI (Wa)), .ref aWn, .ref aWp])), (aWn, .inl (cI, 8, .inl fawn)), (aWp, .inl (cI, 48, .inl fawp)), (att, .inl (cI, 8, .inl fat)), (ass, .inl (cI, 8, .inl fas)), (qd, .inr (1, [.int (nI (Pv)), .ref ve, .ref vl, .ref vu, .ref vo, .ref vr, .ref vk, .ref vw, .ref vtt, .ref vss])), (ve, .inl (cI, 10, .inl fve)), (vl, .inl (cI, 100, .inl fvl)), (vu, .inl (cI, 100, .inl fvu)), (vo, .inl (cI, 100, .inl fvo)), (vr, .inr (3, [.int (nI (Rv)), .ref vRn, .ref vRp])), (vRn, .inl (cI, 8, .inl fvrn)), (vRp, .inl (cI, 48, .inl fvrp)), (vk, .inl (cI, 8, .inl fvk)), (vw, .inr (3, [.int (nI (Wv)), .ref vWn, .ref vWp])), (vWn, .inl (cI, 8, .inl fvwn)), (vWp, .inl (cI, 48, .inl fvwp)), (vtt, .inl (cI, 8, .inl fvt)), (vss, .inl (cI, 8, .inl fvs)), (ql, .inr (2, [.int i0, .int i1]))] sz)) (XQi (fun (r : Int32) (u : (Nat → Int32) × (Nat → Int32) × Int32 × Int32) => match u with | (yl, yu, j0, j1) => ((r = (lrn fao fawn fawp fat fas Wa 50 0 fal fau 0).2.2.2))) D (fun (u : (Nat → Int32) × (Nat → Int32) × Int32 × Int32) => match u with | (yl, yu, j0, j1) => [(h0, .inr (8, [.ref qh, .ref qk, .ref qd, .int b0, .ref qa, .ref qm, .ref qs, .ref qp, .ref ql, .ref qt, .ref qz, .ref qf])), (qh, .inr (1, [.int (nI (Pa)), .ref ae, .ref al, .ref au, .ref ao, .ref ar, .ref ak, .ref aw, .ref att, .ref ass])), (ae, .inl (cI, 10, .inl fae)), (al, .inl (cI, 100, .inl fal)), (au, .inl (cI, 100, .inl fau)), (ao, .inl (cI, 100, .inl fao)), (ar, .inr (3, [.int (nI (Ra)), .ref aRn, .ref aRp])), (aRn, .inl (cI, 8, .inl farn)), (aRp, .inl (cI, 48, .inl farp)), (ak, .inl (cI, 8, .inl fak)), (aw, .inr (3, [.int (nI (Wa)), .ref aWn, .ref aWp])), (aWn, .inl (cI, 8, .inl fawn)), (aWp, .inl (cI, 48, .inl fawp)), (att, .inl (cI, 8, .inl fat)), (ass, .inl (cI, 8, .inl fas)), (qd, .inr (1, [.int (nI (Pa)), .ref ve, .ref vl, .ref vu, .ref vo, .ref vr, .ref vk, .ref vw, .ref vtt, .ref vss])), (ve, .inl (cI, 10, .inl fae)), (vl, .inl (cI, 100, .inl yl)), (vu, .inl (cI, 100, .inl yu)), (vo, .inl (cI, 100, .inl fao)), (vr, .inr (3, [.int (nI (Ra)), .ref vRn, .ref vRp])), (vRn, .inl (cI, 8, .inl farn)), (vRp, .inl (cI, 48, .inl farp)), (vk, .inl (cI, 8, .inl fak)), (vw, .inr (3, [.int (nI (Wa)), .ref vWn, .ref vWp])), (vWn, .inl (cI, 8, .inl fawn)), (vWp, .inl (cI, 48, .inl fawp)), (vtt, .inl (cI, 8, .inl fat)), (vss, .inl (cI, 8, .inl fas)), (ql, .inr (2, [.int j0, .int j1]))]) (va_A [(h0, .inr (8, [.ref qh, .ref qk, .ref qd, .int b0, .ref qa, .ref qm, .ref qs, .ref qp, .ref ql, .ref qt, .ref qz, .ref qf])), (qh, .inr (1, [.int (nI (Pa)), .ref ae, .ref al, .ref au, .ref ao, .ref ar, .ref ak, .ref aw, .ref att, .ref ass])), (ae, .inl (cI, 10, .inl fae)), (al, .inl (cI, 100, .inl fal)), (au, .inl (cI, 100, .inl fau)), (ao, .inl (cI, 100, .inl fao)), (ar, .inr (3, [.int (nI (Ra)), .ref aRn, .ref aRp])), (aRn, .inl (cI, 8, .inl farn)), (aRp, .inl (cI, 48, .inl farp)), (ak, .inl (cI, 8, .inl fak)), (aw, .inr (3, [.int (nI (Wa)), .ref aWn, .ref aWp])), (aWn, .inl (cI, 8, .inl fawn)), (aWp, .inl (cI, 48, .inl fawp)), (att, .inl (cI, 8, .inl fat)), (ass, .inl (cI, 8, .inl fas)), (qd, .inr (1, [.int (nI (Pv)), .ref ve, .ref vl, .ref vu, .ref vo, .ref vr, .ref vk, .ref vw, .ref vtt, .ref vss])), (ve, .inl (cI, 10, .inl fve)), (vl, .inl (cI, 100, .inl fvl)), (vu, .inl (cI, 100, .inl fvu)), (vo, .inl (cI, 100, .inl fvo)), (vr, .inr (3, [.int (nI (Rv)), .ref vRn, .ref vRp])), (vRn, .inl (cI, 8, .inl fvrn)), (vRp, .inl (cI, 48, .inl fvrp)), (vk, .inl (cI, 8, .inl fvk)), (vw, .inr (3, [.int (nI (Wv)), .ref vWn, .ref vWp])), (vWn, .inl (cI, 8, .inl fvwn)), (vWp, .inl (cI, 48, .inl fvwp)), (vtt, .inl (cI, 8, .inl fvt)), (vss, .inl (cI, 8, .inl fvs)), (ql, .inr (2, [.int i0, .int i1]))] sz)) 0 0 (va_A [(h0, .inr (8, [.ref qh, .ref qk, .ref qd, .int b0, .ref qa, .ref qm, .ref qs, .ref qp, .ref ql, .ref qt, .ref qz, .ref qf])), (qh, .inr (1, [.int (nI (Pa)), .ref ae, .ref al, .ref au, .ref ao, .ref ar, .ref ak, .ref aw, .ref att, .ref ass])), (ae, .inl (cI, 10, .inl fae)), (al, .inl (cI, 100, .inl fal)), (au, .inl (cI, 100, .inl fau)), (ao, .inl (cI, 100, .inl fao)), (ar, .inr (3, [.int (nI (Ra)), .ref aRn, .ref aRp])), (aRn, .inl (cI, 8, .inl farn)), (aRp, .inl (cI, 48, .inl farp)), (ak, .inl (cI, 8, .inl fak)), (aw, .inr (3, [.int (nI (Wa)), .ref aWn, .ref aWp])), (aWn, .inl (cI, 8, .inl fawn)), (aWp, .inl (cI, 48, .inl fawp)), (att, .inl (cI, 8, .inl fat)), (ass, .inl (cI, 8, .inl fas)), (qd, .inr (1, [.int (nI (Pv)), .ref ve, .ref vl, .ref vu, .ref vo, .ref vr, .ref vk, .ref vw, .ref vtt, .ref vss])), (ve, .inl (cI, 10, .inl fve)), (vl, .inl (cI, 100, .inl fvl)), (vu, .inl (cI, 100, .inl fvu)), (vo, .inl (cI, 100, .inl fvo)), (vr, .inr (3, [.int (nI (Rv)), .ref vRn, .ref vRp])), (vRn, .inl (cI, 8, .inl fvrn)), (vRp, .inl (cI, 48, .inl fvrp)), (vk, .inl (cI, 8, .inl fvk)), (vw, .inr (3, [.int (nI (Wv)), .ref vWn, .ref vWp])), (vWn, .inl (cI, 8, .inl fvwn)), (vWp, .inl (cI, 48, .inl fvwp)), (vtt, .inl (cI, 8, .inl fvt)), (vss, .inl (cI, 8, .inl fvs)), (ql, .inr (2, [.int i0, .int i1]))] sz) := by
  refine xh (QA := fun A => XQi (fun (r : Int32) (u : (Nat → Int32) × (Nat → Int32) × Int32 × Int32) => match u with | (yl, yu, j0, j1) => ((r = (lrn fao fawn fawp fat fas Wa 50 0 fal fau 0).2.2.2))) D (fun (u : (Nat → Int32) × (Nat → Int32) × Int32 × Int32) => match u with | (yl, yu, j0, j1) => [(h0, .inr (8, [.ref qh, .ref qk, .ref qd, .int b0, .ref qa, .ref qm, .ref qs, .ref qp, .ref ql, .ref qt, .ref qz, .ref qf])), (qh, .inr (1, [.int (nI (Pa)), .ref ae, .ref al, .ref au, .ref ao, .ref ar, .ref ak, .ref aw, .ref att, .ref ass])), (ae, .inl (cI, 10, .inl fae)), (al, .inl (cI, 100, .inl fal)), (au, .inl (cI, 100, .inl fau)), (ao, .inl (cI, 100, .inl fao)), (ar, .inr (3, [.int (nI (Ra)), .ref aRn, .ref aRp])), (aRn, .inl (cI, 8, .inl farn)), (aRp, .inl (cI, 48, .inl farp)), (ak, .inl (cI, 8, .inl fak)), (aw, .inr (3, [.int (nI (Wa)), .ref aWn, .ref aWp])), (aWn, .inl (cI, 8, .inl fawn)), (aWp, .inl (cI, 48, .inl fawp)), (att, .inl (cI, 8, .inl fat)), (ass, .inl (cI, 8, .inl fas)), (qd, .inr (1, [.int (nI (Pa)), .ref ve, .ref vl, .ref vu, .ref vo, .ref vr, .ref vk, .ref vw, .ref vtt, .ref vss])), (ve, .inl (cI, 10, .inl fae)), (vl, .inl (cI, 100, .inl yl)), (vu, .inl (cI, 100, .inl yu)), (vo, .inl (cI, 100, .inl fao)), (vr, .inr (3, [.int (nI (Ra)), .ref vRn, .ref vRp])), (vRn, .inl (cI, 8, .inl farn)), (vRp, .inl (cI, 48, .inl farp)), (vk, .inl (cI, 8, .inl fak)), (vw, .inr (3, [.int (nI (Wa)), .ref vWn, .ref vWp])), (vWn, .inl (cI, 8, .inl fawn)), (vWp, .inl (cI, 48, .inl fawp)), (vtt, .inl (cI, 8, .inl fat)), (vss, .inl (cI, 8, .inl fas)), (ql, .inr (2, [.int j0, .int j1]))]) A) (fr := fun A => A) (by decide) (Nat.le_of_ble_eq_true rfl) ?_
  intro p e s m below meth c ls A hF hr hlk hin hsz hP hK hD hN hZ hA hS hl
  have hF : CallFix p m c cX8_lies 1 s _ _ RX8 := hF
  have hx := hF.1
  have hb := hF.2.1
  have hml := hF.2.2.1
  have hown := hF.2.2.2.1
  have hu : ∀ w ∈ wsU, w.before _ s = true := fun w h => hF.2.2.2.2 w (List.mem_cons_of_mem _ h)
  have hl : lv_has ls 1 [(0, .ref h0)] := hl
  refine lv_aload_n hx hb dX8_lies_0 rfl (lv_at hl 0 rfl) ?_
  refine xg hF kf_X8_19 hK hP 0 rfl rfl dX8_lies_1 ?_
  refine lv_aload_n hx hb dX8_lies_4 rfl (lv_at hl 0 rfl) ?_
  refine xg hF kf_X8_12 hK hP 0 rfl rfl dX8_lies_5 ?_
  refine xc_Vv (wr := [(h0, .inr (8, [.ref qh, .ref qk, .ref qd, .int b0, .ref qa, .ref qm, .ref qs, .ref qp, .ref ql, .ref qt, .ref qz, .ref qf])), (ql, .inr (2, [.int i0, .int i1]))]) hF (c_X1_become l D cI cJ cZ cS ta sa sv s.heap.size qd qh ve vl vu vo vr vk vw vtt vss vRn vRp vWn vWp Pv Rv Wv fve fvl fvu fvo fvrn fvrp fvk fvwn fvwp fvt fvs ae al au ao ar ak aw att ass aRn aRp aWn aWp Pa Ra Wa fae fal fau fao farn farp fak fawn fawp fat fas hvrn hvrp hvwn hvwp harn harp hawn hawp) kv_X8_241 ⟨rfl, rfl, Nat.le_of_ble_eq_true rfl, Nat.le_of_ble_eq_true rfl⟩ ⟨Nat.le_of_ble_eq_true rfl, Nat.le_of_ble_eq_true rfl⟩ hK hN hZ hP hD hS hA [15, 16, 17, 18, 19, 20, 21, 22, 23, 24, 25, 26, 27, 28, 1, 2, 3, 4, 5, 6, 7, 8, 9, 10, 11, 12, 13, 14] [0, 29] rfl rfl (by decide +kernel) rfl (by decide +kernel) 0 rfl rfl rfl rfl hl.1 rfl (Nat.le_of_ble_eq_true rfl) dX8_lies_8 (fun u_r_1 H locs hw_r_1 hP hD hS => ?_)
  have hP : va_P D vwCl [(h0, .inr (8, [.ref qh, .ref qk, .ref qd, .int b0, .ref qa, .ref qm, .ref qs, .ref qp, .ref ql, .ref qt, .ref qz, .ref qf])), (ql, .inr (2, [.int i0, .int i1])), (qd, .inr (1, [.int (nI (Pa)), .ref ve, .ref vl, .ref vu, .ref vo, .ref vr, .ref vk, .ref vw, .ref vtt, .ref vss])), (ve, .inl (cI, 10, .inl fae)), (vl, .inl (cI, 100, .inl fal)), (vu, .inl (cI, 100, .inl fau)), (vo, .inl (cI, 100, .inl fao)), (vr, .inr (3, [.int (nI (Ra)), .ref vRn, .ref vRp])), (vRn, .inl (cI, 8, .inl farn)), (vRp, .inl (cI, 48, .inl farp)), (vk, .inl (cI, 8, .inl fak)), (vw, .inr (3, [.int (nI (Wa)), .ref vWn, .ref vWp])), (vWn, .inl (cI, 8, .inl fawn)), (vWp, .inl (cI, 48, .inl fawp)), (vtt, .inl (cI, 8, .inl fat)), (vss, .inl (cI, 8, .inl fas)), (qh, .inr (1, [.int (nI (Pa)), .ref ae, .ref al, .ref au, .ref ao, .ref ar, .ref ak, .ref aw, .ref att, .ref ass])), (ae, .inl (cI, 10, .inl fae)), (al, .inl (cI, 100, .inl fal)), (au, .inl (cI, 100, .inl fau)), (ao, .inl (cI, 100, .inl fao)), (ar, .inr (3, [.int (nI (Ra)), .ref aRn, .ref aRp])), (aRn, .inl (cI, 8, .inl farn)), (aRp, .inl (cI, 48, .inl farp)), (ak, .inl (cI, 8, .inl fak)), (aw, .inr (3, [.int (nI (Wa)), .ref aWn, .ref aWp])), (aWn, .inl (cI, 8, .inl fawn)), (aWp, .inl (cI, 48, .inl fawp)), (att, .inl (cI, 8, .inl fat)), (ass, .inl (cI, 8, .inl fas))] H := hP
  have hD : va_D A [(h0, .inr (8, [.ref qh, .ref qk, .ref qd, .int b0, .ref qa, .ref qm, .ref qs, .ref qp, .ref ql, .ref qt, .ref qz, .ref qf])), (ql, .inr (2, [.int i0, .int i1])), (qd, .inr (1, [.int (nI (Pa)), .ref ve, .ref vl, .ref vu, .ref vo, .ref vr, .ref vk, .ref vw, .ref vtt, .ref vss])), (ve, .inl (cI, 10, .inl fae)), (vl, .inl (cI, 100, .inl fal)), (vu, .inl (cI, 100, .inl fau)), (vo, .inl (cI, 100, .inl fao)), (vr, .inr (3, [.int (nI (Ra)), .ref vRn, .ref vRp])), (vRn, .inl (cI, 8, .inl farn)), (vRp, .inl (cI, 48, .inl farp)), (vk, .inl (cI, 8, .inl fak)), (vw, .inr (3, [.int (nI (Wa)), .ref vWn, .ref vWp])), (vWn, .inl (cI, 8, .inl fawn)), (vWp, .inl (cI, 48, .inl fawp)), (vtt, .inl (cI, 8, .inl fat)), (vss, .inl (cI, 8, .inl fas)), (qh, .inr (1, [.int (nI (Pa)), .ref ae, .ref al, .ref au, .ref ao, .ref ar, .ref ak, .ref aw, .ref att, .ref ass])), (ae, .inl (cI, 10, .inl fae)), (al, .inl (cI, 100, .inl fal)), (au, .inl (cI, 100, .inl fau)), (ao, .inl (cI, 100, .inl fao)), (ar, .inr (3, [.int (nI (Ra)), .ref aRn, .ref aRp])), (aRn, .inl (cI, 8, .inl farn)), (aRp, .inl (cI, 48, .inl farp)), (ak, .inl (cI, 8, .inl fak)), (aw, .inr (3, [.int (nI (Wa)), .ref aWn, .ref aWp])), (aWn, .inl (cI, 8, .inl fawn)), (aWp, .inl (cI, 48, .inl fawp)), (att, .inl (cI, 8, .inl fat)), (ass, .inl (cI, 8, .inl fas))] := hD
  refine lv_aload_n hx hb dX8_lies_11 rfl (lv_at hl 0 rfl) ?_
  refine xg hF kf_X8_53 hK hP 0 rfl rfl dX8_lies_12 ?_
  refine lv_aload_n hx hb dX8_lies_15 rfl (lv_at hl 0 rfl) ?_
  refine xg hF kf_X8_19 hK hP 0 rfl rfl dX8_lies_16 ?_
  refine xc_Vi (wr := [(h0, .inr (8, [.ref qh, .ref qk, .ref qd, .int b0, .ref qa, .ref qm, .ref qs, .ref qp, .ref ql, .ref qt, .ref qz, .ref qf])), (ve, .inl (cI, 10, .inl fae)), (vr, .inr (3, [.int (nI (Ra)), .ref vRn, .ref vRp])), (vRn, .inl (cI, 8, .inl farn)), (vRp, .inl (cI, 48, .inl farp)), (vk, .inl (cI, 8, .inl fak)), (qh, .inr (1, [.int (nI (Pa)), .ref ae, .ref al, .ref au, .ref ao, .ref ar, .ref ak, .ref aw, .ref att, .ref ass])), (ae, .inl (cI, 10, .inl fae)), (al, .inl (cI, 100, .inl fal)), (au, .inl (cI, 100, .inl fau)), (ao, .inl (cI, 100, .inl fao)), (ar, .inr (3, [.int (nI (Ra)), .ref aRn, .ref aRp])), (aRn, .inl (cI, 8, .inl farn)), (aRp, .inl (cI, 48, .inl farp)), (ak, .inl (cI, 8, .inl fak)), (aw, .inr (3, [.int (nI (Wa)), .ref aWn, .ref aWp])), (aWn, .inl (cI, 8, .inl fawn)), (aWp, .inl (cI, 48, .inl fawp)), (att, .inl (cI, 8, .inl fat)), (ass, .inl (cI, 8, .inl fas))]) hF (c_X2_learnIn l D cI cJ cZ cS ta sa sv H.size ql i0 i1 qd ve vl vu vo vr vk vw vtt vss Pa vWn vWp Wa fal fau fao fawn fawp fat fas (by omega) hLLw hawn hawp) kv_X8_238 ⟨rfl, rfl, Nat.le_of_ble_eq_true rfl, Nat.le_of_ble_eq_true rfl⟩ ⟨Nat.le_of_ble_eq_true rfl, Nat.le_of_ble_eq_true rfl⟩ hK hN hZ hP hD hS hA [1, 2, 4, 5, 6, 11, 12, 13, 14, 15] [0, 3, 7, 8, 9, 10, 16, 17, 18, 19, 20, 21, 22, 23, 24, 25, 26, 27, 28, 29] rfl rfl (by decide +kernel) (by decide +kernel) (by decide +kernel) 0 rfl rfl rfl rfl hl.1 rfl (Nat.le_of_ble_eq_true rfl) dX8_lies_19 (fun r_2 u_r_2 H locs hw_r_2 hP hD hS => ?_)
  obtain ⟨b8_3, b9_4, l2_5, u2_6⟩ := u_r_2
  try dsimp only at hw_r_2
  obtain ⟨hw_r_2, i_7, i_8, i_9⟩ := hw_r_2
  subst i_9
  have hP : va_P D vwCl [(h0, .inr (8, [.ref qh, .ref qk, .ref qd, .int b0, .ref qa, .ref qm, .ref qs, .ref qp, .ref ql, .ref qt, .ref qz, .ref qf])), (ve, .inl (cI, 10, .inl fae)), (vr, .inr (3, [.int (nI (Ra)), .ref vRn, .ref vRp])), (vRn, .inl (cI, 8, .inl farn)), (vRp, .inl (cI, 48, .inl farp)), (vk, .inl (cI, 8, .inl fak)), (qh, .inr (1, [.int (nI (Pa)), .ref ae, .ref al, .ref au, .ref ao, .ref ar, .ref ak, .ref aw, .ref att, .ref ass])), (ae, .inl (cI, 10, .inl fae)), (al, .inl (cI, 100, .inl fal)), (au, .inl (cI, 100, .inl fau)), (ao, .inl (cI, 100, .inl fao)), (ar, .inr (3, [.int (nI (Ra)), .ref aRn, .ref aRp])), (aRn, .inl (cI, 8, .inl farn)), (aRp, .inl (cI, 48, .inl farp)), (ak, .inl (cI, 8, .inl fak)), (aw, .inr (3, [.int (nI (Wa)), .ref aWn, .ref aWp])), (aWn, .inl (cI, 8, .inl fawn)), (aWp, .inl (cI, 48, .inl fawp)), (att, .inl (cI, 8, .inl fat)), (ass, .inl (cI, 8, .inl fas)), (ql, .inr (2, [.int ((lrn fao fawn fawp fat fas Wa 50 0 fal fau 0).2.2.2), .int b9_4])), (qd, .inr (1, [.int (nI (Pa)), .ref ve, .ref vl, .ref vu, .ref vo, .ref vr, .ref vk, .ref vw, .ref vtt, .ref vss])), (vl, .inl (cI, 100, .inl l2_5)), (vu, .inl (cI, 100, .inl u2_6)), (vo, .inl (cI, 100, .inl fao)), (vw, .inr (3, [.int (nI (Wa)), .ref vWn, .ref vWp])), (vWn, .inl (cI, 8, .inl fawn)), (vWp, .inl (cI, 48, .inl fawp)), (vtt, .inl (cI, 8, .inl fat)), (vss, .inl (cI, 8, .inl fas))] H := hP
  have hD : va_D A [(h0, .inr (8, [.ref qh, .ref qk, .ref qd, .int b0, .ref qa, .ref qm, .ref qs, .ref qp, .ref ql, .ref qt, .ref qz, .ref qf])), (ve, .inl (cI, 10, .inl fae)), (vr, .inr (3, [.int (nI (Ra)), .ref vRn, .ref vRp])), (vRn, .inl (cI, 8, .inl farn)), (vRp, .inl (cI, 48, .inl farp)), (vk, .inl (cI, 8, .inl fak)), (qh, .inr (1, [.int (nI (Pa)), .ref ae, .ref al, .ref au, .ref ao, .ref ar, .ref ak, .ref aw, .ref att, .ref ass])), (ae, .inl (cI, 10, .inl fae)), (al, .inl (cI, 100, .inl fal)), (au, .inl (cI, 100, .inl fau)), (ao, .inl (cI, 100, .inl fao)), (ar, .inr (3, [.int (nI (Ra)), .ref aRn, .ref aRp])), (aRn, .inl (cI, 8, .inl farn)), (aRp, .inl (cI, 48, .inl farp)), (ak, .inl (cI, 8, .inl fak)), (aw, .inr (3, [.int (nI (Wa)), .ref aWn, .ref aWp])), (aWn, .inl (cI, 8, .inl fawn)), (aWp, .inl (cI, 48, .inl fawp)), (att, .inl (cI, 8, .inl fat)), (ass, .inl (cI, 8, .inl fas)), (ql, .inr (2, [.int ((lrn fao fawn fawp fat fas Wa 50 0 fal fau 0).2.2.2), .int b9_4])), (qd, .inr (1, [.int (nI (Pa)), .ref ve, .ref vl, .ref vu, .ref vo, .ref vr, .ref vk, .ref vw, .ref vtt, .ref vss])), (vl, .inl (cI, 100, .inl l2_5)), (vu, .inl (cI, 100, .inl u2_6)), (vo, .inl (cI, 100, .inl fao)), (vw, .inr (3, [.int (nI (Wa)), .ref vWn, .ref vWp])), (vWn, .inl (cI, 8, .inl fawn)), (vWp, .inl (cI, 48, .inl fawp)), (vtt, .inl (cI, 8, .inl fat)), (vss, .inl (cI, 8, .inl fas))] := hD
  subst hw_r_2
  refine lv_pop hx hb dX8_lies_22 rfl ?_
  refine lv_aload_n hx hb dX8_lies_23 rfl (lv_at hl 0 rfl) ?_
  refine xg hF kf_X8_53 hK hP 0 rfl rfl dX8_lies_24 ?_
  refine xg hF kf_X8_244 hK hP 20 rfl rfl dX8_lies_27 ?_
  exact W.iret (v := ((lrn fao fawn fawp fat fas Wa 50 0 fal fau 0).2.2.2)) hx hb hr (fun t ht hW => ⟨⟨((lrn fao fawn fawp fat fas Wa 50 0 fal fau 0).2.2.2), (l2_5, u2_6, ((lrn fao fawn fawp fat fas Wa 50 0 fal fau 0).2.2.2), b9_4), rfl, (by first | exact rfl), by rw [ht]; exact hP.sub [0, 6, 7, 8, 9, 10, 11, 12, 13, 14, 15, 16, 17, 18, 19, 21, 1, 22, 23, 24, 2, 3, 4, 5, 25, 26, 27, 28, 29, 20] rfl, hD.sub [0, 6, 7, 8, 9, 10, 11, 12, 13, 14, 15, 16, 17, 18, 19, 21, 1, 22, 23, 24, 2, 3, 4, 5, 25, 26, 27, 28, 29, 20] (by decide +kernel) rfl⟩, hS.F ht⟩) hS.2.2 dX8_lies_30 hlk
set_option maxHeartbeats 4000000 in
set_option maxRecDepth 100000 in
theorem c_X8_known (l : Launch) (D : va_G) (cI cJ cZ cS : ClassId) (ta : Nat) (sa sv : Nat → Nat) (sz : Nat) (h0 : Nat) (qh : Nat) (qk : Nat) (qd : Nat) (b0 : Int32) (qa : Nat) (qm : Nat) (qs : Nat) (qp : Nat) (ql : Nat) (qt : Nat) (qz : Nat) (qf : Nat) (Pa : Nat) (ae : Nat) (al : Nat) (au : Nat) (ao : Nat) (ar : Nat) (ak : Nat) (aw : Nat) (att : Nat) (ass : Nat) (fal : Nat → Int32) (fau : Nat → Int32) (fao : Nat → Int32) (ff : Nat → Int32) (p0 : Int32) (hP0 : Pa ≤ 10) : Met l yX8_known (Cond.code yX8_known cX8_known 2 (some .int) :: wsU) ({ frames := 1, cells := 0, slots := 0, locals := 22 }) (va_Pc [.ref h0, .int p0] (XW D (xT cI cJ cZ cS) ta sa sv [(h0, .inr (8, [.ref qh, .ref qk, .ref qd, .int b0, .ref qa, .ref qm, .ref qs, .ref qp, .ref ql, .ref qt, .ref qz, .ref qf])), (qh, .inr (1, [.int (nI (Pa)), .ref ae, .ref al, .ref au, .ref ao, .ref ar, .ref ak, .ref aw, .ref att, .ref ass])), (al, .inl (cI, 100, .inl fal)), (au, .inl (cI, 100, .inl fau)), (ao, .inl (cI, 100, .inl fao)), (qf, .inl (cI, 7, .inl ff))] sz)) (XQi (fun (r : Int32) (f2 : (Nat → Int32)) => (True)) D (fun (f2 : Nat → Int32) => [(h0, .inr (8, [.ref qh, .ref qk, .ref qd, .int b0, .ref qa, .ref qm, .ref qs, .ref qp, .ref ql, .ref qt, .ref qz, .ref qf])), (qh, .inr (1, [.int (nI (Pa)), .ref ae, .ref al, .ref au, .ref ao, .ref ar, .ref ak, .ref aw, .ref att, .ref ass])), (al, .inl (cI, 100, .inl fal)), (au, .inl (cI, 100, .inl fau)), (ao, .inl (cI, 100, .inl fao)), (qf, .inl (cI, 7, .inl f2))]) (va_A [(h0, .inr (8, [.ref qh, .ref qk, .ref qd, .int b0, .ref qa, .ref qm, .ref qs, .ref qp, .ref ql, .ref qt, .ref qz, .ref qf])), (qh, .inr (1, [.int (nI (Pa)), .ref ae, .ref al, .ref au, .ref ao, .ref ar, .ref ak, .ref aw, .ref att, .ref ass])), (al, .inl (cI, 100, .inl fal)), (au, .inl (cI, 100, .inl fau)), (ao, .inl (cI, 100, .inl fao)), (qf, .inl (cI, 7, .inl ff))] sz)) 0 0 (va_A [(h0, .inr (8, [.ref qh, .ref qk, .ref qd, .int b0, .ref qa, .ref qm, .ref qs, .ref qp, .ref ql, .ref qt, .ref qz, .ref qf])), (qh, .inr (1, [.int (nI (Pa)), .ref ae, .ref al, .ref au, .ref ao, .ref ar, .ref ak, .ref aw, .ref att, .ref ass])), (al, .inl (cI, 100, .inl fal)), (au, .inl (cI, 100, .inl fau)), (ao, .inl (cI, 100, .inl fao)), (qf, .inl (cI, 7, .inl ff))] sz) := by
  refine xh (QA := fun A => XQi (fun (r : Int32) (f2 : (Nat → Int32)) => (True)) D (fun (f2 : Nat → Int32) => [(h0, .inr (8, [.ref qh, .ref qk, .ref qd, .int b0, .ref qa, .ref qm, .ref qs, .ref qp, .ref ql, .ref qt, .ref qz, .ref qf])), (qh, .inr (1, [.int (nI (Pa)), .ref ae, .ref al, .ref au, .ref ao, .ref ar, .ref ak, .ref aw, .ref att, .ref ass])), (al, .inl (cI, 100, .inl fal)), (au, .inl (cI, 100, .inl fau)), (ao, .inl (cI, 100, .inl fao)), (qf, .inl (cI, 7, .inl f2))]) A) (fr := fun A => A) (by decide) (Nat.le_of_ble_eq_true rfl) ?_
  intro p e s m below meth c ls A hF hr hlk hin hsz hP hK hD hN hZ hA hS hl
  have hF : CallFix p m c cX8_known 2 s _ _ RX8 := hF
  have hx := hF.1
  have hb := hF.2.1
  have hml := hF.2.2.1
  have hown := hF.2.2.2.1
  have hu : ∀ w ∈ wsU, w.before _ s = true := fun w h => hF.2.2.2.2 w (List.mem_cons_of_mem _ h)
  have hl : lv_has ls 2 [(0, .ref h0), (1, .int p0)] := hl
  refine lv_iload_n hx hb dX8_known_0 rfl (lv_at hl 1 rfl) ?_
  refine lv_if_ne (tgt := 12) hx hb dX8_known_1 (by decide) (fun c_1 => ?_) (fun c_1 => ?_)
  · skip
    refine lv_iload_n hx hb dX8_known_12 rfl (lv_at hl 1 rfl) ?_
    refine lv_iconst (v := 1) hx hb dX8_known_13 (by decide) ?_
    refine lv_icmp_ne (tgt := 25) hx hb dX8_known_14 (by decide) (fun c_2 => ?_) (fun c_2 => ?_)
    · skip
      refine lv_iload_n hx hb dX8_known_25 rfl (lv_at hl 1 rfl) ?_
      refine lv_iconst (v := 2) hx hb dX8_known_26 (by decide) ?_
      refine lv_icmp_ne (tgt := 38) hx hb dX8_known_27 (by decide) (fun c_3 => ?_) (fun c_3 => ?_)
      · skip
        refine lv_aload_n hx hb dX8_known_38 rfl (lv_at hl 0 rfl) ?_
        refine lv_ldc (v := (-1000000001)) hx hb hown (hu _ uw396) dX8_known_39 ?_
        refine xc_Vi (wr := [(qh, .inr (1, [.int (nI (Pa)), .ref ae, .ref al, .ref au, .ref ao, .ref ar, .ref ak, .ref aw, .ref att, .ref ass])), (al, .inl (cI, 100, .inl fal)), (au, .inl (cI, 100, .inl fau)), (ao, .inl (cI, 100, .inl fao))]) hF (c_X8_finding_B l D cI cJ cZ cS ta sa sv s.heap.size h0 qh qk qd b0 qa qm qs qp ql qt qz qf ff ) kv_X8_80 ⟨rfl, rfl, Nat.le_of_ble_eq_true rfl, Nat.le_of_ble_eq_true rfl⟩ ⟨Nat.le_of_ble_eq_true rfl, Nat.le_of_ble_eq_true rfl⟩ hK hN hZ hP hD hS hA [0, 5] [1, 2, 3, 4] rfl rfl rfl rfl (by decide) 0 rfl rfl rfl rfl hl.1 rfl (Nat.le_of_ble_eq_true rfl) dX8_known_41 (fun r_4 u_r_4 H locs hw_r_4 hP hD hS => ?_)
        obtain ⟨f2_5, rfl⟩ : ∃ z, z = u_r_4 := ⟨_, rfl⟩
        try dsimp only at hw_r_4
        have hP : va_P D vwCl [(qh, .inr (1, [.int (nI (Pa)), .ref ae, .ref al, .ref au, .ref ao, .ref ar, .ref ak, .ref aw, .ref att, .ref ass])), (al, .inl (cI, 100, .inl fal)), (au, .inl (cI, 100, .inl fau)), (ao, .inl (cI, 100, .inl fao)), (h0, .inr (8, [.ref qh, .ref qk, .ref qd, .int b0, .ref qa, .ref qm, .ref qs, .ref qp, .ref ql, .ref qt, .ref qz, .ref qf])), (qf, .inl (cI, 7, .inl f2_5))] H := hP
        have hD : va_D A [(qh, .inr (1, [.int (nI (Pa)), .ref ae, .ref al, .ref au, .ref ao, .ref ar, .ref ak, .ref aw, .ref att, .ref ass])), (al, .inl (cI, 100, .inl fal)), (au, .inl (cI, 100, .inl fau)), (ao, .inl (cI, 100, .inl fao)), (h0, .inr (8, [.ref qh, .ref qk, .ref qd, .int b0, .ref qa, .ref qm, .ref qs, .ref qp, .ref ql, .ref qt, .ref qz, .ref qf])), (qf, .inl (cI, 7, .inl f2_5))] := hD
        subst hw_r_4
        exact W.iret (v := (-1000000001)) hx hb hr (fun t ht hW => ⟨⟨(-1000000001), f2_5, rfl, trivial, by rw [ht]; exact hP.sub [4, 0, 1, 2, 3, 5] rfl, hD.sub [4, 0, 1, 2, 3, 5] (by decide +kernel) rfl⟩, hS.F ht⟩) hS.2.2 dX8_known_44 hlk
      · skip
        refine lv_aload_n hx hb dX8_known_30 rfl (lv_at hl 0 rfl) ?_
        refine xg hF kf_X8_12 hK hP 0 rfl rfl dX8_known_31 ?_
        refine xc_Vr hF (c_X1_allBetweenEnds l D cI cJ cZ cS ta sa sv s.heap.size qh ae al au ao ar ak aw att ass Pa fal fau fao ) kv_X8_253 ⟨rfl, rfl, Nat.le_of_ble_eq_true rfl, Nat.le_of_ble_eq_true rfl⟩ ⟨Nat.le_of_ble_eq_true rfl, Nat.le_of_ble_eq_true rfl⟩ hK hN hZ hP hD hS hA [1, 2, 3, 4] rfl rfl 0 rfl rfl rfl rfl hl.1 rfl (Nat.le_of_ble_eq_true rfl) dX8_known_34 (fun r_6 hw_r_6 => ?_)
        exact W.iret (v := r_6) hx hb hr (fun t ht hW => ⟨⟨r_6, ff, rfl, trivial, by rw [ht]; exact hP.sub [0, 1, 2, 3, 4, 5] rfl, hD.sub [0, 1, 2, 3, 4, 5] (by decide +kernel) rfl⟩, hS.F ht⟩) hS.2.2 dX8_known_37 hlk
    · skip
      refine lv_aload_n hx hb dX8_known_17 rfl (lv_at hl 0 rfl) ?_
      refine xg hF kf_X8_12 hK hP 0 rfl rfl dX8_known_18 ?_
      refine xc_Vr hF (c_X1_countUnknown l D cI cJ cZ cS ta sa sv s.heap.size qh ae al au ao ar ak aw att ass Pa fal fau fao ) kv_X8_250 ⟨rfl, rfl, Nat.le_of_ble_eq_true rfl, Nat.le_of_ble_eq_true rfl⟩ ⟨Nat.le_of_ble_eq_true rfl, Nat.le_of_ble_eq_true rfl⟩ hK hN hZ hP hD hS hA [1, 2, 3, 4] rfl rfl 0 rfl rfl rfl rfl hl.1 rfl (Nat.le_of_ble_eq_true rfl) dX8_known_21 (fun r_7 hw_r_7 => ?_)
      exact W.iret (v := r_7) hx hb hr (fun t ht hW => ⟨⟨r_7, ff, rfl, trivial, by rw [ht]; exact hP.sub [0, 1, 2, 3, 4, 5] rfl, hD.sub [0, 1, 2, 3, 4, 5] (by decide +kernel) rfl⟩, hS.F ht⟩) hS.2.2 dX8_known_24 hlk
  · skip
    refine lv_aload_n hx hb dX8_known_4 rfl (lv_at hl 0 rfl) ?_
    refine xg hF kf_X8_12 hK hP 0 rfl rfl dX8_known_5 ?_
    refine xc_Vr hF (c_X1_countWays l D cI cJ cZ cS ta sa sv s.heap.size qh ae al au ao ar ak aw att ass Pa fal fau fao ) kv_X8_247 ⟨rfl, rfl, Nat.le_of_ble_eq_true rfl, Nat.le_of_ble_eq_true rfl⟩ ⟨Nat.le_of_ble_eq_true rfl, Nat.le_of_ble_eq_true rfl⟩ hK hN hZ hP hD hS hA [1, 2, 3, 4] rfl rfl 0 rfl rfl rfl rfl hl.1 rfl (Nat.le_of_ble_eq_true rfl) dX8_known_8 (fun r_8 hw_r_8 => ?_)
    exact W.iret (v := r_8) hx hb hr (fun t ht hW => ⟨⟨r_8, ff, rfl, trivial, by rw [ht]; exact hP.sub [0, 1, 2, 3, 4, 5] rfl, hD.sub [0, 1, 2, 3, 4, 5] (by decide +kernel) rfl⟩, hS.F ht⟩) hS.2.2 dX8_known_11 hlk
set_option maxHeartbeats 4000000 in
set_option maxRecDepth 100000 in
theorem c_X8_ask (l : Launch) (D : va_G) (cI cJ cZ cS : ClassId) (ta : Nat) (sa sv : Nat → Nat) (sz : Nat) (h0 : Nat) (qh : Nat) (qk : Nat) (qd : Nat) (b0 : Int32) (qa : Nat) (qm : Nat) (qs : Nat) (qp : Nat) (ql : Nat) (qt : Nat) (qz : Nat) (qf : Nat) (Pa : Nat) (ae : Nat) (al : Nat) (au : Nat) (ao : Nat) (ar : Nat) (ak : Nat) (aw : Nat) (att : Nat) (ass : Nat) (fal : Nat → Int32) (fau : Nat → Int32) (fao : Nat → Int32) (ff : Nat → Int32) (hP0 : Pa ≤ 10) : Met l yX8_ask (Cond.code yX8_ask cX8_ask 2 (some .int) :: wsU) ({ frames := 1, cells := 0, slots := 0, locals := 23 }) (va_Pc [.ref h0] (XW D (xT cI cJ cZ cS) ta sa sv [(h0, .inr (8, [.ref qh, .ref qk, .ref qd, .int b0, .ref qa, .ref qm, .ref qs, .ref qp, .ref ql, .ref qt, .ref qz, .ref qf])), (qh, .inr (1, [.int (nI (Pa)), .ref ae, .ref al, .ref au, .ref ao, .ref ar, .ref ak, .ref aw, .ref att, .ref ass])), (al, .inl (cI, 100, .inl fal)), (au, .inl (cI, 100, .inl fau)), (ao, .inl (cI, 100, .inl fao)), (qf, .inl (cI, 7, .inl ff))] sz)) (XQi (fun (r : Int32) (f2 : (Nat → Int32)) => (True)) D (fun (f2 : Nat → Int32) => [(h0, .inr (8, [.ref qh, .ref qk, .ref qd, .int b0, .ref qa, .ref qm, .ref qs, .ref qp, .ref ql, .ref qt, .ref qz, .ref qf])), (qh, .inr (1, [.int (nI (Pa)), .ref ae, .ref al, .ref au, .ref ao, .ref ar, .ref ak, .ref aw, .ref att, .ref ass])), (al, .inl (cI, 100, .inl fal)), (au, .inl (cI, 100, .inl fau)), (ao, .inl (cI, 100, .inl fao)), (qf, .inl (cI, 7, .inl f2))]) (va_A [(h0, .inr (8, [.ref qh, .ref qk, .ref qd, .int b0, .ref qa, .ref qm, .ref qs, .ref qp, .ref ql, .ref qt, .ref qz, .ref qf])), (qh, .inr (1, [.int (nI (Pa)), .ref ae, .ref al, .ref au, .ref ao, .ref ar, .ref ak, .ref aw, .ref att, .ref ass])), (al, .inl (cI, 100, .inl fal)), (au, .inl (cI, 100, .inl fau)), (ao, .inl (cI, 100, .inl fao)), (qf, .inl (cI, 7, .inl ff))] sz)) 0 0 (va_A [(h0, .inr (8, [.ref qh, .ref qk, .ref qd, .int b0, .ref qa, .ref qm, .ref qs, .ref qp, .ref ql, .ref qt, .ref qz, .ref qf])), (qh, .inr (1, [.int (nI (Pa)), .ref ae, .ref al, .ref au, .ref ao, .ref ar, .ref ak, .ref aw, .ref att, .ref ass])), (al, .inl (cI, 100, .inl fal)), (au, .inl (cI, 100, .inl fau)), (ao, .inl (cI, 100, .inl fao)), (qf, .inl (cI, 7, .inl ff))] sz) := by
  refine xh (QA := fun A => XQi (fun (r : Int32) (f2 : (Nat → Int32)) => (True)) D (fun (f2 : Nat → Int32) => [(h0, .inr (8, [.ref qh, .ref qk, .ref qd, .int b0, .ref qa, .ref qm, .ref qs, .ref qp, .ref ql, .ref qt, .ref qz, .ref qf])), (qh, .inr (1, [.int (nI (Pa)), .ref ae, .ref al, .ref au, .ref ao, .ref ar, .ref ak, .ref aw, .ref att, .ref ass])), (al, .inl (cI, 100, .inl fal)), (au, .inl (cI, 100, .inl fau)), (ao, .inl (cI, 100, .inl fao)), (qf, .inl (cI, 7, .inl f2))]) A) (fr := fun A => A) (by decide) (Nat.le_of_ble_eq_true rfl) ?_
  intro p e s m below meth c ls A hF hr hlk hin hsz hP hK hD hN hZ hA hS hl
  have hF : CallFix p m c cX8_ask 2 s _ _ RX8 := hF
  have hx := hF.1
  have hb := hF.2.1
  have hml := hF.2.2.1
  have hown := hF.2.2.2.1
  have hu : ∀ w ∈ wsU, w.before _ s = true := fun w h => hF.2.2.2.2 w (List.mem_cons_of_mem _ h)
  have hl : lv_has ls 2 [(0, .ref h0)] := hl
  refine lv_aload_n hx hb dX8_ask_0 rfl (lv_at hl 0 rfl) ?_
  refine xg hF kf_X8_12 hK hP 0 rfl rfl dX8_ask_1 ?_
  refine xc_Vr hF (c_X1_widestWay l D cI cJ cZ cS ta sa sv s.heap.size qh ae al au ao ar ak aw att ass Pa fal fau fao ) kv_X8_256 ⟨rfl, rfl, Nat.le_of_ble_eq_true rfl, Nat.le_of_ble_eq_true rfl⟩ ⟨Nat.le_of_ble_eq_true rfl, Nat.le_of_ble_eq_true rfl⟩ hK hN hZ hP hD hS hA [1, 2, 3, 4] rfl rfl 0 rfl rfl rfl rfl hl.1 rfl (Nat.le_of_ble_eq_true rfl) dX8_ask_4 (fun r_1 hw_r_1 => ?_)
  refine lv_istore_n (lv' := [(1, .int r_1), (0, .ref h0)]) hx hb dX8_ask_7 rfl hl (by decide) rfl (fun ls hl => ?_)
  refine lv_iload_n hx hb dX8_ask_8 rfl (lv_at hl 0 rfl) ?_
  refine lv_if_ge (tgt := 21) hx hb dX8_ask_9 (by decide) (fun c_2 => ?_) (fun c_2 => ?_)
  · skip
    refine lv_iload_n hx hb dX8_ask_21 rfl (lv_at hl 0 rfl) ?_
    exact W.iret (v := r_1) hx hb hr (fun t ht hW => ⟨⟨r_1, ff, rfl, trivial, by rw [ht]; exact hP.sub [0, 1, 2, 3, 4, 5] rfl, hD.sub [0, 1, 2, 3, 4, 5] (by decide +kernel) rfl⟩, hS.F ht⟩) hS.2.2 dX8_ask_22 hlk
  · skip
    refine lv_aload_n hx hb dX8_ask_12 rfl (lv_at hl 1 rfl) ?_
    refine lv_ldc (v := (-1000000004)) hx hb hown (hu _ uw410) dX8_ask_13 ?_
    refine xc_Vi (wr := [(qh, .inr (1, [.int (nI (Pa)), .ref ae, .ref al, .ref au, .ref ao, .ref ar, .ref ak, .ref aw, .ref att, .ref ass])), (al, .inl (cI, 100, .inl fal)), (au, .inl (cI, 100, .inl fau)), (ao, .inl (cI, 100, .inl fao))]) hF (c_X8_finding_N l D cI cJ cZ cS ta sa sv s.heap.size h0 qh qk qd b0 qa qm qs qp ql qt qz qf ff ) kv_X8_80 ⟨rfl, rfl, Nat.le_of_ble_eq_true rfl, Nat.le_of_ble_eq_true rfl⟩ ⟨Nat.le_of_ble_eq_true rfl, Nat.le_of_ble_eq_true rfl⟩ hK hN hZ hP hD hS hA [0, 5] [1, 2, 3, 4] rfl rfl rfl rfl (by decide) 0 rfl rfl rfl rfl hl.1 rfl (Nat.le_of_ble_eq_true rfl) dX8_ask_15 (fun r_3 u_r_3 H locs hw_r_3 hP hD hS => ?_)
    obtain ⟨f2_4, rfl⟩ : ∃ z, z = u_r_3 := ⟨_, rfl⟩
    try dsimp only at hw_r_3
    have hP : va_P D vwCl [(qh, .inr (1, [.int (nI (Pa)), .ref ae, .ref al, .ref au, .ref ao, .ref ar, .ref ak, .ref aw, .ref att, .ref ass])), (al, .inl (cI, 100, .inl fal)), (au, .inl (cI, 100, .inl fau)), (ao, .inl (cI, 100, .inl fao)), (h0, .inr (8, [.ref qh, .ref qk, .ref qd, .int b0, .ref qa, .ref qm, .ref qs, .ref qp, .ref ql, .ref qt, .ref qz, .ref qf])), (qf, .inl (cI, 7, .inl f2_4))] H := hP
    have hD : va_D A [(qh, .inr (1, [.int (nI (Pa)), .ref ae, .ref al, .ref au, .ref ao, .ref ar, .ref ak, .ref aw, .ref att, .ref ass])), (al, .inl (cI, 100, .inl fal)), (au, .inl (cI, 100, .inl fau)), (ao, .inl (cI, 100, .inl fao)), (h0, .inr (8, [.ref qh, .ref qk, .ref qd, .int b0, .ref qa, .ref qm, .ref qs, .ref qp, .ref ql, .ref qt, .ref qz, .ref qf])), (qf, .inl (cI, 7, .inl f2_4))] := hD
    subst hw_r_3
    refine lv_goto (tgt := 22) hx hb dX8_ask_18 (by decide) ?_
    exact W.iret (v := (-1000000004)) hx hb hr (fun t ht hW => ⟨⟨(-1000000004), f2_4, rfl, trivial, by rw [ht]; exact hP.sub [4, 0, 1, 2, 3, 5] rfl, hD.sub [4, 0, 1, 2, 3, 5] (by decide +kernel) rfl⟩, hS.F ht⟩) hS.2.2 dX8_ask_22 hlk
set_option maxHeartbeats 4000000 in
set_option maxRecDepth 100000 in
theorem c_X8_saves (l : Launch) (D : va_G) (cI cJ cZ cS : ClassId) (ta : Nat) (sa sv : Nat → Nat) (sz : Nat) (h0 : Nat) (qh : Nat) (qk : Nat) (qd : Nat) (b0 : Int32) (qa : Nat) (qm : Nat) (qs : Nat) (qp : Nat) (ql : Nat) (qt : Nat) (qz : Nat) (qf : Nat) (Pa : Nat) (ae : Nat) (al : Nat) (au : Nat) (ao : Nat) (ar : Nat) (ak : Nat) (aw : Nat) (att : Nat) (ass : Nat) (fae : Nat → Int32) (fal : Nat → Int32) (fao : Nat → Int32) (Qa : Nat) (an : Nat) (La : Nat → Int32) (Qm : Nat) (mn : Nat) (Lm : Nat → Int32) (ff : Nat → Int32) (p0 : Int32) (p1 : Int32) (hP0 : Pa ≤ 10) (hQa : Qa ≤ 10) (hQm : Qm ≤ 10) : Met l yX8_saves (Cond.code yX8_saves cX8_saves 4 (some .int) :: wsU) ({ frames := 5, cells := 0, slots := 0, locals := 117 }) (va_Pc [.ref h0, .int p0, .int p1] (XW D (xT cI cJ cZ cS) ta sa sv [(h0, .inr (8, [.ref qh, .ref qk, .ref qd, .int b0, .ref qa, .ref qm, .ref qs, .ref qp, .ref ql, .ref qt, .ref qz, .ref qf])), (qh, .inr (1, [.int (nI (Pa)), .ref ae, .ref al, .ref au, .ref ao, .ref ar, .ref ak, .ref aw, .ref att, .ref ass])), (ae, .inl (cI, 10, .inl fae)), (al, .inl (cI, 100, .inl fal)), (ao, .inl (cI, 100, .inl fao)), (qa, .inr (0, [.int (nI (Qa)), .ref an])), (an, .inl (cI, 100, .inl La)), (qm, .inr (0, [.int (nI (Qm)), .ref mn])), (mn, .inl (cI, 100, .inl Lm)), (qf, .inl (cI, 7, .inl ff))] sz)) (XQi (fun (r : Int32) (u : Nat × (Nat → Int32) × Nat × (Nat → Int32) × (Nat → Int32)) => match u with | (Q2, L2, Qm2, Lm2, f2) => (True) ∧ (Q2 ≤ 10) ∧ (Qm2 ≤ 10)) D (fun (u : Nat × (Nat → Int32) × Nat × (Nat → Int32) × (Nat → Int32)) => match u with | (Q2, L2, Qm2, Lm2, f2) => [(h0, .inr (8, [.ref qh, .ref qk, .ref qd, .int b0, .ref qa, .ref qm, .ref qs, .ref qp, .ref ql, .ref qt, .ref qz, .ref qf])), (qh, .inr (1, [.int (nI (Pa)), .ref ae, .ref al, .ref au, .ref ao, .ref ar, .ref ak, .ref aw, .ref att, .ref ass])), (ae, .inl (cI, 10, .inl fae)), (al, .inl (cI, 100, .inl fal)), (ao, .inl (cI, 100, .inl fao)), (qa, .inr (0, [.int (nI (Q2)), .ref an])), (an, .inl (cI, 100, .inl L2)), (qm, .inr (0, [.int (nI (Qm2)), .ref mn])), (mn, .inl (cI, 100, .inl Lm2)), (qf, .inl (cI, 7, .inl f2))]) (va_A [(h0, .inr (8, [.ref qh, .ref qk, .ref qd, .int b0, .ref qa, .ref qm, .ref qs, .ref qp, .ref ql, .ref qt, .ref qz, .ref qf])), (qh, .inr (1, [.int (nI (Pa)), .ref ae, .ref al, .ref au, .ref ao, .ref ar, .ref ak, .ref aw, .ref att, .ref ass])), (ae, .inl (cI, 10, .inl fae)), (al, .inl (cI, 100, .inl fal)), (ao, .inl (cI, 100, .inl fao)), (qa, .inr (0, [.int (nI (Qa)), .ref an])), (an, .inl (cI, 100, .inl La)), (qm, .inr (0, [.int (nI (Qm)), .ref mn])), (mn, .inl (cI, 100, .inl Lm)), (qf, .inl (cI, 7, .inl ff))] sz)) 0 0 (va_A [(h0, .inr (8, [.ref qh, .ref qk, .ref qd, .int b0, .ref qa, .ref qm, .ref qs, .ref qp, .ref ql, .ref qt, .ref qz, .ref qf])), (qh, .inr (1, [.int (nI (Pa)), .ref ae, .ref al, .ref au, .ref ao, .ref ar, .ref ak, .ref aw, .ref att, .ref ass])), (ae, .inl (cI, 10, .inl fae)), (al, .inl (cI, 100, .inl fal)), (ao, .inl (cI, 100, .inl fao)), (qa, .inr (0, [.int (nI (Qa)), .ref an])), (an, .inl (cI, 100, .inl La)), (qm, .inr (0, [.int (nI (Qm)), .ref mn])), (mn, .inl (cI, 100, .inl Lm)), (qf, .inl (cI, 7, .inl ff))] sz) := by
  refine xh (QA := fun A => XQi (fun (r : Int32) (u : Nat × (Nat → Int32) × Nat × (Nat → Int32) × (Nat → Int32)) => match u with | (Q2, L2, Qm2, Lm2, f2) => (True) ∧ (Q2 ≤ 10) ∧ (Qm2 ≤ 10)) D (fun (u : Nat × (Nat → Int32) × Nat × (Nat → Int32) × (Nat → Int32)) => match u with | (Q2, L2, Qm2, Lm2, f2) => [(h0, .inr (8, [.ref qh, .ref qk, .ref qd, .int b0, .ref qa, .ref qm, .ref qs, .ref qp, .ref ql, .ref qt, .ref qz, .ref qf])), (qh, .inr (1, [.int (nI (Pa)), .ref ae, .ref al, .ref au, .ref ao, .ref ar, .ref ak, .ref aw, .ref att, .ref ass])), (ae, .inl (cI, 10, .inl fae)), (al, .inl (cI, 100, .inl fal)), (ao, .inl (cI, 100, .inl fao)), (qa, .inr (0, [.int (nI (Q2)), .ref an])), (an, .inl (cI, 100, .inl L2)), (qm, .inr (0, [.int (nI (Qm2)), .ref mn])), (mn, .inl (cI, 100, .inl Lm2)), (qf, .inl (cI, 7, .inl f2))]) A) (fr := fun A => A) (by decide) (Nat.le_of_ble_eq_true rfl) ?_
  intro p e s m below meth c ls A hF hr hlk hin hsz hP hK hD hN hZ hA hS hl
  have hF : CallFix p m c cX8_saves 4 s _ _ RX8 := hF
  have hx := hF.1
  have hb := hF.2.1
  have hml := hF.2.2.1
  have hown := hF.2.2.2.1
  have hu : ∀ w ∈ wsU, w.before _ s = true := fun w h => hF.2.2.2.2 w (List.mem_cons_of_mem _ h)
  have hl : lv_has ls 4 [(0, .ref h0), (1, .int p0), (2, .int p1)] := hl
  refine lv_aload_n hx hb dX8_saves_0 rfl (lv_at hl 0 rfl) ?_
  refine xg hF kf_X8_12 hK hP 0 rfl rfl dX8_saves_1 ?_
  refine lv_iload_n hx hb dX8_saves_4 rfl (lv_at hl 1 rfl) ?_
  refine lv_iload_n hx hb dX8_saves_5 rfl (lv_at hl 2 rfl) ?_
  refine xc_Vr hF (c_X1_areTwo l D cI cJ cZ cS ta sa sv s.heap.size qh ae al au ao ar ak aw att ass Pa p0 p1 (by omega)) kv_X8_99 ⟨rfl, rfl, Nat.le_of_ble_eq_true rfl, Nat.le_of_ble_eq_true rfl⟩ ⟨Nat.le_of_ble_eq_true rfl, Nat.le_of_ble_eq_true rfl⟩ hK hN hZ hP hD hS hA [1] rfl rfl 0 rfl rfl rfl rfl hl.1 rfl (Nat.le_of_ble_eq_true rfl) dX8_saves_6 (fun r_1 hw_r_1 => ?_)
  rcases hw_r_1 with ⟨j_2, k_3, rfl, rfl, rfl, h_6, h_7, h_8⟩ | ⟨rfl, h_9⟩
  · skip
    refine lv_if_ne (tgt := 19) hx hb dX8_saves_9 (by decide) (fun c_10 => ?_) (fun c_10 => absurd c_10 (by decide))
    refine lv_aload_n hx hb dX8_saves_19 rfl (lv_at hl 0 rfl) ?_
    refine xg hF kf_X8_12 hK hP 0 rfl rfl dX8_saves_20 ?_
    refine lv_iload_n hx hb dX8_saves_23 rfl (lv_at hl 1 rfl) ?_
    refine lv_iload_n hx hb dX8_saves_24 rfl (lv_at hl 2 rfl) ?_
    refine xc_Vr hF (c_X1_areBothWays l D cI cJ cZ cS ta sa sv s.heap.size qh ae al au ao ar ak aw att ass Pa j_2 k_3 fao (by omega) (by omega)) kv_X8_219 ⟨rfl, rfl, Nat.le_of_ble_eq_true rfl, Nat.le_of_ble_eq_true rfl⟩ ⟨Nat.le_of_ble_eq_true rfl, Nat.le_of_ble_eq_true rfl⟩ hK hN hZ hP hD hS hA [1, 4] rfl rfl 0 rfl rfl rfl rfl hl.1 rfl (Nat.le_of_ble_eq_true rfl) dX8_saves_25 (fun r_11 hw_r_11 => ?_)
    rcases hw_r_11 with rfl | rfl
    · skip
      refine lv_if_ne (tgt := 38) hx hb dX8_saves_28 (by decide) (fun c_12 => ?_) (fun c_12 => absurd c_12 (by decide))
      refine lv_aload_n hx hb dX8_saves_38 rfl (lv_at hl 0 rfl) ?_
      refine xc_Vi (wr := [(ae, .inl (cI, 10, .inl fae)), (qm, .inr (0, [.int (nI (Qm)), .ref mn])), (mn, .inl (cI, 100, .inl Lm)), (qf, .inl (cI, 7, .inl ff))]) hF (c_X8_isLooped l D cI cJ cZ cS ta sa sv s.heap.size h0 qh qk qd b0 qa qm qs qp ql qt qz qf Pa ae al au ao ar ak aw att ass fal fao Qa an La (by omega)) kv_X8_128 ⟨rfl, rfl, Nat.le_of_ble_eq_true rfl, Nat.le_of_ble_eq_true rfl⟩ ⟨Nat.le_of_ble_eq_true rfl, Nat.le_of_ble_eq_true rfl⟩ hK hN hZ hP hD hS hA [0, 1, 3, 4, 5, 6] [2, 7, 8, 9] rfl rfl (by decide +kernel) (by decide +kernel) (by decide +kernel) 0 rfl rfl rfl rfl hl.1 rfl (Nat.le_of_ble_eq_true rfl) dX8_saves_39 (fun r_13 u_r_13 H locs hw_r_13 hP hD hS => ?_)
      obtain ⟨L2_14, rfl⟩ : ∃ z, z = u_r_13 := ⟨_, rfl⟩
      try dsimp only at hw_r_13
      have hP : va_P D vwCl [(ae, .inl (cI, 10, .inl fae)), (qm, .inr (0, [.int (nI (Qm)), .ref mn])), (mn, .inl (cI, 100, .inl Lm)), (qf, .inl (cI, 7, .inl ff)), (h0, .inr (8, [.ref qh, .ref qk, .ref qd, .int b0, .ref qa, .ref qm, .ref qs, .ref qp, .ref ql, .ref qt, .ref qz, .ref qf])), (qh, .inr (1, [.int (nI (Pa)), .ref ae, .ref al, .ref au, .ref ao, .ref ar, .ref ak, .ref aw, .ref att, .ref ass])), (al, .inl (cI, 100, .inl fal)), (ao, .inl (cI, 100, .inl fao)), (qa, .inr (0, [.int (nI (Pa)), .ref an])), (an, .inl (cI, 100, .inl L2_14))] H := hP
      have hD : va_D A [(ae, .inl (cI, 10, .inl fae)), (qm, .inr (0, [.int (nI (Qm)), .ref mn])), (mn, .inl (cI, 100, .inl Lm)), (qf, .inl (cI, 7, .inl ff)), (h0, .inr (8, [.ref qh, .ref qk, .ref qd, .int b0, .ref qa, .ref qm, .ref qs, .ref qp, .ref ql, .ref qt, .ref qz, .ref qf])), (qh, .inr (1, [.int (nI (Pa)), .ref ae, .ref al, .ref au, .ref ao, .ref ar, .ref ak, .ref aw, .ref att, .ref ass])), (al, .inl (cI, 100, .inl fal)), (ao, .inl (cI, 100, .inl fao)), (qa, .inr (0, [.int (nI (Pa)), .ref an])), (an, .inl (cI, 100, .inl L2_14))] := hD
      rcases hw_r_13 with rfl | rfl
      · skip
        refine lv_if_ne (tgt := 65) hx hb dX8_saves_42 (by decide) (fun c_15 => ?_) (fun c_15 => absurd c_15 (by decide))
        refine lv_aload_n hx hb dX8_saves_65 rfl (lv_at hl 0 rfl) ?_
        refine lv_ldc (v := (-1000000005)) hx hb hown (hu _ uw452) dX8_saves_66 ?_
        refine xc_Vi (wr := [(ae, .inl (cI, 10, .inl fae)), (qm, .inr (0, [.int (nI (Qm)), .ref mn])), (mn, .inl (cI, 100, .inl Lm)), (qh, .inr (1, [.int (nI (Pa)), .ref ae, .ref al, .ref au, .ref ao, .ref ar, .ref ak, .ref aw, .ref att, .ref ass])), (al, .inl (cI, 100, .inl fal)), (ao, .inl (cI, 100, .inl fao)), (qa, .inr (0, [.int (nI (Pa)), .ref an])), (an, .inl (cI, 100, .inl L2_14))]) hF (c_X8_finding_T l D cI cJ cZ cS ta sa sv H.size h0 qh qk qd b0 qa qm qs qp ql qt qz qf ff ) kv_X8_80 ⟨rfl, rfl, Nat.le_of_ble_eq_true rfl, Nat.le_of_ble_eq_true rfl⟩ ⟨Nat.le_of_ble_eq_true rfl, Nat.le_of_ble_eq_true rfl⟩ hK hN hZ hP hD hS hA [4, 3] [0, 1, 2, 5, 6, 7, 8, 9] rfl rfl rfl (by decide +kernel) (by decide +kernel) 0 rfl rfl rfl rfl hl.1 rfl (Nat.le_of_ble_eq_true rfl) dX8_saves_68 (fun r_16 u_r_16 H locs hw_r_16 hP hD hS => ?_)
        obtain ⟨f2_17, rfl⟩ : ∃ z, z = u_r_16 := ⟨_, rfl⟩
        try dsimp only at hw_r_16
        have hP : va_P D vwCl [(ae, .inl (cI, 10, .inl fae)), (qm, .inr (0, [.int (nI (Qm)), .ref mn])), (mn, .inl (cI, 100, .inl Lm)), (qh, .inr (1, [.int (nI (Pa)), .ref ae, .ref al, .ref au, .ref ao, .ref ar, .ref ak, .ref aw, .ref att, .ref ass])), (al, .inl (cI, 100, .inl fal)), (ao, .inl (cI, 100, .inl fao)), (qa, .inr (0, [.int (nI (Pa)), .ref an])), (an, .inl (cI, 100, .inl L2_14)), (h0, .inr (8, [.ref qh, .ref qk, .ref qd, .int b0, .ref qa, .ref qm, .ref qs, .ref qp, .ref ql, .ref qt, .ref qz, .ref qf])), (qf, .inl (cI, 7, .inl f2_17))] H := hP
        have hD : va_D A [(ae, .inl (cI, 10, .inl fae)), (qm, .inr (0, [.int (nI (Qm)), .ref mn])), (mn, .inl (cI, 100, .inl Lm)), (qh, .inr (1, [.int (nI (Pa)), .ref ae, .ref al, .ref au, .ref ao, .ref ar, .ref ak, .ref aw, .ref att, .ref ass])), (al, .inl (cI, 100, .inl fal)), (ao, .inl (cI, 100, .inl fao)), (qa, .inr (0, [.int (nI (Pa)), .ref an])), (an, .inl (cI, 100, .inl L2_14)), (h0, .inr (8, [.ref qh, .ref qk, .ref qd, .int b0, .ref qa, .ref qm, .ref qs, .ref qp, .ref ql, .ref qt, .ref qz, .ref qf])), (qf, .inl (cI, 7, .inl f2_17))] := hD
        subst hw_r_16
        exact W.iret (v := (-1000000005)) hx hb hr (fun t ht hW => ⟨⟨(-1000000005), (Pa, L2_14, Qm, Lm, f2_17), rfl, ⟨trivial, (by first | assumption | omega), (by first | assumption | omega)⟩, by rw [ht]; exact hP.sub [8, 3, 0, 4, 5, 6, 7, 1, 2, 9] rfl, hD.sub [8, 3, 0, 4, 5, 6, 7, 1, 2, 9] (by decide +kernel) rfl⟩, hS.F ht⟩) hS.2.2 dX8_saves_71 hlk
      · skip
        refine lv_if_ne (tgt := 65) hx hb dX8_saves_42 (by decide) (fun c_18 => absurd (by decide) c_18) (fun c_18 => ?_)
        refine lv_aload_n hx hb dX8_saves_45 rfl (lv_at hl 0 rfl) ?_
        refine xg hF kf_X8_33 hK hP 4 rfl rfl dX8_saves_46 ?_
        refine lv_aload_n hx hb dX8_saves_49 rfl (lv_at hl 0 rfl) ?_
        refine xg hF kf_X8_29 hK hP 4 rfl rfl dX8_saves_50 ?_
        refine lv_aload_n hx hb dX8_saves_53 rfl (lv_at hl 0 rfl) ?_
        refine xg hF kf_X8_12 hK hP 4 rfl rfl dX8_saves_54 ?_
        refine lv_iload_n hx hb dX8_saves_57 rfl (lv_at hl 1 rfl) ?_
        refine lv_iload_n hx hb dX8_saves_58 rfl (lv_at hl 2 rfl) ?_
        refine xc_Vi (wr := [(ae, .inl (cI, 10, .inl fae)), (qf, .inl (cI, 7, .inl ff)), (h0, .inr (8, [.ref qh, .ref qk, .ref qd, .int b0, .ref qa, .ref qm, .ref qs, .ref qp, .ref ql, .ref qt, .ref qz, .ref qf]))]) hF (c_X0_mendFrom l D cI cJ cZ cS ta sa sv H.size qm mn Qm Lm qa an Pa L2_14 qh ae al au ao ar ak aw att ass Pa fal fao j_2 k_3 (by omega) (by omega) (by omega)) kv_X8_259 ⟨rfl, rfl, Nat.le_of_ble_eq_true rfl, Nat.le_of_ble_eq_true rfl⟩ ⟨Nat.le_of_ble_eq_true rfl, Nat.le_of_ble_eq_true rfl⟩ hK hN hZ hP hD hS hA [1, 2, 8, 9, 5, 6, 7] [0, 3, 4] rfl rfl (by decide +kernel) rfl (by decide +kernel) 0 rfl rfl rfl rfl hl.1 rfl (Nat.le_of_ble_eq_true rfl) dX8_saves_59 (fun r_19 u_r_19 H locs hw_r_19 hP hD hS => ?_)
        obtain ⟨Q9_20, L2_21⟩ := u_r_19
        try dsimp only at hw_r_19
        have hP : va_P D vwCl [(ae, .inl (cI, 10, .inl fae)), (qf, .inl (cI, 7, .inl ff)), (h0, .inr (8, [.ref qh, .ref qk, .ref qd, .int b0, .ref qa, .ref qm, .ref qs, .ref qp, .ref ql, .ref qt, .ref qz, .ref qf])), (qm, .inr (0, [.int (nI (Q9_20)), .ref mn])), (mn, .inl (cI, 100, .inl L2_21)), (qa, .inr (0, [.int (nI (Pa)), .ref an])), (an, .inl (cI, 100, .inl L2_14)), (qh, .inr (1, [.int (nI (Pa)), .ref ae, .ref al, .ref au, .ref ao, .ref ar, .ref ak, .ref aw, .ref att, .ref ass])), (al, .inl (cI, 100, .inl fal)), (ao, .inl (cI, 100, .inl fao))] H := hP
        have hD : va_D A [(ae, .inl (cI, 10, .inl fae)), (qf, .inl (cI, 7, .inl ff)), (h0, .inr (8, [.ref qh, .ref qk, .ref qd, .int b0, .ref qa, .ref qm, .ref qs, .ref qp, .ref ql, .ref qt, .ref qz, .ref qf])), (qm, .inr (0, [.int (nI (Q9_20)), .ref mn])), (mn, .inl (cI, 100, .inl L2_21)), (qa, .inr (0, [.int (nI (Pa)), .ref an])), (an, .inl (cI, 100, .inl L2_14)), (qh, .inr (1, [.int (nI (Pa)), .ref ae, .ref al, .ref au, .ref ao, .ref ar, .ref ak, .ref aw, .ref att, .ref ass])), (al, .inl (cI, 100, .inl fal)), (ao, .inl (cI, 100, .inl fao))] := hD
        rcases hw_r_19 with ⟨rfl, h_22⟩ | ⟨rfl, h_23⟩
        · skip
          refine lv_if_ne (tgt := 72) hx hb dX8_saves_62 (by decide) (fun c_24 => ?_) (fun c_24 => absurd c_24 (by decide))
          refine lv_aload_n hx hb dX8_saves_72 rfl (lv_at hl 0 rfl) ?_
          refine xg hF kf_X8_29 hK hP 2 rfl rfl dX8_saves_73 ?_
          refine lv_aload_n hx hb dX8_saves_76 rfl (lv_at hl 0 rfl) ?_
          refine xg hF kf_X8_12 hK hP 2 rfl rfl dX8_saves_77 ?_
          refine xc_Vr hF (c_X0_leastTrip l D cI cJ cZ cS ta sa sv H.size qa an Pa L2_14 qh ae al au ao ar ak aw att ass Pa fae (by omega)) kv_X8_263 ⟨rfl, rfl, Nat.le_of_ble_eq_true rfl, Nat.le_of_ble_eq_true rfl⟩ ⟨Nat.le_of_ble_eq_true rfl, Nat.le_of_ble_eq_true rfl⟩ hK hN hZ hP hD hS hA [5, 6, 7, 0] rfl rfl 0 rfl rfl rfl rfl hl.1 rfl (Nat.le_of_ble_eq_true rfl) dX8_saves_80 (fun r_25 hw_r_25 => ?_)
          refine lv_istore_n (lv' := [(3, .int r_25), (0, .ref h0), (1, .int (nI (j_2))), (2, .int (nI (k_3)))]) hx hb dX8_saves_83 rfl hl (by decide) rfl (fun ls hl => ?_)
          refine lv_iload_n hx hb dX8_saves_84 rfl (lv_at hl 0 rfl) ?_
          refine lv_ldc (v := 1000000000) hx hb hown (hu _ uw4) dX8_saves_85 ?_
          refine lv_icmp_ne (tgt := 97) hx hb dX8_saves_87 (by decide) (fun c_26 => ?_) (fun c_26 => ?_)
          · skip
            refine lv_iload_n hx hb dX8_saves_97 rfl (lv_at hl 0 rfl) ?_
            refine lv_aload_n hx hb dX8_saves_98 rfl (lv_at hl 1 rfl) ?_
            refine xg hF kf_X8_33 hK hP 2 rfl rfl dX8_saves_99 ?_
            refine lv_aload_n hx hb dX8_saves_102 rfl (lv_at hl 1 rfl) ?_
            refine xg hF kf_X8_12 hK hP 2 rfl rfl dX8_saves_103 ?_
            refine xc_Vr hF (c_X0_leastTrip l D cI cJ cZ cS ta sa sv H.size qm mn Q9_20 L2_21 qh ae al au ao ar ak aw att ass Pa fae (by omega)) kv_X8_263 ⟨rfl, rfl, Nat.le_of_ble_eq_true rfl, Nat.le_of_ble_eq_true rfl⟩ ⟨Nat.le_of_ble_eq_true rfl, Nat.le_of_ble_eq_true rfl⟩ hK hN hZ hP hD hS hA [3, 4, 7, 0] rfl rfl 0 rfl rfl rfl rfl hl.1 rfl (Nat.le_of_ble_eq_true rfl) dX8_saves_106 (fun r_27 hw_r_27 => ?_)
            refine lv_isub hx hb dX8_saves_109 ?_
            refine lv_topi (fun x_28 ex_28 => ?_)
            exact W.iret (v := x_28) hx hb hr (fun t ht hW => ⟨⟨x_28, (Pa, L2_14, Q9_20, L2_21, ff), rfl, ⟨trivial, (by first | assumption | omega), (by first | assumption | omega)⟩, by rw [ht]; exact hP.sub [2, 7, 0, 8, 9, 5, 6, 3, 4, 1] rfl, hD.sub [2, 7, 0, 8, 9, 5, 6, 3, 4, 1] (by decide +kernel) rfl⟩, hS.F ht⟩) hS.2.2 dX8_saves_110 hlk
          · skip
            refine lv_aload_n hx hb dX8_saves_90 rfl (lv_at hl 1 rfl) ?_
            refine lv_ldc (v := (-1000000004)) hx hb hown (hu _ uw410) dX8_saves_91 ?_
            refine xc_Vi (wr := [(ae, .inl (cI, 10, .inl fae)), (qm, .inr (0, [.int (nI (Q9_20)), .ref mn])), (mn, .inl (cI, 100, .inl L2_21)), (qa, .inr (0, [.int (nI (Pa)), .ref an])), (an, .inl (cI, 100, .inl L2_14)), (qh, .inr (1, [.int (nI (Pa)), .ref ae, .ref al, .ref au, .ref ao, .ref ar, .ref ak, .ref aw, .ref att, .ref ass])), (al, .inl (cI, 100, .inl fal)), (ao, .inl (cI, 100, .inl fao))]) hF (c_X8_finding_N l D cI cJ cZ cS ta sa sv H.size h0 qh qk qd b0 qa qm qs qp ql qt qz qf ff ) kv_X8_80 ⟨rfl, rfl, Nat.le_of_ble_eq_true rfl, Nat.le_of_ble_eq_true rfl⟩ ⟨Nat.le_of_ble_eq_true rfl, Nat.le_of_ble_eq_true rfl⟩ hK hN hZ hP hD hS hA [2, 1] [0, 3, 4, 5, 6, 7, 8, 9] rfl rfl rfl (by decide +kernel) (by decide +kernel) 0 rfl rfl rfl rfl hl.1 rfl (Nat.le_of_ble_eq_true rfl) dX8_saves_93 (fun r_29 u_r_29 H locs hw_r_29 hP hD hS => ?_)
            obtain ⟨f2_30, rfl⟩ : ∃ z, z = u_r_29 := ⟨_, rfl⟩
            try dsimp only at hw_r_29
            have hP : va_P D vwCl [(ae, .inl (cI, 10, .inl fae)), (qm, .inr (0, [.int (nI (Q9_20)), .ref mn])), (mn, .inl (cI, 100, .inl L2_21)), (qa, .inr (0, [.int (nI (Pa)), .ref an])), (an, .inl (cI, 100, .inl L2_14)), (qh, .inr (1, [.int (nI (Pa)), .ref ae, .ref al, .ref au, .ref ao, .ref ar, .ref ak, .ref aw, .ref att, .ref ass])), (al, .inl (cI, 100, .inl fal)), (ao, .inl (cI, 100, .inl fao)), (h0, .inr (8, [.ref qh, .ref qk, .ref qd, .int b0, .ref qa, .ref qm, .ref qs, .ref qp, .ref ql, .ref qt, .ref qz, .ref qf])), (qf, .inl (cI, 7, .inl f2_30))] H := hP
            have hD : va_D A [(ae, .inl (cI, 10, .inl fae)), (qm, .inr (0, [.int (nI (Q9_20)), .ref mn])), (mn, .inl (cI, 100, .inl L2_21)), (qa, .inr (0, [.int (nI (Pa)), .ref an])), (an, .inl (cI, 100, .inl L2_14)), (qh, .inr (1, [.int (nI (Pa)), .ref ae, .ref al, .ref au, .ref ao, .ref ar, .ref ak, .ref aw, .ref att, .ref ass])), (al, .inl (cI, 100, .inl fal)), (ao, .inl (cI, 100, .inl fao)), (h0, .inr (8, [.ref qh, .ref qk, .ref qd, .int b0, .ref qa, .ref qm, .ref qs, .ref qp, .ref ql, .ref qt, .ref qz, .ref qf])), (qf, .inl (cI, 7, .inl f2_30))] := hD
            subst hw_r_29
            exact W.iret (v := (-1000000004)) hx hb hr (fun t ht hW => ⟨⟨(-1000000004), (Pa, L2_14, Q9_20, L2_21, f2_30), rfl, ⟨trivial, (by first | assumption | omega), (by first | assumption | omega)⟩, by rw [ht]; exact hP.sub [8, 5, 0, 6, 7, 3, 4, 1, 2, 9] rfl, hD.sub [8, 5, 0, 6, 7, 3, 4, 1, 2, 9] (by decide +kernel) rfl⟩, hS.F ht⟩) hS.2.2 dX8_saves_96 hlk
        · skip
          refine lv_if_ne (tgt := 72) hx hb dX8_saves_62 (by decide) (fun c_31 => absurd (by decide) c_31) (fun c_31 => ?_)
          refine lv_aload_n hx hb dX8_saves_65 rfl (lv_at hl 0 rfl) ?_
          refine lv_ldc (v := (-1000000005)) hx hb hown (hu _ uw452) dX8_saves_66 ?_
          refine xc_Vi (wr := [(ae, .inl (cI, 10, .inl fae)), (qm, .inr (0, [.int (nI (Q9_20)), .ref mn])), (mn, .inl (cI, 100, .inl L2_21)), (qa, .inr (0, [.int (nI (Pa)), .ref an])), (an, .inl (cI, 100, .inl L2_14)), (qh, .inr (1, [.int (nI (Pa)), .ref ae, .ref al, .ref au, .ref ao, .ref ar, .ref ak, .ref aw, .ref att, .ref ass])), (al, .inl (cI, 100, .inl fal)), (ao, .inl (cI, 100, .inl fao))]) hF (c_X8_finding_T l D cI cJ cZ cS ta sa sv H.size h0 qh qk qd b0 qa qm qs qp ql qt qz qf ff ) kv_X8_80 ⟨rfl, rfl, Nat.le_of_ble_eq_true rfl, Nat.le_of_ble_eq_true rfl⟩ ⟨Nat.le_of_ble_eq_true rfl, Nat.le_of_ble_eq_true rfl⟩ hK hN hZ hP hD hS hA [2, 1] [0, 3, 4, 5, 6, 7, 8, 9] rfl rfl rfl (by decide +kernel) (by decide +kernel) 0 rfl rfl rfl rfl hl.1 rfl (Nat.le_of_ble_eq_true rfl) dX8_saves_68 (fun r_32 u_r_32 H locs hw_r_32 hP hD hS => ?_)
          obtain ⟨f2_33, rfl⟩ : ∃ z, z = u_r_32 := ⟨_, rfl⟩
          try dsimp only at hw_r_32
          have hP : va_P D vwCl [(ae, .inl (cI, 10, .inl fae)), (qm, .inr (0, [.int (nI (Q9_20)), .ref mn])), (mn, .inl (cI, 100, .inl L2_21)), (qa, .inr (0, [.int (nI (Pa)), .ref an])), (an, .inl (cI, 100, .inl L2_14)), (qh, .inr (1, [.int (nI (Pa)), .ref ae, .ref al, .ref au, .ref ao, .ref ar, .ref ak, .ref aw, .ref att, .ref ass])), (al, .inl (cI, 100, .inl fal)), (ao, .inl (cI, 100, .inl fao)), (h0, .inr (8, [.ref qh, .ref qk, .ref qd, .int b0, .ref qa, .ref qm, .ref qs, .ref qp, .ref ql, .ref qt, .ref qz, .ref qf])), (qf, .inl (cI, 7, .inl f2_33))] H := hP
          have hD : va_D A [(ae, .inl (cI, 10, .inl fae)), (qm, .inr (0, [.int (nI (Q9_20)), .ref mn])), (mn, .inl (cI, 100, .inl L2_21)), (qa, .inr (0, [.int (nI (Pa)), .ref an])), (an, .inl (cI, 100, .inl L2_14)), (qh, .inr (1, [.int (nI (Pa)), .ref ae, .ref al, .ref au, .ref ao, .ref ar, .ref ak, .ref aw, .ref att, .ref ass])), (al, .inl (cI, 100, .inl fal)), (ao, .inl (cI, 100, .inl fao)), (h0, .inr (8, [.ref qh, .ref qk, .ref qd, .int b0, .ref qa, .ref qm, .ref qs, .ref qp, .ref ql, .ref qt, .ref qz, .ref qf])), (qf, .inl (cI, 7, .inl f2_33))] := hD
          subst hw_r_32
          exact W.iret (v := (-1000000005)) hx hb hr (fun t ht hW => ⟨⟨(-1000000005), (Pa, L2_14, Q9_20, L2_21, f2_33), rfl, ⟨trivial, (by first | assumption | omega), (by first | assumption | omega)⟩, by rw [ht]; exact hP.sub [8, 5, 0, 6, 7, 3, 4, 1, 2, 9] rfl, hD.sub [8, 5, 0, 6, 7, 3, 4, 1, 2, 9] (by decide +kernel) rfl⟩, hS.F ht⟩) hS.2.2 dX8_saves_71 hlk
    · skip
      refine lv_if_ne (tgt := 38) hx hb dX8_saves_28 (by decide) (fun c_34 => absurd (by decide) c_34) (fun c_34 => ?_)
      refine lv_aload_n hx hb dX8_saves_31 rfl (lv_at hl 0 rfl) ?_
      refine lv_ldc (v := (-1000000004)) hx hb hown (hu _ uw410) dX8_saves_32 ?_
      refine xc_Vi (wr := [(qh, .inr (1, [.int (nI (Pa)), .ref ae, .ref al, .ref au, .ref ao, .ref ar, .ref ak, .ref aw, .ref att, .ref ass])), (ae, .inl (cI, 10, .inl fae)), (al, .inl (cI, 100, .inl fal)), (ao, .inl (cI, 100, .inl fao)), (qa, .inr (0, [.int (nI (Qa)), .ref an])), (an, .inl (cI, 100, .inl La)), (qm, .inr (0, [.int (nI (Qm)), .ref mn])), (mn, .inl (cI, 100, .inl Lm))]) hF (c_X8_finding_N l D cI cJ cZ cS ta sa sv s.heap.size h0 qh qk qd b0 qa qm qs qp ql qt qz qf ff ) kv_X8_80 ⟨rfl, rfl, Nat.le_of_ble_eq_true rfl, Nat.le_of_ble_eq_true rfl⟩ ⟨Nat.le_of_ble_eq_true rfl, Nat.le_of_ble_eq_true rfl⟩ hK hN hZ hP hD hS hA [0, 9] [1, 2, 3, 4, 5, 6, 7, 8] rfl rfl rfl (by decide +kernel) (by decide +kernel) 0 rfl rfl rfl rfl hl.1 rfl (Nat.le_of_ble_eq_true rfl) dX8_saves_34 (fun r_35 u_r_35 H locs hw_r_35 hP hD hS => ?_)
      obtain ⟨f2_36, rfl⟩ : ∃ z, z = u_r_35 := ⟨_, rfl⟩
      try dsimp only at hw_r_35
      have hP : va_P D vwCl [(qh, .inr (1, [.int (nI (Pa)), .ref ae, .ref al, .ref au, .ref ao, .ref ar, .ref ak, .ref aw, .ref att, .ref ass])), (ae, .inl (cI, 10, .inl fae)), (al, .inl (cI, 100, .inl fal)), (ao, .inl (cI, 100, .inl fao)), (qa, .inr (0, [.int (nI (Qa)), .ref an])), (an, .inl (cI, 100, .inl La)), (qm, .inr (0, [.int (nI (Qm)), .ref mn])), (mn, .inl (cI, 100, .inl Lm)), (h0, .inr (8, [.ref qh, .ref qk, .ref qd, .int b0, .ref qa, .ref qm, .ref qs, .ref qp, .ref ql, .ref qt, .ref qz, .ref qf])), (qf, .inl (cI, 7, .inl f2_36))] H := hP
      have hD : va_D A [(qh, .inr (1, [.int (nI (Pa)), .ref ae, .ref al, .ref au, .ref ao, .ref ar, .ref ak, .ref aw, .ref att, .ref ass])), (ae, .inl (cI, 10, .inl fae)), (al, .inl (cI, 100, .inl fal)), (ao, .inl (cI, 100, .inl fao)), (qa, .inr (0, [.int (nI (Qa)), .ref an])), (an, .inl (cI, 100, .inl La)), (qm, .inr (0, [.int (nI (Qm)), .ref mn])), (mn, .inl (cI, 100, .inl Lm)), (h0, .inr (8, [.ref qh, .ref qk, .ref qd, .int b0, .ref qa, .ref qm, .ref qs, .ref qp, .ref ql, .ref qt, .ref qz, .ref qf])), (qf, .inl (cI, 7, .inl f2_36))] := hD
      subst hw_r_35
      exact W.iret (v := (-1000000004)) hx hb hr (fun t ht hW => ⟨⟨(-1000000004), (Qa, La, Qm, Lm, f2_36), rfl, ⟨trivial, (by first | assumption | omega), (by first | assumption | omega)⟩, by rw [ht]; exact hP.sub [8, 0, 1, 2, 3, 4, 5, 6, 7, 9] rfl, hD.sub [8, 0, 1, 2, 3, 4, 5, 6, 7, 9] (by decide +kernel) rfl⟩, hS.F ht⟩) hS.2.2 dX8_saves_37 hlk
  · skip
    refine lv_if_ne (tgt := 19) hx hb dX8_saves_9 (by decide) (fun c_37 => absurd (by decide) c_37) (fun c_37 => ?_)
    refine lv_aload_n hx hb dX8_saves_12 rfl (lv_at hl 0 rfl) ?_
    refine lv_ldc (v := (-1000000001)) hx hb hown (hu _ uw396) dX8_saves_13 ?_
    refine xc_Vi (wr := [(qh, .inr (1, [.int (nI (Pa)), .ref ae, .ref al, .ref au, .ref ao, .ref ar, .ref ak, .ref aw, .ref att, .ref ass])), (ae, .inl (cI, 10, .inl fae)), (al, .inl (cI, 100, .inl fal)), (ao, .inl (cI, 100, .inl fao)), (qa, .inr (0, [.int (nI (Qa)), .ref an])), (an, .inl (cI, 100, .inl La)), (qm, .inr (0, [.int (nI (Qm)), .ref mn])), (mn, .inl (cI, 100, .inl Lm))]) hF (c_X8_finding_B l D cI cJ cZ cS ta sa sv s.heap.size h0 qh qk qd b0 qa qm qs qp ql qt qz qf ff ) kv_X8_80 ⟨rfl, rfl, Nat.le_of_ble_eq_true rfl, Nat.le_of_ble_eq_true rfl⟩ ⟨Nat.le_of_ble_eq_true rfl, Nat.le_of_ble_eq_true rfl⟩ hK hN hZ hP hD hS hA [0, 9] [1, 2, 3, 4, 5, 6, 7, 8] rfl rfl rfl (by decide +kernel) (by decide +kernel) 0 rfl rfl rfl rfl hl.1 rfl (Nat.le_of_ble_eq_true rfl) dX8_saves_15 (fun r_38 u_r_38 H locs hw_r_38 hP hD hS => ?_)
    obtain ⟨f2_39, rfl⟩ : ∃ z, z = u_r_38 := ⟨_, rfl⟩
    try dsimp only at hw_r_38
    have hP : va_P D vwCl [(qh, .inr (1, [.int (nI (Pa)), .ref ae, .ref al, .ref au, .ref ao, .ref ar, .ref ak, .ref aw, .ref att, .ref ass])), (ae, .inl (cI, 10, .inl fae)), (al, .inl (cI, 100, .inl fal)), (ao, .inl (cI, 100, .inl fao)), (qa, .inr (0, [.int (nI (Qa)), .ref an])), (an, .inl (cI, 100, .inl La)), (qm, .inr (0, [.int (nI (Qm)), .ref mn])), (mn, .inl (cI, 100, .inl Lm)), (h0, .inr (8, [.ref qh, .ref qk, .ref qd, .int b0, .ref qa, .ref qm, .ref qs, .ref qp, .ref ql, .ref qt, .ref qz, .ref qf])), (qf, .inl (cI, 7, .inl f2_39))] H := hP
    have hD : va_D A [(qh, .inr (1, [.int (nI (Pa)), .ref ae, .ref al, .ref au, .ref ao, .ref ar, .ref ak, .ref aw, .ref att, .ref ass])), (ae, .inl (cI, 10, .inl fae)), (al, .inl (cI, 100, .inl fal)), (ao, .inl (cI, 100, .inl fao)), (qa, .inr (0, [.int (nI (Qa)), .ref an])), (an, .inl (cI, 100, .inl La)), (qm, .inr (0, [.int (nI (Qm)), .ref mn])), (mn, .inl (cI, 100, .inl Lm)), (h0, .inr (8, [.ref qh, .ref qk, .ref qd, .int b0, .ref qa, .ref qm, .ref qs, .ref qp, .ref ql, .ref qt, .ref qz, .ref qf])), (qf, .inl (cI, 7, .inl f2_39))] := hD
    subst hw_r_38
    exact W.iret (v := (-1000000001)) hx hb hr (fun t ht hW => ⟨⟨(-1000000001), (Qa, La, Qm, Lm, f2_39), rfl, ⟨trivial, (by first | assumption | omega), (by first | assumption | omega)⟩, by rw [ht]; exact hP.sub [8, 0, 1, 2, 3, 4, 5, 6, 7, 9] rfl, hD.sub [8, 0, 1, 2, 3, 4, 5, 6, 7, 9] (by decide +kernel) rfl⟩, hS.F ht⟩) hS.2.2 dX8_saves_18 hlk
set_option maxHeartbeats 4000000 in
set_option maxRecDepth 100000 in
theorem c_X8_bestToMend (l : Launch) (D : va_G) (cI cJ cZ cS : ClassId) (ta : Nat) (sa sv : Nat → Nat) (sz : Nat) (h0 : Nat) (qh : Nat) (qk : Nat) (qd : Nat) (b0 : Int32) (qa : Nat) (qm : Nat) (qs : Nat) (qp : Nat) (ql : Nat) (qt : Nat) (qz : Nat) (qf : Nat) (Pa : Nat) (ae : Nat) (al : Nat) (au : Nat) (ao : Nat) (ar : Nat) (ak : Nat) (aw : Nat) (att : Nat) (ass : Nat) (fae : Nat → Int32) (fal : Nat → Int32) (fao : Nat → Int32) (Qa : Nat) (an : Nat) (La : Nat → Int32) (Qm : Nat) (mn : Nat) (Lm : Nat → Int32) (p0 : Int32) (hP0 : Pa ≤ 10) (hQa : Qa ≤ 10) (hQm : Qm ≤ 10) : Met l yX8_bestToMend (Cond.code yX8_bestToMend cX8_bestToMend 7 (some .int) :: wsU) ({ frames := 5, cells := 0, slots := 0, locals := 117 }) (va_Pc [.ref h0, .int p0] (XW D (xT cI cJ cZ cS) ta sa sv [(h0, .inr (8, [.ref qh, .ref qk, .ref qd, .int b0, .ref qa, .ref qm, .ref qs, .ref qp, .ref ql, .ref qt, .ref qz, .ref qf])), (qh, .inr (1, [.int (nI (Pa)), .ref ae, .ref al, .ref au, .ref ao, .ref ar, .ref ak, .ref aw, .ref att, .ref ass])), (ae, .inl (cI, 10, .inl fae)), (al, .inl (cI, 100, .inl fal)), (ao, .inl (cI, 100, .inl fao)), (qa, .inr (0, [.int (nI (Qa)), .ref an])), (an, .inl (cI, 100, .inl La)), (qm, .inr (0, [.int (nI (Qm)), .ref mn])), (mn, .inl (cI, 100, .inl Lm))] sz)) (XQi (fun (r : Int32) (u : Nat × (Nat → Int32)) => match u with | (Qm2, Lm2) => (True) ∧ (Qm2 ≤ 10)) D (fun (u : Nat × (Nat → Int32)) => match u with | (Qm2, Lm2) => [(h0, .inr (8, [.ref qh, .ref qk, .ref qd, .int b0, .ref qa, .ref qm, .ref qs, .ref qp, .ref ql, .ref qt, .ref qz, .ref qf])), (qh, .inr (1, [.int (nI (Pa)), .ref ae, .ref al, .ref au, .ref ao, .ref ar, .ref ak, .ref aw, .ref att, .ref ass])), (ae, .inl (cI, 10, .inl fae)), (al, .inl (cI, 100, .inl fal)), (ao, .inl (cI, 100, .inl fao)), (qa, .inr (0, [.int (nI (Qa)), .ref an])), (an, .inl (cI, 100, .inl La)), (qm, .inr (0, [.int (nI (Qm2)), .ref mn])), (mn, .inl (cI, 100, .inl Lm2))]) (va_A [(h0, .inr (8, [.ref qh, .ref qk, .ref qd, .int b0, .ref qa, .ref qm, .ref qs, .ref qp, .ref ql, .ref qt, .ref qz, .ref qf])), (qh, .inr (1, [.int (nI (Pa)), .ref ae, .ref al, .ref au, .ref ao, .ref ar, .ref ak, .ref aw, .ref att, .ref ass])), (ae, .inl (cI, 10, .inl fae)), (al, .inl (cI, 100, .inl fal)), (ao, .inl (cI, 100, .inl fao)), (qa, .inr (0, [.int (nI (Qa)), .ref an])), (an, .inl (cI, 100, .inl La)), (qm, .inr (0, [.int (nI (Qm)), .ref mn])), (mn, .inl (cI, 100, .inl Lm))] sz)) 0 0 (va_A [(h0, .inr (8, [.ref qh, .ref qk, .ref qd, .int b0, .ref qa, .ref qm, .ref qs, .ref qp, .ref ql, .ref qt, .ref qz, .ref qf])), (qh, .inr (1, [.int (nI (Pa)), .ref ae, .ref al, .ref au, .ref ao, .ref ar, .ref ak, .ref aw, .ref att, .ref ass])), (ae, .inl (cI, 10, .inl fae)), (al, .inl (cI, 100, .inl fal)), (ao, .inl (cI, 100, .inl fao)), (qa, .inr (0, [.int (nI (Qa)), .ref an])), (an, .inl (cI, 100, .inl La)), (qm, .inr (0, [.int (nI (Qm)), .ref mn])), (mn, .inl (cI, 100, .inl Lm))] sz) := by
  refine xh (QA := fun A => XQi (fun (r : Int32) (u : Nat × (Nat → Int32)) => match u with | (Qm2, Lm2) => (True) ∧ (Qm2 ≤ 10)) D (fun (u : Nat × (Nat → Int32)) => match u with | (Qm2, Lm2) => [(h0, .inr (8, [.ref qh, .ref qk, .ref qd, .int b0, .ref qa, .ref qm, .ref qs, .ref qp, .ref ql, .ref qt, .ref qz, .ref qf])), (qh, .inr (1, [.int (nI (Pa)), .ref ae, .ref al, .ref au, .ref ao, .ref ar, .ref ak, .ref aw, .ref att, .ref ass])), (ae, .inl (cI, 10, .inl fae)), (al, .inl (cI, 100, .inl fal)), (ao, .inl (cI, 100, .inl fao)), (qa, .inr (0, [.int (nI (Qa)), .ref an])), (an, .inl (cI, 100, .inl La)), (qm, .inr (0, [.int (nI (Qm2)), .ref mn])), (mn, .inl (cI, 100, .inl Lm2))]) A) (fr := fun A => A) (by decide) (Nat.le_of_ble_eq_true rfl) ?_
  intro p e s m below meth c ls A hF hr hlk hin hsz hP hK hD hN hZ hA hS hl
  have hF : CallFix p m c cX8_bestToMend 7 s _ _ RX8 := hF
  have hx := hF.1
  have hb := hF.2.1
  have hml := hF.2.2.1
  have hown := hF.2.2.2.1
  have hu : ∀ w ∈ wsU, w.before _ s = true := fun w h => hF.2.2.2.2 w (List.mem_cons_of_mem _ h)
  have hl : lv_has ls 7 [(0, .ref h0), (1, .int p0)] := hl
  refine lv_iconst (v := (-1)) hx hb dX8_bestToMend_0 (by decide) ?_
  refine lv_istore_n (lv' := [(2, .int (-1)), (0, .ref h0), (1, .int p0)]) hx hb dX8_bestToMend_1 rfl hl (by decide) rfl (fun ls hl => ?_)
  refine lv_iconst (v := 0) hx hb dX8_bestToMend_2 (by decide) ?_
  refine lv_istore_n (lv' := [(3, .int 0), (2, .int (-1)), (0, .ref h0), (1, .int p0)]) hx hb dX8_bestToMend_3 rfl hl (by decide) rfl (fun ls hl => ?_)
  refine lv_iconst (v := 0) hx hb dX8_bestToMend_4 (by decide) ?_
  refine lv_istore (lv' := [(4, .int 0), (3, .int 0), (2, .int (-1)), (0, .ref h0), (1, .int p0)]) hx hb dX8_bestToMend_5 hl (by decide) rfl (fun ls hl => ?_)
  suffices loop_7 : ∀ (n_7 : Nat) (i : Nat) (x : Int32) (u : Int32) (Q8 : Nat) (L8 : Nat → Int32) (H : Heap) (locs : List Loc) (ls : Array Slot), Pa - i < n_7 → (i ≤ Pa) → (Q8 ≤ 10) → va_P D vwCl [(h0, .inr (8, [.ref qh, .ref qk, .ref qd, .int b0, .ref qa, .ref qm, .ref qs, .ref qp, .ref ql, .ref qt, .ref qz, .ref qf])), (qh, .inr (1, [.int (nI (Pa)), .ref ae, .ref al, .ref au, .ref ao, .ref ar, .ref ak, .ref aw, .ref att, .ref ass])), (ae, .inl (cI, 10, .inl fae)), (al, .inl (cI, 100, .inl fal)), (ao, .inl (cI, 100, .inl fao)), (qa, .inr (0, [.int (nI (Qa)), .ref an])), (an, .inl (cI, 100, .inl La)), (qm, .inr (0, [.int (nI (Q8)), .ref mn])), (mn, .inl (cI, 100, .inl L8))] H → va_D A [(h0, .inr (8, [.ref qh, .ref qk, .ref qd, .int b0, .ref qa, .ref qm, .ref qs, .ref qp, .ref ql, .ref qt, .ref qz, .ref qf])), (qh, .inr (1, [.int (nI (Pa)), .ref ae, .ref al, .ref au, .ref ao, .ref ar, .ref ak, .ref aw, .ref att, .ref ass])), (ae, .inl (cI, 10, .inl fae)), (al, .inl (cI, 100, .inl fal)), (ao, .inl (cI, 100, .inl fao)), (qa, .inr (0, [.int (nI (Qa)), .ref an])), (an, .inl (cI, 100, .inl La)), (qm, .inr (0, [.int (nI (Q8)), .ref mn])), (mn, .inl (cI, 100, .inl L8))] → va_S A s.heap H locs → lv_has ls 7 [(4, .int (nI (i))), (3, .int u), (2, .int x), (0, .ref h0), (1, .int p0)] → W p l e ({ frames := 5, cells := 0, slots := 0, locals := 117 }) s m ([.ref h0, .int p0] : List Value).toArray below meth c H locs 0 0 (MQ below (XQi (fun (r : Int32) (u : Nat × (Nat → Int32)) => match u with | (Qm2, Lm2) => (True) ∧ (Qm2 ≤ 10)) D (fun (u : Nat × (Nat → Int32)) => match u with | (Qm2, Lm2) => [(h0, .inr (8, [.ref qh, .ref qk, .ref qd, .int b0, .ref qa, .ref qm, .ref qs, .ref qp, .ref ql, .ref qt, .ref qz, .ref qf])), (qh, .inr (1, [.int (nI (Pa)), .ref ae, .ref al, .ref au, .ref ao, .ref ar, .ref ak, .ref aw, .ref att, .ref ass])), (ae, .inl (cI, 10, .inl fae)), (al, .inl (cI, 100, .inl fal)), (ao, .inl (cI, 100, .inl fao)), (qa, .inr (0, [.int (nI (Qa)), .ref an])), (an, .inl (cI, 100, .inl La)), (qm, .inr (0, [.int (nI (Qm2)), .ref mn])), (mn, .inl (cI, 100, .inl Lm2))]) A) ([.ref h0, .int p0] : List Value).toArray s 0 0 A) (F0 m 7 ls []) by
    exact loop_7 _ 0 (-1) 0 Qm Lm _ _ _ (Nat.lt_succ_self _) (by omega) (by omega) hP hD hS (lv_sub hl [0, 1, 2, 3, 4] rfl)
  intro n_7
  induction n_7 with
  | zero =>
    intro i x u Q8 L8 H locs ls hm_7
    exact absurd hm_7 (Nat.not_lt_zero _)
  | succ n_7 ih_7 =>
    intro i x u Q8 L8 H locs ls hm_7 hi hQ8 hP hD hS hl
    refine lv_iload hx hb dX8_bestToMend_7 (lv_at hl 0 rfl) ?_
    refine lv_aload_n hx hb dX8_bestToMend_9 rfl (lv_at hl 3 rfl) ?_
    refine xg hF kf_X8_12 hK hP 0 rfl rfl dX8_bestToMend_10 ?_
    refine xg hF kf_X8_75 hK hP 1 rfl rfl dX8_bestToMend_13 ?_
    refine lv_icmp_ge (tgt := 122) hx hb dX8_bestToMend_16 (by decide) (fun c_1 => ?_) (fun c_1 => ?_)
    · skip
      have nc_1 : Pa ≤ i := xn_le (a := Pa) (b := i) (by omega) (by omega) c_1
      refine lv_iload_n hx hb dX8_bestToMend_122 rfl (lv_at hl 2 rfl) ?_
      exact W.iret (v := x) hx hb hr (fun t ht hW => ⟨⟨x, (Q8, L8), rfl, ⟨trivial, (by first | assumption | omega)⟩, by rw [ht]; exact hP.sub [0, 1, 2, 3, 4, 5, 6, 7, 8] rfl, hD.sub [0, 1, 2, 3, 4, 5, 6, 7, 8] (by decide +kernel) rfl⟩, hS.F ht⟩) hS.2.2 dX8_bestToMend_123 hlk
    · skip
      have nc_1 : i < Pa := xn_nle (a := Pa) (b := i) (by omega) (by omega) c_1
      refine lv_iload hx hb dX8_bestToMend_19 (lv_at hl 0 rfl) ?_
      refine lv_iconst (v := 1) hx hb dX8_bestToMend_21 (by decide) ?_
      refine lv_iadd hx hb dX8_bestToMend_22 ?_
      refine xl_i (y := nI (i + 1)) (nI_add i 1) ?_
      refine lv_istore (lv' := [(5, .int (nI (i + 1))), (4, .int (nI (i))), (3, .int u), (2, .int x), (0, .ref h0), (1, .int p0)]) hx hb dX8_bestToMend_23 hl (by decide) rfl (fun ls hl => ?_)
      suffices loop_25 : ∀ (n_25 : Nat) (i2 : Nat) (x2 : Int32) (u2 : Int32) (Q7 : Nat) (L7 : Nat → Int32) (H : Heap) (locs : List Loc) (ls : Array Slot), Pa - i2 < n_25 → (i2 ≤ Pa) → (Q7 ≤ 10) → va_P D vwCl [(h0, .inr (8, [.ref qh, .ref qk, .ref qd, .int b0, .ref qa, .ref qm, .ref qs, .ref qp, .ref ql, .ref qt, .ref qz, .ref qf])), (qh, .inr (1, [.int (nI (Pa)), .ref ae, .ref al, .ref au, .ref ao, .ref ar, .ref ak, .ref aw, .ref att, .ref ass])), (ae, .inl (cI, 10, .inl fae)), (al, .inl (cI, 100, .inl fal)), (ao, .inl (cI, 100, .inl fao)), (qa, .inr (0, [.int (nI (Qa)), .ref an])), (an, .inl (cI, 100, .inl La)), (qm, .inr (0, [.int (nI (Q7)), .ref mn])), (mn, .inl (cI, 100, .inl L7))] H → va_D A [(h0, .inr (8, [.ref qh, .ref qk, .ref qd, .int b0, .ref qa, .ref qm, .ref qs, .ref qp, .ref ql, .ref qt, .ref qz, .ref qf])), (qh, .inr (1, [.int (nI (Pa)), .ref ae, .ref al, .ref au, .ref ao, .ref ar, .ref ak, .ref aw, .ref att, .ref ass])), (ae, .inl (cI, 10, .inl fae)), (al, .inl (cI, 100, .inl fal)), (ao, .inl (cI, 100, .inl fao)), (qa, .inr (0, [.int (nI (Qa)), .ref an])), (an, .inl (cI, 100, .inl La)), (qm, .inr (0, [.int (nI (Q7)), .ref mn])), (mn, .inl (cI, 100, .inl L7))] → va_S A s.heap H locs → lv_has ls 7 [(5, .int (nI (i2))), (4, .int (nI (i))), (3, .int u2), (2, .int x2), (0, .ref h0), (1, .int p0)] → W p l e ({ frames := 5, cells := 0, slots := 0, locals := 117 }) s m ([.ref h0, .int p0] : List Value).toArray below meth c H locs 0 0 (MQ below (XQi (fun (r : Int32) (u : Nat × (Nat → Int32)) => match u with | (Qm2, Lm2) => (True) ∧ (Qm2 ≤ 10)) D (fun (u : Nat × (Nat → Int32)) => match u with | (Qm2, Lm2) => [(h0, .inr (8, [.ref qh, .ref qk, .ref qd, .int b0, .ref qa, .ref qm, .ref qs, .ref qp, .ref ql, .ref qt, .ref qz, .ref qf])), (qh, .inr (1, [.int (nI (Pa)), .ref ae, .ref al, .ref au, .ref ao, .ref ar, .ref ak, .ref aw, .ref att, .ref ass])), (ae, .inl (cI, 10, .inl fae)), (al, .inl (cI, 100, .inl fal)), (ao, .inl (cI, 100, .inl fao)), (qa, .inr (0, [.int (nI (Qa)), .ref an])), (an, .inl (cI, 100, .inl La)), (qm, .inr (0, [.int (nI (Qm2)), .ref mn])), (mn, .inl (cI, 100, .inl Lm2))]) A) ([.ref h0, .int p0] : List Value).toArray s 0 0 A) (F0 m 25 ls []) by
        exact loop_25 _ (i + 1) x u Q8 L8 _ _ _ (Nat.lt_succ_self _) (by omega) (by omega) hP hD hS (lv_sub hl [0, 1, 2, 3, 4, 5] rfl)
      intro n_25
      induction n_25 with
      | zero =>
        intro i2 x2 u2 Q7 L7 H locs ls hm_25
        exact absurd hm_25 (Nat.not_lt_zero _)
      | succ n_25 ih_25 =>
        intro i2 x2 u2 Q7 L7 H locs ls hm_25 hi2 hQ7 hP hD hS hl
        refine lv_iload hx hb dX8_bestToMend_25 (lv_at hl 0 rfl) ?_
        refine lv_aload_n hx hb dX8_bestToMend_27 rfl (lv_at hl 4 rfl) ?_
        refine xg hF kf_X8_12 hK hP 0 rfl rfl dX8_bestToMend_28 ?_
        refine xg hF kf_X8_75 hK hP 1 rfl rfl dX8_bestToMend_31 ?_
        refine lv_icmp_ge (tgt := 116) hx hb dX8_bestToMend_34 (by decide) (fun c_2 => ?_) (fun c_2 => ?_)
        · skip
          have nc_2 : Pa ≤ i2 := xn_le (a := Pa) (b := i2) (by omega) (by omega) c_2
          refine lv_iinc (v := nI (i + 1)) (lv' := [(4, .int (nI (i + 1))), (5, .int (nI (i2))), (3, .int u2), (2, .int x2), (0, .ref h0), (1, .int p0)]) hx hb dX8_bestToMend_116 hl (k := 1) rfl (nI_1 (i)) (by decide) rfl (fun ls hl => ?_)
          refine lv_goto (tgt := 7) hx hb dX8_bestToMend_119 (by decide) ?_
          exact ih_7 (i + 1) x2 u2 Q7 L7 _ _ _ (by omega) (by omega) (by omega) (hP.sub [0, 1, 2, 3, 4, 5, 6, 7, 8] rfl) (hD.sub [0, 1, 2, 3, 4, 5, 6, 7, 8] (by decide +kernel) rfl) hS (lv_sub hl [0, 2, 3, 4, 5] rfl)
        · skip
          have nc_2 : i2 < Pa := xn_nle (a := Pa) (b := i2) (by omega) (by omega) c_2
          refine lv_aload_n hx hb dX8_bestToMend_37 rfl (lv_at hl 4 rfl) ?_
          refine xg hF kf_X8_12 hK hP 0 rfl rfl dX8_bestToMend_38 ?_
          refine lv_iload hx hb dX8_bestToMend_41 (lv_at hl 1 rfl) ?_
          refine lv_iload hx hb dX8_bestToMend_43 (lv_at hl 0 rfl) ?_
          refine xc_Vr hF (c_X1_areBothWays l D cI cJ cZ cS ta sa sv H.size qh ae al au ao ar ak aw att ass Pa i i2 fao (by omega) (by omega)) kv_X8_219 ⟨rfl, rfl, Nat.le_of_ble_eq_true rfl, Nat.le_of_ble_eq_true rfl⟩ ⟨Nat.le_of_ble_eq_true rfl, Nat.le_of_ble_eq_true rfl⟩ hK hN hZ hP hD hS hA [1, 4] rfl rfl 0 rfl rfl rfl rfl hl.1 rfl (Nat.le_of_ble_eq_true rfl) dX8_bestToMend_45 (fun r_3 hw_r_3 => ?_)
          rcases hw_r_3 with rfl | rfl
          · skip
            refine lv_if_eq (tgt := 110) hx hb dX8_bestToMend_48 (by decide) (fun c_4 => absurd c_4 (by decide)) (fun c_4 => ?_)
            refine lv_aload_n hx hb dX8_bestToMend_51 rfl (lv_at hl 4 rfl) ?_
            refine xg hF kf_X8_33 hK hP 0 rfl rfl dX8_bestToMend_52 ?_
            refine lv_aload_n hx hb dX8_bestToMend_55 rfl (lv_at hl 4 rfl) ?_
            refine xg hF kf_X8_29 hK hP 0 rfl rfl dX8_bestToMend_56 ?_
            refine lv_aload_n hx hb dX8_bestToMend_59 rfl (lv_at hl 4 rfl) ?_
            refine xg hF kf_X8_12 hK hP 0 rfl rfl dX8_bestToMend_60 ?_
            refine lv_iload hx hb dX8_bestToMend_63 (lv_at hl 1 rfl) ?_
            refine lv_iload hx hb dX8_bestToMend_65 (lv_at hl 0 rfl) ?_
            refine xc_Vi (wr := [(h0, .inr (8, [.ref qh, .ref qk, .ref qd, .int b0, .ref qa, .ref qm, .ref qs, .ref qp, .ref ql, .ref qt, .ref qz, .ref qf])), (ae, .inl (cI, 10, .inl fae))]) hF (c_X0_mendFrom l D cI cJ cZ cS ta sa sv H.size qm mn Q7 L7 qa an Qa La qh ae al au ao ar ak aw att ass Pa fal fao i i2 (by omega) (by omega) (by omega)) kv_X8_259 ⟨rfl, rfl, Nat.le_of_ble_eq_true rfl, Nat.le_of_ble_eq_true rfl⟩ ⟨Nat.le_of_ble_eq_true rfl, Nat.le_of_ble_eq_true rfl⟩ hK hN hZ hP hD hS hA [7, 8, 5, 6, 1, 3, 4] [0, 2] rfl rfl (by decide +kernel) rfl (by decide +kernel) 0 rfl rfl rfl rfl hl.1 rfl (Nat.le_of_ble_eq_true rfl) dX8_bestToMend_67 (fun r_5 u_r_5 H locs hw_r_5 hP hD hS => ?_)
            obtain ⟨Q9_6, L2_7⟩ := u_r_5
            try dsimp only at hw_r_5
            have hP : va_P D vwCl [(h0, .inr (8, [.ref qh, .ref qk, .ref qd, .int b0, .ref qa, .ref qm, .ref qs, .ref qp, .ref ql, .ref qt, .ref qz, .ref qf])), (ae, .inl (cI, 10, .inl fae)), (qm, .inr (0, [.int (nI (Q9_6)), .ref mn])), (mn, .inl (cI, 100, .inl L2_7)), (qa, .inr (0, [.int (nI (Qa)), .ref an])), (an, .inl (cI, 100, .inl La)), (qh, .inr (1, [.int (nI (Pa)), .ref ae, .ref al, .ref au, .ref ao, .ref ar, .ref ak, .ref aw, .ref att, .ref ass])), (al, .inl (cI, 100, .inl fal)), (ao, .inl (cI, 100, .inl fao))] H := hP
            have hD : va_D A [(h0, .inr (8, [.ref qh, .ref qk, .ref qd, .int b0, .ref qa, .ref qm, .ref qs, .ref qp, .ref ql, .ref qt, .ref qz, .ref qf])), (ae, .inl (cI, 10, .inl fae)), (qm, .inr (0, [.int (nI (Q9_6)), .ref mn])), (mn, .inl (cI, 100, .inl L2_7)), (qa, .inr (0, [.int (nI (Qa)), .ref an])), (an, .inl (cI, 100, .inl La)), (qh, .inr (1, [.int (nI (Pa)), .ref ae, .ref al, .ref au, .ref ao, .ref ar, .ref ak, .ref aw, .ref att, .ref ass])), (al, .inl (cI, 100, .inl fal)), (ao, .inl (cI, 100, .inl fao))] := hD
            rcases hw_r_5 with ⟨rfl, h_8⟩ | ⟨rfl, h_9⟩
            · skip
              refine lv_if_eq (tgt := 110) hx hb dX8_bestToMend_70 (by decide) (fun c_10 => absurd c_10 (by decide)) (fun c_10 => ?_)
              refine lv_iload_n hx hb dX8_bestToMend_73 rfl (lv_at hl 5 rfl) ?_
              refine lv_aload_n hx hb dX8_bestToMend_74 rfl (lv_at hl 4 rfl) ?_
              refine xg hF kf_X8_33 hK hP 0 rfl rfl dX8_bestToMend_75 ?_
              refine lv_aload_n hx hb dX8_bestToMend_78 rfl (lv_at hl 4 rfl) ?_
              refine xg hF kf_X8_12 hK hP 0 rfl rfl dX8_bestToMend_79 ?_
              refine xc_Vr hF (c_X0_leastTrip l D cI cJ cZ cS ta sa sv H.size qm mn Q9_6 L2_7 qh ae al au ao ar ak aw att ass Pa fae (by omega)) kv_X8_263 ⟨rfl, rfl, Nat.le_of_ble_eq_true rfl, Nat.le_of_ble_eq_true rfl⟩ ⟨Nat.le_of_ble_eq_true rfl, Nat.le_of_ble_eq_true rfl⟩ hK hN hZ hP hD hS hA [2, 3, 6, 1] rfl rfl 0 rfl rfl rfl rfl hl.1 rfl (Nat.le_of_ble_eq_true rfl) dX8_bestToMend_82 (fun r_11 hw_r_11 => ?_)
              refine lv_isub hx hb dX8_bestToMend_85 ?_
              refine lv_topi (fun x_12 ex_12 => ?_)
              refine lv_istore (lv' := [(6, .int x_12), (5, .int (nI (i2))), (4, .int (nI (i))), (3, .int u2), (2, .int x2), (0, .ref h0), (1, .int p0)]) hx hb dX8_bestToMend_86 hl (by decide) rfl (fun ls hl => ?_)
              refine lv_iload_n hx hb dX8_bestToMend_88 rfl (lv_at hl 4 rfl) ?_
              refine lv_if_lt (tgt := 98) hx hb dX8_bestToMend_89 (by decide) (fun c_13 => ?_) (fun c_13 => ?_)
              · skip
                refine lv_bipush (v := 10) hx hb dX8_bestToMend_98 (by decide) ?_
                refine lv_iload hx hb dX8_bestToMend_100 (lv_at hl 2 rfl) ?_
                refine lv_imul hx hb dX8_bestToMend_102 ?_
                refine xl_i (y := nI (10 * i)) (pk_mul 10 i) ?_
                refine lv_iload hx hb dX8_bestToMend_103 (lv_at hl 1 rfl) ?_
                refine lv_iadd hx hb dX8_bestToMend_105 ?_
                refine xl_i (y := nI (10 * i + i2)) (nI_add (10 * i) i2) ?_
                refine lv_istore_n (lv' := [(2, .int (nI (10 * i + i2))), (6, .int x_12), (5, .int (nI (i2))), (4, .int (nI (i))), (3, .int u2), (0, .ref h0), (1, .int p0)]) hx hb dX8_bestToMend_106 rfl hl (by decide) rfl (fun ls hl => ?_)
                refine lv_iload hx hb dX8_bestToMend_107 (lv_at hl 1 rfl) ?_
                refine lv_istore_n (lv' := [(3, .int x_12), (2, .int (nI (10 * i + i2))), (6, .int x_12), (5, .int (nI (i2))), (4, .int (nI (i))), (0, .ref h0), (1, .int p0)]) hx hb dX8_bestToMend_109 rfl hl (by decide) rfl (fun ls hl => ?_)
                refine lv_iinc (v := nI (i2 + 1)) (lv' := [(5, .int (nI (i2 + 1))), (3, .int x_12), (2, .int (nI (10 * i + i2))), (6, .int x_12), (4, .int (nI (i))), (0, .ref h0), (1, .int p0)]) hx hb dX8_bestToMend_110 hl (k := 3) rfl (nI_1 (i2)) (by decide) rfl (fun ls hl => ?_)
                refine lv_goto (tgt := 25) hx hb dX8_bestToMend_113 (by decide) ?_
                exact ih_25 (i2 + 1) (nI (10 * i + i2)) x_12 Q9_6 L2_7 _ _ _ (by omega) (by omega) (by omega) (hP.sub [0, 6, 1, 7, 8, 4, 5, 2, 3] rfl) (hD.sub [0, 6, 1, 7, 8, 4, 5, 2, 3] (by decide +kernel) rfl) hS (lv_sub hl [0, 4, 1, 2, 5, 6] rfl)
              · skip
                refine lv_iload hx hb dX8_bestToMend_92 (lv_at hl 0 rfl) ?_
                refine lv_iload_n hx hb dX8_bestToMend_94 rfl (lv_at hl 3 rfl) ?_
                refine lv_icmp_le (tgt := 110) hx hb dX8_bestToMend_95 (by decide) (fun c_14 => ?_) (fun c_14 => ?_)
                · skip
                  refine lv_iinc (v := nI (i2 + 1)) (lv' := [(5, .int (nI (i2 + 1))), (6, .int x_12), (4, .int (nI (i))), (3, .int u2), (2, .int x2), (0, .ref h0), (1, .int p0)]) hx hb dX8_bestToMend_110 hl (k := 1) rfl (nI_1 (i2)) (by decide) rfl (fun ls hl => ?_)
                  refine lv_goto (tgt := 25) hx hb dX8_bestToMend_113 (by decide) ?_
                  exact ih_25 (i2 + 1) x2 u2 Q9_6 L2_7 _ _ _ (by omega) (by omega) (by omega) (hP.sub [0, 6, 1, 7, 8, 4, 5, 2, 3] rfl) (hD.sub [0, 6, 1, 7, 8, 4, 5, 2, 3] (by decide +kernel) rfl) hS (lv_sub hl [0, 2, 3, 4, 5, 6] rfl)
                · skip
                  refine lv_bipush (v := 10) hx hb dX8_bestToMend_98 (by decide) ?_
                  refine lv_iload hx hb dX8_bestToMend_100 (lv_at hl 2 rfl) ?_
                  refine lv_imul hx hb dX8_bestToMend_102 ?_
                  refine xl_i (y := nI (10 * i)) (pk_mul 10 i) ?_
                  refine lv_iload hx hb dX8_bestToMend_103 (lv_at hl 1 rfl) ?_
                  refine lv_iadd hx hb dX8_bestToMend_105 ?_
                  refine xl_i (y := nI (10 * i + i2)) (nI_add (10 * i) i2) ?_
                  refine lv_istore_n (lv' := [(2, .int (nI (10 * i + i2))), (6, .int x_12), (5, .int (nI (i2))), (4, .int (nI (i))), (3, .int u2), (0, .ref h0), (1, .int p0)]) hx hb dX8_bestToMend_106 rfl hl (by decide) rfl (fun ls hl => ?_)
                  refine lv_iload hx hb dX8_bestToMend_107 (lv_at hl 1 rfl) ?_
                  refine lv_istore_n (lv' := [(3, .int x_12), (2, .int (nI (10 * i + i2))), (6, .int x_12), (5, .int (nI (i2))), (4, .int (nI (i))), (0, .ref h0), (1, .int p0)]) hx hb dX8_bestToMend_109 rfl hl (by decide) rfl (fun ls hl => ?_)
                  refine lv_iinc (v := nI (i2 + 1)) (lv' := [(5, .int (nI (i2 + 1))), (3, .int x_12), (2, .int (nI (10 * i + i2))), (6, .int x_12), (4, .int (nI (i))), (0, .ref h0), (1, .int p0)]) hx hb dX8_bestToMend_110 hl (k := 3) rfl (nI_1 (i2)) (by decide) rfl (fun ls hl => ?_)
                  refine lv_goto (tgt := 25) hx hb dX8_bestToMend_113 (by decide) ?_
                  exact ih_25 (i2 + 1) (nI (10 * i + i2)) x_12 Q9_6 L2_7 _ _ _ (by omega) (by omega) (by omega) (hP.sub [0, 6, 1, 7, 8, 4, 5, 2, 3] rfl) (hD.sub [0, 6, 1, 7, 8, 4, 5, 2, 3] (by decide +kernel) rfl) hS (lv_sub hl [0, 4, 1, 2, 5, 6] rfl)
            · skip
              refine lv_if_eq (tgt := 110) hx hb dX8_bestToMend_70 (by decide) (fun c_15 => ?_) (fun c_15 => absurd (by decide) c_15)
              refine lv_iinc (v := nI (i2 + 1)) (lv' := [(5, .int (nI (i2 + 1))), (4, .int (nI (i))), (3, .int u2), (2, .int x2), (0, .ref h0), (1, .int p0)]) hx hb dX8_bestToMend_110 hl (k := 0) rfl (nI_1 (i2)) (by decide) rfl (fun ls hl => ?_)
              refine lv_goto (tgt := 25) hx hb dX8_bestToMend_113 (by decide) ?_
              exact ih_25 (i2 + 1) x2 u2 Q9_6 L2_7 _ _ _ (by omega) (by omega) (by omega) (hP.sub [0, 6, 1, 7, 8, 4, 5, 2, 3] rfl) (hD.sub [0, 6, 1, 7, 8, 4, 5, 2, 3] (by decide +kernel) rfl) hS (lv_sub hl [0, 1, 2, 3, 4, 5] rfl)
          · skip
            refine lv_if_eq (tgt := 110) hx hb dX8_bestToMend_48 (by decide) (fun c_16 => ?_) (fun c_16 => absurd (by decide) c_16)
            refine lv_iinc (v := nI (i2 + 1)) (lv' := [(5, .int (nI (i2 + 1))), (4, .int (nI (i))), (3, .int u2), (2, .int x2), (0, .ref h0), (1, .int p0)]) hx hb dX8_bestToMend_110 hl (k := 0) rfl (nI_1 (i2)) (by decide) rfl (fun ls hl => ?_)
            refine lv_goto (tgt := 25) hx hb dX8_bestToMend_113 (by decide) ?_
            exact ih_25 (i2 + 1) x2 u2 Q7 L7 _ _ _ (by omega) (by omega) (by omega) (hP.sub [0, 1, 2, 3, 4, 5, 6, 7, 8] rfl) (hD.sub [0, 1, 2, 3, 4, 5, 6, 7, 8] (by decide +kernel) rfl) hS (lv_sub hl [0, 1, 2, 3, 4, 5] rfl)
set_option maxHeartbeats 4000000 in
set_option maxRecDepth 100000 in
theorem c_X8_mend (l : Launch) (D : va_G) (cI cJ cZ cS : ClassId) (ta : Nat) (sa sv : Nat → Nat) (sz : Nat) (h0 : Nat) (qh : Nat) (qk : Nat) (qd : Nat) (b0 : Int32) (qa : Nat) (qm : Nat) (qs : Nat) (qp : Nat) (ql : Nat) (qt : Nat) (qz : Nat) (qf : Nat) (Pa : Nat) (ae : Nat) (al : Nat) (au : Nat) (ao : Nat) (ar : Nat) (ak : Nat) (aw : Nat) (att : Nat) (ass : Nat) (fae : Nat → Int32) (fal : Nat → Int32) (fao : Nat → Int32) (Qa : Nat) (an : Nat) (La : Nat → Int32) (Qm : Nat) (mn : Nat) (Lm : Nat → Int32) (ff : Nat → Int32) (hP0 : Pa ≤ 10) (hQa : Qa ≤ 10) (hQm : Qm ≤ 10) : Met l yX8_mend (Cond.code yX8_mend cX8_mend 3 (some .int) :: wsU) ({ frames := 6, cells := 0, slots := 0, locals := 143 }) (va_Pc [.ref h0] (XW D (xT cI cJ cZ cS) ta sa sv [(h0, .inr (8, [.ref qh, .ref qk, .ref qd, .int b0, .ref qa, .ref qm, .ref qs, .ref qp, .ref ql, .ref qt, .ref qz, .ref qf])), (qh, .inr (1, [.int (nI (Pa)), .ref ae, .ref al, .ref au, .ref ao, .ref ar, .ref ak, .ref aw, .ref att, .ref ass])), (ae, .inl (cI, 10, .inl fae)), (al, .inl (cI, 100, .inl fal)), (ao, .inl (cI, 100, .inl fao)), (qa, .inr (0, [.int (nI (Qa)), .ref an])), (an, .inl (cI, 100, .inl La)), (qm, .inr (0, [.int (nI (Qm)), .ref mn])), (mn, .inl (cI, 100, .inl Lm)), (qf, .inl (cI, 7, .inl ff))] sz)) (XQi (fun (r : Int32) (u : Nat × (Nat → Int32) × Nat × (Nat → Int32) × (Nat → Int32)) => match u with | (Q2, L2, Qm2, Lm2, f2) => (True) ∧ (Q2 ≤ 10) ∧ (Qm2 ≤ 10)) D (fun (u : Nat × (Nat → Int32) × Nat × (Nat → Int32) × (Nat → Int32)) => match u with | (Q2, L2, Qm2, Lm2, f2) => [(h0, .inr (8, [.ref qh, .ref qk, .ref qd, .int b0, .ref qa, .ref qm, .ref qs, .ref qp, .ref ql, .ref qt, .ref qz, .ref qf])), (qh, .inr (1, [.int (nI (Pa)), .ref ae, .ref al, .ref au, .ref ao, .ref ar, .ref ak, .ref aw, .ref att, .ref ass])), (ae, .inl (cI, 10, .inl fae)), (al, .inl (cI, 100, .inl fal)), (ao, .inl (cI, 100, .inl fao)), (qa, .inr (0, [.int (nI (Q2)), .ref an])), (an, .inl (cI, 100, .inl L2)), (qm, .inr (0, [.int (nI (Qm2)), .ref mn])), (mn, .inl (cI, 100, .inl Lm2)), (qf, .inl (cI, 7, .inl f2))]) (va_A [(h0, .inr (8, [.ref qh, .ref qk, .ref qd, .int b0, .ref qa, .ref qm, .ref qs, .ref qp, .ref ql, .ref qt, .ref qz, .ref qf])), (qh, .inr (1, [.int (nI (Pa)), .ref ae, .ref al, .ref au, .ref ao, .ref ar, .ref ak, .ref aw, .ref att, .ref ass])), (ae, .inl (cI, 10, .inl fae)), (al, .inl (cI, 100, .inl fal)), (ao, .inl (cI, 100, .inl fao)), (qa, .inr (0, [.int (nI (Qa)), .ref an])), (an, .inl (cI, 100, .inl La)), (qm, .inr (0, [.int (nI (Qm)), .ref mn])), (mn, .inl (cI, 100, .inl Lm)), (qf, .inl (cI, 7, .inl ff))] sz)) 0 0 (va_A [(h0, .inr (8, [.ref qh, .ref qk, .ref qd, .int b0, .ref qa, .ref qm, .ref qs, .ref qp, .ref ql, .ref qt, .ref qz, .ref qf])), (qh, .inr (1, [.int (nI (Pa)), .ref ae, .ref al, .ref au, .ref ao, .ref ar, .ref ak, .ref aw, .ref att, .ref ass])), (ae, .inl (cI, 10, .inl fae)), (al, .inl (cI, 100, .inl fal)), (ao, .inl (cI, 100, .inl fao)), (qa, .inr (0, [.int (nI (Qa)), .ref an])), (an, .inl (cI, 100, .inl La)), (qm, .inr (0, [.int (nI (Qm)), .ref mn])), (mn, .inl (cI, 100, .inl Lm)), (qf, .inl (cI, 7, .inl ff))] sz) := by
  refine xh (QA := fun A => XQi (fun (r : Int32) (u : Nat × (Nat → Int32) × Nat × (Nat → Int32) × (Nat → Int32)) => match u with | (Q2, L2, Qm2, Lm2, f2) => (True) ∧ (Q2 ≤ 10) ∧ (Qm2 ≤ 10)) D (fun (u : Nat × (Nat → Int32) × Nat × (Nat → Int32) × (Nat → Int32)) => match u with | (Q2, L2, Qm2, Lm2, f2) => [(h0, .inr (8, [.ref qh, .ref qk, .ref qd, .int b0, .ref qa, .ref qm, .ref qs, .ref qp, .ref ql, .ref qt, .ref qz, .ref qf])), (qh, .inr (1, [.int (nI (Pa)), .ref ae, .ref al, .ref au, .ref ao, .ref ar, .ref ak, .ref aw, .ref att, .ref ass])), (ae, .inl (cI, 10, .inl fae)), (al, .inl (cI, 100, .inl fal)), (ao, .inl (cI, 100, .inl fao)), (qa, .inr (0, [.int (nI (Q2)), .ref an])), (an, .inl (cI, 100, .inl L2)), (qm, .inr (0, [.int (nI (Qm2)), .ref mn])), (mn, .inl (cI, 100, .inl Lm2)), (qf, .inl (cI, 7, .inl f2))]) A) (fr := fun A => A) (by decide) (Nat.le_of_ble_eq_true rfl) ?_
  intro p e s m below meth c ls A hF hr hlk hin hsz hP hK hD hN hZ hA hS hl
  have hF : CallFix p m c cX8_mend 3 s _ _ RX8 := hF
  have hx := hF.1
  have hb := hF.2.1
  have hml := hF.2.2.1
  have hown := hF.2.2.2.1
  have hu : ∀ w ∈ wsU, w.before _ s = true := fun w h => hF.2.2.2.2 w (List.mem_cons_of_mem _ h)
  have hl : lv_has ls 3 [(0, .ref h0)] := hl
  refine lv_aload_n hx hb dX8_mend_0 rfl (lv_at hl 0 rfl) ?_
  refine xc_Vi (wr := [(ae, .inl (cI, 10, .inl fae)), (qm, .inr (0, [.int (nI (Qm)), .ref mn])), (mn, .inl (cI, 100, .inl Lm)), (qf, .inl (cI, 7, .inl ff))]) hF (c_X8_isLooped l D cI cJ cZ cS ta sa sv s.heap.size h0 qh qk qd b0 qa qm qs qp ql qt qz qf Pa ae al au ao ar ak aw att ass fal fao Qa an La (by omega)) kv_X8_128 ⟨rfl, rfl, Nat.le_of_ble_eq_true rfl, Nat.le_of_ble_eq_true rfl⟩ ⟨Nat.le_of_ble_eq_true rfl, Nat.le_of_ble_eq_true rfl⟩ hK hN hZ hP hD hS hA [0, 1, 3, 4, 5, 6] [2, 7, 8, 9] rfl rfl (by decide +kernel) (by decide +kernel) (by decide +kernel) 0 rfl rfl rfl rfl hl.1 rfl (Nat.le_of_ble_eq_true rfl) dX8_mend_1 (fun r_1 u_r_1 H locs hw_r_1 hP hD hS => ?_)
  obtain ⟨L2_2, rfl⟩ : ∃ z, z = u_r_1 := ⟨_, rfl⟩
  try dsimp only at hw_r_1
  have hP : va_P D vwCl [(ae, .inl (cI, 10, .inl fae)), (qm, .inr (0, [.int (nI (Qm)), .ref mn])), (mn, .inl (cI, 100, .inl Lm)), (qf, .inl (cI, 7, .inl ff)), (h0, .inr (8, [.ref qh, .ref qk, .ref qd, .int b0, .ref qa, .ref qm, .ref qs, .ref qp, .ref ql, .ref qt, .ref qz, .ref qf])), (qh, .inr (1, [.int (nI (Pa)), .ref ae, .ref al, .ref au, .ref ao, .ref ar, .ref ak, .ref aw, .ref att, .ref ass])), (al, .inl (cI, 100, .inl fal)), (ao, .inl (cI, 100, .inl fao)), (qa, .inr (0, [.int (nI (Pa)), .ref an])), (an, .inl (cI, 100, .inl L2_2))] H := hP
  have hD : va_D A [(ae, .inl (cI, 10, .inl fae)), (qm, .inr (0, [.int (nI (Qm)), .ref mn])), (mn, .inl (cI, 100, .inl Lm)), (qf, .inl (cI, 7, .inl ff)), (h0, .inr (8, [.ref qh, .ref qk, .ref qd, .int b0, .ref qa, .ref qm, .ref qs, .ref qp, .ref ql, .ref qt, .ref qz, .ref qf])), (qh, .inr (1, [.int (nI (Pa)), .ref ae, .ref al, .ref au, .ref ao, .ref ar, .ref ak, .ref aw, .ref att, .ref ass])), (al, .inl (cI, 100, .inl fal)), (ao, .inl (cI, 100, .inl fao)), (qa, .inr (0, [.int (nI (Pa)), .ref an])), (an, .inl (cI, 100, .inl L2_2))] := hD
  rcases hw_r_1 with rfl | rfl
  · skip
    refine lv_if_eq (tgt := 14) hx hb dX8_mend_4 (by decide) (fun c_3 => absurd c_3 (by decide)) (fun c_3 => ?_)
    refine lv_aload_n hx hb dX8_mend_7 rfl (lv_at hl 0 rfl) ?_
    refine lv_ldc (v := (-1000000005)) hx hb hown (hu _ uw452) dX8_mend_8 ?_
    refine xc_Vi (wr := [(ae, .inl (cI, 10, .inl fae)), (qm, .inr (0, [.int (nI (Qm)), .ref mn])), (mn, .inl (cI, 100, .inl Lm)), (qh, .inr (1, [.int (nI (Pa)), .ref ae, .ref al, .ref au, .ref ao, .ref ar, .ref ak, .ref aw, .ref att, .ref ass])), (al, .inl (cI, 100, .inl fal)), (ao, .inl (cI, 100, .inl fao)), (qa, .inr (0, [.int (nI (Pa)), .ref an])), (an, .inl (cI, 100, .inl L2_2))]) hF (c_X8_finding_T l D cI cJ cZ cS ta sa sv H.size h0 qh qk qd b0 qa qm qs qp ql qt qz qf ff ) kv_X8_80 ⟨rfl, rfl, Nat.le_of_ble_eq_true rfl, Nat.le_of_ble_eq_true rfl⟩ ⟨Nat.le_of_ble_eq_true rfl, Nat.le_of_ble_eq_true rfl⟩ hK hN hZ hP hD hS hA [4, 3] [0, 1, 2, 5, 6, 7, 8, 9] rfl rfl rfl (by decide +kernel) (by decide +kernel) 0 rfl rfl rfl rfl hl.1 rfl (Nat.le_of_ble_eq_true rfl) dX8_mend_10 (fun r_4 u_r_4 H locs hw_r_4 hP hD hS => ?_)
    obtain ⟨f2_5, rfl⟩ : ∃ z, z = u_r_4 := ⟨_, rfl⟩
    try dsimp only at hw_r_4
    have hP : va_P D vwCl [(ae, .inl (cI, 10, .inl fae)), (qm, .inr (0, [.int (nI (Qm)), .ref mn])), (mn, .inl (cI, 100, .inl Lm)), (qh, .inr (1, [.int (nI (Pa)), .ref ae, .ref al, .ref au, .ref ao, .ref ar, .ref ak, .ref aw, .ref att, .ref ass])), (al, .inl (cI, 100, .inl fal)), (ao, .inl (cI, 100, .inl fao)), (qa, .inr (0, [.int (nI (Pa)), .ref an])), (an, .inl (cI, 100, .inl L2_2)), (h0, .inr (8, [.ref qh, .ref qk, .ref qd, .int b0, .ref qa, .ref qm, .ref qs, .ref qp, .ref ql, .ref qt, .ref qz, .ref qf])), (qf, .inl (cI, 7, .inl f2_5))] H := hP
    have hD : va_D A [(ae, .inl (cI, 10, .inl fae)), (qm, .inr (0, [.int (nI (Qm)), .ref mn])), (mn, .inl (cI, 100, .inl Lm)), (qh, .inr (1, [.int (nI (Pa)), .ref ae, .ref al, .ref au, .ref ao, .ref ar, .ref ak, .ref aw, .ref att, .ref ass])), (al, .inl (cI, 100, .inl fal)), (ao, .inl (cI, 100, .inl fao)), (qa, .inr (0, [.int (nI (Pa)), .ref an])), (an, .inl (cI, 100, .inl L2_2)), (h0, .inr (8, [.ref qh, .ref qk, .ref qd, .int b0, .ref qa, .ref qm, .ref qs, .ref qp, .ref ql, .ref qt, .ref qz, .ref qf])), (qf, .inl (cI, 7, .inl f2_5))] := hD
    subst hw_r_4
    exact W.iret (v := (-1000000005)) hx hb hr (fun t ht hW => ⟨⟨(-1000000005), (Pa, L2_2, Qm, Lm, f2_5), rfl, ⟨trivial, (by first | assumption | omega), (by first | assumption | omega)⟩, by rw [ht]; exact hP.sub [8, 3, 0, 4, 5, 6, 7, 1, 2, 9] rfl, hD.sub [8, 3, 0, 4, 5, 6, 7, 1, 2, 9] (by decide +kernel) rfl⟩, hS.F ht⟩) hS.2.2 dX8_mend_13 hlk
  · skip
    refine lv_if_eq (tgt := 14) hx hb dX8_mend_4 (by decide) (fun c_6 => ?_) (fun c_6 => absurd (by decide) c_6)
    refine lv_aload_n hx hb dX8_mend_14 rfl (lv_at hl 0 rfl) ?_
    refine xg hF kf_X8_29 hK hP 4 rfl rfl dX8_mend_15 ?_
    refine lv_aload_n hx hb dX8_mend_18 rfl (lv_at hl 0 rfl) ?_
    refine xg hF kf_X8_12 hK hP 4 rfl rfl dX8_mend_19 ?_
    refine xc_Vr hF (c_X0_leastTrip l D cI cJ cZ cS ta sa sv H.size qa an Pa L2_2 qh ae al au ao ar ak aw att ass Pa fae (by omega)) kv_X8_263 ⟨rfl, rfl, Nat.le_of_ble_eq_true rfl, Nat.le_of_ble_eq_true rfl⟩ ⟨Nat.le_of_ble_eq_true rfl, Nat.le_of_ble_eq_true rfl⟩ hK hN hZ hP hD hS hA [8, 9, 5, 0] rfl rfl 0 rfl rfl rfl rfl hl.1 rfl (Nat.le_of_ble_eq_true rfl) dX8_mend_22 (fun r_7 hw_r_7 => ?_)
    refine lv_istore_n (lv' := [(1, .int r_7), (0, .ref h0)]) hx hb dX8_mend_25 rfl hl (by decide) rfl (fun ls hl => ?_)
    refine lv_iload_n hx hb dX8_mend_26 rfl (lv_at hl 0 rfl) ?_
    refine lv_ldc (v := 1000000000) hx hb hown (hu _ uw4) dX8_mend_27 ?_
    refine lv_icmp_ne (tgt := 36) hx hb dX8_mend_29 (by decide) (fun c_8 => ?_) (fun c_8 => ?_)
    · skip
      refine lv_aload_n hx hb dX8_mend_36 rfl (lv_at hl 1 rfl) ?_
      refine lv_iload_n hx hb dX8_mend_37 rfl (lv_at hl 0 rfl) ?_
      refine xc_Vi (wr := [(qf, .inl (cI, 7, .inl ff))]) hF (c_X8_bestToMend l D cI cJ cZ cS ta sa sv H.size h0 qh qk qd b0 qa qm qs qp ql qt qz qf Pa ae al au ao ar ak aw att ass fae fal fao Pa an L2_2 Qm mn Lm r_7 (by omega) (by omega) (by omega)) kv_X8_266 ⟨rfl, rfl, Nat.le_of_ble_eq_true rfl, Nat.le_of_ble_eq_true rfl⟩ ⟨Nat.le_of_ble_eq_true rfl, Nat.le_of_ble_eq_true rfl⟩ hK hN hZ hP hD hS hA [4, 5, 0, 6, 7, 8, 9, 1, 2] [3] rfl rfl (by decide +kernel) rfl (by decide +kernel) 0 rfl rfl rfl rfl hl.1 rfl (Nat.le_of_ble_eq_true rfl) dX8_mend_38 (fun r_9 u_r_9 H locs hw_r_9 hP hD hS => ?_)
      obtain ⟨Qm2_10, Lm2_11⟩ := u_r_9
      try dsimp only at hw_r_9
      obtain ⟨hw_r_9, i_12⟩ := hw_r_9
      have hP : va_P D vwCl [(qf, .inl (cI, 7, .inl ff)), (h0, .inr (8, [.ref qh, .ref qk, .ref qd, .int b0, .ref qa, .ref qm, .ref qs, .ref qp, .ref ql, .ref qt, .ref qz, .ref qf])), (qh, .inr (1, [.int (nI (Pa)), .ref ae, .ref al, .ref au, .ref ao, .ref ar, .ref ak, .ref aw, .ref att, .ref ass])), (ae, .inl (cI, 10, .inl fae)), (al, .inl (cI, 100, .inl fal)), (ao, .inl (cI, 100, .inl fao)), (qa, .inr (0, [.int (nI (Pa)), .ref an])), (an, .inl (cI, 100, .inl L2_2)), (qm, .inr (0, [.int (nI (Qm2_10)), .ref mn])), (mn, .inl (cI, 100, .inl Lm2_11))] H := hP
      have hD : va_D A [(qf, .inl (cI, 7, .inl ff)), (h0, .inr (8, [.ref qh, .ref qk, .ref qd, .int b0, .ref qa, .ref qm, .ref qs, .ref qp, .ref ql, .ref qt, .ref qz, .ref qf])), (qh, .inr (1, [.int (nI (Pa)), .ref ae, .ref al, .ref au, .ref ao, .ref ar, .ref ak, .ref aw, .ref att, .ref ass])), (ae, .inl (cI, 10, .inl fae)), (al, .inl (cI, 100, .inl fal)), (ao, .inl (cI, 100, .inl fao)), (qa, .inr (0, [.int (nI (Pa)), .ref an])), (an, .inl (cI, 100, .inl L2_2)), (qm, .inr (0, [.int (nI (Qm2_10)), .ref mn])), (mn, .inl (cI, 100, .inl Lm2_11))] := hD
      refine lv_istore_n (lv' := [(2, .int r_9), (1, .int r_7), (0, .ref h0)]) hx hb dX8_mend_41 rfl hl (by decide) rfl (fun ls hl => ?_)
      refine lv_iload_n hx hb dX8_mend_42 rfl (lv_at hl 0 rfl) ?_
      refine lv_if_ge (tgt := 55) hx hb dX8_mend_43 (by decide) (fun c_13 => ?_) (fun c_13 => ?_)
      · skip
        refine lv_iload_n hx hb dX8_mend_55 rfl (lv_at hl 0 rfl) ?_
        exact W.iret (v := r_9) hx hb hr (fun t ht hW => ⟨⟨r_9, (Pa, L2_2, Qm2_10, Lm2_11, ff), rfl, ⟨trivial, (by first | assumption | omega), (by first | assumption | omega)⟩, by rw [ht]; exact hP.sub [1, 2, 3, 4, 5, 6, 7, 8, 9, 0] rfl, hD.sub [1, 2, 3, 4, 5, 6, 7, 8, 9, 0] (by decide +kernel) rfl⟩, hS.F ht⟩) hS.2.2 dX8_mend_56 hlk
      · skip
        refine lv_aload_n hx hb dX8_mend_46 rfl (lv_at hl 2 rfl) ?_
        refine lv_ldc (v := (-1000000004)) hx hb hown (hu _ uw410) dX8_mend_47 ?_
        refine xc_Vi (wr := [(qh, .inr (1, [.int (nI (Pa)), .ref ae, .ref al, .ref au, .ref ao, .ref ar, .ref ak, .ref aw, .ref att, .ref ass])), (ae, .inl (cI, 10, .inl fae)), (al, .inl (cI, 100, .inl fal)), (ao, .inl (cI, 100, .inl fao)), (qa, .inr (0, [.int (nI (Pa)), .ref an])), (an, .inl (cI, 100, .inl L2_2)), (qm, .inr (0, [.int (nI (Qm2_10)), .ref mn])), (mn, .inl (cI, 100, .inl Lm2_11))]) hF (c_X8_finding_N l D cI cJ cZ cS ta sa sv H.size h0 qh qk qd b0 qa qm qs qp ql qt qz qf ff ) kv_X8_80 ⟨rfl, rfl, Nat.le_of_ble_eq_true rfl, Nat.le_of_ble_eq_true rfl⟩ ⟨Nat.le_of_ble_eq_true rfl, Nat.le_of_ble_eq_true rfl⟩ hK hN hZ hP hD hS hA [1, 0] [2, 3, 4, 5, 6, 7, 8, 9] rfl rfl rfl (by decide +kernel) (by decide +kernel) 0 rfl rfl rfl rfl hl.1 rfl (Nat.le_of_ble_eq_true rfl) dX8_mend_49 (fun r_14 u_r_14 H locs hw_r_14 hP hD hS => ?_)
        obtain ⟨f2_15, rfl⟩ : ∃ z, z = u_r_14 := ⟨_, rfl⟩
        try dsimp only at hw_r_14
        have hP : va_P D vwCl [(qh, .inr (1, [.int (nI (Pa)), .ref ae, .ref al, .ref au, .ref ao, .ref ar, .ref ak, .ref aw, .ref att, .ref ass])), (ae, .inl (cI, 10, .inl fae)), (al, .inl (cI, 100, .inl fal)), (ao, .inl (cI, 100, .inl fao)), (qa, .inr (0, [.int (nI (Pa)), .ref an])), (an, .inl (cI, 100, .inl L2_2)), (qm, .inr (0, [.int (nI (Qm2_10)), .ref mn])), (mn, .inl (cI, 100, .inl Lm2_11)), (h0, .inr (8, [.ref qh, .ref qk, .ref qd, .int b0, .ref qa, .ref qm, .ref qs, .ref qp, .ref ql, .ref qt, .ref qz, .ref qf])), (qf, .inl (cI, 7, .inl f2_15))] H := hP
        have hD : va_D A [(qh, .inr (1, [.int (nI (Pa)), .ref ae, .ref al, .ref au, .ref ao, .ref ar, .ref ak, .ref aw, .ref att, .ref ass])), (ae, .inl (cI, 10, .inl fae)), (al, .inl (cI, 100, .inl fal)), (ao, .inl (cI, 100, .inl fao)), (qa, .inr (0, [.int (nI (Pa)), .ref an])), (an, .inl (cI, 100, .inl L2_2)), (qm, .inr (0, [.int (nI (Qm2_10)), .ref mn])), (mn, .inl (cI, 100, .inl Lm2_11)), (h0, .inr (8, [.ref qh, .ref qk, .ref qd, .int b0, .ref qa, .ref qm, .ref qs, .ref qp, .ref ql, .ref qt, .ref qz, .ref qf])), (qf, .inl (cI, 7, .inl f2_15))] := hD
        subst hw_r_14
        refine lv_goto (tgt := 56) hx hb dX8_mend_52 (by decide) ?_
        exact W.iret (v := (-1000000004)) hx hb hr (fun t ht hW => ⟨⟨(-1000000004), (Pa, L2_2, Qm2_10, Lm2_11, f2_15), rfl, ⟨trivial, (by first | assumption | omega), (by first | assumption | omega)⟩, by rw [ht]; exact hP.sub [8, 0, 1, 2, 3, 4, 5, 6, 7, 9] rfl, hD.sub [8, 0, 1, 2, 3, 4, 5, 6, 7, 9] (by decide +kernel) rfl⟩, hS.F ht⟩) hS.2.2 dX8_mend_56 hlk
    · skip
      refine lv_iconst (v := (-1)) hx hb dX8_mend_32 (by decide) ?_
      refine lv_goto (tgt := 41) hx hb dX8_mend_33 (by decide) ?_
      refine lv_istore_n (lv' := [(2, .int (-1)), (1, .int r_7), (0, .ref h0)]) hx hb dX8_mend_41 rfl hl (by decide) rfl (fun ls hl => ?_)
      refine lv_iload_n hx hb dX8_mend_42 rfl (lv_at hl 0 rfl) ?_
      refine lv_if_ge (tgt := 55) hx hb dX8_mend_43 (by decide) (fun c_16 => absurd c_16 (by decide)) (fun c_16 => ?_)
      refine lv_aload_n hx hb dX8_mend_46 rfl (lv_at hl 2 rfl) ?_
      refine lv_ldc (v := (-1000000004)) hx hb hown (hu _ uw410) dX8_mend_47 ?_
      refine xc_Vi (wr := [(ae, .inl (cI, 10, .inl fae)), (qm, .inr (0, [.int (nI (Qm)), .ref mn])), (mn, .inl (cI, 100, .inl Lm)), (qh, .inr (1, [.int (nI (Pa)), .ref ae, .ref al, .ref au, .ref ao, .ref ar, .ref ak, .ref aw, .ref att, .ref ass])), (al, .inl (cI, 100, .inl fal)), (ao, .inl (cI, 100, .inl fao)), (qa, .inr (0, [.int (nI (Pa)), .ref an])), (an, .inl (cI, 100, .inl L2_2))]) hF (c_X8_finding_N l D cI cJ cZ cS ta sa sv H.size h0 qh qk qd b0 qa qm qs qp ql qt qz qf ff ) kv_X8_80 ⟨rfl, rfl, Nat.le_of_ble_eq_true rfl, Nat.le_of_ble_eq_true rfl⟩ ⟨Nat.le_of_ble_eq_true rfl, Nat.le_of_ble_eq_true rfl⟩ hK hN hZ hP hD hS hA [4, 3] [0, 1, 2, 5, 6, 7, 8, 9] rfl rfl rfl (by decide +kernel) (by decide +kernel) 0 rfl rfl rfl rfl hl.1 rfl (Nat.le_of_ble_eq_true rfl) dX8_mend_49 (fun r_17 u_r_17 H locs hw_r_17 hP hD hS => ?_)
      obtain ⟨f2_18, rfl⟩ : ∃ z, z = u_r_17 := ⟨_, rfl⟩
      try dsimp only at hw_r_17
      have hP : va_P D vwCl [(ae, .inl (cI, 10, .inl fae)), (qm, .inr (0, [.int (nI (Qm)), .ref mn])), (mn, .inl (cI, 100, .inl Lm)), (qh, .inr (1, [.int (nI (Pa)), .ref ae, .ref al, .ref au, .ref ao, .ref ar, .ref ak, .ref aw, .ref att, .ref ass])), (al, .inl (cI, 100, .inl fal)), (ao, .inl (cI, 100, .inl fao)), (qa, .inr (0, [.int (nI (Pa)), .ref an])), (an, .inl (cI, 100, .inl L2_2)), (h0, .inr (8, [.ref qh, .ref qk, .ref qd, .int b0, .ref qa, .ref qm, .ref qs, .ref qp, .ref ql, .ref qt, .ref qz, .ref qf])), (qf, .inl (cI, 7, .inl f2_18))] H := hP
      have hD : va_D A [(ae, .inl (cI, 10, .inl fae)), (qm, .inr (0, [.int (nI (Qm)), .ref mn])), (mn, .inl (cI, 100, .inl Lm)), (qh, .inr (1, [.int (nI (Pa)), .ref ae, .ref al, .ref au, .ref ao, .ref ar, .ref ak, .ref aw, .ref att, .ref ass])), (al, .inl (cI, 100, .inl fal)), (ao, .inl (cI, 100, .inl fao)), (qa, .inr (0, [.int (nI (Pa)), .ref an])), (an, .inl (cI, 100, .inl L2_2)), (h0, .inr (8, [.ref qh, .ref qk, .ref qd, .int b0, .ref qa, .ref qm, .ref qs, .ref qp, .ref ql, .ref qt, .ref qz, .ref qf])), (qf, .inl (cI, 7, .inl f2_18))] := hD
      subst hw_r_17
      refine lv_goto (tgt := 56) hx hb dX8_mend_52 (by decide) ?_
      exact W.iret (v := (-1000000004)) hx hb hr (fun t ht hW => ⟨⟨(-1000000004), (Pa, L2_2, Qm, Lm, f2_18), rfl, ⟨trivial, (by first | assumption | omega), (by first | assumption | omega)⟩, by rw [ht]; exact hP.sub [8, 3, 0, 4, 5, 6, 7, 1, 2, 9] rfl, hD.sub [8, 3, 0, 4, 5, 6, 7, 1, 2, 9] (by decide +kernel) rfl⟩, hS.F ht⟩) hS.2.2 dX8_mend_56 hlk
set_option maxHeartbeats 4000000 in
set_option maxRecDepth 100000 in
theorem c_X8_goes (l : Launch) (D : va_G) (cI cJ cZ cS : ClassId) (ta : Nat) (sa sv : Nat → Nat) (sz : Nat) (h0 : Nat) (qh : Nat) (qk : Nat) (qd : Nat) (b0 : Int32) (qa : Nat) (qm : Nat) (qs : Nat) (qp : Nat) (ql : Nat) (qt : Nat) (qz : Nat) (qf : Nat) (Pa : Nat) (ae : Nat) (al : Nat) (au : Nat) (ao : Nat) (ar : Nat) (ak : Nat) (aw : Nat) (att : Nat) (ass : Nat) (fal : Nat → Int32) (fao : Nat → Int32) (ff : Nat → Int32) (p0 : Int32) (p1 : Int32) (hP0 : Pa ≤ 10) : Met l yX8_goes (Cond.code yX8_goes cX8_goes 4 (some .int) :: wsU) ({ frames := 4, cells := 0, slots := 0, locals := 91 }) (va_Pc [.ref h0, .int p0, .int p1] (XW D (xT cI cJ cZ cS) ta sa sv [(h0, .inr (8, [.ref qh, .ref qk, .ref qd, .int b0, .ref qa, .ref qm, .ref qs, .ref qp, .ref ql, .ref qt, .ref qz, .ref qf])), (qh, .inr (1, [.int (nI (Pa)), .ref ae, .ref al, .ref au, .ref ao, .ref ar, .ref ak, .ref aw, .ref att, .ref ass])), (al, .inl (cI, 100, .inl fal)), (ao, .inl (cI, 100, .inl fao)), (qf, .inl (cI, 7, .inl ff))] sz)) (XQi (fun (r : Int32) (f2 : (Nat → Int32)) => (True)) D (fun (f2 : Nat → Int32) => [(h0, .inr (8, [.ref qh, .ref qk, .ref qd, .int b0, .ref qa, .ref qm, .ref qs, .ref qp, .ref ql, .ref qt, .ref qz, .ref qf])), (qh, .inr (1, [.int (nI (Pa)), .ref ae, .ref al, .ref au, .ref ao, .ref ar, .ref ak, .ref aw, .ref att, .ref ass])), (al, .inl (cI, 100, .inl fal)), (ao, .inl (cI, 100, .inl fao)), (qf, .inl (cI, 7, .inl f2))]) (va_A [(h0, .inr (8, [.ref qh, .ref qk, .ref qd, .int b0, .ref qa, .ref qm, .ref qs, .ref qp, .ref ql, .ref qt, .ref qz, .ref qf])), (qh, .inr (1, [.int (nI (Pa)), .ref ae, .ref al, .ref au, .ref ao, .ref ar, .ref ak, .ref aw, .ref att, .ref ass])), (al, .inl (cI, 100, .inl fal)), (ao, .inl (cI, 100, .inl fao)), (qf, .inl (cI, 7, .inl ff))] sz)) 0 0 (va_A [(h0, .inr (8, [.ref qh, .ref qk, .ref qd, .int b0, .ref qa, .ref qm, .ref qs, .ref qp, .ref ql, .ref qt, .ref qz, .ref qf])), (qh, .inr (1, [.int (nI (Pa)), .ref ae, .ref al, .ref au, .ref ao, .ref ar, .ref ak, .ref aw, .ref att, .ref ass])), (al, .inl (cI, 100, .inl fal)), (ao, .inl (cI, 100, .inl fao)), (qf, .inl (cI, 7, .inl ff))] sz) := by
  refine xh (QA := fun A => XQi (fun (r : Int32) (f2 : (Nat → Int32)) => (True)) D (fun (f2 : Nat → Int32) => [(h0, .inr (8, [.ref qh, .ref qk, .ref qd, .int b0, .ref qa, .ref qm, .ref qs, .ref qp, .ref ql, .ref qt, .ref qz, .ref qf])), (qh, .inr (1, [.int (nI (Pa)), .ref ae, .ref al, .ref au, .ref ao, .ref ar, .ref ak, .ref aw, .ref att, .ref ass])), (al, .inl (cI, 100, .inl fal)), (ao, .inl (cI, 100, .inl fao)), (qf, .inl (cI, 7, .inl f2))]) A) (fr := fun A => A) (by decide) (Nat.le_of_ble_eq_true rfl) ?_
  intro p e s m below meth c ls A hF hr hlk hin hsz hP hK hD hN hZ hA hS hl
  have hF : CallFix p m c cX8_goes 4 s _ _ RX8 := hF
  have hx := hF.1
  have hb := hF.2.1
  have hml := hF.2.2.1
  have hown := hF.2.2.2.1
  have hu : ∀ w ∈ wsU, w.before _ s = true := fun w h => hF.2.2.2.2 w (List.mem_cons_of_mem _ h)
  have hl : lv_has ls 4 [(0, .ref h0), (1, .int p0), (2, .int p1)] := hl
  refine lv_aload_n hx hb dX8_goes_0 rfl (lv_at hl 0 rfl) ?_
  refine xg hF kf_X8_12 hK hP 0 rfl rfl dX8_goes_1 ?_
  refine lv_iload_n hx hb dX8_goes_4 rfl (lv_at hl 1 rfl) ?_
  refine lv_i2l (v := p0.toInt64) hx hb dX8_goes_5 rfl ?_
  refine xc_Vr hF (c_X1_isPlace l D cI cJ cZ cS ta sa sv s.heap.size qh ae al au ao ar ak aw att ass Pa p0 (by omega)) kv_X8_87 ⟨rfl, rfl, Nat.le_of_ble_eq_true rfl, Nat.le_of_ble_eq_true rfl⟩ ⟨Nat.le_of_ble_eq_true rfl, Nat.le_of_ble_eq_true rfl⟩ hK hN hZ hP hD hS hA [1] rfl rfl 0 rfl rfl rfl rfl hl.1 rfl (Nat.le_of_ble_eq_true rfl) dX8_goes_6 (fun r_1 hw_r_1 => ?_)
  rcases hw_r_1 with ⟨k_2, rfl, rfl, h_4⟩ | ⟨rfl, h_5⟩
  · skip
    refine lv_if_eq (tgt := 23) hx hb dX8_goes_9 (by decide) (fun c_6 => absurd c_6 (by decide)) (fun c_6 => ?_)
    refine lv_iload_n hx hb dX8_goes_12 rfl (lv_at hl 2 rfl) ?_
    refine lv_iconst (v := 0) hx hb dX8_goes_13 (by decide) ?_
    refine lv_sipush (v := 1000) hx hb dX8_goes_14 (by decide) ?_
    refine xc_Sr hF (c_X8_isWithin l D cI cJ cZ cS ta sa sv s.heap.size p1 0 1000 ) ks_X8_91 ⟨rfl, rfl, Nat.le_of_ble_eq_true rfl, Nat.le_of_ble_eq_true rfl⟩ ⟨Nat.le_of_ble_eq_true rfl, Nat.le_of_ble_eq_true rfl⟩ hK hN hZ hP hD hS hA [] rfl rfl rfl hl.1 rfl (Nat.le_of_ble_eq_true rfl) dX8_goes_17 (fun r_7 hw_r_7 => ?_)
    rcases hw_r_7 with ⟨rfl, h_8, h_9⟩ | ⟨rfl, h_10⟩
    · skip
      refine lv_if_ne (tgt := 30) hx hb dX8_goes_20 (by decide) (fun c_11 => ?_) (fun c_11 => absurd c_11 (by decide))
      obtain ⟨y_12, hy_12, rfl⟩ := xrange (w := 1000) (by omega) h_8 h_9
      refine lv_aload_n hx hb dX8_goes_30 rfl (lv_at hl 0 rfl) ?_
      refine xg hF kf_X8_12 hK hP 0 rfl rfl dX8_goes_31 ?_
      refine lv_iload_n hx hb dX8_goes_34 rfl (lv_at hl 1 rfl) ?_
      refine lv_iload_n hx hb dX8_goes_35 rfl (lv_at hl 2 rfl) ?_
      refine xc_Vr hF (c_X1_comesTo l D cI cJ cZ cS ta sa sv s.heap.size qh ae al au ao ar ak aw att ass Pa fal fao k_2 y_12 (by omega) (by omega) (by omega)) kv_X8_269 ⟨rfl, rfl, Nat.le_of_ble_eq_true rfl, Nat.le_of_ble_eq_true rfl⟩ ⟨Nat.le_of_ble_eq_true rfl, Nat.le_of_ble_eq_true rfl⟩ hK hN hZ hP hD hS hA [1, 2, 3] rfl rfl 0 rfl rfl rfl rfl hl.1 rfl (Nat.le_of_ble_eq_true rfl) dX8_goes_36 (fun r_13 hw_r_13 => ?_)
      rcases hw_r_13 with rfl | ⟨y_14, rfl, h_15⟩
      · skip
        refine lv_istore_n (lv' := [(3, .int (-1)), (0, .ref h0), (1, .int (nI (k_2))), (2, .int (nI (y_12)))]) hx hb dX8_goes_39 rfl hl (by decide) rfl (fun ls hl => ?_)
        refine lv_iload_n hx hb dX8_goes_40 rfl (lv_at hl 0 rfl) ?_
        refine lv_if_ge (tgt := 53) hx hb dX8_goes_41 (by decide) (fun c_16 => absurd c_16 (by decide)) (fun c_16 => ?_)
        refine lv_aload_n hx hb dX8_goes_44 rfl (lv_at hl 1 rfl) ?_
        refine lv_ldc (v := (-1000000004)) hx hb hown (hu _ uw410) dX8_goes_45 ?_
        refine xc_Vi (wr := [(qh, .inr (1, [.int (nI (Pa)), .ref ae, .ref al, .ref au, .ref ao, .ref ar, .ref ak, .ref aw, .ref att, .ref ass])), (al, .inl (cI, 100, .inl fal)), (ao, .inl (cI, 100, .inl fao))]) hF (c_X8_finding_N l D cI cJ cZ cS ta sa sv s.heap.size h0 qh qk qd b0 qa qm qs qp ql qt qz qf ff ) kv_X8_80 ⟨rfl, rfl, Nat.le_of_ble_eq_true rfl, Nat.le_of_ble_eq_true rfl⟩ ⟨Nat.le_of_ble_eq_true rfl, Nat.le_of_ble_eq_true rfl⟩ hK hN hZ hP hD hS hA [0, 4] [1, 2, 3] rfl rfl rfl rfl (by decide) 0 rfl rfl rfl rfl hl.1 rfl (Nat.le_of_ble_eq_true rfl) dX8_goes_47 (fun r_17 u_r_17 H locs hw_r_17 hP hD hS => ?_)
        obtain ⟨f2_18, rfl⟩ : ∃ z, z = u_r_17 := ⟨_, rfl⟩
        try dsimp only at hw_r_17
        have hP : va_P D vwCl [(qh, .inr (1, [.int (nI (Pa)), .ref ae, .ref al, .ref au, .ref ao, .ref ar, .ref ak, .ref aw, .ref att, .ref ass])), (al, .inl (cI, 100, .inl fal)), (ao, .inl (cI, 100, .inl fao)), (h0, .inr (8, [.ref qh, .ref qk, .ref qd, .int b0, .ref qa, .ref qm, .ref qs, .ref qp, .ref ql, .ref qt, .ref qz, .ref qf])), (qf, .inl (cI, 7, .inl f2_18))] H := hP
        have hD : va_D A [(qh, .inr (1, [.int (nI (Pa)), .ref ae, .ref al, .ref au, .ref ao, .ref ar, .ref ak, .ref aw, .ref att, .ref ass])), (al, .inl (cI, 100, .inl fal)), (ao, .inl (cI, 100, .inl fao)), (h0, .inr (8, [.ref qh, .ref qk, .ref qd, .int b0, .ref qa, .ref qm, .ref qs, .ref qp, .ref ql, .ref qt, .ref qz, .ref qf])), (qf, .inl (cI, 7, .inl f2_18))] := hD
        subst hw_r_17
        refine lv_goto (tgt := 54) hx hb dX8_goes_50 (by decide) ?_
        exact W.iret (v := (-1000000004)) hx hb hr (fun t ht hW => ⟨⟨(-1000000004), f2_18, rfl, trivial, by rw [ht]; exact hP.sub [3, 0, 1, 2, 4] rfl, hD.sub [3, 0, 1, 2, 4] (by decide +kernel) rfl⟩, hS.F ht⟩) hS.2.2 dX8_goes_54 hlk
      · skip
        refine lv_istore_n (lv' := [(3, .int (nI (y_14))), (0, .ref h0), (1, .int (nI (k_2))), (2, .int (nI (y_12)))]) hx hb dX8_goes_39 rfl hl (by decide) rfl (fun ls hl => ?_)
        refine lv_iload_n hx hb dX8_goes_40 rfl (lv_at hl 0 rfl) ?_
        refine lv_if_ge (tgt := 53) hx hb dX8_goes_41 (by decide) (fun c_19 => ?_) (fun c_19 => by have nc_19 : y_14 < 0 := xn_nle (a := 0) (b := y_14) (by omega) (by omega) c_19; omega)
        have nc_19 : 0 ≤ y_14 := xn_le (a := 0) (b := y_14) (by omega) (by omega) c_19
        refine lv_iload_n hx hb dX8_goes_53 rfl (lv_at hl 0 rfl) ?_
        exact W.iret (v := nI (y_14)) hx hb hr (fun t ht hW => ⟨⟨nI (y_14), ff, rfl, trivial, by rw [ht]; exact hP.sub [0, 1, 2, 3, 4] rfl, hD.sub [0, 1, 2, 3, 4] (by decide +kernel) rfl⟩, hS.F ht⟩) hS.2.2 dX8_goes_54 hlk
    · skip
      refine lv_if_ne (tgt := 30) hx hb dX8_goes_20 (by decide) (fun c_20 => absurd (by decide) c_20) (fun c_20 => ?_)
      refine lv_aload_n hx hb dX8_goes_23 rfl (lv_at hl 0 rfl) ?_
      refine lv_ldc (v := (-1000000001)) hx hb hown (hu _ uw396) dX8_goes_24 ?_
      refine xc_Vi (wr := [(qh, .inr (1, [.int (nI (Pa)), .ref ae, .ref al, .ref au, .ref ao, .ref ar, .ref ak, .ref aw, .ref att, .ref ass])), (al, .inl (cI, 100, .inl fal)), (ao, .inl (cI, 100, .inl fao))]) hF (c_X8_finding_B l D cI cJ cZ cS ta sa sv s.heap.size h0 qh qk qd b0 qa qm qs qp ql qt qz qf ff ) kv_X8_80 ⟨rfl, rfl, Nat.le_of_ble_eq_true rfl, Nat.le_of_ble_eq_true rfl⟩ ⟨Nat.le_of_ble_eq_true rfl, Nat.le_of_ble_eq_true rfl⟩ hK hN hZ hP hD hS hA [0, 4] [1, 2, 3] rfl rfl rfl rfl (by decide) 0 rfl rfl rfl rfl hl.1 rfl (Nat.le_of_ble_eq_true rfl) dX8_goes_26 (fun r_21 u_r_21 H locs hw_r_21 hP hD hS => ?_)
      obtain ⟨f2_22, rfl⟩ : ∃ z, z = u_r_21 := ⟨_, rfl⟩
      try dsimp only at hw_r_21
      have hP : va_P D vwCl [(qh, .inr (1, [.int (nI (Pa)), .ref ae, .ref al, .ref au, .ref ao, .ref ar, .ref ak, .ref aw, .ref att, .ref ass])), (al, .inl (cI, 100, .inl fal)), (ao, .inl (cI, 100, .inl fao)), (h0, .inr (8, [.ref qh, .ref qk, .ref qd, .int b0, .ref qa, .ref qm, .ref qs, .ref qp, .ref ql, .ref qt, .ref qz, .ref qf])), (qf, .inl (cI, 7, .inl f2_22))] H := hP
      have hD : va_D A [(qh, .inr (1, [.int (nI (Pa)), .ref ae, .ref al, .ref au, .ref ao, .ref ar, .ref ak, .ref aw, .ref att, .ref ass])), (al, .inl (cI, 100, .inl fal)), (ao, .inl (cI, 100, .inl fao)), (h0, .inr (8, [.ref qh, .ref qk, .ref qd, .int b0, .ref qa, .ref qm, .ref qs, .ref qp, .ref ql, .ref qt, .ref qz, .ref qf])), (qf, .inl (cI, 7, .inl f2_22))] := hD
      subst hw_r_21
      exact W.iret (v := (-1000000001)) hx hb hr (fun t ht hW => ⟨⟨(-1000000001), f2_22, rfl, trivial, by rw [ht]; exact hP.sub [3, 0, 1, 2, 4] rfl, hD.sub [3, 0, 1, 2, 4] (by decide +kernel) rfl⟩, hS.F ht⟩) hS.2.2 dX8_goes_29 hlk
  · skip
    refine lv_if_eq (tgt := 23) hx hb dX8_goes_9 (by decide) (fun c_23 => ?_) (fun c_23 => absurd (by decide) c_23)
    refine lv_aload_n hx hb dX8_goes_23 rfl (lv_at hl 0 rfl) ?_
    refine lv_ldc (v := (-1000000001)) hx hb hown (hu _ uw396) dX8_goes_24 ?_
    refine xc_Vi (wr := [(qh, .inr (1, [.int (nI (Pa)), .ref ae, .ref al, .ref au, .ref ao, .ref ar, .ref ak, .ref aw, .ref att, .ref ass])), (al, .inl (cI, 100, .inl fal)), (ao, .inl (cI, 100, .inl fao))]) hF (c_X8_finding_B l D cI cJ cZ cS ta sa sv s.heap.size h0 qh qk qd b0 qa qm qs qp ql qt qz qf ff ) kv_X8_80 ⟨rfl, rfl, Nat.le_of_ble_eq_true rfl, Nat.le_of_ble_eq_true rfl⟩ ⟨Nat.le_of_ble_eq_true rfl, Nat.le_of_ble_eq_true rfl⟩ hK hN hZ hP hD hS hA [0, 4] [1, 2, 3] rfl rfl rfl rfl (by decide) 0 rfl rfl rfl rfl hl.1 rfl (Nat.le_of_ble_eq_true rfl) dX8_goes_26 (fun r_24 u_r_24 H locs hw_r_24 hP hD hS => ?_)
    obtain ⟨f2_25, rfl⟩ : ∃ z, z = u_r_24 := ⟨_, rfl⟩
    try dsimp only at hw_r_24
    have hP : va_P D vwCl [(qh, .inr (1, [.int (nI (Pa)), .ref ae, .ref al, .ref au, .ref ao, .ref ar, .ref ak, .ref aw, .ref att, .ref ass])), (al, .inl (cI, 100, .inl fal)), (ao, .inl (cI, 100, .inl fao)), (h0, .inr (8, [.ref qh, .ref qk, .ref qd, .int b0, .ref qa, .ref qm, .ref qs, .ref qp, .ref ql, .ref qt, .ref qz, .ref qf])), (qf, .inl (cI, 7, .inl f2_25))] H := hP
    have hD : va_D A [(qh, .inr (1, [.int (nI (Pa)), .ref ae, .ref al, .ref au, .ref ao, .ref ar, .ref ak, .ref aw, .ref att, .ref ass])), (al, .inl (cI, 100, .inl fal)), (ao, .inl (cI, 100, .inl fao)), (h0, .inr (8, [.ref qh, .ref qk, .ref qd, .int b0, .ref qa, .ref qm, .ref qs, .ref qp, .ref ql, .ref qt, .ref qz, .ref qf])), (qf, .inl (cI, 7, .inl f2_25))] := hD
    subst hw_r_24
    exact W.iret (v := (-1000000001)) hx hb hr (fun t ht hW => ⟨⟨(-1000000001), f2_25, rfl, trivial, by rw [ht]; exact hP.sub [3, 0, 1, 2, 4] rfl, hD.sub [3, 0, 1, 2, 4] (by decide +kernel) rfl⟩, hS.F ht⟩) hS.2.2 dX8_goes_29 hlk
set_option maxHeartbeats 4000000 in
set_option maxRecDepth 100000 in
theorem c_X8_hollow (l : Launch) (D : va_G) (cI cJ cZ cS : ClassId) (ta : Nat) (sa sv : Nat → Nat) (sz : Nat) (h0 : Nat) (qh : Nat) (qk : Nat) (qd : Nat) (b0 : Int32) (qa : Nat) (qm : Nat) (qs : Nat) (qp : Nat) (ql : Nat) (qt : Nat) (qz : Nat) (qf : Nat) (Pa : Nat) (ae : Nat) (al : Nat) (au : Nat) (ao : Nat) (ar : Nat) (ak : Nat) (aw : Nat) (att : Nat) (ass : Nat) (fal : Nat → Int32) (fao : Nat → Int32) (hP0 : Pa ≤ 10) : Met l yX8_hollow (Cond.code yX8_hollow cX8_hollow 1 (some .int) :: wsU) ({ frames := 5, cells := 0, slots := 0, locals := 115 }) (va_Pc [.ref h0] (XW D (xT cI cJ cZ cS) ta sa sv [(h0, .inr (8, [.ref qh, .ref qk, .ref qd, .int b0, .ref qa, .ref qm, .ref qs, .ref qp, .ref ql, .ref qt, .ref qz, .ref qf])), (qh, .inr (1, [.int (nI (Pa)), .ref ae, .ref al, .ref au, .ref ao, .ref ar, .ref ak, .ref aw, .ref att, .ref ass])), (al, .inl (cI, 100, .inl fal)), (ao, .inl (cI, 100, .inl fao))] sz)) (XQi (fun (r : Int32) (_ : Unit) => (True)) D (fun _ : Unit => [(h0, .inr (8, [.ref qh, .ref qk, .ref qd, .int b0, .ref qa, .ref qm, .ref qs, .ref qp, .ref ql, .ref qt, .ref qz, .ref qf])), (qh, .inr (1, [.int (nI (Pa)), .ref ae, .ref al, .ref au, .ref ao, .ref ar, .ref ak, .ref aw, .ref att, .ref ass])), (al, .inl (cI, 100, .inl fal)), (ao, .inl (cI, 100, .inl fao))]) (va_A [(h0, .inr (8, [.ref qh, .ref qk, .ref qd, .int b0, .ref qa, .ref qm, .ref qs, .ref qp, .ref ql, .ref qt, .ref qz, .ref qf])), (qh, .inr (1, [.int (nI (Pa)), .ref ae, .ref al, .ref au, .ref ao, .ref ar, .ref ak, .ref aw, .ref att, .ref ass])), (al, .inl (cI, 100, .inl fal)), (ao, .inl (cI, 100, .inl fao))] sz)) 0 0 (va_A [(h0, .inr (8, [.ref qh, .ref qk, .ref qd, .int b0, .ref qa, .ref qm, .ref qs, .ref qp, .ref ql, .ref qt, .ref qz, .ref qf])), (qh, .inr (1, [.int (nI (Pa)), .ref ae, .ref al, .ref au, .ref ao, .ref ar, .ref ak, .ref aw, .ref att, .ref ass])), (al, .inl (cI, 100, .inl fal)), (ao, .inl (cI, 100, .inl fao))] sz) := by
  refine xh (QA := fun A => XQi (fun (r : Int32) (_ : Unit) => (True)) D (fun _ : Unit => [(h0, .inr (8, [.ref qh, .ref qk, .ref qd, .int b0, .ref qa, .ref qm, .ref qs, .ref qp, .ref ql, .ref qt, .ref qz, .ref qf])), (qh, .inr (1, [.int (nI (Pa)), .ref ae, .ref al, .ref au, .ref ao, .ref ar, .ref ak, .ref aw, .ref att, .ref ass])), (al, .inl (cI, 100, .inl fal)), (ao, .inl (cI, 100, .inl fao))]) A) (fr := fun A => A) (by decide) (Nat.le_of_ble_eq_true rfl) ?_
  intro p e s m below meth c ls A hF hr hlk hin hsz hP hK hD hN hZ hA hS hl
  have hF : CallFix p m c cX8_hollow 1 s _ _ RX8 := hF
  have hx := hF.1
  have hb := hF.2.1
  have hml := hF.2.2.1
  have hown := hF.2.2.2.1
  have hu : ∀ w ∈ wsU, w.before _ s = true := fun w h => hF.2.2.2.2 w (List.mem_cons_of_mem _ h)
  have hl : lv_has ls 1 [(0, .ref h0)] := hl
  refine lv_aload_n hx hb dX8_hollow_0 rfl (lv_at hl 0 rfl) ?_
  refine xg hF kf_X8_12 hK hP 0 rfl rfl dX8_hollow_1 ?_
  refine xc_Vr hF (c_X1_hollowSet l D cI cJ cZ cS ta sa sv s.heap.size qh ae al au ao ar ak aw att ass Pa fal fao (by omega)) kv_X8_272 ⟨rfl, rfl, Nat.le_of_ble_eq_true rfl, Nat.le_of_ble_eq_true rfl⟩ ⟨Nat.le_of_ble_eq_true rfl, Nat.le_of_ble_eq_true rfl⟩ hK hN hZ hP hD hS hA [1, 2, 3] rfl rfl 0 rfl rfl rfl rfl hl.1 rfl (Nat.le_of_ble_eq_true rfl) dX8_hollow_4 (fun r_1 hw_r_1 => ?_)
  exact W.iret (v := r_1) hx hb hr (fun t ht hW => ⟨⟨r_1, (), rfl, trivial, by rw [ht]; exact hP.sub [0, 1, 2, 3] rfl, hD.sub [0, 1, 2, 3] (by decide) rfl⟩, hS.F ht⟩) hS.2.2 dX8_hollow_7 hlk
set_option maxHeartbeats 4000000 in
set_option maxRecDepth 100000 in
theorem c_X8_feed (l : Launch) (D : va_G) (cI cJ cZ cS : ClassId) (ta : Nat) (sa sv : Nat → Nat) (sz : Nat) (h0 : Nat) (qh : Nat) (qk : Nat) (qd : Nat) (b0 : Int32) (qa : Nat) (qm : Nat) (qs : Nat) (qp : Nat) (ql : Nat) (qt : Nat) (qz : Nat) (qf : Nat) (z : Nat) (tb : Nat) (tk : Int32) (s9 : Nat) (x9 : Nat) (v9 : Nat) (t9 : Int32) (by9 : Nat → Int32) (ff : Nat → Int32) (p0 : Int32) (p1 : Int32) (hz : z ≤ 120) (hs9 : s9 ≤ 120) (hx9 : x9 ≤ 120) (hv9 : v9 ≤ 10000) : Met l yX8_feed (Cond.code yX8_feed cX8_feed 4 (some .int) :: wsU) ({ frames := 1, cells := 0, slots := 0, locals := 22 }) (va_Pc [.ref h0, .int p0, .int p1] (XW D (xT cI cJ cZ cS) ta sa sv [(h0, .inr (8, [.ref qh, .ref qk, .ref qd, .int b0, .ref qa, .ref qm, .ref qs, .ref qp, .ref ql, .ref qt, .ref qz, .ref qf])), (qt, .inr (7, [.int (nI (z)), .ref tb, .int tk, .int (nI (s9)), .int (nI (x9)), .int (nI (v9)), .int t9])), (tb, .inl (cI, 120, .inl by9)), (qf, .inl (cI, 7, .inl ff))] sz)) (XQi (fun (r : Int32) (u : Nat × (Nat → Int32) × (Nat → Int32)) => match u with | (z2, y2, f2) => ((r = sp_fr z p1)) ∧ (z2 = sp_fz z p1) ∧ (y2 = fdT by9 z p0 p1) ∧ (z2 ≤ 120)) D (fun (u : Nat × (Nat → Int32) × (Nat → Int32)) => match u with | (z2, y2, f2) => [(h0, .inr (8, [.ref qh, .ref qk, .ref qd, .int b0, .ref qa, .ref qm, .ref qs, .ref qp, .ref ql, .ref qt, .ref qz, .ref qf])), (qt, .inr (7, [.int (nI (z2)), .ref tb, .int tk, .int (nI (s9)), .int (nI (x9)), .int (nI (v9)), .int t9])), (tb, .inl (cI, 120, .inl y2)), (qf, .inl (cI, 7, .inl f2))]) (va_A [(h0, .inr (8, [.ref qh, .ref qk, .ref qd, .int b0, .ref qa, .ref qm, .ref qs, .ref qp, .ref ql, .ref qt, .ref qz, .ref qf])), (qt, .inr (7, [.int (nI (z)), .ref tb, .int tk, .int (nI (s9)), .int (nI (x9)), .int (nI (v9)), .int t9])), (tb, .inl (cI, 120, .inl by9)), (qf, .inl (cI, 7, .inl ff))] sz)) 0 0 (va_A [(h0, .inr (8, [.ref qh, .ref qk, .ref qd, .int b0, .ref qa, .ref qm, .ref qs, .ref qp, .ref ql, .ref qt, .ref qz, .ref qf])), (qt, .inr (7, [.int (nI (z)), .ref tb, .int tk, .int (nI (s9)), .int (nI (x9)), .int (nI (v9)), .int t9])), (tb, .inl (cI, 120, .inl by9)), (qf, .inl (cI, 7, .inl ff))] sz) := by
  refine xh (QA := fun A => XQi (fun (r : Int32) (u : Nat × (Nat → Int32) × (Nat → Int32)) => match u with | (z2, y2, f2) => ((r = sp_fr z p1)) ∧ (z2 = sp_fz z p1) ∧ (y2 = fdT by9 z p0 p1) ∧ (z2 ≤ 120)) D (fun (u : Nat × (Nat → Int32) × (Nat → Int32)) => match u with | (z2, y2, f2) => [(h0, .inr (8, [.ref qh, .ref qk, .ref qd, .int b0, .ref qa, .ref qm, .ref qs, .ref qp, .ref ql, .ref qt, .ref qz, .ref qf])), (qt, .inr (7, [.int (nI (z2)), .ref tb, .int tk, .int (nI (s9)), .int (nI (x9)), .int (nI (v9)), .int t9])), (tb, .inl (cI, 120, .inl y2)), (qf, .inl (cI, 7, .inl f2))]) A) (fr := fun A => A) (by decide) (Nat.le_of_ble_eq_true rfl) ?_
  intro p e s m below meth c ls A hF hr hlk hin hsz hP hK hD hN hZ hA hS hl
  have hF : CallFix p m c cX8_feed 4 s _ _ RX8 := hF
  have hx := hF.1
  have hb := hF.2.1
  have hml := hF.2.2.1
  have hown := hF.2.2.2.1
  have hu : ∀ w ∈ wsU, w.before _ s = true := fun w h => hF.2.2.2.2 w (List.mem_cons_of_mem _ h)
  have hl : lv_has ls 4 [(0, .ref h0), (1, .int p0), (2, .int p1)] := hl
  refine lv_iload_n hx hb dX8_feed_0 rfl (lv_at hl 2 rfl) ?_
  refine lv_iconst (v := 1) hx hb dX8_feed_1 (by decide) ?_
  refine lv_iconst (v := 4) hx hb dX8_feed_2 (by decide) ?_
  refine xc_Sr hF (c_X8_isWithin l D cI cJ cZ cS ta sa sv s.heap.size p1 1 4 ) ks_X8_91 ⟨rfl, rfl, Nat.le_of_ble_eq_true rfl, Nat.le_of_ble_eq_true rfl⟩ ⟨Nat.le_of_ble_eq_true rfl, Nat.le_of_ble_eq_true rfl⟩ hK hN hZ hP hD hS hA [] rfl rfl rfl hl.1 rfl (Nat.le_of_ble_eq_true rfl) dX8_feed_3 (fun r_1 hw_r_1 => ?_)
  rcases hw_r_1 with ⟨rfl, h_2, h_3⟩ | ⟨rfl, h_4⟩
  · skip
    refine lv_if_ne (tgt := 16) hx hb dX8_feed_6 (by decide) (fun c_5 => ?_) (fun c_5 => absurd c_5 (by decide))
    rcases x_f4 h_2 h_3 with rfl | rfl | rfl | rfl
    · skip
      refine lv_aload_n hx hb dX8_feed_16 rfl (lv_at hl 0 rfl) ?_
      refine xg hF kf_X8_60 hK hP 0 rfl rfl dX8_feed_17 ?_
      refine xg hF kf_X8_275 hK hP 1 rfl rfl dX8_feed_20 ?_
      refine lv_iload_n hx hb dX8_feed_23 rfl (lv_at hl 2 rfl) ?_
      refine lv_iadd hx hb dX8_feed_24 ?_
      refine xl_i (y := nI (z + 1)) (nI_add z 1) ?_
      refine lv_bipush (v := 120) hx hb dX8_feed_25 (by decide) ?_
      refine lv_icmp_le (tgt := 37) hx hb dX8_feed_27 (by decide) (fun c_6 => ?_) (fun c_6 => ?_)
      · skip
        have nc_6 : z + 1 ≤ 120 := xn_le (a := (z + 1)) (b := 120) (by omega) (by omega) c_6
        refine lv_iload_n hx hb dX8_feed_37 rfl (lv_at hl 2 rfl) ?_
        refine lv_iconst (v := 1) hx hb dX8_feed_38 (by decide) ?_
        refine lv_isub hx hb dX8_feed_39 ?_
        refine xl_i (y := 0) (by decide) ?_
        refine lv_istore_n (lv' := [(3, .int 0), (0, .ref h0), (1, .int p0), (2, .int 1)]) hx hb dX8_feed_40 rfl hl (by decide) rfl (fun ls hl => ?_)
        refine lv_iload_n hx hb dX8_feed_41 rfl (lv_at hl 0 rfl) ?_
        refine lv_if_lt (tgt := 68) hx hb dX8_feed_42 (by decide) (fun c_7 => absurd c_7 (by decide)) (fun c_7 => ?_)
        refine lv_aload_n hx hb dX8_feed_45 rfl (lv_at hl 1 rfl) ?_
        refine xg hF kf_X8_60 hK hP 0 rfl rfl dX8_feed_46 ?_
        refine lv_iload_n hx hb dX8_feed_49 rfl (lv_at hl 2 rfl) ?_
        refine lv_bipush (v := 8) hx hb dX8_feed_50 (by decide) ?_
        refine lv_iload_n hx hb dX8_feed_52 rfl (lv_at hl 0 rfl) ?_
        refine lv_imul hx hb dX8_feed_53 ?_
        refine xl_i (y := 0) (by decide) ?_
        refine lv_iushr hx hb dX8_feed_54 rfl ?_
        refine lv_topi (fun x_8 ex_8 => ?_)
        refine lv_sipush (v := 255) hx hb dX8_feed_55 (by decide) ?_
        refine lv_iand hx hb dX8_feed_58 ?_
        refine xl_i (y := fdv p0 0) (by rw [ex_8]; rfl) ?_
        refine xc_Vv (wr := [(h0, .inr (8, [.ref qh, .ref qk, .ref qd, .int b0, .ref qa, .ref qm, .ref qs, .ref qp, .ref ql, .ref qt, .ref qz, .ref qf])), (qf, .inl (cI, 7, .inl ff))]) hF (c_X7_addByte l D cI cJ cZ cS ta sa sv s.heap.size qt tb z s9 x9 v9 tk t9 by9 (fdv p0 0) (by omega)) kv_X8_278 ⟨rfl, rfl, Nat.le_of_ble_eq_true rfl, Nat.le_of_ble_eq_true rfl⟩ ⟨Nat.le_of_ble_eq_true rfl, Nat.le_of_ble_eq_true rfl⟩ hK hN hZ hP hD hS hA [1, 2] [0, 3] rfl rfl rfl rfl (by decide) 0 rfl rfl rfl rfl hl.1 rfl (Nat.le_of_ble_eq_true rfl) dX8_feed_59 (fun u_r_9 H locs hw_r_9 hP hD hS => ?_)
        obtain ⟨y2_10, rfl⟩ : ∃ z, z = u_r_9 := ⟨_, rfl⟩
        try dsimp only at hw_r_9
        have i_11 := hw_r_9
        have hP : va_P D vwCl [(h0, .inr (8, [.ref qh, .ref qk, .ref qd, .int b0, .ref qa, .ref qm, .ref qs, .ref qp, .ref ql, .ref qt, .ref qz, .ref qf])), (qf, .inl (cI, 7, .inl ff)), (qt, .inr (7, [.int (nI (z + 1)), .ref tb, .int tk, .int (nI (s9)), .int (nI (x9)), .int (nI (v9)), .int t9])), (tb, .inl (cI, 120, .inl y2_10))] H := hP
        have hD : va_D A [(h0, .inr (8, [.ref qh, .ref qk, .ref qd, .int b0, .ref qa, .ref qm, .ref qs, .ref qp, .ref ql, .ref qt, .ref qz, .ref qf])), (qf, .inl (cI, 7, .inl ff)), (qt, .inr (7, [.int (nI (z + 1)), .ref tb, .int tk, .int (nI (s9)), .int (nI (x9)), .int (nI (v9)), .int t9])), (tb, .inl (cI, 120, .inl y2_10))] := hD
        refine lv_iinc (v := (-1)) (lv' := [(3, .int (-1)), (0, .ref h0), (1, .int p0), (2, .int 1)]) hx hb dX8_feed_62 hl (k := 0) rfl (by decide) (by decide) rfl (fun ls hl => ?_)
        refine lv_goto (tgt := 41) hx hb dX8_feed_65 (by decide) ?_
        refine lv_iload_n hx hb dX8_feed_41 rfl (lv_at hl 0 rfl) ?_
        refine lv_if_lt (tgt := 68) hx hb dX8_feed_42 (by decide) (fun c_12 => ?_) (fun c_12 => absurd (by decide) c_12)
        refine lv_aload_n hx hb dX8_feed_68 rfl (lv_at hl 1 rfl) ?_
        refine xg hF kf_X8_60 hK hP 0 rfl rfl dX8_feed_69 ?_
        refine xg hF kf_X8_275 hK hP 2 rfl rfl dX8_feed_72 ?_
        exact W.iret (v := nI (z + 1)) hx hb hr (fun t ht hW => ⟨⟨nI (z + 1), (z + 1, y2_10, ff), rfl, ⟨(sp_f1 (p := 1) (c := 1) (by decide) (by decide) (by omega)).2.symm, (sp_f1 (p := 1) (c := 1) (by decide) (by decide) (by omega)).1.symm, (by rw [i_11]; exact fdT_1 (by omega)), (by first | assumption | omega)⟩, by rw [ht]; exact hP.sub [0, 2, 3, 1] rfl, hD.sub [0, 2, 3, 1] (by decide) rfl⟩, hS.F ht⟩) hS.2.2 dX8_feed_75 hlk
      · skip
        have nc_6 : 120 < z + 1 := xn_nle (a := (z + 1)) (b := 120) (by omega) (by omega) c_6
        refine lv_aload_n hx hb dX8_feed_30 rfl (lv_at hl 0 rfl) ?_
        refine lv_ldc (v := (-1000000002)) hx hb hown (hu _ uw419) dX8_feed_31 ?_
        refine xc_Vi (wr := [(qt, .inr (7, [.int (nI (z)), .ref tb, .int tk, .int (nI (s9)), .int (nI (x9)), .int (nI (v9)), .int t9])), (tb, .inl (cI, 120, .inl by9))]) hF (c_X8_finding_F l D cI cJ cZ cS ta sa sv s.heap.size h0 qh qk qd b0 qa qm qs qp ql qt qz qf ff ) kv_X8_80 ⟨rfl, rfl, Nat.le_of_ble_eq_true rfl, Nat.le_of_ble_eq_true rfl⟩ ⟨Nat.le_of_ble_eq_true rfl, Nat.le_of_ble_eq_true rfl⟩ hK hN hZ hP hD hS hA [0, 3] [1, 2] rfl rfl rfl rfl (by decide) 0 rfl rfl rfl rfl hl.1 rfl (Nat.le_of_ble_eq_true rfl) dX8_feed_33 (fun r_13 u_r_13 H locs hw_r_13 hP hD hS => ?_)
        obtain ⟨f2_14, rfl⟩ : ∃ z, z = u_r_13 := ⟨_, rfl⟩
        try dsimp only at hw_r_13
        have hP : va_P D vwCl [(qt, .inr (7, [.int (nI (z)), .ref tb, .int tk, .int (nI (s9)), .int (nI (x9)), .int (nI (v9)), .int t9])), (tb, .inl (cI, 120, .inl by9)), (h0, .inr (8, [.ref qh, .ref qk, .ref qd, .int b0, .ref qa, .ref qm, .ref qs, .ref qp, .ref ql, .ref qt, .ref qz, .ref qf])), (qf, .inl (cI, 7, .inl f2_14))] H := hP
        have hD : va_D A [(qt, .inr (7, [.int (nI (z)), .ref tb, .int tk, .int (nI (s9)), .int (nI (x9)), .int (nI (v9)), .int t9])), (tb, .inl (cI, 120, .inl by9)), (h0, .inr (8, [.ref qh, .ref qk, .ref qd, .int b0, .ref qa, .ref qm, .ref qs, .ref qp, .ref ql, .ref qt, .ref qz, .ref qf])), (qf, .inl (cI, 7, .inl f2_14))] := hD
        subst hw_r_13
        exact W.iret (v := (-1000000002)) hx hb hr (fun t ht hW => ⟨⟨(-1000000002), (z, by9, f2_14), rfl, ⟨(sp_f2 (p := 1) (c := 1) (by decide) (by decide) (by omega)).2.symm, (sp_f2 (p := 1) (c := 1) (by decide) (by decide) (by omega)).1.symm, fdT_f1 (by omega), (by first | assumption | omega)⟩, by rw [ht]; exact hP.sub [2, 0, 1, 3] rfl, hD.sub [2, 0, 1, 3] (by decide) rfl⟩, hS.F ht⟩) hS.2.2 dX8_feed_36 hlk
    · skip
      refine lv_aload_n hx hb dX8_feed_16 rfl (lv_at hl 0 rfl) ?_
      refine xg hF kf_X8_60 hK hP 0 rfl rfl dX8_feed_17 ?_
      refine xg hF kf_X8_275 hK hP 1 rfl rfl dX8_feed_20 ?_
      refine lv_iload_n hx hb dX8_feed_23 rfl (lv_at hl 2 rfl) ?_
      refine lv_iadd hx hb dX8_feed_24 ?_
      refine xl_i (y := nI (z + 2)) (nI_add z 2) ?_
      refine lv_bipush (v := 120) hx hb dX8_feed_25 (by decide) ?_
      refine lv_icmp_le (tgt := 37) hx hb dX8_feed_27 (by decide) (fun c_15 => ?_) (fun c_15 => ?_)
      · skip
        have nc_15 : z + 2 ≤ 120 := xn_le (a := (z + 2)) (b := 120) (by omega) (by omega) c_15
        refine lv_iload_n hx hb dX8_feed_37 rfl (lv_at hl 2 rfl) ?_
        refine lv_iconst (v := 1) hx hb dX8_feed_38 (by decide) ?_
        refine lv_isub hx hb dX8_feed_39 ?_
        refine xl_i (y := 1) (by decide) ?_
        refine lv_istore_n (lv' := [(3, .int 1), (0, .ref h0), (1, .int p0), (2, .int 2)]) hx hb dX8_feed_40 rfl hl (by decide) rfl (fun ls hl => ?_)
        refine lv_iload_n hx hb dX8_feed_41 rfl (lv_at hl 0 rfl) ?_
        refine lv_if_lt (tgt := 68) hx hb dX8_feed_42 (by decide) (fun c_16 => absurd c_16 (by decide)) (fun c_16 => ?_)
        refine lv_aload_n hx hb dX8_feed_45 rfl (lv_at hl 1 rfl) ?_
        refine xg hF kf_X8_60 hK hP 0 rfl rfl dX8_feed_46 ?_
        refine lv_iload_n hx hb dX8_feed_49 rfl (lv_at hl 2 rfl) ?_
        refine lv_bipush (v := 8) hx hb dX8_feed_50 (by decide) ?_
        refine lv_iload_n hx hb dX8_feed_52 rfl (lv_at hl 0 rfl) ?_
        refine lv_imul hx hb dX8_feed_53 ?_
        refine xl_i (y := 8) (by decide) ?_
        refine lv_iushr hx hb dX8_feed_54 rfl ?_
        refine lv_topi (fun x_17 ex_17 => ?_)
        refine lv_sipush (v := 255) hx hb dX8_feed_55 (by decide) ?_
        refine lv_iand hx hb dX8_feed_58 ?_
        refine xl_i (y := fdv p0 8) (by rw [ex_17]; rfl) ?_
        refine xc_Vv (wr := [(h0, .inr (8, [.ref qh, .ref qk, .ref qd, .int b0, .ref qa, .ref qm, .ref qs, .ref qp, .ref ql, .ref qt, .ref qz, .ref qf])), (qf, .inl (cI, 7, .inl ff))]) hF (c_X7_addByte l D cI cJ cZ cS ta sa sv s.heap.size qt tb z s9 x9 v9 tk t9 by9 (fdv p0 8) (by omega)) kv_X8_278 ⟨rfl, rfl, Nat.le_of_ble_eq_true rfl, Nat.le_of_ble_eq_true rfl⟩ ⟨Nat.le_of_ble_eq_true rfl, Nat.le_of_ble_eq_true rfl⟩ hK hN hZ hP hD hS hA [1, 2] [0, 3] rfl rfl rfl rfl (by decide) 0 rfl rfl rfl rfl hl.1 rfl (Nat.le_of_ble_eq_true rfl) dX8_feed_59 (fun u_r_18 H locs hw_r_18 hP hD hS => ?_)
        obtain ⟨y2_19, rfl⟩ : ∃ z, z = u_r_18 := ⟨_, rfl⟩
        try dsimp only at hw_r_18
        have i_20 := hw_r_18
        have hP : va_P D vwCl [(h0, .inr (8, [.ref qh, .ref qk, .ref qd, .int b0, .ref qa, .ref qm, .ref qs, .ref qp, .ref ql, .ref qt, .ref qz, .ref qf])), (qf, .inl (cI, 7, .inl ff)), (qt, .inr (7, [.int (nI (z + 1)), .ref tb, .int tk, .int (nI (s9)), .int (nI (x9)), .int (nI (v9)), .int t9])), (tb, .inl (cI, 120, .inl y2_19))] H := hP
        have hD : va_D A [(h0, .inr (8, [.ref qh, .ref qk, .ref qd, .int b0, .ref qa, .ref qm, .ref qs, .ref qp, .ref ql, .ref qt, .ref qz, .ref qf])), (qf, .inl (cI, 7, .inl ff)), (qt, .inr (7, [.int (nI (z + 1)), .ref tb, .int tk, .int (nI (s9)), .int (nI (x9)), .int (nI (v9)), .int t9])), (tb, .inl (cI, 120, .inl y2_19))] := hD
        refine lv_iinc (v := 0) (lv' := [(3, .int 0), (0, .ref h0), (1, .int p0), (2, .int 2)]) hx hb dX8_feed_62 hl (k := 0) rfl (by decide) (by decide) rfl (fun ls hl => ?_)
        refine lv_goto (tgt := 41) hx hb dX8_feed_65 (by decide) ?_
        refine lv_iload_n hx hb dX8_feed_41 rfl (lv_at hl 0 rfl) ?_
        refine lv_if_lt (tgt := 68) hx hb dX8_feed_42 (by decide) (fun c_21 => absurd c_21 (by decide)) (fun c_21 => ?_)
        refine lv_aload_n hx hb dX8_feed_45 rfl (lv_at hl 1 rfl) ?_
        refine xg hF kf_X8_60 hK hP 0 rfl rfl dX8_feed_46 ?_
        refine lv_iload_n hx hb dX8_feed_49 rfl (lv_at hl 2 rfl) ?_
        refine lv_bipush (v := 8) hx hb dX8_feed_50 (by decide) ?_
        refine lv_iload_n hx hb dX8_feed_52 rfl (lv_at hl 0 rfl) ?_
        refine lv_imul hx hb dX8_feed_53 ?_
        refine xl_i (y := 0) (by decide) ?_
        refine lv_iushr hx hb dX8_feed_54 rfl ?_
        refine lv_topi (fun x_22 ex_22 => ?_)
        refine lv_sipush (v := 255) hx hb dX8_feed_55 (by decide) ?_
        refine lv_iand hx hb dX8_feed_58 ?_
        refine xl_i (y := fdv p0 0) (by rw [ex_22]; rfl) ?_
        refine xc_Vv (wr := [(h0, .inr (8, [.ref qh, .ref qk, .ref qd, .int b0, .ref qa, .ref qm, .ref qs, .ref qp, .ref ql, .ref qt, .ref qz, .ref qf])), (qf, .inl (cI, 7, .inl ff))]) hF (c_X7_addByte l D cI cJ cZ cS ta sa sv H.size qt tb (z + 1) s9 x9 v9 tk t9 y2_19 (fdv p0 0) (by omega)) kv_X8_278 ⟨rfl, rfl, Nat.le_of_ble_eq_true rfl, Nat.le_of_ble_eq_true rfl⟩ ⟨Nat.le_of_ble_eq_true rfl, Nat.le_of_ble_eq_true rfl⟩ hK hN hZ hP hD hS hA [2, 3] [0, 1] rfl rfl rfl rfl (by decide) 0 rfl rfl rfl rfl hl.1 rfl (Nat.le_of_ble_eq_true rfl) dX8_feed_59 (fun u_r_23 H locs hw_r_23 hP hD hS => ?_)
        obtain ⟨y2_24, rfl⟩ : ∃ z, z = u_r_23 := ⟨_, rfl⟩
        try dsimp only at hw_r_23
        have i_25 := hw_r_23
        have hP : va_P D vwCl [(h0, .inr (8, [.ref qh, .ref qk, .ref qd, .int b0, .ref qa, .ref qm, .ref qs, .ref qp, .ref ql, .ref qt, .ref qz, .ref qf])), (qf, .inl (cI, 7, .inl ff)), (qt, .inr (7, [.int (nI ((z + 1) + 1)), .ref tb, .int tk, .int (nI (s9)), .int (nI (x9)), .int (nI (v9)), .int t9])), (tb, .inl (cI, 120, .inl y2_24))] H := hP
        have hD : va_D A [(h0, .inr (8, [.ref qh, .ref qk, .ref qd, .int b0, .ref qa, .ref qm, .ref qs, .ref qp, .ref ql, .ref qt, .ref qz, .ref qf])), (qf, .inl (cI, 7, .inl ff)), (qt, .inr (7, [.int (nI ((z + 1) + 1)), .ref tb, .int tk, .int (nI (s9)), .int (nI (x9)), .int (nI (v9)), .int t9])), (tb, .inl (cI, 120, .inl y2_24))] := hD
        refine lv_iinc (v := (-1)) (lv' := [(3, .int (-1)), (0, .ref h0), (1, .int p0), (2, .int 2)]) hx hb dX8_feed_62 hl (k := 0) rfl (by decide) (by decide) rfl (fun ls hl => ?_)
        refine lv_goto (tgt := 41) hx hb dX8_feed_65 (by decide) ?_
        refine lv_iload_n hx hb dX8_feed_41 rfl (lv_at hl 0 rfl) ?_
        refine lv_if_lt (tgt := 68) hx hb dX8_feed_42 (by decide) (fun c_26 => ?_) (fun c_26 => absurd (by decide) c_26)
        refine lv_aload_n hx hb dX8_feed_68 rfl (lv_at hl 1 rfl) ?_
        refine xg hF kf_X8_60 hK hP 0 rfl rfl dX8_feed_69 ?_
        refine xg hF kf_X8_275 hK hP 2 rfl rfl dX8_feed_72 ?_
        exact W.iret (v := nI ((z + 1) + 1)) hx hb hr (fun t ht hW => ⟨⟨nI ((z + 1) + 1), ((z + 1) + 1, y2_24, ff), rfl, ⟨(sp_f1 (p := 2) (c := 2) (by decide) (by decide) (by omega)).2.symm, (sp_f1 (p := 2) (c := 2) (by decide) (by decide) (by omega)).1.symm, (by rw [i_25, i_20]; exact fdT_2 (by omega)), (by first | assumption | omega)⟩, by rw [ht]; exact hP.sub [0, 2, 3, 1] rfl, hD.sub [0, 2, 3, 1] (by decide) rfl⟩, hS.F ht⟩) hS.2.2 dX8_feed_75 hlk
      · skip
        have nc_15 : 120 < z + 2 := xn_nle (a := (z + 2)) (b := 120) (by omega) (by omega) c_15
        refine lv_aload_n hx hb dX8_feed_30 rfl (lv_at hl 0 rfl) ?_
        refine lv_ldc (v := (-1000000002)) hx hb hown (hu _ uw419) dX8_feed_31 ?_
        refine xc_Vi (wr := [(qt, .inr (7, [.int (nI (z)), .ref tb, .int tk, .int (nI (s9)), .int (nI (x9)), .int (nI (v9)), .int t9])), (tb, .inl (cI, 120, .inl by9))]) hF (c_X8_finding_F l D cI cJ cZ cS ta sa sv s.heap.size h0 qh qk qd b0 qa qm qs qp ql qt qz qf ff ) kv_X8_80 ⟨rfl, rfl, Nat.le_of_ble_eq_true rfl, Nat.le_of_ble_eq_true rfl⟩ ⟨Nat.le_of_ble_eq_true rfl, Nat.le_of_ble_eq_true rfl⟩ hK hN hZ hP hD hS hA [0, 3] [1, 2] rfl rfl rfl rfl (by decide) 0 rfl rfl rfl rfl hl.1 rfl (Nat.le_of_ble_eq_true rfl) dX8_feed_33 (fun r_27 u_r_27 H locs hw_r_27 hP hD hS => ?_)
        obtain ⟨f2_28, rfl⟩ : ∃ z, z = u_r_27 := ⟨_, rfl⟩
        try dsimp only at hw_r_27
        have hP : va_P D vwCl [(qt, .inr (7, [.int (nI (z)), .ref tb, .int tk, .int (nI (s9)), .int (nI (x9)), .int (nI (v9)), .int t9])), (tb, .inl (cI, 120, .inl by9)), (h0, .inr (8, [.ref qh, .ref qk, .ref qd, .int b0, .ref qa, .ref qm, .ref qs, .ref qp, .ref ql, .ref qt, .ref qz, .ref qf])), (qf, .inl (cI, 7, .inl f2_28))] H := hP
        have hD : va_D A [(qt, .inr (7, [.int (nI (z)), .ref tb, .int tk, .int (nI (s9)), .int (nI (x9)), .int (nI (v9)), .int t9])), (tb, .inl (cI, 120, .inl by9)), (h0, .inr (8, [.ref qh, .ref qk, .ref qd, .int b0, .ref qa, .ref qm, .ref qs, .ref qp, .ref ql, .ref qt, .ref qz, .ref qf])), (qf, .inl (cI, 7, .inl f2_28))] := hD
        subst hw_r_27
        exact W.iret (v := (-1000000002)) hx hb hr (fun t ht hW => ⟨⟨(-1000000002), (z, by9, f2_28), rfl, ⟨(sp_f2 (p := 2) (c := 2) (by decide) (by decide) (by omega)).2.symm, (sp_f2 (p := 2) (c := 2) (by decide) (by decide) (by omega)).1.symm, fdT_f2 (by omega), (by first | assumption | omega)⟩, by rw [ht]; exact hP.sub [2, 0, 1, 3] rfl, hD.sub [2, 0, 1, 3] (by decide) rfl⟩, hS.F ht⟩) hS.2.2 dX8_feed_36 hlk
    · skip
      refine lv_aload_n hx hb dX8_feed_16 rfl (lv_at hl 0 rfl) ?_
      refine xg hF kf_X8_60 hK hP 0 rfl rfl dX8_feed_17 ?_
      refine xg hF kf_X8_275 hK hP 1 rfl rfl dX8_feed_20 ?_
      refine lv_iload_n hx hb dX8_feed_23 rfl (lv_at hl 2 rfl) ?_
      refine lv_iadd hx hb dX8_feed_24 ?_
      refine xl_i (y := nI (z + 3)) (nI_add z 3) ?_
      refine lv_bipush (v := 120) hx hb dX8_feed_25 (by decide) ?_
      refine lv_icmp_le (tgt := 37) hx hb dX8_feed_27 (by decide) (fun c_29 => ?_) (fun c_29 => ?_)
      · skip
        have nc_29 : z + 3 ≤ 120 := xn_le (a := (z + 3)) (b := 120) (by omega) (by omega) c_29
        refine lv_iload_n hx hb dX8_feed_37 rfl (lv_at hl 2 rfl) ?_
        refine lv_iconst (v := 1) hx hb dX8_feed_38 (by decide) ?_
        refine lv_isub hx hb dX8_feed_39 ?_
        refine xl_i (y := 2) (by decide) ?_
        refine lv_istore_n (lv' := [(3, .int 2), (0, .ref h0), (1, .int p0), (2, .int 3)]) hx hb dX8_feed_40 rfl hl (by decide) rfl (fun ls hl => ?_)
        refine lv_iload_n hx hb dX8_feed_41 rfl (lv_at hl 0 rfl) ?_
        refine lv_if_lt (tgt := 68) hx hb dX8_feed_42 (by decide) (fun c_30 => absurd c_30 (by decide)) (fun c_30 => ?_)
        refine lv_aload_n hx hb dX8_feed_45 rfl (lv_at hl 1 rfl) ?_
        refine xg hF kf_X8_60 hK hP 0 rfl rfl dX8_feed_46 ?_
        refine lv_iload_n hx hb dX8_feed_49 rfl (lv_at hl 2 rfl) ?_
        refine lv_bipush (v := 8) hx hb dX8_feed_50 (by decide) ?_
        refine lv_iload_n hx hb dX8_feed_52 rfl (lv_at hl 0 rfl) ?_
        refine lv_imul hx hb dX8_feed_53 ?_
        refine xl_i (y := 16) (by decide) ?_
        refine lv_iushr hx hb dX8_feed_54 rfl ?_
        refine lv_topi (fun x_31 ex_31 => ?_)
        refine lv_sipush (v := 255) hx hb dX8_feed_55 (by decide) ?_
        refine lv_iand hx hb dX8_feed_58 ?_
        refine xl_i (y := fdv p0 16) (by rw [ex_31]; rfl) ?_
        refine xc_Vv (wr := [(h0, .inr (8, [.ref qh, .ref qk, .ref qd, .int b0, .ref qa, .ref qm, .ref qs, .ref qp, .ref ql, .ref qt, .ref qz, .ref qf])), (qf, .inl (cI, 7, .inl ff))]) hF (c_X7_addByte l D cI cJ cZ cS ta sa sv s.heap.size qt tb z s9 x9 v9 tk t9 by9 (fdv p0 16) (by omega)) kv_X8_278 ⟨rfl, rfl, Nat.le_of_ble_eq_true rfl, Nat.le_of_ble_eq_true rfl⟩ ⟨Nat.le_of_ble_eq_true rfl, Nat.le_of_ble_eq_true rfl⟩ hK hN hZ hP hD hS hA [1, 2] [0, 3] rfl rfl rfl rfl (by decide) 0 rfl rfl rfl rfl hl.1 rfl (Nat.le_of_ble_eq_true rfl) dX8_feed_59 (fun u_r_32 H locs hw_r_32 hP hD hS => ?_)
        obtain ⟨y2_33, rfl⟩ : ∃ z, z = u_r_32 := ⟨_, rfl⟩
        try dsimp only at hw_r_32
        have i_34 := hw_r_32
        have hP : va_P D vwCl [(h0, .inr (8, [.ref qh, .ref qk, .ref qd, .int b0, .ref qa, .ref qm, .ref qs, .ref qp, .ref ql, .ref qt, .ref qz, .ref qf])), (qf, .inl (cI, 7, .inl ff)), (qt, .inr (7, [.int (nI (z + 1)), .ref tb, .int tk, .int (nI (s9)), .int (nI (x9)), .int (nI (v9)), .int t9])), (tb, .inl (cI, 120, .inl y2_33))] H := hP
        have hD : va_D A [(h0, .inr (8, [.ref qh, .ref qk, .ref qd, .int b0, .ref qa, .ref qm, .ref qs, .ref qp, .ref ql, .ref qt, .ref qz, .ref qf])), (qf, .inl (cI, 7, .inl ff)), (qt, .inr (7, [.int (nI (z + 1)), .ref tb, .int tk, .int (nI (s9)), .int (nI (x9)), .int (nI (v9)), .int t9])), (tb, .inl (cI, 120, .inl y2_33))] := hD
        refine lv_iinc (v := 1) (lv' := [(3, .int 1), (0, .ref h0), (1, .int p0), (2, .int 3)]) hx hb dX8_feed_62 hl (k := 0) rfl (by decide) (by decide) rfl (fun ls hl => ?_)
        refine lv_goto (tgt := 41) hx hb dX8_feed_65 (by decide) ?_
        refine lv_iload_n hx hb dX8_feed_41 rfl (lv_at hl 0 rfl) ?_
        refine lv_if_lt (tgt := 68) hx hb dX8_feed_42 (by decide) (fun c_35 => absurd c_35 (by decide)) (fun c_35 => ?_)
        refine lv_aload_n hx hb dX8_feed_45 rfl (lv_at hl 1 rfl) ?_
        refine xg hF kf_X8_60 hK hP 0 rfl rfl dX8_feed_46 ?_
        refine lv_iload_n hx hb dX8_feed_49 rfl (lv_at hl 2 rfl) ?_
        refine lv_bipush (v := 8) hx hb dX8_feed_50 (by decide) ?_
        refine lv_iload_n hx hb dX8_feed_52 rfl (lv_at hl 0 rfl) ?_
        refine lv_imul hx hb dX8_feed_53 ?_
        refine xl_i (y := 8) (by decide) ?_
        refine lv_iushr hx hb dX8_feed_54 rfl ?_
        refine lv_topi (fun x_36 ex_36 => ?_)
        refine lv_sipush (v := 255) hx hb dX8_feed_55 (by decide) ?_
        refine lv_iand hx hb dX8_feed_58 ?_
        refine xl_i (y := fdv p0 8) (by rw [ex_36]; rfl) ?_
        refine xc_Vv (wr := [(h0, .inr (8, [.ref qh, .ref qk, .ref qd, .int b0, .ref qa, .ref qm, .ref qs, .ref qp, .ref ql, .ref qt, .ref qz, .ref qf])), (qf, .inl (cI, 7, .inl ff))]) hF (c_X7_addByte l D cI cJ cZ cS ta sa sv H.size qt tb (z + 1) s9 x9 v9 tk t9 y2_33 (fdv p0 8) (by omega)) kv_X8_278 ⟨rfl, rfl, Nat.le_of_ble_eq_true rfl, Nat.le_of_ble_eq_true rfl⟩ ⟨Nat.le_of_ble_eq_true rfl, Nat.le_of_ble_eq_true rfl⟩ hK hN hZ hP hD hS hA [2, 3] [0, 1] rfl rfl rfl rfl (by decide) 0 rfl rfl rfl rfl hl.1 rfl (Nat.le_of_ble_eq_true rfl) dX8_feed_59 (fun u_r_37 H locs hw_r_37 hP hD hS => ?_)
        obtain ⟨y2_38, rfl⟩ : ∃ z, z = u_r_37 := ⟨_, rfl⟩
        try dsimp only at hw_r_37
        have i_39 := hw_r_37
        have hP : va_P D vwCl [(h0, .inr (8, [.ref qh, .ref qk, .ref qd, .int b0, .ref qa, .ref qm, .ref qs, .ref qp, .ref ql, .ref qt, .ref qz, .ref qf])), (qf, .inl (cI, 7, .inl ff)), (qt, .inr (7, [.int (nI ((z + 1) + 1)), .ref tb, .int tk, .int (nI (s9)), .int (nI (x9)), .int (nI (v9)), .int t9])), (tb, .inl (cI, 120, .inl y2_38))] H := hP
        have hD : va_D A [(h0, .inr (8, [.ref qh, .ref qk, .ref qd, .int b0, .ref qa, .ref qm, .ref qs, .ref qp, .ref ql, .ref qt, .ref qz, .ref qf])), (qf, .inl (cI, 7, .inl ff)), (qt, .inr (7, [.int (nI ((z + 1) + 1)), .ref tb, .int tk, .int (nI (s9)), .int (nI (x9)), .int (nI (v9)), .int t9])), (tb, .inl (cI, 120, .inl y2_38))] := hD
        refine lv_iinc (v := 0) (lv' := [(3, .int 0), (0, .ref h0), (1, .int p0), (2, .int 3)]) hx hb dX8_feed_62 hl (k := 0) rfl (by decide) (by decide) rfl (fun ls hl => ?_)
        refine lv_goto (tgt := 41) hx hb dX8_feed_65 (by decide) ?_
        refine lv_iload_n hx hb dX8_feed_41 rfl (lv_at hl 0 rfl) ?_
        refine lv_if_lt (tgt := 68) hx hb dX8_feed_42 (by decide) (fun c_40 => absurd c_40 (by decide)) (fun c_40 => ?_)
        refine lv_aload_n hx hb dX8_feed_45 rfl (lv_at hl 1 rfl) ?_
        refine xg hF kf_X8_60 hK hP 0 rfl rfl dX8_feed_46 ?_
        refine lv_iload_n hx hb dX8_feed_49 rfl (lv_at hl 2 rfl) ?_
        refine lv_bipush (v := 8) hx hb dX8_feed_50 (by decide) ?_
        refine lv_iload_n hx hb dX8_feed_52 rfl (lv_at hl 0 rfl) ?_
        refine lv_imul hx hb dX8_feed_53 ?_
        refine xl_i (y := 0) (by decide) ?_
        refine lv_iushr hx hb dX8_feed_54 rfl ?_
        refine lv_topi (fun x_41 ex_41 => ?_)
        refine lv_sipush (v := 255) hx hb dX8_feed_55 (by decide) ?_
        refine lv_iand hx hb dX8_feed_58 ?_
        refine xl_i (y := fdv p0 0) (by rw [ex_41]; rfl) ?_
        refine xc_Vv (wr := [(h0, .inr (8, [.ref qh, .ref qk, .ref qd, .int b0, .ref qa, .ref qm, .ref qs, .ref qp, .ref ql, .ref qt, .ref qz, .ref qf])), (qf, .inl (cI, 7, .inl ff))]) hF (c_X7_addByte l D cI cJ cZ cS ta sa sv H.size qt tb ((z + 1) + 1) s9 x9 v9 tk t9 y2_38 (fdv p0 0) (by omega)) kv_X8_278 ⟨rfl, rfl, Nat.le_of_ble_eq_true rfl, Nat.le_of_ble_eq_true rfl⟩ ⟨Nat.le_of_ble_eq_true rfl, Nat.le_of_ble_eq_true rfl⟩ hK hN hZ hP hD hS hA [2, 3] [0, 1] rfl rfl rfl rfl (by decide) 0 rfl rfl rfl rfl hl.1 rfl (Nat.le_of_ble_eq_true rfl) dX8_feed_59 (fun u_r_42 H locs hw_r_42 hP hD hS => ?_)
        obtain ⟨y2_43, rfl⟩ : ∃ z, z = u_r_42 := ⟨_, rfl⟩
        try dsimp only at hw_r_42
        have i_44 := hw_r_42
        have hP : va_P D vwCl [(h0, .inr (8, [.ref qh, .ref qk, .ref qd, .int b0, .ref qa, .ref qm, .ref qs, .ref qp, .ref ql, .ref qt, .ref qz, .ref qf])), (qf, .inl (cI, 7, .inl ff)), (qt, .inr (7, [.int (nI (((z + 1) + 1) + 1)), .ref tb, .int tk, .int (nI (s9)), .int (nI (x9)), .int (nI (v9)), .int t9])), (tb, .inl (cI, 120, .inl y2_43))] H := hP
        have hD : va_D A [(h0, .inr (8, [.ref qh, .ref qk, .ref qd, .int b0, .ref qa, .ref qm, .ref qs, .ref qp, .ref ql, .ref qt, .ref qz, .ref qf])), (qf, .inl (cI, 7, .inl ff)), (qt, .inr (7, [.int (nI (((z + 1) + 1) + 1)), .ref tb, .int tk, .int (nI (s9)), .int (nI (x9)), .int (nI (v9)), .int t9])), (tb, .inl (cI, 120, .inl y2_43))] := hD
        refine lv_iinc (v := (-1)) (lv' := [(3, .int (-1)), (0, .ref h0), (1, .int p0), (2, .int 3)]) hx hb dX8_feed_62 hl (k := 0) rfl (by decide) (by decide) rfl (fun ls hl => ?_)
        refine lv_goto (tgt := 41) hx hb dX8_feed_65 (by decide) ?_
        refine lv_iload_n hx hb dX8_feed_41 rfl (lv_at hl 0 rfl) ?_
        refine lv_if_lt (tgt := 68) hx hb dX8_feed_42 (by decide) (fun c_45 => ?_) (fun c_45 => absurd (by decide) c_45)
        refine lv_aload_n hx hb dX8_feed_68 rfl (lv_at hl 1 rfl) ?_
        refine xg hF kf_X8_60 hK hP 0 rfl rfl dX8_feed_69 ?_
        refine xg hF kf_X8_275 hK hP 2 rfl rfl dX8_feed_72 ?_
        exact W.iret (v := nI (((z + 1) + 1) + 1)) hx hb hr (fun t ht hW => ⟨⟨nI (((z + 1) + 1) + 1), (((z + 1) + 1) + 1, y2_43, ff), rfl, ⟨(sp_f1 (p := 3) (c := 3) (by decide) (by decide) (by omega)).2.symm, (sp_f1 (p := 3) (c := 3) (by decide) (by decide) (by omega)).1.symm, (by rw [i_44, i_39, i_34]; exact fdT_3 (by omega)), (by first | assumption | omega)⟩, by rw [ht]; exact hP.sub [0, 2, 3, 1] rfl, hD.sub [0, 2, 3, 1] (by decide) rfl⟩, hS.F ht⟩) hS.2.2 dX8_feed_75 hlk
      · skip
        have nc_29 : 120 < z + 3 := xn_nle (a := (z + 3)) (b := 120) (by omega) (by omega) c_29
        refine lv_aload_n hx hb dX8_feed_30 rfl (lv_at hl 0 rfl) ?_
        refine lv_ldc (v := (-1000000002)) hx hb hown (hu _ uw419) dX8_feed_31 ?_
        refine xc_Vi (wr := [(qt, .inr (7, [.int (nI (z)), .ref tb, .int tk, .int (nI (s9)), .int (nI (x9)), .int (nI (v9)), .int t9])), (tb, .inl (cI, 120, .inl by9))]) hF (c_X8_finding_F l D cI cJ cZ cS ta sa sv s.heap.size h0 qh qk qd b0 qa qm qs qp ql qt qz qf ff ) kv_X8_80 ⟨rfl, rfl, Nat.le_of_ble_eq_true rfl, Nat.le_of_ble_eq_true rfl⟩ ⟨Nat.le_of_ble_eq_true rfl, Nat.le_of_ble_eq_true rfl⟩ hK hN hZ hP hD hS hA [0, 3] [1, 2] rfl rfl rfl rfl (by decide) 0 rfl rfl rfl rfl hl.1 rfl (Nat.le_of_ble_eq_true rfl) dX8_feed_33 (fun r_46 u_r_46 H locs hw_r_46 hP hD hS => ?_)
        obtain ⟨f2_47, rfl⟩ : ∃ z, z = u_r_46 := ⟨_, rfl⟩
        try dsimp only at hw_r_46
        have hP : va_P D vwCl [(qt, .inr (7, [.int (nI (z)), .ref tb, .int tk, .int (nI (s9)), .int (nI (x9)), .int (nI (v9)), .int t9])), (tb, .inl (cI, 120, .inl by9)), (h0, .inr (8, [.ref qh, .ref qk, .ref qd, .int b0, .ref qa, .ref qm, .ref qs, .ref qp, .ref ql, .ref qt, .ref qz, .ref qf])), (qf, .inl (cI, 7, .inl f2_47))] H := hP
        have hD : va_D A [(qt, .inr (7, [.int (nI (z)), .ref tb, .int tk, .int (nI (s9)), .int (nI (x9)), .int (nI (v9)), .int t9])), (tb, .inl (cI, 120, .inl by9)), (h0, .inr (8, [.ref qh, .ref qk, .ref qd, .int b0, .ref qa, .ref qm, .ref qs, .ref qp, .ref ql, .ref qt, .ref qz, .ref qf])), (qf, .inl (cI, 7, .inl f2_47))] := hD
        subst hw_r_46
        exact W.iret (v := (-1000000002)) hx hb hr (fun t ht hW => ⟨⟨(-1000000002), (z, by9, f2_47), rfl, ⟨(sp_f2 (p := 3) (c := 3) (by decide) (by decide) (by omega)).2.symm, (sp_f2 (p := 3) (c := 3) (by decide) (by decide) (by omega)).1.symm, fdT_f3 (by omega), (by first | assumption | omega)⟩, by rw [ht]; exact hP.sub [2, 0, 1, 3] rfl, hD.sub [2, 0, 1, 3] (by decide) rfl⟩, hS.F ht⟩) hS.2.2 dX8_feed_36 hlk
    · skip
      refine lv_aload_n hx hb dX8_feed_16 rfl (lv_at hl 0 rfl) ?_
      refine xg hF kf_X8_60 hK hP 0 rfl rfl dX8_feed_17 ?_
      refine xg hF kf_X8_275 hK hP 1 rfl rfl dX8_feed_20 ?_
      refine lv_iload_n hx hb dX8_feed_23 rfl (lv_at hl 2 rfl) ?_
      refine lv_iadd hx hb dX8_feed_24 ?_
      refine xl_i (y := nI (z + 4)) (nI_add z 4) ?_
      refine lv_bipush (v := 120) hx hb dX8_feed_25 (by decide) ?_
      refine lv_icmp_le (tgt := 37) hx hb dX8_feed_27 (by decide) (fun c_48 => ?_) (fun c_48 => ?_)
      · skip
        have nc_48 : z + 4 ≤ 120 := xn_le (a := (z + 4)) (b := 120) (by omega) (by omega) c_48
        refine lv_iload_n hx hb dX8_feed_37 rfl (lv_at hl 2 rfl) ?_
        refine lv_iconst (v := 1) hx hb dX8_feed_38 (by decide) ?_
        refine lv_isub hx hb dX8_feed_39 ?_
        refine xl_i (y := 3) (by decide) ?_
        refine lv_istore_n (lv' := [(3, .int 3), (0, .ref h0), (1, .int p0), (2, .int 4)]) hx hb dX8_feed_40 rfl hl (by decide) rfl (fun ls hl => ?_)
        refine lv_iload_n hx hb dX8_feed_41 rfl (lv_at hl 0 rfl) ?_
        refine lv_if_lt (tgt := 68) hx hb dX8_feed_42 (by decide) (fun c_49 => absurd c_49 (by decide)) (fun c_49 => ?_)
        refine lv_aload_n hx hb dX8_feed_45 rfl (lv_at hl 1 rfl) ?_
        refine xg hF kf_X8_60 hK hP 0 rfl rfl dX8_feed_46 ?_
        refine lv_iload_n hx hb dX8_feed_49 rfl (lv_at hl 2 rfl) ?_
        refine lv_bipush (v := 8) hx hb dX8_feed_50 (by decide) ?_
        refine lv_iload_n hx hb dX8_feed_52 rfl (lv_at hl 0 rfl) ?_
        refine lv_imul hx hb dX8_feed_53 ?_
        refine xl_i (y := 24) (by decide) ?_
        refine lv_iushr hx hb dX8_feed_54 rfl ?_
        refine lv_topi (fun x_50 ex_50 => ?_)
        refine lv_sipush (v := 255) hx hb dX8_feed_55 (by decide) ?_
        refine lv_iand hx hb dX8_feed_58 ?_
        refine xl_i (y := fdv p0 24) (by rw [ex_50]; rfl) ?_
        refine xc_Vv (wr := [(h0, .inr (8, [.ref qh, .ref qk, .ref qd, .int b0, .ref qa, .ref qm, .ref qs, .ref qp, .ref ql, .ref qt, .ref qz, .ref qf])), (qf, .inl (cI, 7, .inl ff))]) hF (c_X7_addByte l D cI cJ cZ cS ta sa sv s.heap.size qt tb z s9 x9 v9 tk t9 by9 (fdv p0 24) (by omega)) kv_X8_278 ⟨rfl, rfl, Nat.le_of_ble_eq_true rfl, Nat.le_of_ble_eq_true rfl⟩ ⟨Nat.le_of_ble_eq_true rfl, Nat.le_of_ble_eq_true rfl⟩ hK hN hZ hP hD hS hA [1, 2] [0, 3] rfl rfl rfl rfl (by decide) 0 rfl rfl rfl rfl hl.1 rfl (Nat.le_of_ble_eq_true rfl) dX8_feed_59 (fun u_r_51 H locs hw_r_51 hP hD hS => ?_)
        obtain ⟨y2_52, rfl⟩ : ∃ z, z = u_r_51 := ⟨_, rfl⟩
        try dsimp only at hw_r_51
        have i_53 := hw_r_51
        have hP : va_P D vwCl [(h0, .inr (8, [.ref qh, .ref qk, .ref qd, .int b0, .ref qa, .ref qm, .ref qs, .ref qp, .ref ql, .ref qt, .ref qz, .ref qf])), (qf, .inl (cI, 7, .inl ff)), (qt, .inr (7, [.int (nI (z + 1)), .ref tb, .int tk, .int (nI (s9)), .int (nI (x9)), .int (nI (v9)), .int t9])), (tb, .inl (cI, 120, .inl y2_52))] H := hP
        have hD : va_D A [(h0, .inr (8, [.ref qh, .ref qk, .ref qd, .int b0, .ref qa, .ref qm, .ref qs, .ref qp, .ref ql, .ref qt, .ref qz, .ref qf])), (qf, .inl (cI, 7, .inl ff)), (qt, .inr (7, [.int (nI (z + 1)), .ref tb, .int tk, .int (nI (s9)), .int (nI (x9)), .int (nI (v9)), .int t9])), (tb, .inl (cI, 120, .inl y2_52))] := hD
        refine lv_iinc (v := 2) (lv' := [(3, .int 2), (0, .ref h0), (1, .int p0), (2, .int 4)]) hx hb dX8_feed_62 hl (k := 0) rfl (by decide) (by decide) rfl (fun ls hl => ?_)
        refine lv_goto (tgt := 41) hx hb dX8_feed_65 (by decide) ?_
        refine lv_iload_n hx hb dX8_feed_41 rfl (lv_at hl 0 rfl) ?_
        refine lv_if_lt (tgt := 68) hx hb dX8_feed_42 (by decide) (fun c_54 => absurd c_54 (by decide)) (fun c_54 => ?_)
        refine lv_aload_n hx hb dX8_feed_45 rfl (lv_at hl 1 rfl) ?_
        refine xg hF kf_X8_60 hK hP 0 rfl rfl dX8_feed_46 ?_
        refine lv_iload_n hx hb dX8_feed_49 rfl (lv_at hl 2 rfl) ?_
        refine lv_bipush (v := 8) hx hb dX8_feed_50 (by decide) ?_
        refine lv_iload_n hx hb dX8_feed_52 rfl (lv_at hl 0 rfl) ?_
        refine lv_imul hx hb dX8_feed_53 ?_
        refine xl_i (y := 16) (by decide) ?_
        refine lv_iushr hx hb dX8_feed_54 rfl ?_
        refine lv_topi (fun x_55 ex_55 => ?_)
        refine lv_sipush (v := 255) hx hb dX8_feed_55 (by decide) ?_
        refine lv_iand hx hb dX8_feed_58 ?_
        refine xl_i (y := fdv p0 16) (by rw [ex_55]; rfl) ?_
        refine xc_Vv (wr := [(h0, .inr (8, [.ref qh, .ref qk, .ref qd, .int b0, .ref qa, .ref qm, .ref qs, .ref qp, .ref ql, .ref qt, .ref qz, .ref qf])), (qf, .inl (cI, 7, .inl ff))]) hF (c_X7_addByte l D cI cJ cZ cS ta sa sv H.size qt tb (z + 1) s9 x9 v9 tk t9 y2_52 (fdv p0 16) (by omega)) kv_X8_278 ⟨rfl, rfl, Nat.le_of_ble_eq_true rfl, Nat.le_of_ble_eq_true rfl⟩ ⟨Nat.le_of_ble_eq_true rfl, Nat.le_of_ble_eq_true rfl⟩ hK hN hZ hP hD hS hA [2, 3] [0, 1] rfl rfl rfl rfl (by decide) 0 rfl rfl rfl rfl hl.1 rfl (Nat.le_of_ble_eq_true rfl) dX8_feed_59 (fun u_r_56 H locs hw_r_56 hP hD hS => ?_)
        obtain ⟨y2_57, rfl⟩ : ∃ z, z = u_r_56 := ⟨_, rfl⟩
        try dsimp only at hw_r_56
        have i_58 := hw_r_56
        have hP : va_P D vwCl [(h0, .inr (8, [.ref qh, .ref qk, .ref qd, .int b0, .ref qa, .ref qm, .ref qs, .ref qp, .ref ql, .ref qt, .ref qz, .ref qf])), (qf, .inl (cI, 7, .inl ff)), (qt, .inr (7, [.int (nI ((z + 1) + 1)), .ref tb, .int tk, .int (nI (s9)), .int (nI (x9)), .int (nI (v9)), .int t9])), (tb, .inl (cI, 120, .inl y2_57))] H := hP
        have hD : va_D A [(h0, .inr (8, [.ref qh, .ref qk, .ref qd, .int b0, .ref qa, .ref qm, .ref qs, .ref qp, .ref ql, .ref qt, .ref qz, .ref qf])), (qf, .inl (cI, 7, .inl ff)), (qt, .inr (7, [.int (nI ((z + 1) + 1)), .ref tb, .int tk, .int (nI (s9)), .int (nI (x9)), .int (nI (v9)), .int t9])), (tb, .inl (cI, 120, .inl y2_57))] := hD
        refine lv_iinc (v := 1) (lv' := [(3, .int 1), (0, .ref h0), (1, .int p0), (2, .int 4)]) hx hb dX8_feed_62 hl (k := 0) rfl (by decide) (by decide) rfl (fun ls hl => ?_)
        refine lv_goto (tgt := 41) hx hb dX8_feed_65 (by decide) ?_
        refine lv_iload_n hx hb dX8_feed_41 rfl (lv_at hl 0 rfl) ?_
        refine lv_if_lt (tgt := 68) hx hb dX8_feed_42 (by decide) (fun c_59 => absurd c_59 (by decide)) (fun c_59 => ?_)
        refine lv_aload_n hx hb dX8_feed_45 rfl (lv_at hl 1 rfl) ?_
        refine xg hF kf_X8_60 hK hP 0 rfl rfl dX8_feed_46 ?_
        refine lv_iload_n hx hb dX8_feed_49 rfl (lv_at hl 2 rfl) ?_
        refine lv_bipush (v := 8) hx hb dX8_feed_50 (by decide) ?_
        refine lv_iload_n hx hb dX8_feed_52 rfl (lv_at hl 0 rfl) ?_
        refine lv_imul hx hb dX8_feed_53 ?_
        refine xl_i (y := 8) (by decide) ?_
        refine lv_iushr hx hb dX8_feed_54 rfl ?_
        refine lv_topi (fun x_60 ex_60 => ?_)
        refine lv_sipush (v := 255) hx hb dX8_feed_55 (by decide) ?_
        refine lv_iand hx hb dX8_feed_58 ?_
        refine xl_i (y := fdv p0 8) (by rw [ex_60]; rfl) ?_
        refine xc_Vv (wr := [(h0, .inr (8, [.ref qh, .ref qk, .ref qd, .int b0, .ref qa, .ref qm, .ref qs, .ref qp, .ref ql, .ref qt, .ref qz, .ref qf])), (qf, .inl (cI, 7, .inl ff))]) hF (c_X7_addByte l D cI cJ cZ cS ta sa sv H.size qt tb ((z + 1) + 1) s9 x9 v9 tk t9 y2_57 (fdv p0 8) (by omega)) kv_X8_278 ⟨rfl, rfl, Nat.le_of_ble_eq_true rfl, Nat.le_of_ble_eq_true rfl⟩ ⟨Nat.le_of_ble_eq_true rfl, Nat.le_of_ble_eq_true rfl⟩ hK hN hZ hP hD hS hA [2, 3] [0, 1] rfl rfl rfl rfl (by decide) 0 rfl rfl rfl rfl hl.1 rfl (Nat.le_of_ble_eq_true rfl) dX8_feed_59 (fun u_r_61 H locs hw_r_61 hP hD hS => ?_)
        obtain ⟨y2_62, rfl⟩ : ∃ z, z = u_r_61 := ⟨_, rfl⟩
        try dsimp only at hw_r_61
        have i_63 := hw_r_61
        have hP : va_P D vwCl [(h0, .inr (8, [.ref qh, .ref qk, .ref qd, .int b0, .ref qa, .ref qm, .ref qs, .ref qp, .ref ql, .ref qt, .ref qz, .ref qf])), (qf, .inl (cI, 7, .inl ff)), (qt, .inr (7, [.int (nI (((z + 1) + 1) + 1)), .ref tb, .int tk, .int (nI (s9)), .int (nI (x9)), .int (nI (v9)), .int t9])), (tb, .inl (cI, 120, .inl y2_62))] H := hP
        have hD : va_D A [(h0, .inr (8, [.ref qh, .ref qk, .ref qd, .int b0, .ref qa, .ref qm, .ref qs, .ref qp, .ref ql, .ref qt, .ref qz, .ref qf])), (qf, .inl (cI, 7, .inl ff)), (qt, .inr (7, [.int (nI (((z + 1) + 1) + 1)), .ref tb, .int tk, .int (nI (s9)), .int (nI (x9)), .int (nI (v9)), .int t9])), (tb, .inl (cI, 120, .inl y2_62))] := hD
        refine lv_iinc (v := 0) (lv' := [(3, .int 0), (0, .ref h0), (1, .int p0), (2, .int 4)]) hx hb dX8_feed_62 hl (k := 0) rfl (by decide) (by decide) rfl (fun ls hl => ?_)
        refine lv_goto (tgt := 41) hx hb dX8_feed_65 (by decide) ?_
        refine lv_iload_n hx hb dX8_feed_41 rfl (lv_at hl 0 rfl) ?_
        refine lv_if_lt (tgt := 68) hx hb dX8_feed_42 (by decide) (fun c_64 => absurd c_64 (by decide)) (fun c_64 => ?_)
        refine lv_aload_n hx hb dX8_feed_45 rfl (lv_at hl 1 rfl) ?_
        refine xg hF kf_X8_60 hK hP 0 rfl rfl dX8_feed_46 ?_
        refine lv_iload_n hx hb dX8_feed_49 rfl (lv_at hl 2 rfl) ?_
        refine lv_bipush (v := 8) hx hb dX8_feed_50 (by decide) ?_
        refine lv_iload_n hx hb dX8_feed_52 rfl (lv_at hl 0 rfl) ?_
        refine lv_imul hx hb dX8_feed_53 ?_
        refine xl_i (y := 0) (by decide) ?_
        refine lv_iushr hx hb dX8_feed_54 rfl ?_
        refine lv_topi (fun x_65 ex_65 => ?_)
        refine lv_sipush (v := 255) hx hb dX8_feed_55 (by decide) ?_
        refine lv_iand hx hb dX8_feed_58 ?_
        refine xl_i (y := fdv p0 0) (by rw [ex_65]; rfl) ?_
        refine xc_Vv (wr := [(h0, .inr (8, [.ref qh, .ref qk, .ref qd, .int b0, .ref qa, .ref qm, .ref qs, .ref qp, .ref ql, .ref qt, .ref qz, .ref qf])), (qf, .inl (cI, 7, .inl ff))]) hF (c_X7_addByte l D cI cJ cZ cS ta sa sv H.size qt tb (((z + 1) + 1) + 1) s9 x9 v9 tk t9 y2_62 (fdv p0 0) (by omega)) kv_X8_278 ⟨rfl, rfl, Nat.le_of_ble_eq_true rfl, Nat.le_of_ble_eq_true rfl⟩ ⟨Nat.le_of_ble_eq_true rfl, Nat.le_of_ble_eq_true rfl⟩ hK hN hZ hP hD hS hA [2, 3] [0, 1] rfl rfl rfl rfl (by decide) 0 rfl rfl rfl rfl hl.1 rfl (Nat.le_of_ble_eq_true rfl) dX8_feed_59 (fun u_r_66 H locs hw_r_66 hP hD hS => ?_)
        obtain ⟨y2_67, rfl⟩ : ∃ z, z = u_r_66 := ⟨_, rfl⟩
        try dsimp only at hw_r_66
        have i_68 := hw_r_66
        have hP : va_P D vwCl [(h0, .inr (8, [.ref qh, .ref qk, .ref qd, .int b0, .ref qa, .ref qm, .ref qs, .ref qp, .ref ql, .ref qt, .ref qz, .ref qf])), (qf, .inl (cI, 7, .inl ff)), (qt, .inr (7, [.int (nI ((((z + 1) + 1) + 1) + 1)), .ref tb, .int tk, .int (nI (s9)), .int (nI (x9)), .int (nI (v9)), .int t9])), (tb, .inl (cI, 120, .inl y2_67))] H := hP
        have hD : va_D A [(h0, .inr (8, [.ref qh, .ref qk, .ref qd, .int b0, .ref qa, .ref qm, .ref qs, .ref qp, .ref ql, .ref qt, .ref qz, .ref qf])), (qf, .inl (cI, 7, .inl ff)), (qt, .inr (7, [.int (nI ((((z + 1) + 1) + 1) + 1)), .ref tb, .int tk, .int (nI (s9)), .int (nI (x9)), .int (nI (v9)), .int t9])), (tb, .inl (cI, 120, .inl y2_67))] := hD
        refine lv_iinc (v := (-1)) (lv' := [(3, .int (-1)), (0, .ref h0), (1, .int p0), (2, .int 4)]) hx hb dX8_feed_62 hl (k := 0) rfl (by decide) (by decide) rfl (fun ls hl => ?_)
        refine lv_goto (tgt := 41) hx hb dX8_feed_65 (by decide) ?_
        refine lv_iload_n hx hb dX8_feed_41 rfl (lv_at hl 0 rfl) ?_
        refine lv_if_lt (tgt := 68) hx hb dX8_feed_42 (by decide) (fun c_69 => ?_) (fun c_69 => absurd (by decide) c_69)
        refine lv_aload_n hx hb dX8_feed_68 rfl (lv_at hl 1 rfl) ?_
        refine xg hF kf_X8_60 hK hP 0 rfl rfl dX8_feed_69 ?_
        refine xg hF kf_X8_275 hK hP 2 rfl rfl dX8_feed_72 ?_
        exact W.iret (v := nI ((((z + 1) + 1) + 1) + 1)) hx hb hr (fun t ht hW => ⟨⟨nI ((((z + 1) + 1) + 1) + 1), ((((z + 1) + 1) + 1) + 1, y2_67, ff), rfl, ⟨(sp_f1 (p := 4) (c := 4) (by decide) (by decide) (by omega)).2.symm, (sp_f1 (p := 4) (c := 4) (by decide) (by decide) (by omega)).1.symm, (by rw [i_68, i_63, i_58, i_53]; exact fdT_4 (by omega)), (by first | assumption | omega)⟩, by rw [ht]; exact hP.sub [0, 2, 3, 1] rfl, hD.sub [0, 2, 3, 1] (by decide) rfl⟩, hS.F ht⟩) hS.2.2 dX8_feed_75 hlk
      · skip
        have nc_48 : 120 < z + 4 := xn_nle (a := (z + 4)) (b := 120) (by omega) (by omega) c_48
        refine lv_aload_n hx hb dX8_feed_30 rfl (lv_at hl 0 rfl) ?_
        refine lv_ldc (v := (-1000000002)) hx hb hown (hu _ uw419) dX8_feed_31 ?_
        refine xc_Vi (wr := [(qt, .inr (7, [.int (nI (z)), .ref tb, .int tk, .int (nI (s9)), .int (nI (x9)), .int (nI (v9)), .int t9])), (tb, .inl (cI, 120, .inl by9))]) hF (c_X8_finding_F l D cI cJ cZ cS ta sa sv s.heap.size h0 qh qk qd b0 qa qm qs qp ql qt qz qf ff ) kv_X8_80 ⟨rfl, rfl, Nat.le_of_ble_eq_true rfl, Nat.le_of_ble_eq_true rfl⟩ ⟨Nat.le_of_ble_eq_true rfl, Nat.le_of_ble_eq_true rfl⟩ hK hN hZ hP hD hS hA [0, 3] [1, 2] rfl rfl rfl rfl (by decide) 0 rfl rfl rfl rfl hl.1 rfl (Nat.le_of_ble_eq_true rfl) dX8_feed_33 (fun r_70 u_r_70 H locs hw_r_70 hP hD hS => ?_)
        obtain ⟨f2_71, rfl⟩ : ∃ z, z = u_r_70 := ⟨_, rfl⟩
        try dsimp only at hw_r_70
        have hP : va_P D vwCl [(qt, .inr (7, [.int (nI (z)), .ref tb, .int tk, .int (nI (s9)), .int (nI (x9)), .int (nI (v9)), .int t9])), (tb, .inl (cI, 120, .inl by9)), (h0, .inr (8, [.ref qh, .ref qk, .ref qd, .int b0, .ref qa, .ref qm, .ref qs, .ref qp, .ref ql, .ref qt, .ref qz, .ref qf])), (qf, .inl (cI, 7, .inl f2_71))] H := hP
        have hD : va_D A [(qt, .inr (7, [.int (nI (z)), .ref tb, .int tk, .int (nI (s9)), .int (nI (x9)), .int (nI (v9)), .int t9])), (tb, .inl (cI, 120, .inl by9)), (h0, .inr (8, [.ref qh, .ref qk, .ref qd, .int b0, .ref qa, .ref qm, .ref qs, .ref qp, .ref ql, .ref qt, .ref qz, .ref qf])), (qf, .inl (cI, 7, .inl f2_71))] := hD
        subst hw_r_70
        exact W.iret (v := (-1000000002)) hx hb hr (fun t ht hW => ⟨⟨(-1000000002), (z, by9, f2_71), rfl, ⟨(sp_f2 (p := 4) (c := 4) (by decide) (by decide) (by omega)).2.symm, (sp_f2 (p := 4) (c := 4) (by decide) (by decide) (by omega)).1.symm, fdT_f4 (by omega), (by first | assumption | omega)⟩, by rw [ht]; exact hP.sub [2, 0, 1, 3] rfl, hD.sub [2, 0, 1, 3] (by decide) rfl⟩, hS.F ht⟩) hS.2.2 dX8_feed_36 hlk
  · skip
    refine lv_if_ne (tgt := 16) hx hb dX8_feed_6 (by decide) (fun c_72 => absurd (by decide) c_72) (fun c_72 => ?_)
    refine lv_aload_n hx hb dX8_feed_9 rfl (lv_at hl 0 rfl) ?_
    refine lv_ldc (v := (-1000000001)) hx hb hown (hu _ uw396) dX8_feed_10 ?_
    refine xc_Vi (wr := [(qt, .inr (7, [.int (nI (z)), .ref tb, .int tk, .int (nI (s9)), .int (nI (x9)), .int (nI (v9)), .int t9])), (tb, .inl (cI, 120, .inl by9))]) hF (c_X8_finding_B l D cI cJ cZ cS ta sa sv s.heap.size h0 qh qk qd b0 qa qm qs qp ql qt qz qf ff ) kv_X8_80 ⟨rfl, rfl, Nat.le_of_ble_eq_true rfl, Nat.le_of_ble_eq_true rfl⟩ ⟨Nat.le_of_ble_eq_true rfl, Nat.le_of_ble_eq_true rfl⟩ hK hN hZ hP hD hS hA [0, 3] [1, 2] rfl rfl rfl rfl (by decide) 0 rfl rfl rfl rfl hl.1 rfl (Nat.le_of_ble_eq_true rfl) dX8_feed_12 (fun r_73 u_r_73 H locs hw_r_73 hP hD hS => ?_)
    obtain ⟨f2_74, rfl⟩ : ∃ z, z = u_r_73 := ⟨_, rfl⟩
    try dsimp only at hw_r_73
    have hP : va_P D vwCl [(qt, .inr (7, [.int (nI (z)), .ref tb, .int tk, .int (nI (s9)), .int (nI (x9)), .int (nI (v9)), .int t9])), (tb, .inl (cI, 120, .inl by9)), (h0, .inr (8, [.ref qh, .ref qk, .ref qd, .int b0, .ref qa, .ref qm, .ref qs, .ref qp, .ref ql, .ref qt, .ref qz, .ref qf])), (qf, .inl (cI, 7, .inl f2_74))] H := hP
    have hD : va_D A [(qt, .inr (7, [.int (nI (z)), .ref tb, .int tk, .int (nI (s9)), .int (nI (x9)), .int (nI (v9)), .int t9])), (tb, .inl (cI, 120, .inl by9)), (h0, .inr (8, [.ref qh, .ref qk, .ref qd, .int b0, .ref qa, .ref qm, .ref qs, .ref qp, .ref ql, .ref qt, .ref qz, .ref qf])), (qf, .inl (cI, 7, .inl f2_74))] := hD
    subst hw_r_73
    exact W.iret (v := (-1000000001)) hx hb hr (fun t ht hW => ⟨⟨(-1000000001), (z, by9, f2_74), rfl, ⟨(sp_f3 h_4).2.symm, (sp_f3 h_4).1.symm, fdT_b h_4, (by first | assumption | omega)⟩, by rw [ht]; exact hP.sub [2, 0, 1, 3] rfl, hD.sub [2, 0, 1, 3] (by decide) rfl⟩, hS.F ht⟩) hS.2.2 dX8_feed_15 hlk
set_option maxHeartbeats 4000000 in
set_option maxRecDepth 100000 in
theorem c_X8_wipe (l : Launch) (D : va_G) (cI cJ cZ cS : ClassId) (ta : Nat) (sa sv : Nat → Nat) (sz : Nat) (h0 : Nat) (qh : Nat) (qk : Nat) (qd : Nat) (b0 : Int32) (qa : Nat) (qm : Nat) (qs : Nat) (qp : Nat) (ql : Nat) (qt : Nat) (qz : Nat) (qf : Nat) (z : Nat) (tb : Nat) (tk : Int32) (s9 : Nat) (x9 : Nat) (v9 : Nat) (t9 : Int32) (hz : z ≤ 120) (hs9 : s9 ≤ 120) (hx9 : x9 ≤ 120) (hv9 : v9 ≤ 10000) : Met l yX8_wipe (Cond.code yX8_wipe cX8_wipe 2 (some .int) :: wsU) ({ frames := 0, cells := 0, slots := 0, locals := 0 }) (va_Pc [.ref h0] (XW D (xT cI cJ cZ cS) ta sa sv [(h0, .inr (8, [.ref qh, .ref qk, .ref qd, .int b0, .ref qa, .ref qm, .ref qs, .ref qp, .ref ql, .ref qt, .ref qz, .ref qf])), (qt, .inr (7, [.int (nI (z)), .ref tb, .int tk, .int (nI (s9)), .int (nI (x9)), .int (nI (v9)), .int t9]))] sz)) (XQi (fun (r : Int32) (_ : Unit) => ((r = nI (z)))) D (fun _ : Unit => [(h0, .inr (8, [.ref qh, .ref qk, .ref qd, .int b0, .ref qa, .ref qm, .ref qs, .ref qp, .ref ql, .ref qt, .ref qz, .ref qf])), (qt, .inr (7, [.int 0, .ref tb, .int tk, .int (nI (s9)), .int (nI (x9)), .int (nI (v9)), .int t9]))]) (va_A [(h0, .inr (8, [.ref qh, .ref qk, .ref qd, .int b0, .ref qa, .ref qm, .ref qs, .ref qp, .ref ql, .ref qt, .ref qz, .ref qf])), (qt, .inr (7, [.int (nI (z)), .ref tb, .int tk, .int (nI (s9)), .int (nI (x9)), .int (nI (v9)), .int t9]))] sz)) 0 0 (va_A [(h0, .inr (8, [.ref qh, .ref qk, .ref qd, .int b0, .ref qa, .ref qm, .ref qs, .ref qp, .ref ql, .ref qt, .ref qz, .ref qf])), (qt, .inr (7, [.int (nI (z)), .ref tb, .int tk, .int (nI (s9)), .int (nI (x9)), .int (nI (v9)), .int t9]))] sz) := by
  refine xh (QA := fun A => XQi (fun (r : Int32) (_ : Unit) => ((r = nI (z)))) D (fun _ : Unit => [(h0, .inr (8, [.ref qh, .ref qk, .ref qd, .int b0, .ref qa, .ref qm, .ref qs, .ref qp, .ref ql, .ref qt, .ref qz, .ref qf])), (qt, .inr (7, [.int 0, .ref tb, .int tk, .int (nI (s9)), .int (nI (x9)), .int (nI (v9)), .int t9]))]) A) (fr := fun A => A) (by decide) (Nat.le_of_ble_eq_true rfl) ?_
  intro p e s m below meth c ls A hF hr hlk hin hsz hP hK hD hN hZ hA hS hl
  have hF : CallFix p m c cX8_wipe 2 s _ _ RX8 := hF
  have hx := hF.1
  have hb := hF.2.1
  have hml := hF.2.2.1
  have hown := hF.2.2.2.1
  have hu : ∀ w ∈ wsU, w.before _ s = true := fun w h => hF.2.2.2.2 w (List.mem_cons_of_mem _ h)
  have hl : lv_has ls 2 [(0, .ref h0)] := hl
  refine lv_aload_n hx hb dX8_wipe_0 rfl (lv_at hl 0 rfl) ?_
  refine xg hF kf_X8_60 hK hP 0 rfl rfl dX8_wipe_1 ?_
  refine xg hF kf_X8_275 hK hP 1 rfl rfl dX8_wipe_4 ?_
  refine lv_istore_n (lv' := [(1, .int (nI (z))), (0, .ref h0)]) hx hb dX8_wipe_7 rfl hl (by decide) rfl (fun ls hl => ?_)
  refine lv_aload_n hx hb dX8_wipe_8 rfl (lv_at hl 1 rfl) ?_
  refine xg hF kf_X8_60 hK hP 0 rfl rfl dX8_wipe_9 ?_
  refine lv_iconst (v := 0) hx hb dX8_wipe_12 (by decide) ?_
  refine xp hF kf_X8_275 tyX7_ok nmX7 hK hP hD hS 1 rfl rfl rfl rfl (Nat.le_of_ble_eq_true rfl) dX8_wipe_13 (fun H locs hP hD hS => ?_)
  have hP : va_P D vwCl [(h0, .inr (8, [.ref qh, .ref qk, .ref qd, .int b0, .ref qa, .ref qm, .ref qs, .ref qp, .ref ql, .ref qt, .ref qz, .ref qf])), (qt, .inr (7, [.int 0, .ref tb, .int tk, .int (nI (s9)), .int (nI (x9)), .int (nI (v9)), .int t9]))] H := hP
  have hD : va_D A [(h0, .inr (8, [.ref qh, .ref qk, .ref qd, .int b0, .ref qa, .ref qm, .ref qs, .ref qp, .ref ql, .ref qt, .ref qz, .ref qf])), (qt, .inr (7, [.int 0, .ref tb, .int tk, .int (nI (s9)), .int (nI (x9)), .int (nI (v9)), .int t9]))] := hD
  refine lv_iload_n hx hb dX8_wipe_16 rfl (lv_at hl 0 rfl) ?_
  exact W.iret (v := nI (z)) hx hb hr (fun t ht hW => ⟨⟨nI (z), (), rfl, rfl, by rw [ht]; exact hP.sub [0, 1] rfl, hD.sub [0, 1] (by decide) rfl⟩, hS.F ht⟩) hS.2.2 dX8_wipe_17 hlk
set_option maxHeartbeats 4000000 in
set_option maxRecDepth 100000 in
theorem c_X8_land (l : Launch) (D : va_G) (cI cJ cZ cS : ClassId) (ta : Nat) (sa sv : Nat → Nat) (sz : Nat) (h0 : Nat) (qh : Nat) (qk : Nat) (qd : Nat) (b0 : Int32) (qa : Nat) (qm : Nat) (qs : Nat) (qp : Nat) (ql : Nat) (qt : Nat) (qz : Nat) (qf : Nat) (Pa : Nat) (ae : Nat) (al : Nat) (au : Nat) (ao : Nat) (ar : Nat) (ak : Nat) (aw : Nat) (att : Nat) (ass : Nat) (fae : Nat → Int32) (fal : Nat → Int32) (fau : Nat → Int32) (fao : Nat → Int32) (Ra : Nat) (aRn : Nat) (aRp : Nat) (farn : Nat → Int32) (farp : Nat → Int32) (fak : Nat → Int32) (Wa : Nat) (aWn : Nat) (aWp : Nat) (fawn : Nat → Int32) (fawp : Nat → Int32) (fat : Nat → Int32) (fas : Nat → Int32) (Pv : Nat) (ve : Nat) (vl : Nat) (vu : Nat) (vo : Nat) (vr : Nat) (vk : Nat) (vw : Nat) (vtt : Nat) (vss : Nat) (fve : Nat → Int32) (fvl : Nat → Int32) (fvu : Nat → Int32) (fvo : Nat → Int32) (Rv : Nat) (vRn : Nat) (vRp : Nat) (fvrn : Nat → Int32) (fvrp : Nat → Int32) (fvk : Nat → Int32) (Wv : Nat) (vWn : Nat) (vWp : Nat) (fvwn : Nat → Int32) (fvwp : Nat → Int32) (fvt : Nat → Int32) (fvs : Nat → Int32) (z : Nat) (tb : Nat) (tk : Int32) (s9 : Nat) (x9 : Nat) (v9 : Nat) (t9 : Int32) (by9 : Nat → Int32) (hP0 : Pa ≤ 10) (hR : Ra ≤ 8) (hLLr : LL Ra farn) (hWa : Wa ≤ 8) (hLLw : LL Wa fawn) (hz : z ≤ 120) (hs9 : s9 ≤ 120) (hx9 : x9 ≤ 120) (hv9 : v9 ≤ 10000) (harn : BA 8 7 farn) (harp : BA 48 10 farp) (hawn : BA 8 7 fawn) (hawp : BA 48 10 fawp) (hvrn : BA 8 7 fvrn) (hvrp : BA 48 10 fvrp) (hvwn : BA 8 7 fvwn) (hvwp : BA 48 10 fvwp) : Met l yX8_land (Cond.code yX8_land cX8_land 2 (some .int) :: wsU) ({ frames := 9, cells := 0, slots := 0, locals := 196 }) (va_Pc [.ref h0] (XW D (xT cI cJ cZ cS) ta sa sv [(h0, .inr (8, [.ref qh, .ref qk, .ref qd, .int b0, .ref qa, .ref qm, .ref qs, .ref qp, .ref ql, .ref qt, .ref qz, .ref qf])), (qh, .inr (1, [.int (nI (Pa)), .ref ae, .ref al, .ref au, .ref ao, .ref ar, .ref ak, .ref aw, .ref att, .ref ass])), (ae, .inl (cI, 10, .inl fae)), (al, .inl (cI, 100, .inl fal)), (au, .inl (cI, 100, .inl fau)), (ao, .inl (cI, 100, .inl fao)), (ar, .inr (3, [.int (nI (Ra)), .ref aRn, .ref aRp])), (aRn, .inl (cI, 8, .inl farn)), (aRp, .inl (cI, 48, .inl farp)), (ak, .inl (cI, 8, .inl fak)), (aw, .inr (3, [.int (nI (Wa)), .ref aWn, .ref aWp])), (aWn, .inl (cI, 8, .inl fawn)), (aWp, .inl (cI, 48, .inl fawp)), (att, .inl (cI, 8, .inl fat)), (ass, .inl (cI, 8, .inl fas)), (qd, .inr (1, [.int (nI (Pv)), .ref ve, .ref vl, .ref vu, .ref vo, .ref vr, .ref vk, .ref vw, .ref vtt, .ref vss])), (ve, .inl (cI, 10, .inl fve)), (vl, .inl (cI, 100, .inl fvl)), (vu, .inl (cI, 100, .inl fvu)), (vo, .inl (cI, 100, .inl fvo)), (vr, .inr (3, [.int (nI (Rv)), .ref vRn, .ref vRp])), (vRn, .inl (cI, 8, .inl fvrn)), (vRp, .inl (cI, 48, .inl fvrp)), (vk, .inl (cI, 8, .inl fvk)), (vw, .inr (3, [.int (nI (Wv)), .ref vWn, .ref vWp])), (vWn, .inl (cI, 8, .inl fvwn)), (vWp, .inl (cI, 48, .inl fvwp)), (vtt, .inl (cI, 8, .inl fvt)), (vss, .inl (cI, 8, .inl fvs)), (qt, .inr (7, [.int (nI (z)), .ref tb, .int tk, .int (nI (s9)), .int (nI (x9)), .int (nI (v9)), .int t9])), (tb, .inl (cI, 120, .inl by9))] sz)) (XQi (fun (r : Int32) (u : Nat × (Nat → Int32) × (Nat → Int32) × (Nat → Int32) × (Nat → Int32) × Nat × (Nat → Int32) × (Nat → Int32) × (Nat → Int32) × (Nat → Int32) × Nat × (Nat → Int32) × (Nat → Int32) × (Nat → Int32) × (Nat → Int32) × Nat × (Nat → Int32) × (Nat → Int32) × (Nat → Int32) × Nat × (Nat → Int32) × (Nat → Int32) × (Nat → Int32) × (Nat → Int32) × Int32 × Nat × Nat × Nat × Int32) => match u with | (P2, xe, xl, xu, xo, W2, xwn, xwp, xt, xs, P3, ye, yl, yu, yo, R3, yrn, yrp, yk, W3, ywn, ywp, yt, ys, tk2, s2, x2, v2, t2) => ((r = spLr (bA by9 z) z (spLand (bA by9 z) z 120 0 Pa Wa 1))) ∧ (s2 ≤ 120) ∧ (x2 ≤ 120) ∧ (v2 ≤ 10000) ∧ (P2 = spLP Pa (spLand (bA by9 z) z 120 0 Pa Wa 1)) ∧ (W2 = spLW Wa (spLand (bA by9 z) z 120 0 Pa Wa 1)) ∧ (xe = spLF (spLand (bA by9 z) z 120 0 Pa Wa 1) fae (spLz (bA by9 z) z (stE (bA by9 z) z) 120 0 Pa Wa fae)) ∧ (xl = spLF (spLand (bA by9 z) z 120 0 Pa Wa 1) fal (spLz (bA by9 z) z (stL (bA by9 z) z) 120 0 Pa Wa fal)) ∧ (xu = spLF (spLand (bA by9 z) z 120 0 Pa Wa 1) fau (spLz (bA by9 z) z (stU (bA by9 z) z) 120 0 Pa Wa fau)) ∧ (xo = spLF (spLand (bA by9 z) z 120 0 Pa Wa 1) fao (spLz (bA by9 z) z (stO (bA by9 z) z) 120 0 Pa Wa fao)) ∧ (xwn = spLF (spLand (bA by9 z) z 120 0 Pa Wa 1) fawn (spLz (bA by9 z) z (stN (bA by9 z) z) 120 0 Pa Wa fawn)) ∧ (xwp = spLF (spLand (bA by9 z) z 120 0 Pa Wa 1) fawp (spLz (bA by9 z) z (stR (bA by9 z) z) 120 0 Pa Wa fawp)) ∧ (xt = spLF (spLand (bA by9 z) z 120 0 Pa Wa 1) fat (spLz (bA by9 z) z (stT (bA by9 z) z) 120 0 Pa Wa fat)) ∧ (xs = spLF (spLand (bA by9 z) z 120 0 Pa Wa 1) fas (spLz (bA by9 z) z (stS (bA by9 z) z) 120 0 Pa Wa fas)) ∧ (P2 ≤ 10) ∧ (W2 ≤ 8) ∧ (LL W2 xwn) ∧ (P3 ≤ 10) ∧ (R3 ≤ 8) ∧ (W3 ≤ 8) ∧ (BA 8 7 xwn) ∧ (BA 48 10 xwp) ∧ (BA 8 7 yrn) ∧ (BA 48 10 yrp) ∧ (BA 8 7 ywn) ∧ (BA 48 10 ywp)) D (fun (u : Nat × (Nat → Int32) × (Nat → Int32) × (Nat → Int32) × (Nat → Int32) × Nat × (Nat → Int32) × (Nat → Int32) × (Nat → Int32) × (Nat → Int32) × Nat × (Nat → Int32) × (Nat → Int32) × (Nat → Int32) × (Nat → Int32) × Nat × (Nat → Int32) × (Nat → Int32) × (Nat → Int32) × Nat × (Nat → Int32) × (Nat → Int32) × (Nat → Int32) × (Nat → Int32) × Int32 × Nat × Nat × Nat × Int32) => match u with | (P2, xe, xl, xu, xo, W2, xwn, xwp, xt, xs, P3, ye, yl, yu, yo, R3, yrn, yrp, yk, W3, ywn, ywp, yt, ys, tk2, s2, x2, v2, t2) => [(h0, .inr (8, [.ref qh, .ref qk, .ref qd, .int b0, .ref qa, .ref qm, .ref qs, .ref qp, .ref ql, .ref qt, .ref qz, .ref qf])), (qh, .inr (1, [.int (nI (P2)), .ref ae, .ref al, .ref au, .ref ao, .ref ar, .ref ak, .ref aw, .ref att, .ref ass])), (ae, .inl (cI, 10, .inl xe)), (al, .inl (cI, 100, .inl xl)), (au, .inl (cI, 100, .inl xu)), (ao, .inl (cI, 100, .inl xo)), (ar, .inr (3, [.int (nI (Ra)), .ref aRn, .ref aRp])), (aRn, .inl (cI, 8, .inl farn)), (aRp, .inl (cI, 48, .inl farp)), (ak, .inl (cI, 8, .inl fak)), (aw, .inr (3, [.int (nI (W2)), .ref aWn, .ref aWp])), (aWn, .inl (cI, 8, .inl xwn)), (aWp, .inl (cI, 48, .inl xwp)), (att, .inl (cI, 8, .inl xt)), (ass, .inl (cI, 8, .inl xs)), (qd, .inr (1, [.int (nI (P3)), .ref ve, .ref vl, .ref vu, .ref vo, .ref vr, .ref vk, .ref vw, .ref vtt, .ref vss])), (ve, .inl (cI, 10, .inl ye)), (vl, .inl (cI, 100, .inl yl)), (vu, .inl (cI, 100, .inl yu)), (vo, .inl (cI, 100, .inl yo)), (vr, .inr (3, [.int (nI (R3)), .ref vRn, .ref vRp])), (vRn, .inl (cI, 8, .inl yrn)), (vRp, .inl (cI, 48, .inl yrp)), (vk, .inl (cI, 8, .inl yk)), (vw, .inr (3, [.int (nI (W3)), .ref vWn, .ref vWp])), (vWn, .inl (cI, 8, .inl ywn)), (vWp, .inl (cI, 48, .inl ywp)), (vtt, .inl (cI, 8, .inl yt)), (vss, .inl (cI, 8, .inl ys)), (qt, .inr (7, [.int 0, .ref tb, .int tk2, .int (nI (s2)), .int (nI (x2)), .int (nI (v2)), .int t2])), (tb, .inl (cI, 120, .inl by9))]) (va_A [(h0, .inr (8, [.ref qh, .ref qk, .ref qd, .int b0, .ref qa, .ref qm, .ref qs, .ref qp, .ref ql, .ref qt, .ref qz, .ref qf])), (qh, .inr (1, [.int (nI (Pa)), .ref ae, .ref al, .ref au, .ref ao, .ref ar, .ref ak, .ref aw, .ref att, .ref ass])), (ae, .inl (cI, 10, .inl fae)), (al, .inl (cI, 100, .inl fal)), (au, .inl (cI, 100, .inl fau)), (ao, .inl (cI, 100, .inl fao)), (ar, .inr (3, [.int (nI (Ra)), .ref aRn, .ref aRp])), (aRn, .inl (cI, 8, .inl farn)), (aRp, .inl (cI, 48, .inl farp)), (ak, .inl (cI, 8, .inl fak)), (aw, .inr (3, [.int (nI (Wa)), .ref aWn, .ref aWp])), (aWn, .inl (cI, 8, .inl fawn)), (aWp, .inl (cI, 48, .inl fawp)), (att, .inl (cI, 8, .inl fat)), (ass, .inl (cI, 8, .inl fas)), (qd, .inr (1, [.int (nI (Pv)), .ref ve, .ref vl, .ref vu, .ref vo, .ref vr, .ref vk, .ref vw, .ref vtt, .ref vss])), (ve, .inl (cI, 10, .inl fve)), (vl, .inl (cI, 100, .inl fvl)), (vu, .inl (cI, 100, .inl fvu)), (vo, .inl (cI, 100, .inl fvo)), (vr, .inr (3, [.int (nI (Rv)), .ref vRn, .ref vRp])), (vRn, .inl (cI, 8, .inl fvrn)), (vRp, .inl (cI, 48, .inl fvrp)), (vk, .inl (cI, 8, .inl fvk)), (vw, .inr (3, [.int (nI (Wv)), .ref vWn, .ref vWp])), (vWn, .inl (cI, 8, .inl fvwn)), (vWp, .inl (cI, 48, .inl fvwp)), (vtt, .inl (cI, 8, .inl fvt)), (vss, .inl (cI, 8, .inl fvs)), (qt, .inr (7, [.int (nI (z)), .ref tb, .int tk, .int (nI (s9)), .int (nI (x9)), .int (nI (v9)), .int t9])), (tb, .inl (cI, 120, .inl by9))] sz)) 0 0 (va_A [(h0, .inr (8, [.ref qh, .ref qk, .ref qd, .int b0, .ref qa, .ref qm, .ref qs, .ref qp, .ref ql, .ref qt, .ref qz, .ref qf])), (qh, .inr (1, [.int (nI (Pa)), .ref ae, .ref al, .ref au, .ref ao, .ref ar, .ref ak, .ref aw, .ref att, .ref ass])), (ae, .inl (cI, 10, .inl fae)), (al, .inl (cI, 100, .inl fal)), (au, .inl (cI, 100, .inl fau)), (ao, .inl (cI, 100, .inl fao)), (ar, .inr (3, [.int (nI (Ra)), .ref aRn, .ref aRp])), (aRn, .inl (cI, 8, .inl farn)), (aRp, .inl (cI, 48, .inl farp)), (ak, .inl (cI, 8, .inl fak)), (aw, .inr (3, [.int (nI (Wa)), .ref aWn, .ref aWp])), (aWn, .inl (cI, 8, .inl fawn)), (aWp, .inl (cI, 48, .inl fawp)), (att, .inl (cI, 8, .inl fat)), (ass, .inl (cI, 8, .inl fas)), (qd, .inr (1, [.int (nI (Pv)), .ref ve, .ref vl, .ref vu, .ref vo, .ref vr, .ref vk, .ref vw, .ref vtt, .ref vss])), (ve, .inl (cI, 10, .inl fve)), (vl, .inl (cI, 100, .inl fvl)), (vu, .inl (cI, 100, .inl fvu)), (vo, .inl (cI, 100, .inl fvo)), (vr, .inr (3, [.int (nI (Rv)), .ref vRn, .ref vRp])), (vRn, .inl (cI, 8, .inl fvrn)), (vRp, .inl (cI, 48, .inl fvrp)), (vk, .inl (cI, 8, .inl fvk)), (vw, .inr (3, [.int (nI (Wv)), .ref vWn, .ref vWp])), (vWn, .inl (cI, 8, .inl fvwn)), (vWp, .inl (cI, 48, .inl fvwp)), (vtt, .inl (cI, 8, .inl fvt)), (vss, .inl (cI, 8, .inl fvs)), (qt, .inr (7, [.int (nI (z)), .ref tb, .int tk, .int (nI (s9)), .int (nI (x9)), .int (nI (v9)), .int t9])), (tb, .inl (cI, 120, .inl by9))] sz) := by
  refine xh (QA := fun A => XQi (fun (r : Int32) (u : Nat × (Nat → Int32) × (Nat → Int32) × (Nat → Int32) × (Nat → Int32) × Nat × (Nat → Int32) × (Nat → Int32) × (Nat → Int32) × (Nat → Int32) × Nat × (Nat → Int32) × (Nat → Int32) × (Nat → Int32) × (Nat → Int32) × Nat × (Nat → Int32) × (Nat → Int32) × (Nat → Int32) × Nat × (Nat → Int32) × (Nat → Int32) × (Nat → Int32) × (Nat → Int32) × Int32 × Nat × Nat × Nat × Int32) => match u with | (P2, xe, xl, xu, xo, W2, xwn, xwp, xt, xs, P3, ye, yl, yu, yo, R3, yrn, yrp, yk, W3, ywn, ywp, yt, ys, tk2, s2, x2, v2, t2) => ((r = spLr (bA by9 z) z (spLand (bA by9 z) z 120 0 Pa Wa 1))) ∧ (s2 ≤ 120) ∧ (x2 ≤ 120) ∧ (v2 ≤ 10000) ∧ (P2 = spLP Pa (spLand (bA by9 z) z 120 0 Pa Wa 1)) ∧ (W2 = spLW Wa (spLand (bA by9 z) z 120 0 Pa Wa 1)) ∧ (xe = spLF (spLand (bA by9 z) z 120 0 Pa Wa 1) fae (spLz (bA by9 z) z (stE (bA by9 z) z) 120 0 Pa Wa fae)) ∧ (xl = spLF (spLand (bA by9 z) z 120 0 Pa Wa 1) fal (spLz (bA by9 z) z (stL (bA by9 z) z) 120 0 Pa Wa fal)) ∧ (xu = spLF (spLand (bA by9 z) z 120 0 Pa Wa 1) fau (spLz (bA by9 z) z (stU (bA by9 z) z) 120 0 Pa Wa fau)) ∧ (xo = spLF (spLand (bA by9 z) z 120 0 Pa Wa 1) fao (spLz (bA by9 z) z (stO (bA by9 z) z) 120 0 Pa Wa fao)) ∧ (xwn = spLF (spLand (bA by9 z) z 120 0 Pa Wa 1) fawn (spLz (bA by9 z) z (stN (bA by9 z) z) 120 0 Pa Wa fawn)) ∧ (xwp = spLF (spLand (bA by9 z) z 120 0 Pa Wa 1) fawp (spLz (bA by9 z) z (stR (bA by9 z) z) 120 0 Pa Wa fawp)) ∧ (xt = spLF (spLand (bA by9 z) z 120 0 Pa Wa 1) fat (spLz (bA by9 z) z (stT (bA by9 z) z) 120 0 Pa Wa fat)) ∧ (xs = spLF (spLand (bA by9 z) z 120 0 Pa Wa 1) fas (spLz (bA by9 z) z (stS (bA by9 z) z) 120 0 Pa Wa fas)) ∧ (P2 ≤ 10) ∧ (W2 ≤ 8) ∧ (LL W2 xwn) ∧ (P3 ≤ 10) ∧ (R3 ≤ 8) ∧ (W3 ≤ 8) ∧ (BA 8 7 xwn) ∧ (BA 48 10 xwp) ∧ (BA 8 7 yrn) ∧ (BA 48 10 yrp) ∧ (BA 8 7 ywn) ∧ (BA 48 10 ywp)) D (fun (u : Nat × (Nat → Int32) × (Nat → Int32) × (Nat → Int32) × (Nat → Int32) × Nat × (Nat → Int32) × (Nat → Int32) × (Nat → Int32) × (Nat → Int32) × Nat × (Nat → Int32) × (Nat → Int32) × (Nat → Int32) × (Nat → Int32) × Nat × (Nat → Int32) × (Nat → Int32) × (Nat → Int32) × Nat × (Nat → Int32) × (Nat → Int32) × (Nat → Int32) × (Nat → Int32) × Int32 × Nat × Nat × Nat × Int32) => match u with | (P2, xe, xl, xu, xo, W2, xwn, xwp, xt, xs, P3, ye, yl, yu, yo, R3, yrn, yrp, yk, W3, ywn, ywp, yt, ys, tk2, s2, x2, v2, t2) => [(h0, .inr (8, [.ref qh, .ref qk, .ref qd, .int b0, .ref qa, .ref qm, .ref qs, .ref qp, .ref ql, .ref qt, .ref qz, .ref qf])), (qh, .inr (1, [.int (nI (P2)), .ref ae, .ref al, .ref au, .ref ao, .ref ar, .ref ak, .ref aw, .ref att, .ref ass])), (ae, .inl (cI, 10, .inl xe)), (al, .inl (cI, 100, .inl xl)), (au, .inl (cI, 100, .inl xu)), (ao, .inl (cI, 100, .inl xo)), (ar, .inr (3, [.int (nI (Ra)), .ref aRn, .ref aRp])), (aRn, .inl (cI, 8, .inl farn)), (aRp, .inl (cI, 48, .inl farp)), (ak, .inl (cI, 8, .inl fak)), (aw, .inr (3, [.int (nI (W2)), .ref aWn, .ref aWp])), (aWn, .inl (cI, 8, .inl xwn)), (aWp, .inl (cI, 48, .inl xwp)), (att, .inl (cI, 8, .inl xt)), (ass, .inl (cI, 8, .inl xs)), (qd, .inr (1, [.int (nI (P3)), .ref ve, .ref vl, .ref vu, .ref vo, .ref vr, .ref vk, .ref vw, .ref vtt, .ref vss])), (ve, .inl (cI, 10, .inl ye)), (vl, .inl (cI, 100, .inl yl)), (vu, .inl (cI, 100, .inl yu)), (vo, .inl (cI, 100, .inl yo)), (vr, .inr (3, [.int (nI (R3)), .ref vRn, .ref vRp])), (vRn, .inl (cI, 8, .inl yrn)), (vRp, .inl (cI, 48, .inl yrp)), (vk, .inl (cI, 8, .inl yk)), (vw, .inr (3, [.int (nI (W3)), .ref vWn, .ref vWp])), (vWn, .inl (cI, 8, .inl ywn)), (vWp, .inl (cI, 48, .inl ywp)), (vtt, .inl (cI, 8, .inl yt)), (vss, .inl (cI, 8, .inl ys)), (qt, .inr (7, [.int 0, .ref tb, .int tk2, .int (nI (s2)), .int (nI (x2)), .int (nI (v2)), .int t2])), (tb, .inl (cI, 120, .inl by9))]) A) (fr := fun A => A) (by decide) (Nat.le_of_ble_eq_true rfl) ?_
  intro p e s m below meth c ls A hF hr hlk hin hsz hP hK hD hN hZ hA hS hl
  have hF : CallFix p m c cX8_land 2 s _ _ RX8 := hF
  have hx := hF.1
  have hb := hF.2.1
  have hml := hF.2.2.1
  have hown := hF.2.2.2.1
  have hu : ∀ w ∈ wsU, w.before _ s = true := fun w h => hF.2.2.2.2 w (List.mem_cons_of_mem _ h)
  have hl : lv_has ls 2 [(0, .ref h0)] := hl
  refine lv_aload_n hx hb dX8_land_0 rfl (lv_at hl 0 rfl) ?_
  refine xg hF kf_X8_19 hK hP 0 rfl rfl dX8_land_1 ?_
  refine lv_aload_n hx hb dX8_land_4 rfl (lv_at hl 0 rfl) ?_
  refine xg hF kf_X8_12 hK hP 0 rfl rfl dX8_land_5 ?_
  refine xc_Vv (wr := [(h0, .inr (8, [.ref qh, .ref qk, .ref qd, .int b0, .ref qa, .ref qm, .ref qs, .ref qp, .ref ql, .ref qt, .ref qz, .ref qf])), (qt, .inr (7, [.int (nI (z)), .ref tb, .int tk, .int (nI (s9)), .int (nI (x9)), .int (nI (v9)), .int t9])), (tb, .inl (cI, 120, .inl by9))]) hF (c_X1_become l D cI cJ cZ cS ta sa sv s.heap.size qd qh ve vl vu vo vr vk vw vtt vss vRn vRp vWn vWp Pv Rv Wv fve fvl fvu fvo fvrn fvrp fvk fvwn fvwp fvt fvs ae al au ao ar ak aw att ass aRn aRp aWn aWp Pa Ra Wa fae fal fau fao farn farp fak fawn fawp fat fas hvrn hvrp hvwn hvwp harn harp hawn hawp) kv_X8_241 ⟨rfl, rfl, Nat.le_of_ble_eq_true rfl, Nat.le_of_ble_eq_true rfl⟩ ⟨Nat.le_of_ble_eq_true rfl, Nat.le_of_ble_eq_true rfl⟩ hK hN hZ hP hD hS hA [15, 16, 17, 18, 19, 20, 21, 22, 23, 24, 25, 26, 27, 28, 1, 2, 3, 4, 5, 6, 7, 8, 9, 10, 11, 12, 13, 14] [0, 29, 30] rfl rfl (by decide +kernel) rfl (by decide +kernel) 0 rfl rfl rfl rfl hl.1 rfl (Nat.le_of_ble_eq_true rfl) dX8_land_8 (fun u_r_1 H locs hw_r_1 hP hD hS => ?_)
  have hP : va_P D vwCl [(h0, .inr (8, [.ref qh, .ref qk, .ref qd, .int b0, .ref qa, .ref qm, .ref qs, .ref qp, .ref ql, .ref qt, .ref qz, .ref qf])), (qt, .inr (7, [.int (nI (z)), .ref tb, .int tk, .int (nI (s9)), .int (nI (x9)), .int (nI (v9)), .int t9])), (tb, .inl (cI, 120, .inl by9)), (qd, .inr (1, [.int (nI (Pa)), .ref ve, .ref vl, .ref vu, .ref vo, .ref vr, .ref vk, .ref vw, .ref vtt, .ref vss])), (ve, .inl (cI, 10, .inl fae)), (vl, .inl (cI, 100, .inl fal)), (vu, .inl (cI, 100, .inl fau)), (vo, .inl (cI, 100, .inl fao)), (vr, .inr (3, [.int (nI (Ra)), .ref vRn, .ref vRp])), (vRn, .inl (cI, 8, .inl farn)), (vRp, .inl (cI, 48, .inl farp)), (vk, .inl (cI, 8, .inl fak)), (vw, .inr (3, [.int (nI (Wa)), .ref vWn, .ref vWp])), (vWn, .inl (cI, 8, .inl fawn)), (vWp, .inl (cI, 48, .inl fawp)), (vtt, .inl (cI, 8, .inl fat)), (vss, .inl (cI, 8, .inl fas)), (qh, .inr (1, [.int (nI (Pa)), .ref ae, .ref al, .ref au, .ref ao, .ref ar, .ref ak, .ref aw, .ref att, .ref ass])), (ae, .inl (cI, 10, .inl fae)), (al, .inl (cI, 100, .inl fal)), (au, .inl (cI, 100, .inl fau)), (ao, .inl (cI, 100, .inl fao)), (ar, .inr (3, [.int (nI (Ra)), .ref aRn, .ref aRp])), (aRn, .inl (cI, 8, .inl farn)), (aRp, .inl (cI, 48, .inl farp)), (ak, .inl (cI, 8, .inl fak)), (aw, .inr (3, [.int (nI (Wa)), .ref aWn, .ref aWp])), (aWn, .inl (cI, 8, .inl fawn)), (aWp, .inl (cI, 48, .inl fawp)), (att, .inl (cI, 8, .inl fat)), (ass, .inl (cI, 8, .inl fas))] H := hP
  have hD : va_D A [(h0, .inr (8, [.ref qh, .ref qk, .ref qd, .int b0, .ref qa, .ref qm, .ref qs, .ref qp, .ref ql, .ref qt, .ref qz, .ref qf])), (qt, .inr (7, [.int (nI (z)), .ref tb, .int tk, .int (nI (s9)), .int (nI (x9)), .int (nI (v9)), .int t9])), (tb, .inl (cI, 120, .inl by9)), (qd, .inr (1, [.int (nI (Pa)), .ref ve, .ref vl, .ref vu, .ref vo, .ref vr, .ref vk, .ref vw, .ref vtt, .ref vss])), (ve, .inl (cI, 10, .inl fae)), (vl, .inl (cI, 100, .inl fal)), (vu, .inl (cI, 100, .inl fau)), (vo, .inl (cI, 100, .inl fao)), (vr, .inr (3, [.int (nI (Ra)), .ref vRn, .ref vRp])), (vRn, .inl (cI, 8, .inl farn)), (vRp, .inl (cI, 48, .inl farp)), (vk, .inl (cI, 8, .inl fak)), (vw, .inr (3, [.int (nI (Wa)), .ref vWn, .ref vWp])), (vWn, .inl (cI, 8, .inl fawn)), (vWp, .inl (cI, 48, .inl fawp)), (vtt, .inl (cI, 8, .inl fat)), (vss, .inl (cI, 8, .inl fas)), (qh, .inr (1, [.int (nI (Pa)), .ref ae, .ref al, .ref au, .ref ao, .ref ar, .ref ak, .ref aw, .ref att, .ref ass])), (ae, .inl (cI, 10, .inl fae)), (al, .inl (cI, 100, .inl fal)), (au, .inl (cI, 100, .inl fau)), (ao, .inl (cI, 100, .inl fao)), (ar, .inr (3, [.int (nI (Ra)), .ref aRn, .ref aRp])), (aRn, .inl (cI, 8, .inl farn)), (aRp, .inl (cI, 48, .inl farp)), (ak, .inl (cI, 8, .inl fak)), (aw, .inr (3, [.int (nI (Wa)), .ref aWn, .ref aWp])), (aWn, .inl (cI, 8, .inl fawn)), (aWp, .inl (cI, 48, .inl fawp)), (att, .inl (cI, 8, .inl fat)), (ass, .inl (cI, 8, .inl fas))] := hD
  refine lv_aload_n hx hb dX8_land_11 rfl (lv_at hl 0 rfl) ?_
  refine xg hF kf_X8_60 hK hP 0 rfl rfl dX8_land_12 ?_
  refine lv_aload_n hx hb dX8_land_15 rfl (lv_at hl 0 rfl) ?_
  refine xg hF kf_X8_19 hK hP 0 rfl rfl dX8_land_16 ?_
  refine xc_Vi (wr := [(h0, .inr (8, [.ref qh, .ref qk, .ref qd, .int b0, .ref qa, .ref qm, .ref qs, .ref qp, .ref ql, .ref qt, .ref qz, .ref qf])), (vr, .inr (3, [.int (nI (Ra)), .ref vRn, .ref vRp])), (vRn, .inl (cI, 8, .inl farn)), (vRp, .inl (cI, 48, .inl farp)), (vk, .inl (cI, 8, .inl fak)), (qh, .inr (1, [.int (nI (Pa)), .ref ae, .ref al, .ref au, .ref ao, .ref ar, .ref ak, .ref aw, .ref att, .ref ass])), (ae, .inl (cI, 10, .inl fae)), (al, .inl (cI, 100, .inl fal)), (au, .inl (cI, 100, .inl fau)), (ao, .inl (cI, 100, .inl fao)), (ar, .inr (3, [.int (nI (Ra)), .ref aRn, .ref aRp])), (aRn, .inl (cI, 8, .inl farn)), (aRp, .inl (cI, 48, .inl farp)), (ak, .inl (cI, 8, .inl fak)), (aw, .inr (3, [.int (nI (Wa)), .ref aWn, .ref aWp])), (aWn, .inl (cI, 8, .inl fawn)), (aWp, .inl (cI, 48, .inl fawp)), (att, .inl (cI, 8, .inl fat)), (ass, .inl (cI, 8, .inl fas))]) hF (c_X7_tellTo l D cI cJ cZ cS ta sa sv H.size qt tb z s9 x9 v9 tk t9 by9 qd ve vl vu vo vr vk vw vtt vss Pa vWn vWp Wa fae fal fau fao fawn fawp fat fas (by omega) (by omega) (by omega) hLLw hawn hawp) kv_X8_282 ⟨rfl, rfl, Nat.le_of_ble_eq_true rfl, Nat.le_of_ble_eq_true rfl⟩ ⟨Nat.le_of_ble_eq_true rfl, Nat.le_of_ble_eq_true rfl⟩ hK hN hZ hP hD hS hA [1, 2, 3, 4, 5, 6, 7, 12, 13, 14, 15, 16] [0, 8, 9, 10, 11, 17, 18, 19, 20, 21, 22, 23, 24, 25, 26, 27, 28, 29, 30] rfl rfl (by decide +kernel) (by decide +kernel) (by decide +kernel) 0 rfl rfl rfl rfl hl.1 rfl (Nat.le_of_ble_eq_true rfl) dX8_land_19 (fun r_2 u_r_2 H locs hw_r_2 hP hD hS => ?_)
  obtain ⟨u2_3, t2_4, P2_5, cn2_6, e2_7, l2_8, u3_9, d2_10, n2_11, p2_12, t3_13, z3_14⟩ := u_r_2
  try dsimp only at hw_r_2
  obtain ⟨hw_r_2, i_15, i_16, i_17, i_18, i_19, i_20⟩ := hw_r_2
  have hP : va_P D vwCl [(h0, .inr (8, [.ref qh, .ref qk, .ref qd, .int b0, .ref qa, .ref qm, .ref qs, .ref qp, .ref ql, .ref qt, .ref qz, .ref qf])), (vr, .inr (3, [.int (nI (Ra)), .ref vRn, .ref vRp])), (vRn, .inl (cI, 8, .inl farn)), (vRp, .inl (cI, 48, .inl farp)), (vk, .inl (cI, 8, .inl fak)), (qh, .inr (1, [.int (nI (Pa)), .ref ae, .ref al, .ref au, .ref ao, .ref ar, .ref ak, .ref aw, .ref att, .ref ass])), (ae, .inl (cI, 10, .inl fae)), (al, .inl (cI, 100, .inl fal)), (au, .inl (cI, 100, .inl fau)), (ao, .inl (cI, 100, .inl fao)), (ar, .inr (3, [.int (nI (Ra)), .ref aRn, .ref aRp])), (aRn, .inl (cI, 8, .inl farn)), (aRp, .inl (cI, 48, .inl farp)), (ak, .inl (cI, 8, .inl fak)), (aw, .inr (3, [.int (nI (Wa)), .ref aWn, .ref aWp])), (aWn, .inl (cI, 8, .inl fawn)), (aWp, .inl (cI, 48, .inl fawp)), (att, .inl (cI, 8, .inl fat)), (ass, .inl (cI, 8, .inl fas)), (qt, .inr (7, [.int (nI (z)), .ref tb, .int (kd (bA by9 z) z (nf (bA by9 z) z u2_3)), .int (nI (nf (bA by9 z) z u2_3)), .int (nI (nx (bA by9 z) z u2_3)), .int (nI (cv (bA by9 z) z (nf (bA by9 z) z u2_3) (nx (bA by9 z) z u2_3))), .int t2_4])), (tb, .inl (cI, 120, .inl by9)), (qd, .inr (1, [.int (nI (P2_5)), .ref ve, .ref vl, .ref vu, .ref vo, .ref vr, .ref vk, .ref vw, .ref vtt, .ref vss])), (ve, .inl (cI, 10, .inl e2_7)), (vl, .inl (cI, 100, .inl l2_8)), (vu, .inl (cI, 100, .inl u3_9)), (vo, .inl (cI, 100, .inl d2_10)), (vw, .inr (3, [.int (nI (cn2_6)), .ref vWn, .ref vWp])), (vWn, .inl (cI, 8, .inl n2_11)), (vWp, .inl (cI, 48, .inl p2_12)), (vtt, .inl (cI, 8, .inl t3_13)), (vss, .inl (cI, 8, .inl z3_14))] H := hP
  have hD : va_D A [(h0, .inr (8, [.ref qh, .ref qk, .ref qd, .int b0, .ref qa, .ref qm, .ref qs, .ref qp, .ref ql, .ref qt, .ref qz, .ref qf])), (vr, .inr (3, [.int (nI (Ra)), .ref vRn, .ref vRp])), (vRn, .inl (cI, 8, .inl farn)), (vRp, .inl (cI, 48, .inl farp)), (vk, .inl (cI, 8, .inl fak)), (qh, .inr (1, [.int (nI (Pa)), .ref ae, .ref al, .ref au, .ref ao, .ref ar, .ref ak, .ref aw, .ref att, .ref ass])), (ae, .inl (cI, 10, .inl fae)), (al, .inl (cI, 100, .inl fal)), (au, .inl (cI, 100, .inl fau)), (ao, .inl (cI, 100, .inl fao)), (ar, .inr (3, [.int (nI (Ra)), .ref aRn, .ref aRp])), (aRn, .inl (cI, 8, .inl farn)), (aRp, .inl (cI, 48, .inl farp)), (ak, .inl (cI, 8, .inl fak)), (aw, .inr (3, [.int (nI (Wa)), .ref aWn, .ref aWp])), (aWn, .inl (cI, 8, .inl fawn)), (aWp, .inl (cI, 48, .inl fawp)), (att, .inl (cI, 8, .inl fat)), (ass, .inl (cI, 8, .inl fas)), (qt, .inr (7, [.int (nI (z)), .ref tb, .int (kd (bA by9 z) z (nf (bA by9 z) z u2_3)), .int (nI (nf (bA by9 z) z u2_3)), .int (nI (nx (bA by9 z) z u2_3)), .int (nI (cv (bA by9 z) z (nf (bA by9 z) z u2_3) (nx (bA by9 z) z u2_3))), .int t2_4])), (tb, .inl (cI, 120, .inl by9)), (qd, .inr (1, [.int (nI (P2_5)), .ref ve, .ref vl, .ref vu, .ref vo, .ref vr, .ref vk, .ref vw, .ref vtt, .ref vss])), (ve, .inl (cI, 10, .inl e2_7)), (vl, .inl (cI, 100, .inl l2_8)), (vu, .inl (cI, 100, .inl u3_9)), (vo, .inl (cI, 100, .inl d2_10)), (vw, .inr (3, [.int (nI (cn2_6)), .ref vWn, .ref vWp])), (vWn, .inl (cI, 8, .inl n2_11)), (vWp, .inl (cI, 48, .inl p2_12)), (vtt, .inl (cI, 8, .inl t3_13)), (vss, .inl (cI, 8, .inl z3_14))] := hD
  rcases hw_r_2 with ⟨n_21, rfl, h_22, h_23, h_24, h_25, h_26, h_27, h_28, h_29, h_30, h_31⟩ | ⟨k_32, rfl, h_33, h_34⟩
  · skip
    refine lv_istore_n (lv' := [(1, .int (nI (n_21))), (0, .ref h0)]) hx hb dX8_land_22 rfl hl (by decide) rfl (fun ls hl => ?_)
    refine lv_iload_n hx hb dX8_land_23 rfl (lv_at hl 0 rfl) ?_
    refine lv_if_lt (tgt := 38) hx hb dX8_land_24 (by decide) (fun c_35 => by have nc_35 : n_21 < 0 := xn_lt (a := n_21) (b := 0) (by omega) (by omega) c_35; omega) (fun c_35 => ?_)
    have nc_35 : 0 ≤ n_21 := xn_nlt (a := n_21) (b := 0) (by omega) (by omega) c_35
    refine lv_aload_n hx hb dX8_land_27 rfl (lv_at hl 1 rfl) ?_
    refine xg hF kf_X8_12 hK hP 0 rfl rfl dX8_land_28 ?_
    refine lv_aload_n hx hb dX8_land_31 rfl (lv_at hl 1 rfl) ?_
    refine xg hF kf_X8_19 hK hP 0 rfl rfl dX8_land_32 ?_
    refine xc_Vv (wr := [(h0, .inr (8, [.ref qh, .ref qk, .ref qd, .int b0, .ref qa, .ref qm, .ref qs, .ref qp, .ref ql, .ref qt, .ref qz, .ref qf])), (qt, .inr (7, [.int (nI (z)), .ref tb, .int (kd (bA by9 z) z (nf (bA by9 z) z u2_3)), .int (nI (nf (bA by9 z) z u2_3)), .int (nI (nx (bA by9 z) z u2_3)), .int (nI (cv (bA by9 z) z (nf (bA by9 z) z u2_3) (nx (bA by9 z) z u2_3))), .int t2_4])), (tb, .inl (cI, 120, .inl by9))]) hF (c_X1_become l D cI cJ cZ cS ta sa sv H.size qh qd ae al au ao ar ak aw att ass aRn aRp aWn aWp Pa Ra Wa fae fal fau fao farn farp fak fawn fawp fat fas ve vl vu vo vr vk vw vtt vss vRn vRp vWn vWp P2_5 Ra cn2_6 e2_7 l2_8 u3_9 d2_10 farn farp fak n2_11 p2_12 t3_13 z3_14 harn harp hawn hawp harn harp i_18 i_19) kv_X8_241 ⟨rfl, rfl, Nat.le_of_ble_eq_true rfl, Nat.le_of_ble_eq_true rfl⟩ ⟨Nat.le_of_ble_eq_true rfl, Nat.le_of_ble_eq_true rfl⟩ hK hN hZ hP hD hS hA [5, 6, 7, 8, 9, 10, 11, 12, 13, 14, 15, 16, 17, 18, 21, 22, 23, 24, 25, 1, 2, 3, 4, 26, 27, 28, 29, 30] [0, 19, 20] rfl rfl (by decide +kernel) rfl (by decide +kernel) 0 rfl rfl rfl rfl hl.1 rfl (Nat.le_of_ble_eq_true rfl) dX8_land_35 (fun u_r_36 H locs hw_r_36 hP hD hS => ?_)
    have hP : va_P D vwCl [(h0, .inr (8, [.ref qh, .ref qk, .ref qd, .int b0, .ref qa, .ref qm, .ref qs, .ref qp, .ref ql, .ref qt, .ref qz, .ref qf])), (qt, .inr (7, [.int (nI (z)), .ref tb, .int (kd (bA by9 z) z (nf (bA by9 z) z u2_3)), .int (nI (nf (bA by9 z) z u2_3)), .int (nI (nx (bA by9 z) z u2_3)), .int (nI (cv (bA by9 z) z (nf (bA by9 z) z u2_3) (nx (bA by9 z) z u2_3))), .int t2_4])), (tb, .inl (cI, 120, .inl by9)), (qh, .inr (1, [.int (nI (P2_5)), .ref ae, .ref al, .ref au, .ref ao, .ref ar, .ref ak, .ref aw, .ref att, .ref ass])), (ae, .inl (cI, 10, .inl e2_7)), (al, .inl (cI, 100, .inl l2_8)), (au, .inl (cI, 100, .inl u3_9)), (ao, .inl (cI, 100, .inl d2_10)), (ar, .inr (3, [.int (nI (Ra)), .ref aRn, .ref aRp])), (aRn, .inl (cI, 8, .inl farn)), (aRp, .inl (cI, 48, .inl farp)), (ak, .inl (cI, 8, .inl fak)), (aw, .inr (3, [.int (nI (cn2_6)), .ref aWn, .ref aWp])), (aWn, .inl (cI, 8, .inl n2_11)), (aWp, .inl (cI, 48, .inl p2_12)), (att, .inl (cI, 8, .inl t3_13)), (ass, .inl (cI, 8, .inl z3_14)), (qd, .inr (1, [.int (nI (P2_5)), .ref ve, .ref vl, .ref vu, .ref vo, .ref vr, .ref vk, .ref vw, .ref vtt, .ref vss])), (ve, .inl (cI, 10, .inl e2_7)), (vl, .inl (cI, 100, .inl l2_8)), (vu, .inl (cI, 100, .inl u3_9)), (vo, .inl (cI, 100, .inl d2_10)), (vr, .inr (3, [.int (nI (Ra)), .ref vRn, .ref vRp])), (vRn, .inl (cI, 8, .inl farn)), (vRp, .inl (cI, 48, .inl farp)), (vk, .inl (cI, 8, .inl fak)), (vw, .inr (3, [.int (nI (cn2_6)), .ref vWn, .ref vWp])), (vWn, .inl (cI, 8, .inl n2_11)), (vWp, .inl (cI, 48, .inl p2_12)), (vtt, .inl (cI, 8, .inl t3_13)), (vss, .inl (cI, 8, .inl z3_14))] H := hP
    have hD : va_D A [(h0, .inr (8, [.ref qh, .ref qk, .ref qd, .int b0, .ref qa, .ref qm, .ref qs, .ref qp, .ref ql, .ref qt, .ref qz, .ref qf])), (qt, .inr (7, [.int (nI (z)), .ref tb, .int (kd (bA by9 z) z (nf (bA by9 z) z u2_3)), .int (nI (nf (bA by9 z) z u2_3)), .int (nI (nx (bA by9 z) z u2_3)), .int (nI (cv (bA by9 z) z (nf (bA by9 z) z u2_3) (nx (bA by9 z) z u2_3))), .int t2_4])), (tb, .inl (cI, 120, .inl by9)), (qh, .inr (1, [.int (nI (P2_5)), .ref ae, .ref al, .ref au, .ref ao, .ref ar, .ref ak, .ref aw, .ref att, .ref ass])), (ae, .inl (cI, 10, .inl e2_7)), (al, .inl (cI, 100, .inl l2_8)), (au, .inl (cI, 100, .inl u3_9)), (ao, .inl (cI, 100, .inl d2_10)), (ar, .inr (3, [.int (nI (Ra)), .ref aRn, .ref aRp])), (aRn, .inl (cI, 8, .inl farn)), (aRp, .inl (cI, 48, .inl farp)), (ak, .inl (cI, 8, .inl fak)), (aw, .inr (3, [.int (nI (cn2_6)), .ref aWn, .ref aWp])), (aWn, .inl (cI, 8, .inl n2_11)), (aWp, .inl (cI, 48, .inl p2_12)), (att, .inl (cI, 8, .inl t3_13)), (ass, .inl (cI, 8, .inl z3_14)), (qd, .inr (1, [.int (nI (P2_5)), .ref ve, .ref vl, .ref vu, .ref vo, .ref vr, .ref vk, .ref vw, .ref vtt, .ref vss])), (ve, .inl (cI, 10, .inl e2_7)), (vl, .inl (cI, 100, .inl l2_8)), (vu, .inl (cI, 100, .inl u3_9)), (vo, .inl (cI, 100, .inl d2_10)), (vr, .inr (3, [.int (nI (Ra)), .ref vRn, .ref vRp])), (vRn, .inl (cI, 8, .inl farn)), (vRp, .inl (cI, 48, .inl farp)), (vk, .inl (cI, 8, .inl fak)), (vw, .inr (3, [.int (nI (cn2_6)), .ref vWn, .ref vWp])), (vWn, .inl (cI, 8, .inl n2_11)), (vWp, .inl (cI, 48, .inl p2_12)), (vtt, .inl (cI, 8, .inl t3_13)), (vss, .inl (cI, 8, .inl z3_14))] := hD
    refine lv_aload_n hx hb dX8_land_38 rfl (lv_at hl 1 rfl) ?_
    refine xg hF kf_X8_60 hK hP 0 rfl rfl dX8_land_39 ?_
    refine lv_iconst (v := 0) hx hb dX8_land_42 (by decide) ?_
    refine xp hF kf_X8_275 tyX7_ok nmX7 hK hP hD hS 1 rfl rfl rfl rfl (Nat.le_of_ble_eq_true rfl) dX8_land_43 (fun H locs hP hD hS => ?_)
    have hP : va_P D vwCl [(h0, .inr (8, [.ref qh, .ref qk, .ref qd, .int b0, .ref qa, .ref qm, .ref qs, .ref qp, .ref ql, .ref qt, .ref qz, .ref qf])), (qt, .inr (7, [.int 0, .ref tb, .int (kd (bA by9 z) z (nf (bA by9 z) z u2_3)), .int (nI (nf (bA by9 z) z u2_3)), .int (nI (nx (bA by9 z) z u2_3)), .int (nI (cv (bA by9 z) z (nf (bA by9 z) z u2_3) (nx (bA by9 z) z u2_3))), .int t2_4])), (tb, .inl (cI, 120, .inl by9)), (qh, .inr (1, [.int (nI (P2_5)), .ref ae, .ref al, .ref au, .ref ao, .ref ar, .ref ak, .ref aw, .ref att, .ref ass])), (ae, .inl (cI, 10, .inl e2_7)), (al, .inl (cI, 100, .inl l2_8)), (au, .inl (cI, 100, .inl u3_9)), (ao, .inl (cI, 100, .inl d2_10)), (ar, .inr (3, [.int (nI (Ra)), .ref aRn, .ref aRp])), (aRn, .inl (cI, 8, .inl farn)), (aRp, .inl (cI, 48, .inl farp)), (ak, .inl (cI, 8, .inl fak)), (aw, .inr (3, [.int (nI (cn2_6)), .ref aWn, .ref aWp])), (aWn, .inl (cI, 8, .inl n2_11)), (aWp, .inl (cI, 48, .inl p2_12)), (att, .inl (cI, 8, .inl t3_13)), (ass, .inl (cI, 8, .inl z3_14)), (qd, .inr (1, [.int (nI (P2_5)), .ref ve, .ref vl, .ref vu, .ref vo, .ref vr, .ref vk, .ref vw, .ref vtt, .ref vss])), (ve, .inl (cI, 10, .inl e2_7)), (vl, .inl (cI, 100, .inl l2_8)), (vu, .inl (cI, 100, .inl u3_9)), (vo, .inl (cI, 100, .inl d2_10)), (vr, .inr (3, [.int (nI (Ra)), .ref vRn, .ref vRp])), (vRn, .inl (cI, 8, .inl farn)), (vRp, .inl (cI, 48, .inl farp)), (vk, .inl (cI, 8, .inl fak)), (vw, .inr (3, [.int (nI (cn2_6)), .ref vWn, .ref vWp])), (vWn, .inl (cI, 8, .inl n2_11)), (vWp, .inl (cI, 48, .inl p2_12)), (vtt, .inl (cI, 8, .inl t3_13)), (vss, .inl (cI, 8, .inl z3_14))] H := hP
    have hD : va_D A [(h0, .inr (8, [.ref qh, .ref qk, .ref qd, .int b0, .ref qa, .ref qm, .ref qs, .ref qp, .ref ql, .ref qt, .ref qz, .ref qf])), (qt, .inr (7, [.int 0, .ref tb, .int (kd (bA by9 z) z (nf (bA by9 z) z u2_3)), .int (nI (nf (bA by9 z) z u2_3)), .int (nI (nx (bA by9 z) z u2_3)), .int (nI (cv (bA by9 z) z (nf (bA by9 z) z u2_3) (nx (bA by9 z) z u2_3))), .int t2_4])), (tb, .inl (cI, 120, .inl by9)), (qh, .inr (1, [.int (nI (P2_5)), .ref ae, .ref al, .ref au, .ref ao, .ref ar, .ref ak, .ref aw, .ref att, .ref ass])), (ae, .inl (cI, 10, .inl e2_7)), (al, .inl (cI, 100, .inl l2_8)), (au, .inl (cI, 100, .inl u3_9)), (ao, .inl (cI, 100, .inl d2_10)), (ar, .inr (3, [.int (nI (Ra)), .ref aRn, .ref aRp])), (aRn, .inl (cI, 8, .inl farn)), (aRp, .inl (cI, 48, .inl farp)), (ak, .inl (cI, 8, .inl fak)), (aw, .inr (3, [.int (nI (cn2_6)), .ref aWn, .ref aWp])), (aWn, .inl (cI, 8, .inl n2_11)), (aWp, .inl (cI, 48, .inl p2_12)), (att, .inl (cI, 8, .inl t3_13)), (ass, .inl (cI, 8, .inl z3_14)), (qd, .inr (1, [.int (nI (P2_5)), .ref ve, .ref vl, .ref vu, .ref vo, .ref vr, .ref vk, .ref vw, .ref vtt, .ref vss])), (ve, .inl (cI, 10, .inl e2_7)), (vl, .inl (cI, 100, .inl l2_8)), (vu, .inl (cI, 100, .inl u3_9)), (vo, .inl (cI, 100, .inl d2_10)), (vr, .inr (3, [.int (nI (Ra)), .ref vRn, .ref vRp])), (vRn, .inl (cI, 8, .inl farn)), (vRp, .inl (cI, 48, .inl farp)), (vk, .inl (cI, 8, .inl fak)), (vw, .inr (3, [.int (nI (cn2_6)), .ref vWn, .ref vWp])), (vWn, .inl (cI, 8, .inl n2_11)), (vWp, .inl (cI, 48, .inl p2_12)), (vtt, .inl (cI, 8, .inl t3_13)), (vss, .inl (cI, 8, .inl z3_14))] := hD
    refine lv_iload_n hx hb dX8_land_46 rfl (lv_at hl 0 rfl) ?_
    have ht9 := tk_le (b := (bA by9 z)) (show u2_3 ≤ z by omega)
    exact W.iret (v := nI (n_21)) hx hb hr (fun t ht hW => ⟨⟨nI (n_21), (P2_5, e2_7, l2_8, u3_9, d2_10, cn2_6, n2_11, p2_12, t3_13, z3_14, P2_5, e2_7, l2_8, u3_9, d2_10, Ra, farn, farp, fak, cn2_6, n2_11, p2_12, t3_13, z3_14, kd (bA by9 z) z (nf (bA by9 z) z u2_3), nf (bA by9 z) z u2_3, nx (bA by9 z) z u2_3, cv (bA by9 z) z (nf (bA by9 z) z u2_3) (nx (bA by9 z) z u2_3), t2_4), rfl, ⟨(by rw [h_22]; rfl), (by first | assumption | omega), (by first | assumption | omega), cv_le, (by rw [h_22]; rfl), (by rw [h_22]; rfl), (by rw [h_22]; exact h_24), (by rw [h_22]; exact h_25), (by rw [h_22]; exact h_26), (by rw [h_22]; exact h_27), (by rw [h_22]; exact h_28), (by rw [h_22]; exact h_29), (by rw [h_22]; exact h_30), (by rw [h_22]; exact h_31), (by first | assumption | omega), (by first | assumption | omega), i_17, (by first | assumption | omega), (by first | assumption | omega), (by first | assumption | omega), i_18, i_19, harn, harp, i_18, i_19⟩, by rw [ht]; exact hP.sub [0, 3, 4, 5, 6, 7, 8, 9, 10, 11, 12, 13, 14, 15, 16, 17, 18, 19, 20, 21, 22, 23, 24, 25, 26, 27, 28, 29, 30, 1, 2] rfl, hD.sub [0, 3, 4, 5, 6, 7, 8, 9, 10, 11, 12, 13, 14, 15, 16, 17, 18, 19, 20, 21, 22, 23, 24, 25, 26, 27, 28, 29, 30, 1, 2] (by decide +kernel) rfl⟩, hS.F ht⟩) hS.2.2 dX8_land_47 hlk
  · skip
    refine lv_istore_n (lv' := [(1, .int (-1 - nI (nf (bA by9 z) z k_32))), (0, .ref h0)]) hx hb dX8_land_22 rfl hl (by decide) rfl (fun ls hl => ?_)
    refine lv_iload_n hx hb dX8_land_23 rfl (lv_at hl 0 rfl) ?_
    refine lv_if_lt (tgt := 38) hx hb dX8_land_24 (by decide) (fun c_37 => ?_) (fun c_37 => absurd (x_mone (by have h9 := (tk_le (b := (bA by9 z)) h_34); omega)) c_37)
    refine lv_aload_n hx hb dX8_land_38 rfl (lv_at hl 1 rfl) ?_
    refine xg hF kf_X8_60 hK hP 0 rfl rfl dX8_land_39 ?_
    refine lv_iconst (v := 0) hx hb dX8_land_42 (by decide) ?_
    refine xp hF kf_X8_275 tyX7_ok nmX7 hK hP hD hS 19 rfl rfl rfl rfl (Nat.le_of_ble_eq_true rfl) dX8_land_43 (fun H locs hP hD hS => ?_)
    have hP : va_P D vwCl [(h0, .inr (8, [.ref qh, .ref qk, .ref qd, .int b0, .ref qa, .ref qm, .ref qs, .ref qp, .ref ql, .ref qt, .ref qz, .ref qf])), (vr, .inr (3, [.int (nI (Ra)), .ref vRn, .ref vRp])), (vRn, .inl (cI, 8, .inl farn)), (vRp, .inl (cI, 48, .inl farp)), (vk, .inl (cI, 8, .inl fak)), (qh, .inr (1, [.int (nI (Pa)), .ref ae, .ref al, .ref au, .ref ao, .ref ar, .ref ak, .ref aw, .ref att, .ref ass])), (ae, .inl (cI, 10, .inl fae)), (al, .inl (cI, 100, .inl fal)), (au, .inl (cI, 100, .inl fau)), (ao, .inl (cI, 100, .inl fao)), (ar, .inr (3, [.int (nI (Ra)), .ref aRn, .ref aRp])), (aRn, .inl (cI, 8, .inl farn)), (aRp, .inl (cI, 48, .inl farp)), (ak, .inl (cI, 8, .inl fak)), (aw, .inr (3, [.int (nI (Wa)), .ref aWn, .ref aWp])), (aWn, .inl (cI, 8, .inl fawn)), (aWp, .inl (cI, 48, .inl fawp)), (att, .inl (cI, 8, .inl fat)), (ass, .inl (cI, 8, .inl fas)), (qt, .inr (7, [.int 0, .ref tb, .int (kd (bA by9 z) z (nf (bA by9 z) z u2_3)), .int (nI (nf (bA by9 z) z u2_3)), .int (nI (nx (bA by9 z) z u2_3)), .int (nI (cv (bA by9 z) z (nf (bA by9 z) z u2_3) (nx (bA by9 z) z u2_3))), .int t2_4])), (tb, .inl (cI, 120, .inl by9)), (qd, .inr (1, [.int (nI (P2_5)), .ref ve, .ref vl, .ref vu, .ref vo, .ref vr, .ref vk, .ref vw, .ref vtt, .ref vss])), (ve, .inl (cI, 10, .inl e2_7)), (vl, .inl (cI, 100, .inl l2_8)), (vu, .inl (cI, 100, .inl u3_9)), (vo, .inl (cI, 100, .inl d2_10)), (vw, .inr (3, [.int (nI (cn2_6)), .ref vWn, .ref vWp])), (vWn, .inl (cI, 8, .inl n2_11)), (vWp, .inl (cI, 48, .inl p2_12)), (vtt, .inl (cI, 8, .inl t3_13)), (vss, .inl (cI, 8, .inl z3_14))] H := hP
    have hD : va_D A [(h0, .inr (8, [.ref qh, .ref qk, .ref qd, .int b0, .ref qa, .ref qm, .ref qs, .ref qp, .ref ql, .ref qt, .ref qz, .ref qf])), (vr, .inr (3, [.int (nI (Ra)), .ref vRn, .ref vRp])), (vRn, .inl (cI, 8, .inl farn)), (vRp, .inl (cI, 48, .inl farp)), (vk, .inl (cI, 8, .inl fak)), (qh, .inr (1, [.int (nI (Pa)), .ref ae, .ref al, .ref au, .ref ao, .ref ar, .ref ak, .ref aw, .ref att, .ref ass])), (ae, .inl (cI, 10, .inl fae)), (al, .inl (cI, 100, .inl fal)), (au, .inl (cI, 100, .inl fau)), (ao, .inl (cI, 100, .inl fao)), (ar, .inr (3, [.int (nI (Ra)), .ref aRn, .ref aRp])), (aRn, .inl (cI, 8, .inl farn)), (aRp, .inl (cI, 48, .inl farp)), (ak, .inl (cI, 8, .inl fak)), (aw, .inr (3, [.int (nI (Wa)), .ref aWn, .ref aWp])), (aWn, .inl (cI, 8, .inl fawn)), (aWp, .inl (cI, 48, .inl fawp)), (att, .inl (cI, 8, .inl fat)), (ass, .inl (cI, 8, .inl fas)), (qt, .inr (7, [.int 0, .ref tb, .int (kd (bA by9 z) z (nf (bA by9 z) z u2_3)), .int (nI (nf (bA by9 z) z u2_3)), .int (nI (nx (bA by9 z) z u2_3)), .int (nI (cv (bA by9 z) z (nf (bA by9 z) z u2_3) (nx (bA by9 z) z u2_3))), .int t2_4])), (tb, .inl (cI, 120, .inl by9)), (qd, .inr (1, [.int (nI (P2_5)), .ref ve, .ref vl, .ref vu, .ref vo, .ref vr, .ref vk, .ref vw, .ref vtt, .ref vss])), (ve, .inl (cI, 10, .inl e2_7)), (vl, .inl (cI, 100, .inl l2_8)), (vu, .inl (cI, 100, .inl u3_9)), (vo, .inl (cI, 100, .inl d2_10)), (vw, .inr (3, [.int (nI (cn2_6)), .ref vWn, .ref vWp])), (vWn, .inl (cI, 8, .inl n2_11)), (vWp, .inl (cI, 48, .inl p2_12)), (vtt, .inl (cI, 8, .inl t3_13)), (vss, .inl (cI, 8, .inl z3_14))] := hD
    refine lv_iload_n hx hb dX8_land_46 rfl (lv_at hl 0 rfl) ?_
    have ht9 := tk_le (b := (bA by9 z)) (show u2_3 ≤ z by omega)
    exact W.iret (v := -1 - nI (nf (bA by9 z) z k_32)) hx hb hr (fun t ht hW => ⟨⟨-1 - nI (nf (bA by9 z) z k_32), (Pa, fae, fal, fau, fao, Wa, fawn, fawp, fat, fas, P2_5, e2_7, l2_8, u3_9, d2_10, Ra, farn, farp, fak, cn2_6, n2_11, p2_12, t3_13, z3_14, kd (bA by9 z) z (nf (bA by9 z) z u2_3), nf (bA by9 z) z u2_3, nx (bA by9 z) z u2_3, cv (bA by9 z) z (nf (bA by9 z) z u2_3) (nx (bA by9 z) z u2_3), t2_4), rfl, ⟨(by rw [h_33]; rfl), (by first | assumption | omega), (by first | assumption | omega), cv_le, (by rw [h_33]; rfl), (by rw [h_33]; rfl), (by rw [h_33]; rfl), (by rw [h_33]; rfl), (by rw [h_33]; rfl), (by rw [h_33]; rfl), (by rw [h_33]; rfl), (by rw [h_33]; rfl), (by rw [h_33]; rfl), (by rw [h_33]; rfl), (by first | assumption | omega), (by first | assumption | omega), hLLw, (by first | assumption | omega), (by first | assumption | omega), (by first | assumption | omega), hawn, hawp, harn, harp, i_18, i_19⟩, by rw [ht]; exact hP.sub [0, 5, 6, 7, 8, 9, 10, 11, 12, 13, 14, 15, 16, 17, 18, 21, 22, 23, 24, 25, 1, 2, 3, 4, 26, 27, 28, 29, 30, 19, 20] rfl, hD.sub [0, 5, 6, 7, 8, 9, 10, 11, 12, 13, 14, 15, 16, 17, 18, 21, 22, 23, 24, 25, 1, 2, 3, 4, 26, 27, 28, 29, 30, 19, 20] (by decide +kernel) rfl⟩, hS.F ht⟩) hS.2.2 dX8_land_47 hlk
set_option maxHeartbeats 4000000 in
set_option maxRecDepth 100000 in
theorem c_X8_image (l : Launch) (D : va_G) (cI cJ cZ cS : ClassId) (ta : Nat) (sa sv : Nat → Nat) (sz : Nat) (h0 : Nat) (qh : Nat) (qk : Nat) (qd : Nat) (b0 : Int32) (qa : Nat) (qm : Nat) (qs : Nat) (qp : Nat) (ql : Nat) (qt : Nat) (qz : Nat) (qf : Nat) (Pa : Nat) (ae : Nat) (al : Nat) (au : Nat) (ao : Nat) (ar : Nat) (ak : Nat) (aw : Nat) (att : Nat) (ass : Nat) (fae : Nat → Int32) (fal : Nat → Int32) (fau : Nat → Int32) (fao : Nat → Int32) (Ra : Nat) (aRn : Nat) (aRp : Nat) (farn : Nat → Int32) (farp : Nat → Int32) (fak : Nat → Int32) (Wa : Nat) (aWn : Nat) (aWp : Nat) (fawn : Nat → Int32) (fawp : Nat → Int32) (fat : Nat → Int32) (fas : Nat → Int32) (Pk : Nat) (ke : Nat) (kl : Nat) (ku : Nat) (ko : Nat) (kr : Nat) (kk : Nat) (kw : Nat) (ktt : Nat) (kss : Nat) (fke : Nat → Int32) (fkl : Nat → Int32) (fku : Nat → Int32) (fko : Nat → Int32) (Rk : Nat) (kRn : Nat) (kRp : Nat) (fkrn : Nat → Int32) (fkrp : Nat → Int32) (fkk : Nat → Int32) (Wk : Nat) (kWn : Nat) (kWp : Nat) (fkwn : Nat → Int32) (fkwp : Nat → Int32) (fkt : Nat → Int32) (fks : Nat → Int32) (hP0 : Pa ≤ 10) (hR : Ra ≤ 8) (hLLr : LL Ra farn) (hWa : Wa ≤ 8) (hLLw : LL Wa fawn) (harn : BA 8 7 farn) (harp : BA 48 10 farp) (hawn : BA 8 7 fawn) (hawp : BA 48 10 fawp) (hkrn : BA 8 7 fkrn) (hkrp : BA 48 10 fkrp) (hkwn : BA 8 7 fkwn) (hkwp : BA 48 10 fkwp) : Met l yX8_image (Cond.code yX8_image cX8_image 1 (some .int) :: wsU) ({ frames := 3, cells := 0, slots := 0, locals := 102 }) (va_Pc [.ref h0] (XW D (xT cI cJ cZ cS) ta sa sv [(h0, .inr (8, [.ref qh, .ref qk, .ref qd, .int b0, .ref qa, .ref qm, .ref qs, .ref qp, .ref ql, .ref qt, .ref qz, .ref qf])), (qh, .inr (1, [.int (nI (Pa)), .ref ae, .ref al, .ref au, .ref ao, .ref ar, .ref ak, .ref aw, .ref att, .ref ass])), (ae, .inl (cI, 10, .inl fae)), (al, .inl (cI, 100, .inl fal)), (au, .inl (cI, 100, .inl fau)), (ao, .inl (cI, 100, .inl fao)), (ar, .inr (3, [.int (nI (Ra)), .ref aRn, .ref aRp])), (aRn, .inl (cI, 8, .inl farn)), (aRp, .inl (cI, 48, .inl farp)), (ak, .inl (cI, 8, .inl fak)), (aw, .inr (3, [.int (nI (Wa)), .ref aWn, .ref aWp])), (aWn, .inl (cI, 8, .inl fawn)), (aWp, .inl (cI, 48, .inl fawp)), (att, .inl (cI, 8, .inl fat)), (ass, .inl (cI, 8, .inl fas)), (qk, .inr (1, [.int (nI (Pk)), .ref ke, .ref kl, .ref ku, .ref ko, .ref kr, .ref kk, .ref kw, .ref ktt, .ref kss])), (ke, .inl (cI, 10, .inl fke)), (kl, .inl (cI, 100, .inl fkl)), (ku, .inl (cI, 100, .inl fku)), (ko, .inl (cI, 100, .inl fko)), (kr, .inr (3, [.int (nI (Rk)), .ref kRn, .ref kRp])), (kRn, .inl (cI, 8, .inl fkrn)), (kRp, .inl (cI, 48, .inl fkrp)), (kk, .inl (cI, 8, .inl fkk)), (kw, .inr (3, [.int (nI (Wk)), .ref kWn, .ref kWp])), (kWn, .inl (cI, 8, .inl fkwn)), (kWp, .inl (cI, 48, .inl fkwp)), (ktt, .inl (cI, 8, .inl fkt)), (kss, .inl (cI, 8, .inl fks))] sz)) (XQi (fun (r : Int32) (_ : Unit) => ((r = 1))) D (fun _ : Unit => [(h0, .inr (8, [.ref qh, .ref qk, .ref qd, .int 1, .ref qa, .ref qm, .ref qs, .ref qp, .ref ql, .ref qt, .ref qz, .ref qf])), (qh, .inr (1, [.int (nI (Pa)), .ref ae, .ref al, .ref au, .ref ao, .ref ar, .ref ak, .ref aw, .ref att, .ref ass])), (ae, .inl (cI, 10, .inl fae)), (al, .inl (cI, 100, .inl fal)), (au, .inl (cI, 100, .inl fau)), (ao, .inl (cI, 100, .inl fao)), (ar, .inr (3, [.int (nI (Ra)), .ref aRn, .ref aRp])), (aRn, .inl (cI, 8, .inl farn)), (aRp, .inl (cI, 48, .inl farp)), (ak, .inl (cI, 8, .inl fak)), (aw, .inr (3, [.int (nI (Wa)), .ref aWn, .ref aWp])), (aWn, .inl (cI, 8, .inl fawn)), (aWp, .inl (cI, 48, .inl fawp)), (att, .inl (cI, 8, .inl fat)), (ass, .inl (cI, 8, .inl fas)), (qk, .inr (1, [.int (nI (Pa)), .ref ke, .ref kl, .ref ku, .ref ko, .ref kr, .ref kk, .ref kw, .ref ktt, .ref kss])), (ke, .inl (cI, 10, .inl fae)), (kl, .inl (cI, 100, .inl fal)), (ku, .inl (cI, 100, .inl fau)), (ko, .inl (cI, 100, .inl fao)), (kr, .inr (3, [.int (nI (Ra)), .ref kRn, .ref kRp])), (kRn, .inl (cI, 8, .inl farn)), (kRp, .inl (cI, 48, .inl farp)), (kk, .inl (cI, 8, .inl fak)), (kw, .inr (3, [.int (nI (Wa)), .ref kWn, .ref kWp])), (kWn, .inl (cI, 8, .inl fawn)), (kWp, .inl (cI, 48, .inl fawp)), (ktt, .inl (cI, 8, .inl fat)), (kss, .inl (cI, 8, .inl fas))]) (va_A [(h0, .inr (8, [.ref qh, .ref qk, .ref qd, .int b0, .ref qa, .ref qm, .ref qs, .ref qp, .ref ql, .ref qt, .ref qz, .ref qf])), (qh, .inr (1, [.int (nI (Pa)), .ref ae, .ref al, .ref au, .ref ao, .ref ar, .ref ak, .ref aw, .ref att, .ref ass])), (ae, .inl (cI, 10, .inl fae)), (al, .inl (cI, 100, .inl fal)), (au, .inl (cI, 100, .inl fau)), (ao, .inl (cI, 100, .inl fao)), (ar, .inr (3, [.int (nI (Ra)), .ref aRn, .ref aRp])), (aRn, .inl (cI, 8, .inl farn)), (aRp, .inl (cI, 48, .inl farp)), (ak, .inl (cI, 8, .inl fak)), (aw, .inr (3, [.int (nI (Wa)), .ref aWn, .ref aWp])), (aWn, .inl (cI, 8, .inl fawn)), (aWp, .inl (cI, 48, .inl fawp)), (att, .inl (cI, 8, .inl fat)), (ass, .inl (cI, 8, .inl fas)), (qk, .inr (1, [.int (nI (Pk)), .ref ke, .ref kl, .ref ku, .ref ko, .ref kr, .ref kk, .ref kw, .ref ktt, .ref kss])), (ke, .inl (cI, 10, .inl fke)), (kl, .inl (cI, 100, .inl fkl)), (ku, .inl (cI, 100, .inl fku)), (ko, .inl (cI, 100, .inl fko)), (kr, .inr (3, [.int (nI (Rk)), .ref kRn, .ref kRp])), (kRn, .inl (cI, 8, .inl fkrn)), (kRp, .inl (cI, 48, .inl fkrp)), (kk, .inl (cI, 8, .inl fkk)), (kw, .inr (3, [.int (nI (Wk)), .ref kWn, .ref kWp])), (kWn, .inl (cI, 8, .inl fkwn)), (kWp, .inl (cI, 48, .inl fkwp)), (ktt, .inl (cI, 8, .inl fkt)), (kss, .inl (cI, 8, .inl fks))] sz)) 0 0 (va_A [(h0, .inr (8, [.ref qh, .ref qk, .ref qd, .int b0, .ref qa, .ref qm, .ref qs, .ref qp, .ref ql, .ref qt, .ref qz, .ref qf])), (qh, .inr (1, [.int (nI (Pa)), .ref ae, .ref al, .ref au, .ref ao, .ref ar, .ref ak, .ref aw, .ref att, .ref ass])), (ae, .inl (cI, 10, .inl fae)), (al, .inl (cI, 100, .inl fal)), (au, .inl (cI, 100, .inl fau)), (ao, .inl (cI, 100, .inl fao)), (ar, .inr (3, [.int (nI (Ra)), .ref aRn, .ref aRp])), (aRn, .inl (cI, 8, .inl farn)), (aRp, .inl (cI, 48, .inl farp)), (ak, .inl (cI, 8, .inl fak)), (aw, .inr (3, [.int (nI (Wa)), .ref aWn, .ref aWp])), (aWn, .inl (cI, 8, .inl fawn)), (aWp, .inl (cI, 48, .inl fawp)), (att, .inl (cI, 8, .inl fat)), (ass, .inl (cI, 8, .inl fas)), (qk, .inr (1, [.int (nI (Pk)), .ref ke, .ref kl, .ref ku, .ref ko, .ref kr, .ref kk, .ref kw, .ref ktt, .ref kss])), (ke, .inl (cI, 10, .inl fke)), (kl, .inl (cI, 100, .inl fkl)), (ku, .inl (cI, 100, .inl fku)), (ko, .inl (cI, 100, .inl fko)), (kr, .inr (3, [.int (nI (Rk)), .ref kRn, .ref kRp])), (kRn, .inl (cI, 8, .inl fkrn)), (kRp, .inl (cI, 48, .inl fkrp)), (kk, .inl (cI, 8, .inl fkk)), (kw, .inr (3, [.int (nI (Wk)), .ref kWn, .ref kWp])), (kWn, .inl (cI, 8, .inl fkwn)), (kWp, .inl (cI, 48, .inl fkwp)), (ktt, .inl (cI, 8, .inl fkt)), (kss, .inl (cI, 8, .inl fks))] sz) := by
  refine xh (QA := fun A => XQi (fun (r : Int32) (_ : Unit) => ((r = 1))) D (fun _ : Unit => [(h0, .inr (8, [.ref qh, .ref qk, .ref qd, .int 1, .ref qa, .ref qm, .ref qs, .ref qp, .ref ql, .ref qt, .ref qz, .ref qf])), (qh, .inr (1, [.int (nI (Pa)), .ref ae, .ref al, .ref au, .ref ao, .ref ar, .ref ak, .ref aw, .ref att, .ref ass])), (ae, .inl (cI, 10, .inl fae)), (al, .inl (cI, 100, .inl fal)), (au, .inl (cI, 100, .inl fau)), (ao, .inl (cI, 100, .inl fao)), (ar, .inr (3, [.int (nI (Ra)), .ref aRn, .ref aRp])), (aRn, .inl (cI, 8, .inl farn)), (aRp, .inl (cI, 48, .inl farp)), (ak, .inl (cI, 8, .inl fak)), (aw, .inr (3, [.int (nI (Wa)), .ref aWn, .ref aWp])), (aWn, .inl (cI, 8, .inl fawn)), (aWp, .inl (cI, 48, .inl fawp)), (att, .inl (cI, 8, .inl fat)), (ass, .inl (cI, 8, .inl fas)), (qk, .inr (1, [.int (nI (Pa)), .ref ke, .ref kl, .ref ku, .ref ko, .ref kr, .ref kk, .ref kw, .ref ktt, .ref kss])), (ke, .inl (cI, 10, .inl fae)), (kl, .inl (cI, 100, .inl fal)), (ku, .inl (cI, 100, .inl fau)), (ko, .inl (cI, 100, .inl fao)), (kr, .inr (3, [.int (nI (Ra)), .ref kRn, .ref kRp])), (kRn, .inl (cI, 8, .inl farn)), (kRp, .inl (cI, 48, .inl farp)), (kk, .inl (cI, 8, .inl fak)), (kw, .inr (3, [.int (nI (Wa)), .ref kWn, .ref kWp])), (kWn, .inl (cI, 8, .inl fawn)), (kWp, .inl (cI, 48, .inl fawp)), (ktt, .inl (cI, 8, .inl fat)), (kss, .inl (cI, 8, .inl fas))]) A) (fr := fun A => A) (by decide) (Nat.le_of_ble_eq_true rfl) ?_
  intro p e s m below meth c ls A hF hr hlk hin hsz hP hK hD hN hZ hA hS hl
  have hF : CallFix p m c cX8_image 1 s _ _ RX8 := hF
  have hx := hF.1
  have hb := hF.2.1
  have hml := hF.2.2.1
  have hown := hF.2.2.2.1
  have hu : ∀ w ∈ wsU, w.before _ s = true := fun w h => hF.2.2.2.2 w (List.mem_cons_of_mem _ h)
  have hl : lv_has ls 1 [(0, .ref h0)] := hl
  refine lv_aload_n hx hb dX8_image_0 rfl (lv_at hl 0 rfl) ?_
  refine xg hF kf_X8_16 hK hP 0 rfl rfl dX8_image_1 ?_
  refine lv_aload_n hx hb dX8_image_4 rfl (lv_at hl 0 rfl) ?_
  refine xg hF kf_X8_12 hK hP 0 rfl rfl dX8_image_5 ?_
  refine xc_Vv (wr := [(h0, .inr (8, [.ref qh, .ref qk, .ref qd, .int b0, .ref qa, .ref qm, .ref qs, .ref qp, .ref ql, .ref qt, .ref qz, .ref qf]))]) hF (c_X1_become l D cI cJ cZ cS ta sa sv s.heap.size qk qh ke kl ku ko kr kk kw ktt kss kRn kRp kWn kWp Pk Rk Wk fke fkl fku fko fkrn fkrp fkk fkwn fkwp fkt fks ae al au ao ar ak aw att ass aRn aRp aWn aWp Pa Ra Wa fae fal fau fao farn farp fak fawn fawp fat fas hkrn hkrp hkwn hkwp harn harp hawn hawp) kv_X8_241 ⟨rfl, rfl, Nat.le_of_ble_eq_true rfl, Nat.le_of_ble_eq_true rfl⟩ ⟨Nat.le_of_ble_eq_true rfl, Nat.le_of_ble_eq_true rfl⟩ hK hN hZ hP hD hS hA [15, 16, 17, 18, 19, 20, 21, 22, 23, 24, 25, 26, 27, 28, 1, 2, 3, 4, 5, 6, 7, 8, 9, 10, 11, 12, 13, 14] [0] rfl rfl (by decide +kernel) rfl (by decide +kernel) 0 rfl rfl rfl rfl hl.1 rfl (Nat.le_of_ble_eq_true rfl) dX8_image_8 (fun u_r_1 H locs hw_r_1 hP hD hS => ?_)
  have hP : va_P D vwCl [(h0, .inr (8, [.ref qh, .ref qk, .ref qd, .int b0, .ref qa, .ref qm, .ref qs, .ref qp, .ref ql, .ref qt, .ref qz, .ref qf])), (qk, .inr (1, [.int (nI (Pa)), .ref ke, .ref kl, .ref ku, .ref ko, .ref kr, .ref kk, .ref kw, .ref ktt, .ref kss])), (ke, .inl (cI, 10, .inl fae)), (kl, .inl (cI, 100, .inl fal)), (ku, .inl (cI, 100, .inl fau)), (ko, .inl (cI, 100, .inl fao)), (kr, .inr (3, [.int (nI (Ra)), .ref kRn, .ref kRp])), (kRn, .inl (cI, 8, .inl farn)), (kRp, .inl (cI, 48, .inl farp)), (kk, .inl (cI, 8, .inl fak)), (kw, .inr (3, [.int (nI (Wa)), .ref kWn, .ref kWp])), (kWn, .inl (cI, 8, .inl fawn)), (kWp, .inl (cI, 48, .inl fawp)), (ktt, .inl (cI, 8, .inl fat)), (kss, .inl (cI, 8, .inl fas)), (qh, .inr (1, [.int (nI (Pa)), .ref ae, .ref al, .ref au, .ref ao, .ref ar, .ref ak, .ref aw, .ref att, .ref ass])), (ae, .inl (cI, 10, .inl fae)), (al, .inl (cI, 100, .inl fal)), (au, .inl (cI, 100, .inl fau)), (ao, .inl (cI, 100, .inl fao)), (ar, .inr (3, [.int (nI (Ra)), .ref aRn, .ref aRp])), (aRn, .inl (cI, 8, .inl farn)), (aRp, .inl (cI, 48, .inl farp)), (ak, .inl (cI, 8, .inl fak)), (aw, .inr (3, [.int (nI (Wa)), .ref aWn, .ref aWp])), (aWn, .inl (cI, 8, .inl fawn)), (aWp, .inl (cI, 48, .inl fawp)), (att, .inl (cI, 8, .inl fat)), (ass, .inl (cI, 8, .inl fas))] H := hP
  have hD : va_D A [(h0, .inr (8, [.ref qh, .ref qk, .ref qd, .int b0, .ref qa, .ref qm, .ref qs, .ref qp, .ref ql, .ref qt, .ref qz, .ref qf])), (qk, .inr (1, [.int (nI (Pa)), .ref ke, .ref kl, .ref ku, .ref ko, .ref kr, .ref kk, .ref kw, .ref ktt, .ref kss])), (ke, .inl (cI, 10, .inl fae)), (kl, .inl (cI, 100, .inl fal)), (ku, .inl (cI, 100, .inl fau)), (ko, .inl (cI, 100, .inl fao)), (kr, .inr (3, [.int (nI (Ra)), .ref kRn, .ref kRp])), (kRn, .inl (cI, 8, .inl farn)), (kRp, .inl (cI, 48, .inl farp)), (kk, .inl (cI, 8, .inl fak)), (kw, .inr (3, [.int (nI (Wa)), .ref kWn, .ref kWp])), (kWn, .inl (cI, 8, .inl fawn)), (kWp, .inl (cI, 48, .inl fawp)), (ktt, .inl (cI, 8, .inl fat)), (kss, .inl (cI, 8, .inl fas)), (qh, .inr (1, [.int (nI (Pa)), .ref ae, .ref al, .ref au, .ref ao, .ref ar, .ref ak, .ref aw, .ref att, .ref ass])), (ae, .inl (cI, 10, .inl fae)), (al, .inl (cI, 100, .inl fal)), (au, .inl (cI, 100, .inl fau)), (ao, .inl (cI, 100, .inl fao)), (ar, .inr (3, [.int (nI (Ra)), .ref aRn, .ref aRp])), (aRn, .inl (cI, 8, .inl farn)), (aRp, .inl (cI, 48, .inl farp)), (ak, .inl (cI, 8, .inl fak)), (aw, .inr (3, [.int (nI (Wa)), .ref aWn, .ref aWp])), (aWn, .inl (cI, 8, .inl fawn)), (aWp, .inl (cI, 48, .inl fawp)), (att, .inl (cI, 8, .inl fat)), (ass, .inl (cI, 8, .inl fas))] := hD
  refine lv_aload_n hx hb dX8_image_11 rfl (lv_at hl 0 rfl) ?_
  refine lv_iconst (v := 1) hx hb dX8_image_12 (by decide) ?_
  refine xp hF kf_X8_22 tyX8_ok nmX8 hK hP hD hS 0 rfl rfl rfl rfl (Nat.le_of_ble_eq_true rfl) dX8_image_13 (fun H locs hP hD hS => ?_)
  have hP : va_P D vwCl [(h0, .inr (8, [.ref qh, .ref qk, .ref qd, .int 1, .ref qa, .ref qm, .ref qs, .ref qp, .ref ql, .ref qt, .ref qz, .ref qf])), (qk, .inr (1, [.int (nI (Pa)), .ref ke, .ref kl, .ref ku, .ref ko, .ref kr, .ref kk, .ref kw, .ref ktt, .ref kss])), (ke, .inl (cI, 10, .inl fae)), (kl, .inl (cI, 100, .inl fal)), (ku, .inl (cI, 100, .inl fau)), (ko, .inl (cI, 100, .inl fao)), (kr, .inr (3, [.int (nI (Ra)), .ref kRn, .ref kRp])), (kRn, .inl (cI, 8, .inl farn)), (kRp, .inl (cI, 48, .inl farp)), (kk, .inl (cI, 8, .inl fak)), (kw, .inr (3, [.int (nI (Wa)), .ref kWn, .ref kWp])), (kWn, .inl (cI, 8, .inl fawn)), (kWp, .inl (cI, 48, .inl fawp)), (ktt, .inl (cI, 8, .inl fat)), (kss, .inl (cI, 8, .inl fas)), (qh, .inr (1, [.int (nI (Pa)), .ref ae, .ref al, .ref au, .ref ao, .ref ar, .ref ak, .ref aw, .ref att, .ref ass])), (ae, .inl (cI, 10, .inl fae)), (al, .inl (cI, 100, .inl fal)), (au, .inl (cI, 100, .inl fau)), (ao, .inl (cI, 100, .inl fao)), (ar, .inr (3, [.int (nI (Ra)), .ref aRn, .ref aRp])), (aRn, .inl (cI, 8, .inl farn)), (aRp, .inl (cI, 48, .inl farp)), (ak, .inl (cI, 8, .inl fak)), (aw, .inr (3, [.int (nI (Wa)), .ref aWn, .ref aWp])), (aWn, .inl (cI, 8, .inl fawn)), (aWp, .inl (cI, 48, .inl fawp)), (att, .inl (cI, 8, .inl fat)), (ass, .inl (cI, 8, .inl fas))] H := hP
  have hD : va_D A [(h0, .inr (8, [.ref qh, .ref qk, .ref qd, .int 1, .ref qa, .ref qm, .ref qs, .ref qp, .ref ql, .ref qt, .ref qz, .ref qf])), (qk, .inr (1, [.int (nI (Pa)), .ref ke, .ref kl, .ref ku, .ref ko, .ref kr, .ref kk, .ref kw, .ref ktt, .ref kss])), (ke, .inl (cI, 10, .inl fae)), (kl, .inl (cI, 100, .inl fal)), (ku, .inl (cI, 100, .inl fau)), (ko, .inl (cI, 100, .inl fao)), (kr, .inr (3, [.int (nI (Ra)), .ref kRn, .ref kRp])), (kRn, .inl (cI, 8, .inl farn)), (kRp, .inl (cI, 48, .inl farp)), (kk, .inl (cI, 8, .inl fak)), (kw, .inr (3, [.int (nI (Wa)), .ref kWn, .ref kWp])), (kWn, .inl (cI, 8, .inl fawn)), (kWp, .inl (cI, 48, .inl fawp)), (ktt, .inl (cI, 8, .inl fat)), (kss, .inl (cI, 8, .inl fas)), (qh, .inr (1, [.int (nI (Pa)), .ref ae, .ref al, .ref au, .ref ao, .ref ar, .ref ak, .ref aw, .ref att, .ref ass])), (ae, .inl (cI, 10, .inl fae)), (al, .inl (cI, 100, .inl fal)), (au, .inl (cI, 100, .inl fau)), (ao, .inl (cI, 100, .inl fao)), (ar, .inr (3, [.int (nI (Ra)), .ref aRn, .ref aRp])), (aRn, .inl (cI, 8, .inl farn)), (aRp, .inl (cI, 48, .inl farp)), (ak, .inl (cI, 8, .inl fak)), (aw, .inr (3, [.int (nI (Wa)), .ref aWn, .ref aWp])), (aWn, .inl (cI, 8, .inl fawn)), (aWp, .inl (cI, 48, .inl fawp)), (att, .inl (cI, 8, .inl fat)), (ass, .inl (cI, 8, .inl fas))] := hD
  refine lv_iconst (v := 1) hx hb dX8_image_16 (by decide) ?_
  exact W.iret (v := 1) hx hb hr (fun t ht hW => ⟨⟨1, (), rfl, (by first | exact rfl), by rw [ht]; exact hP.sub [0, 15, 16, 17, 18, 19, 20, 21, 22, 23, 24, 25, 26, 27, 28, 1, 2, 3, 4, 5, 6, 7, 8, 9, 10, 11, 12, 13, 14] rfl, hD.sub [0, 15, 16, 17, 18, 19, 20, 21, 22, 23, 24, 25, 26, 27, 28, 1, 2, 3, 4, 5, 6, 7, 8, 9, 10, 11, 12, 13, 14] (by decide +kernel) rfl⟩, hS.F ht⟩) hS.2.2 dX8_image_17 hlk
set_option maxHeartbeats 4000000 in
set_option maxRecDepth 100000 in
theorem c_X8_undo (l : Launch) (D : va_G) (cI cJ cZ cS : ClassId) (ta : Nat) (sa sv : Nat → Nat) (sz : Nat) (h0 : Nat) (qh : Nat) (qk : Nat) (qd : Nat) (b0 : Int32) (qa : Nat) (qm : Nat) (qs : Nat) (qp : Nat) (ql : Nat) (qt : Nat) (qz : Nat) (qf : Nat) (Pa : Nat) (ae : Nat) (al : Nat) (au : Nat) (ao : Nat) (ar : Nat) (ak : Nat) (aw : Nat) (att : Nat) (ass : Nat) (fae : Nat → Int32) (fal : Nat → Int32) (fau : Nat → Int32) (fao : Nat → Int32) (Ra : Nat) (aRn : Nat) (aRp : Nat) (farn : Nat → Int32) (farp : Nat → Int32) (fak : Nat → Int32) (Wa : Nat) (aWn : Nat) (aWp : Nat) (fawn : Nat → Int32) (fawp : Nat → Int32) (fat : Nat → Int32) (fas : Nat → Int32) (Pk : Nat) (ke : Nat) (kl : Nat) (ku : Nat) (ko : Nat) (kr : Nat) (kk : Nat) (kw : Nat) (ktt : Nat) (kss : Nat) (fke : Nat → Int32) (fkl : Nat → Int32) (fku : Nat → Int32) (fko : Nat → Int32) (Rk : Nat) (kRn : Nat) (kRp : Nat) (fkrn : Nat → Int32) (fkrp : Nat → Int32) (fkk : Nat → Int32) (Wk : Nat) (kWn : Nat) (kWp : Nat) (fkwn : Nat → Int32) (fkwp : Nat → Int32) (fkt : Nat → Int32) (fks : Nat → Int32) (ff : Nat → Int32) (hP0 : Pa ≤ 10) (hR : Ra ≤ 8) (hLLr : LL Ra farn) (hWa : Wa ≤ 8) (hLLw : LL Wa fawn) (hPk : Pk ≤ 10) (hRk : Rk ≤ 8) (hWk : Wk ≤ 8) (hLLrk : LL Rk fkrn) (hLLwk : LL Wk fkwn) (harn : BA 8 7 farn) (harp : BA 48 10 farp) (hawn : BA 8 7 fawn) (hawp : BA 48 10 fawp) (hkrn : BA 8 7 fkrn) (hkrp : BA 48 10 fkrp) (hkwn : BA 8 7 fkwn) (hkwp : BA 48 10 fkwp) : Met l yX8_undo (Cond.code yX8_undo cX8_undo 1 (some .int) :: wsU) ({ frames := 3, cells := 0, slots := 0, locals := 102 }) (va_Pc [.ref h0] (XW D (xT cI cJ cZ cS) ta sa sv [(h0, .inr (8, [.ref qh, .ref qk, .ref qd, .int b0, .ref qa, .ref qm, .ref qs, .ref qp, .ref ql, .ref qt, .ref qz, .ref qf])), (qh, .inr (1, [.int (nI (Pa)), .ref ae, .ref al, .ref au, .ref ao, .ref ar, .ref ak, .ref aw, .ref att, .ref ass])), (ae, .inl (cI, 10, .inl fae)), (al, .inl (cI, 100, .inl fal)), (au, .inl (cI, 100, .inl fau)), (ao, .inl (cI, 100, .inl fao)), (ar, .inr (3, [.int (nI (Ra)), .ref aRn, .ref aRp])), (aRn, .inl (cI, 8, .inl farn)), (aRp, .inl (cI, 48, .inl farp)), (ak, .inl (cI, 8, .inl fak)), (aw, .inr (3, [.int (nI (Wa)), .ref aWn, .ref aWp])), (aWn, .inl (cI, 8, .inl fawn)), (aWp, .inl (cI, 48, .inl fawp)), (att, .inl (cI, 8, .inl fat)), (ass, .inl (cI, 8, .inl fas)), (qk, .inr (1, [.int (nI (Pk)), .ref ke, .ref kl, .ref ku, .ref ko, .ref kr, .ref kk, .ref kw, .ref ktt, .ref kss])), (ke, .inl (cI, 10, .inl fke)), (kl, .inl (cI, 100, .inl fkl)), (ku, .inl (cI, 100, .inl fku)), (ko, .inl (cI, 100, .inl fko)), (kr, .inr (3, [.int (nI (Rk)), .ref kRn, .ref kRp])), (kRn, .inl (cI, 8, .inl fkrn)), (kRp, .inl (cI, 48, .inl fkrp)), (kk, .inl (cI, 8, .inl fkk)), (kw, .inr (3, [.int (nI (Wk)), .ref kWn, .ref kWp])), (kWn, .inl (cI, 8, .inl fkwn)), (kWp, .inl (cI, 48, .inl fkwp)), (ktt, .inl (cI, 8, .inl fkt)), (kss, .inl (cI, 8, .inl fks)), (qf, .inl (cI, 7, .inl ff))] sz)) (XQi (fun (r : Int32) (u : Nat × (Nat → Int32) × (Nat → Int32) × (Nat → Int32) × (Nat → Int32) × Nat × (Nat → Int32) × (Nat → Int32) × (Nat → Int32) × Nat × (Nat → Int32) × (Nat → Int32) × (Nat → Int32) × (Nat → Int32) × (Nat → Int32)) => match u with | (P2, ye, yl, yu, yo, R2, yrn, yrp, yk, W2, ywn, ywp, yt, ys, f2) => ((r = sp_unr b0 Pk)) ∧ (P2 = sp_un b0 Pa Pk) ∧ (R2 = sp_un b0 Ra Rk) ∧ (W2 = sp_un b0 Wa Wk) ∧ (ye = unF b0 fae fke) ∧ (yl = unF b0 fal fkl) ∧ (yu = unF b0 fau fku) ∧ (yo = unF b0 fao fko) ∧ (yrn = unF b0 farn fkrn) ∧ (yrp = unF b0 farp fkrp) ∧ (yk = unF b0 fak fkk) ∧ (ywn = unF b0 fawn fkwn) ∧ (ywp = unF b0 fawp fkwp) ∧ (yt = unF b0 fat fkt) ∧ (ys = unF b0 fas fks) ∧ (P2 ≤ 10) ∧ (R2 ≤ 8) ∧ (W2 ≤ 8) ∧ (LL R2 yrn) ∧ (LL W2 ywn) ∧ (BA 8 7 yrn) ∧ (BA 48 10 yrp) ∧ (BA 8 7 ywn) ∧ (BA 48 10 ywp)) D (fun (u : Nat × (Nat → Int32) × (Nat → Int32) × (Nat → Int32) × (Nat → Int32) × Nat × (Nat → Int32) × (Nat → Int32) × (Nat → Int32) × Nat × (Nat → Int32) × (Nat → Int32) × (Nat → Int32) × (Nat → Int32) × (Nat → Int32)) => match u with | (P2, ye, yl, yu, yo, R2, yrn, yrp, yk, W2, ywn, ywp, yt, ys, f2) => [(h0, .inr (8, [.ref qh, .ref qk, .ref qd, .int b0, .ref qa, .ref qm, .ref qs, .ref qp, .ref ql, .ref qt, .ref qz, .ref qf])), (qh, .inr (1, [.int (nI (P2)), .ref ae, .ref al, .ref au, .ref ao, .ref ar, .ref ak, .ref aw, .ref att, .ref ass])), (ae, .inl (cI, 10, .inl ye)), (al, .inl (cI, 100, .inl yl)), (au, .inl (cI, 100, .inl yu)), (ao, .inl (cI, 100, .inl yo)), (ar, .inr (3, [.int (nI (R2)), .ref aRn, .ref aRp])), (aRn, .inl (cI, 8, .inl yrn)), (aRp, .inl (cI, 48, .inl yrp)), (ak, .inl (cI, 8, .inl yk)), (aw, .inr (3, [.int (nI (W2)), .ref aWn, .ref aWp])), (aWn, .inl (cI, 8, .inl ywn)), (aWp, .inl (cI, 48, .inl ywp)), (att, .inl (cI, 8, .inl yt)), (ass, .inl (cI, 8, .inl ys)), (qk, .inr (1, [.int (nI (Pk)), .ref ke, .ref kl, .ref ku, .ref ko, .ref kr, .ref kk, .ref kw, .ref ktt, .ref kss])), (ke, .inl (cI, 10, .inl fke)), (kl, .inl (cI, 100, .inl fkl)), (ku, .inl (cI, 100, .inl fku)), (ko, .inl (cI, 100, .inl fko)), (kr, .inr (3, [.int (nI (Rk)), .ref kRn, .ref kRp])), (kRn, .inl (cI, 8, .inl fkrn)), (kRp, .inl (cI, 48, .inl fkrp)), (kk, .inl (cI, 8, .inl fkk)), (kw, .inr (3, [.int (nI (Wk)), .ref kWn, .ref kWp])), (kWn, .inl (cI, 8, .inl fkwn)), (kWp, .inl (cI, 48, .inl fkwp)), (ktt, .inl (cI, 8, .inl fkt)), (kss, .inl (cI, 8, .inl fks)), (qf, .inl (cI, 7, .inl f2))]) (va_A [(h0, .inr (8, [.ref qh, .ref qk, .ref qd, .int b0, .ref qa, .ref qm, .ref qs, .ref qp, .ref ql, .ref qt, .ref qz, .ref qf])), (qh, .inr (1, [.int (nI (Pa)), .ref ae, .ref al, .ref au, .ref ao, .ref ar, .ref ak, .ref aw, .ref att, .ref ass])), (ae, .inl (cI, 10, .inl fae)), (al, .inl (cI, 100, .inl fal)), (au, .inl (cI, 100, .inl fau)), (ao, .inl (cI, 100, .inl fao)), (ar, .inr (3, [.int (nI (Ra)), .ref aRn, .ref aRp])), (aRn, .inl (cI, 8, .inl farn)), (aRp, .inl (cI, 48, .inl farp)), (ak, .inl (cI, 8, .inl fak)), (aw, .inr (3, [.int (nI (Wa)), .ref aWn, .ref aWp])), (aWn, .inl (cI, 8, .inl fawn)), (aWp, .inl (cI, 48, .inl fawp)), (att, .inl (cI, 8, .inl fat)), (ass, .inl (cI, 8, .inl fas)), (qk, .inr (1, [.int (nI (Pk)), .ref ke, .ref kl, .ref ku, .ref ko, .ref kr, .ref kk, .ref kw, .ref ktt, .ref kss])), (ke, .inl (cI, 10, .inl fke)), (kl, .inl (cI, 100, .inl fkl)), (ku, .inl (cI, 100, .inl fku)), (ko, .inl (cI, 100, .inl fko)), (kr, .inr (3, [.int (nI (Rk)), .ref kRn, .ref kRp])), (kRn, .inl (cI, 8, .inl fkrn)), (kRp, .inl (cI, 48, .inl fkrp)), (kk, .inl (cI, 8, .inl fkk)), (kw, .inr (3, [.int (nI (Wk)), .ref kWn, .ref kWp])), (kWn, .inl (cI, 8, .inl fkwn)), (kWp, .inl (cI, 48, .inl fkwp)), (ktt, .inl (cI, 8, .inl fkt)), (kss, .inl (cI, 8, .inl fks)), (qf, .inl (cI, 7, .inl ff))] sz)) 0 0 (va_A [(h0, .inr (8, [.ref qh, .ref qk, .ref qd, .int b0, .ref qa, .ref qm, .ref qs, .ref qp, .ref ql, .ref qt, .ref qz, .ref qf])), (qh, .inr (1, [.int (nI (Pa)), .ref ae, .ref al, .ref au, .ref ao, .ref ar, .ref ak, .ref aw, .ref att, .ref ass])), (ae, .inl (cI, 10, .inl fae)), (al, .inl (cI, 100, .inl fal)), (au, .inl (cI, 100, .inl fau)), (ao, .inl (cI, 100, .inl fao)), (ar, .inr (3, [.int (nI (Ra)), .ref aRn, .ref aRp])), (aRn, .inl (cI, 8, .inl farn)), (aRp, .inl (cI, 48, .inl farp)), (ak, .inl (cI, 8, .inl fak)), (aw, .inr (3, [.int (nI (Wa)), .ref aWn, .ref aWp])), (aWn, .inl (cI, 8, .inl fawn)), (aWp, .inl (cI, 48, .inl fawp)), (att, .inl (cI, 8, .inl fat)), (ass, .inl (cI, 8, .inl fas)), (qk, .inr (1, [.int (nI (Pk)), .ref ke, .ref kl, .ref ku, .ref ko, .ref kr, .ref kk, .ref kw, .ref ktt, .ref kss])), (ke, .inl (cI, 10, .inl fke)), (kl, .inl (cI, 100, .inl fkl)), (ku, .inl (cI, 100, .inl fku)), (ko, .inl (cI, 100, .inl fko)), (kr, .inr (3, [.int (nI (Rk)), .ref kRn, .ref kRp])), (kRn, .inl (cI, 8, .inl fkrn)), (kRp, .inl (cI, 48, .inl fkrp)), (kk, .inl (cI, 8, .inl fkk)), (kw, .inr (3, [.int (nI (Wk)), .ref kWn, .ref kWp])), (kWn, .inl (cI, 8, .inl fkwn)), (kWp, .inl (cI, 48, .inl fkwp)), (ktt, .inl (cI, 8, .inl fkt)), (kss, .inl (cI, 8, .inl fks)), (qf, .inl (cI, 7, .inl ff))] sz) := by
  refine xh (QA := fun A => XQi (fun (r : Int32) (u : Nat × (Nat → Int32) × (Nat → Int32) × (Nat → Int32) × (Nat → Int32) × Nat × (Nat → Int32) × (Nat → Int32) × (Nat → Int32) × Nat × (Nat → Int32) × (Nat → Int32) × (Nat → Int32) × (Nat → Int32) × (Nat → Int32)) => match u with | (P2, ye, yl, yu, yo, R2, yrn, yrp, yk, W2, ywn, ywp, yt, ys, f2) => ((r = sp_unr b0 Pk)) ∧ (P2 = sp_un b0 Pa Pk) ∧ (R2 = sp_un b0 Ra Rk) ∧ (W2 = sp_un b0 Wa Wk) ∧ (ye = unF b0 fae fke) ∧ (yl = unF b0 fal fkl) ∧ (yu = unF b0 fau fku) ∧ (yo = unF b0 fao fko) ∧ (yrn = unF b0 farn fkrn) ∧ (yrp = unF b0 farp fkrp) ∧ (yk = unF b0 fak fkk) ∧ (ywn = unF b0 fawn fkwn) ∧ (ywp = unF b0 fawp fkwp) ∧ (yt = unF b0 fat fkt) ∧ (ys = unF b0 fas fks) ∧ (P2 ≤ 10) ∧ (R2 ≤ 8) ∧ (W2 ≤ 8) ∧ (LL R2 yrn) ∧ (LL W2 ywn) ∧ (BA 8 7 yrn) ∧ (BA 48 10 yrp) ∧ (BA 8 7 ywn) ∧ (BA 48 10 ywp)) D (fun (u : Nat × (Nat → Int32) × (Nat → Int32) × (Nat → Int32) × (Nat → Int32) × Nat × (Nat → Int32) × (Nat → Int32) × (Nat → Int32) × Nat × (Nat → Int32) × (Nat → Int32) × (Nat → Int32) × (Nat → Int32) × (Nat → Int32)) => match u with | (P2, ye, yl, yu, yo, R2, yrn, yrp, yk, W2, ywn, ywp, yt, ys, f2) => [(h0, .inr (8, [.ref qh, .ref qk, .ref qd, .int b0, .ref qa, .ref qm, .ref qs, .ref qp, .ref ql, .ref qt, .ref qz, .ref qf])), (qh, .inr (1, [.int (nI (P2)), .ref ae, .ref al, .ref au, .ref ao, .ref ar, .ref ak, .ref aw, .ref att, .ref ass])), (ae, .inl (cI, 10, .inl ye)), (al, .inl (cI, 100, .inl yl)), (au, .inl (cI, 100, .inl yu)), (ao, .inl (cI, 100, .inl yo)), (ar, .inr (3, [.int (nI (R2)), .ref aRn, .ref aRp])), (aRn, .inl (cI, 8, .inl yrn)), (aRp, .inl (cI, 48, .inl yrp)), (ak, .inl (cI, 8, .inl yk)), (aw, .inr (3, [.int (nI (W2)), .ref aWn, .ref aWp])), (aWn, .inl (cI, 8, .inl ywn)), (aWp, .inl (cI, 48, .inl ywp)), (att, .inl (cI, 8, .inl yt)), (ass, .inl (cI, 8, .inl ys)), (qk, .inr (1, [.int (nI (Pk)), .ref ke, .ref kl, .ref ku, .ref ko, .ref kr, .ref kk, .ref kw, .ref ktt, .ref kss])), (ke, .inl (cI, 10, .inl fke)), (kl, .inl (cI, 100, .inl fkl)), (ku, .inl (cI, 100, .inl fku)), (ko, .inl (cI, 100, .inl fko)), (kr, .inr (3, [.int (nI (Rk)), .ref kRn, .ref kRp])), (kRn, .inl (cI, 8, .inl fkrn)), (kRp, .inl (cI, 48, .inl fkrp)), (kk, .inl (cI, 8, .inl fkk)), (kw, .inr (3, [.int (nI (Wk)), .ref kWn, .ref kWp])), (kWn, .inl (cI, 8, .inl fkwn)), (kWp, .inl (cI, 48, .inl fkwp)), (ktt, .inl (cI, 8, .inl fkt)), (kss, .inl (cI, 8, .inl fks)), (qf, .inl (cI, 7, .inl f2))]) A) (fr := fun A => A) (by decide) (Nat.le_of_ble_eq_true rfl) ?_
  intro p e s m below meth c ls A hF hr hlk hin hsz hP hK hD hN hZ hA hS hl
  have hF : CallFix p m c cX8_undo 1 s _ _ RX8 := hF
  have hx := hF.1
  have hb := hF.2.1
  have hml := hF.2.2.1
  have hown := hF.2.2.2.1
  have hu : ∀ w ∈ wsU, w.before _ s = true := fun w h => hF.2.2.2.2 w (List.mem_cons_of_mem _ h)
  have hl : lv_has ls 1 [(0, .ref h0)] := hl
  refine lv_aload_n hx hb dX8_undo_0 rfl (lv_at hl 0 rfl) ?_
  refine xg hF kf_X8_22 hK hP 0 rfl rfl dX8_undo_1 ?_
  refine lv_if_ne (tgt := 14) hx hb dX8_undo_4 (by decide) (fun c_1 => ?_) (fun c_1 => ?_)
  · skip
    refine lv_aload_n hx hb dX8_undo_14 rfl (lv_at hl 0 rfl) ?_
    refine xg hF kf_X8_12 hK hP 0 rfl rfl dX8_undo_15 ?_
    refine lv_aload_n hx hb dX8_undo_18 rfl (lv_at hl 0 rfl) ?_
    refine xg hF kf_X8_16 hK hP 0 rfl rfl dX8_undo_19 ?_
    refine xc_Vv (wr := [(h0, .inr (8, [.ref qh, .ref qk, .ref qd, .int b0, .ref qa, .ref qm, .ref qs, .ref qp, .ref ql, .ref qt, .ref qz, .ref qf])), (qf, .inl (cI, 7, .inl ff))]) hF (c_X1_become l D cI cJ cZ cS ta sa sv s.heap.size qh qk ae al au ao ar ak aw att ass aRn aRp aWn aWp Pa Ra Wa fae fal fau fao farn farp fak fawn fawp fat fas ke kl ku ko kr kk kw ktt kss kRn kRp kWn kWp Pk Rk Wk fke fkl fku fko fkrn fkrp fkk fkwn fkwp fkt fks harn harp hawn hawp hkrn hkrp hkwn hkwp) kv_X8_241 ⟨rfl, rfl, Nat.le_of_ble_eq_true rfl, Nat.le_of_ble_eq_true rfl⟩ ⟨Nat.le_of_ble_eq_true rfl, Nat.le_of_ble_eq_true rfl⟩ hK hN hZ hP hD hS hA [1, 2, 3, 4, 5, 6, 7, 8, 9, 10, 11, 12, 13, 14, 15, 16, 17, 18, 19, 20, 21, 22, 23, 24, 25, 26, 27, 28] [0, 29] rfl rfl (by decide +kernel) rfl (by decide +kernel) 0 rfl rfl rfl rfl hl.1 rfl (Nat.le_of_ble_eq_true rfl) dX8_undo_22 (fun u_r_2 H locs hw_r_2 hP hD hS => ?_)
    have hP : va_P D vwCl [(h0, .inr (8, [.ref qh, .ref qk, .ref qd, .int b0, .ref qa, .ref qm, .ref qs, .ref qp, .ref ql, .ref qt, .ref qz, .ref qf])), (qf, .inl (cI, 7, .inl ff)), (qh, .inr (1, [.int (nI (Pk)), .ref ae, .ref al, .ref au, .ref ao, .ref ar, .ref ak, .ref aw, .ref att, .ref ass])), (ae, .inl (cI, 10, .inl fke)), (al, .inl (cI, 100, .inl fkl)), (au, .inl (cI, 100, .inl fku)), (ao, .inl (cI, 100, .inl fko)), (ar, .inr (3, [.int (nI (Rk)), .ref aRn, .ref aRp])), (aRn, .inl (cI, 8, .inl fkrn)), (aRp, .inl (cI, 48, .inl fkrp)), (ak, .inl (cI, 8, .inl fkk)), (aw, .inr (3, [.int (nI (Wk)), .ref aWn, .ref aWp])), (aWn, .inl (cI, 8, .inl fkwn)), (aWp, .inl (cI, 48, .inl fkwp)), (att, .inl (cI, 8, .inl fkt)), (ass, .inl (cI, 8, .inl fks)), (qk, .inr (1, [.int (nI (Pk)), .ref ke, .ref kl, .ref ku, .ref ko, .ref kr, .ref kk, .ref kw, .ref ktt, .ref kss])), (ke, .inl (cI, 10, .inl fke)), (kl, .inl (cI, 100, .inl fkl)), (ku, .inl (cI, 100, .inl fku)), (ko, .inl (cI, 100, .inl fko)), (kr, .inr (3, [.int (nI (Rk)), .ref kRn, .ref kRp])), (kRn, .inl (cI, 8, .inl fkrn)), (kRp, .inl (cI, 48, .inl fkrp)), (kk, .inl (cI, 8, .inl fkk)), (kw, .inr (3, [.int (nI (Wk)), .ref kWn, .ref kWp])), (kWn, .inl (cI, 8, .inl fkwn)), (kWp, .inl (cI, 48, .inl fkwp)), (ktt, .inl (cI, 8, .inl fkt)), (kss, .inl (cI, 8, .inl fks))] H := hP
    have hD : va_D A [(h0, .inr (8, [.ref qh, .ref qk, .ref qd, .int b0, .ref qa, .ref qm, .ref qs, .ref qp, .ref ql, .ref qt, .ref qz, .ref qf])), (qf, .inl (cI, 7, .inl ff)), (qh, .inr (1, [.int (nI (Pk)), .ref ae, .ref al, .ref au, .ref ao, .ref ar, .ref ak, .ref aw, .ref att, .ref ass])), (ae, .inl (cI, 10, .inl fke)), (al, .inl (cI, 100, .inl fkl)), (au, .inl (cI, 100, .inl fku)), (ao, .inl (cI, 100, .inl fko)), (ar, .inr (3, [.int (nI (Rk)), .ref aRn, .ref aRp])), (aRn, .inl (cI, 8, .inl fkrn)), (aRp, .inl (cI, 48, .inl fkrp)), (ak, .inl (cI, 8, .inl fkk)), (aw, .inr (3, [.int (nI (Wk)), .ref aWn, .ref aWp])), (aWn, .inl (cI, 8, .inl fkwn)), (aWp, .inl (cI, 48, .inl fkwp)), (att, .inl (cI, 8, .inl fkt)), (ass, .inl (cI, 8, .inl fks)), (qk, .inr (1, [.int (nI (Pk)), .ref ke, .ref kl, .ref ku, .ref ko, .ref kr, .ref kk, .ref kw, .ref ktt, .ref kss])), (ke, .inl (cI, 10, .inl fke)), (kl, .inl (cI, 100, .inl fkl)), (ku, .inl (cI, 100, .inl fku)), (ko, .inl (cI, 100, .inl fko)), (kr, .inr (3, [.int (nI (Rk)), .ref kRn, .ref kRp])), (kRn, .inl (cI, 8, .inl fkrn)), (kRp, .inl (cI, 48, .inl fkrp)), (kk, .inl (cI, 8, .inl fkk)), (kw, .inr (3, [.int (nI (Wk)), .ref kWn, .ref kWp])), (kWn, .inl (cI, 8, .inl fkwn)), (kWp, .inl (cI, 48, .inl fkwp)), (ktt, .inl (cI, 8, .inl fkt)), (kss, .inl (cI, 8, .inl fks))] := hD
    refine lv_aload_n hx hb dX8_undo_25 rfl (lv_at hl 0 rfl) ?_
    refine xg hF kf_X8_12 hK hP 0 rfl rfl dX8_undo_26 ?_
    refine xg hF kf_X8_75 hK hP 2 rfl rfl dX8_undo_29 ?_
    exact W.iret (v := nI (Pk)) hx hb hr (fun t ht hW => ⟨⟨nI (Pk), (Pk, fke, fkl, fku, fko, Rk, fkrn, fkrp, fkk, Wk, fkwn, fkwp, fkt, fks, ff), rfl, ⟨(if_neg c_1).symm, (if_neg c_1).symm, (if_neg c_1).symm, (if_neg c_1).symm, (if_neg c_1).symm, (if_neg c_1).symm, (if_neg c_1).symm, (if_neg c_1).symm, (if_neg c_1).symm, (if_neg c_1).symm, (if_neg c_1).symm, (if_neg c_1).symm, (if_neg c_1).symm, (if_neg c_1).symm, (if_neg c_1).symm, (by first | assumption | omega), (by first | assumption | omega), (by first | assumption | omega), hLLrk, hLLwk, hkrn, hkrp, hkwn, hkwp⟩, by rw [ht]; exact hP.sub [0, 2, 3, 4, 5, 6, 7, 8, 9, 10, 11, 12, 13, 14, 15, 16, 17, 18, 19, 20, 21, 22, 23, 24, 25, 26, 27, 28, 29, 1] rfl, hD.sub [0, 2, 3, 4, 5, 6, 7, 8, 9, 10, 11, 12, 13, 14, 15, 16, 17, 18, 19, 20, 21, 22, 23, 24, 25, 26, 27, 28, 29, 1] (by decide +kernel) rfl⟩, hS.F ht⟩) hS.2.2 dX8_undo_32 hlk
  · skip
    refine lv_aload_n hx hb dX8_undo_7 rfl (lv_at hl 0 rfl) ?_
    refine lv_ldc (v := (-1000000004)) hx hb hown (hu _ uw410) dX8_undo_8 ?_
    refine xc_Vi (wr := [(qh, .inr (1, [.int (nI (Pa)), .ref ae, .ref al, .ref au, .ref ao, .ref ar, .ref ak, .ref aw, .ref att, .ref ass])), (ae, .inl (cI, 10, .inl fae)), (al, .inl (cI, 100, .inl fal)), (au, .inl (cI, 100, .inl fau)), (ao, .inl (cI, 100, .inl fao)), (ar, .inr (3, [.int (nI (Ra)), .ref aRn, .ref aRp])), (aRn, .inl (cI, 8, .inl farn)), (aRp, .inl (cI, 48, .inl farp)), (ak, .inl (cI, 8, .inl fak)), (aw, .inr (3, [.int (nI (Wa)), .ref aWn, .ref aWp])), (aWn, .inl (cI, 8, .inl fawn)), (aWp, .inl (cI, 48, .inl fawp)), (att, .inl (cI, 8, .inl fat)), (ass, .inl (cI, 8, .inl fas)), (qk, .inr (1, [.int (nI (Pk)), .ref ke, .ref kl, .ref ku, .ref ko, .ref kr, .ref kk, .ref kw, .ref ktt, .ref kss])), (ke, .inl (cI, 10, .inl fke)), (kl, .inl (cI, 100, .inl fkl)), (ku, .inl (cI, 100, .inl fku)), (ko, .inl (cI, 100, .inl fko)), (kr, .inr (3, [.int (nI (Rk)), .ref kRn, .ref kRp])), (kRn, .inl (cI, 8, .inl fkrn)), (kRp, .inl (cI, 48, .inl fkrp)), (kk, .inl (cI, 8, .inl fkk)), (kw, .inr (3, [.int (nI (Wk)), .ref kWn, .ref kWp])), (kWn, .inl (cI, 8, .inl fkwn)), (kWp, .inl (cI, 48, .inl fkwp)), (ktt, .inl (cI, 8, .inl fkt)), (kss, .inl (cI, 8, .inl fks))]) hF (c_X8_finding_N l D cI cJ cZ cS ta sa sv s.heap.size h0 qh qk qd b0 qa qm qs qp ql qt qz qf ff ) kv_X8_80 ⟨rfl, rfl, Nat.le_of_ble_eq_true rfl, Nat.le_of_ble_eq_true rfl⟩ ⟨Nat.le_of_ble_eq_true rfl, Nat.le_of_ble_eq_true rfl⟩ hK hN hZ hP hD hS hA [0, 29] [1, 2, 3, 4, 5, 6, 7, 8, 9, 10, 11, 12, 13, 14, 15, 16, 17, 18, 19, 20, 21, 22, 23, 24, 25, 26, 27, 28] rfl rfl rfl (by decide +kernel) (by decide +kernel) 0 rfl rfl rfl rfl hl.1 rfl (Nat.le_of_ble_eq_true rfl) dX8_undo_10 (fun r_3 u_r_3 H locs hw_r_3 hP hD hS => ?_)
    obtain ⟨f2_4, rfl⟩ : ∃ z, z = u_r_3 := ⟨_, rfl⟩
    try dsimp only at hw_r_3
    have hP : va_P D vwCl [(qh, .inr (1, [.int (nI (Pa)), .ref ae, .ref al, .ref au, .ref ao, .ref ar, .ref ak, .ref aw, .ref att, .ref ass])), (ae, .inl (cI, 10, .inl fae)), (al, .inl (cI, 100, .inl fal)), (au, .inl (cI, 100, .inl fau)), (ao, .inl (cI, 100, .inl fao)), (ar, .inr (3, [.int (nI (Ra)), .ref aRn, .ref aRp])), (aRn, .inl (cI, 8, .inl farn)), (aRp, .inl (cI, 48, .inl farp)), (ak, .inl (cI, 8, .inl fak)), (aw, .inr (3, [.int (nI (Wa)), .ref aWn, .ref aWp])), (aWn, .inl (cI, 8, .inl fawn)), (aWp, .inl (cI, 48, .inl fawp)), (att, .inl (cI, 8, .inl fat)), (ass, .inl (cI, 8, .inl fas)), (qk, .inr (1, [.int (nI (Pk)), .ref ke, .ref kl, .ref ku, .ref ko, .ref kr, .ref kk, .ref kw, .ref ktt, .ref kss])), (ke, .inl (cI, 10, .inl fke)), (kl, .inl (cI, 100, .inl fkl)), (ku, .inl (cI, 100, .inl fku)), (ko, .inl (cI, 100, .inl fko)), (kr, .inr (3, [.int (nI (Rk)), .ref kRn, .ref kRp])), (kRn, .inl (cI, 8, .inl fkrn)), (kRp, .inl (cI, 48, .inl fkrp)), (kk, .inl (cI, 8, .inl fkk)), (kw, .inr (3, [.int (nI (Wk)), .ref kWn, .ref kWp])), (kWn, .inl (cI, 8, .inl fkwn)), (kWp, .inl (cI, 48, .inl fkwp)), (ktt, .inl (cI, 8, .inl fkt)), (kss, .inl (cI, 8, .inl fks)), (h0, .inr (8, [.ref qh, .ref qk, .ref qd, .int b0, .ref qa, .ref qm, .ref qs, .ref qp, .ref ql, .ref qt, .ref qz, .ref qf])), (qf, .inl (cI, 7, .inl f2_4))] H := hP
    have hD : va_D A [(qh, .inr (1, [.int (nI (Pa)), .ref ae, .ref al, .ref au, .ref ao, .ref ar, .ref ak, .ref aw, .ref att, .ref ass])), (ae, .inl (cI, 10, .inl fae)), (al, .inl (cI, 100, .inl fal)), (au, .inl (cI, 100, .inl fau)), (ao, .inl (cI, 100, .inl fao)), (ar, .inr (3, [.int (nI (Ra)), .ref aRn, .ref aRp])), (aRn, .inl (cI, 8, .inl farn)), (aRp, .inl (cI, 48, .inl farp)), (ak, .inl (cI, 8, .inl fak)), (aw, .inr (3, [.int (nI (Wa)), .ref aWn, .ref aWp])), (aWn, .inl (cI, 8, .inl fawn)), (aWp, .inl (cI, 48, .inl fawp)), (att, .inl (cI, 8, .inl fat)), (ass, .inl (cI, 8, .inl fas)), (qk, .inr (1, [.int (nI (Pk)), .ref ke, .ref kl, .ref ku, .ref ko, .ref kr, .ref kk, .ref kw, .ref ktt, .ref kss])), (ke, .inl (cI, 10, .inl fke)), (kl, .inl (cI, 100, .inl fkl)), (ku, .inl (cI, 100, .inl fku)), (ko, .inl (cI, 100, .inl fko)), (kr, .inr (3, [.int (nI (Rk)), .ref kRn, .ref kRp])), (kRn, .inl (cI, 8, .inl fkrn)), (kRp, .inl (cI, 48, .inl fkrp)), (kk, .inl (cI, 8, .inl fkk)), (kw, .inr (3, [.int (nI (Wk)), .ref kWn, .ref kWp])), (kWn, .inl (cI, 8, .inl fkwn)), (kWp, .inl (cI, 48, .inl fkwp)), (ktt, .inl (cI, 8, .inl fkt)), (kss, .inl (cI, 8, .inl fks)), (h0, .inr (8, [.ref qh, .ref qk, .ref qd, .int b0, .ref qa, .ref qm, .ref qs, .ref qp, .ref ql, .ref qt, .ref qz, .ref qf])), (qf, .inl (cI, 7, .inl f2_4))] := hD
    subst hw_r_3
    exact W.iret (v := (-1000000004)) hx hb hr (fun t ht hW => ⟨⟨(-1000000004), (Pa, fae, fal, fau, fao, Ra, farn, farp, fak, Wa, fawn, fawp, fat, fas, f2_4), rfl, ⟨(if_pos c_1).symm, (if_pos c_1).symm, (if_pos c_1).symm, (if_pos c_1).symm, (if_pos c_1).symm, (if_pos c_1).symm, (if_pos c_1).symm, (if_pos c_1).symm, (if_pos c_1).symm, (if_pos c_1).symm, (if_pos c_1).symm, (if_pos c_1).symm, (if_pos c_1).symm, (if_pos c_1).symm, (if_pos c_1).symm, (by first | assumption | omega), (by first | assumption | omega), (by first | assumption | omega), hLLr, hLLw, harn, harp, hawn, hawp⟩, by rw [ht]; exact hP.sub [28, 0, 1, 2, 3, 4, 5, 6, 7, 8, 9, 10, 11, 12, 13, 14, 15, 16, 17, 18, 19, 20, 21, 22, 23, 24, 25, 26, 27, 29] rfl, hD.sub [28, 0, 1, 2, 3, 4, 5, 6, 7, 8, 9, 10, 11, 12, 13, 14, 15, 16, 17, 18, 19, 20, 21, 22, 23, 24, 25, 26, 27, 29] (by decide +kernel) rfl⟩, hS.F ht⟩) hS.2.2 dX8_undo_13 hlk
set_option maxHeartbeats 4000000 in
set_option maxRecDepth 100000 in
theorem c_X8_tear (l : Launch) (D : va_G) (cI cJ cZ cS : ClassId) (ta : Nat) (sa sv : Nat → Nat) (sz : Nat) (h0 : Nat) (qh : Nat) (qk : Nat) (qd : Nat) (b0 : Int32) (qa : Nat) (qm : Nat) (qs : Nat) (qp : Nat) (ql : Nat) (qt : Nat) (qz : Nat) (qf : Nat) : Met l yX8_tear (Cond.code yX8_tear cX8_tear 2 (some .int) :: wsU) ({ frames := 0, cells := 0, slots := 0, locals := 0 }) (va_Pc [.ref h0] (XW D (xT cI cJ cZ cS) ta sa sv [(h0, .inr (8, [.ref qh, .ref qk, .ref qd, .int b0, .ref qa, .ref qm, .ref qs, .ref qp, .ref ql, .ref qt, .ref qz, .ref qf]))] sz)) (XQi (fun (r : Int32) (_ : Unit) => ((r = 1 ∧ (¬ b0 = 0)) ∨ (r = 0 ∧ (b0 = 0)))) D (fun _ : Unit => [(h0, .inr (8, [.ref qh, .ref qk, .ref qd, .int 0, .ref qa, .ref qm, .ref qs, .ref qp, .ref ql, .ref qt, .ref qz, .ref qf]))]) (va_A [(h0, .inr (8, [.ref qh, .ref qk, .ref qd, .int b0, .ref qa, .ref qm, .ref qs, .ref qp, .ref ql, .ref qt, .ref qz, .ref qf]))] sz)) 0 0 (va_A [(h0, .inr (8, [.ref qh, .ref qk, .ref qd, .int b0, .ref qa, .ref qm, .ref qs, .ref qp, .ref ql, .ref qt, .ref qz, .ref qf]))] sz) := by
  refine xh (QA := fun A => XQi (fun (r : Int32) (_ : Unit) => ((r = 1 ∧ (¬ b0 = 0)) ∨ (r = 0 ∧ (b0 = 0)))) D (fun _ : Unit => [(h0, .inr (8, [.ref qh, .ref qk, .ref qd, .int 0, .ref qa, .ref qm, .ref qs, .ref qp, .ref ql, .ref qt, .ref qz, .ref qf]))]) A) (fr := fun A => A) (by decide) (Nat.le_of_ble_eq_true rfl) ?_
  intro p e s m below meth c ls A hF hr hlk hin hsz hP hK hD hN hZ hA hS hl
  have hF : CallFix p m c cX8_tear 2 s _ _ RX8 := hF
  have hx := hF.1
  have hb := hF.2.1
  have hml := hF.2.2.1
  have hown := hF.2.2.2.1
  have hu : ∀ w ∈ wsU, w.before _ s = true := fun w h => hF.2.2.2.2 w (List.mem_cons_of_mem _ h)
  have hl : lv_has ls 2 [(0, .ref h0)] := hl
  refine lv_aload_n hx hb dX8_tear_0 rfl (lv_at hl 0 rfl) ?_
  refine xg hF kf_X8_22 hK hP 0 rfl rfl dX8_tear_1 ?_
  refine lv_if_eq (tgt := 11) hx hb dX8_tear_4 (by decide) (fun c_1 => ?_) (fun c_1 => ?_)
  · skip
    refine lv_iconst (v := 0) hx hb dX8_tear_11 (by decide) ?_
    refine lv_istore_n (lv' := [(1, .int 0), (0, .ref h0)]) hx hb dX8_tear_12 rfl hl (by decide) rfl (fun ls hl => ?_)
    refine lv_aload_n hx hb dX8_tear_13 rfl (lv_at hl 1 rfl) ?_
    refine lv_iconst (v := 0) hx hb dX8_tear_14 (by decide) ?_
    refine xp hF kf_X8_22 tyX8_ok nmX8 hK hP hD hS 0 rfl rfl rfl rfl (Nat.le_of_ble_eq_true rfl) dX8_tear_15 (fun H locs hP hD hS => ?_)
    have hP : va_P D vwCl [(h0, .inr (8, [.ref qh, .ref qk, .ref qd, .int 0, .ref qa, .ref qm, .ref qs, .ref qp, .ref ql, .ref qt, .ref qz, .ref qf]))] H := hP
    have hD : va_D A [(h0, .inr (8, [.ref qh, .ref qk, .ref qd, .int 0, .ref qa, .ref qm, .ref qs, .ref qp, .ref ql, .ref qt, .ref qz, .ref qf]))] := hD
    refine lv_iload_n hx hb dX8_tear_18 rfl (lv_at hl 0 rfl) ?_
    exact W.iret (v := 0) hx hb hr (fun t ht hW => ⟨⟨0, (), rfl, (by first | exact Or.inr (⟨rfl, (by first | assumption | omega | exact Or.inl (by first | assumption | omega) | exact Or.inr (by first | assumption | omega))⟩)), by rw [ht]; exact hP.sub [0] rfl, hD.sub [0] (by decide) rfl⟩, hS.F ht⟩) hS.2.2 dX8_tear_19 hlk
  · skip
    refine lv_iconst (v := 1) hx hb dX8_tear_7 (by decide) ?_
    refine lv_goto (tgt := 12) hx hb dX8_tear_8 (by decide) ?_
    refine lv_istore_n (lv' := [(1, .int 1), (0, .ref h0)]) hx hb dX8_tear_12 rfl hl (by decide) rfl (fun ls hl => ?_)
    refine lv_aload_n hx hb dX8_tear_13 rfl (lv_at hl 1 rfl) ?_
    refine lv_iconst (v := 0) hx hb dX8_tear_14 (by decide) ?_
    refine xp hF kf_X8_22 tyX8_ok nmX8 hK hP hD hS 0 rfl rfl rfl rfl (Nat.le_of_ble_eq_true rfl) dX8_tear_15 (fun H locs hP hD hS => ?_)
    have hP : va_P D vwCl [(h0, .inr (8, [.ref qh, .ref qk, .ref qd, .int 0, .ref qa, .ref qm, .ref qs, .ref qp, .ref ql, .ref qt, .ref qz, .ref qf]))] H := hP
    have hD : va_D A [(h0, .inr (8, [.ref qh, .ref qk, .ref qd, .int 0, .ref qa, .ref qm, .ref qs, .ref qp, .ref ql, .ref qt, .ref qz, .ref qf]))] := hD
    refine lv_iload_n hx hb dX8_tear_18 rfl (lv_at hl 0 rfl) ?_
    exact W.iret (v := 1) hx hb hr (fun t ht hW => ⟨⟨1, (), rfl, (by first | exact Or.inl ⟨rfl, (by first | assumption | omega | exact Or.inl (by first | assumption | omega) | exact Or.inr (by first | assumption | omega))⟩), by rw [ht]; exact hP.sub [0] rfl, hD.sub [0] (by decide) rfl⟩, hS.F ht⟩) hS.2.2 dX8_tear_19 hlk
set_option maxHeartbeats 4000000 in
set_option maxRecDepth 100000 in
theorem c_X8_count (l : Launch) (D : va_G) (cI cJ cZ cS : ClassId) (ta : Nat) (sa sv : Nat → Nat) (sz : Nat) (h0 : Nat) (qh : Nat) (qk : Nat) (qd : Nat) (b0 : Int32) (qa : Nat) (qm : Nat) (qs : Nat) (qp : Nat) (ql : Nat) (qt : Nat) (qz : Nat) (qf : Nat) (Pa : Nat) (ae : Nat) (al : Nat) (au : Nat) (ao : Nat) (ar : Nat) (ak : Nat) (aw : Nat) (att : Nat) (ass : Nat) (fae : Nat → Int32) (fal : Nat → Int32) (fau : Nat → Int32) (fao : Nat → Int32) (Ra : Nat) (aRn : Nat) (aRp : Nat) (Wa : Nat) (aWn : Nat) (aWp : Nat) (z : Nat) (tb : Nat) (tk : Int32) (s9 : Nat) (x9 : Nat) (v9 : Nat) (t9 : Int32) (ff : Nat → Int32) (p0 : Int32) (hP0 : Pa ≤ 10) : Met l yX8_count (Cond.code yX8_count cX8_count 2 (some .int) :: wsU) ({ frames := 1, cells := 0, slots := 0, locals := 22 }) (va_Pc [.ref h0, .int p0] (XW D (xT cI cJ cZ cS) ta sa sv [(h0, .inr (8, [.ref qh, .ref qk, .ref qd, .int b0, .ref qa, .ref qm, .ref qs, .ref qp, .ref ql, .ref qt, .ref qz, .ref qf])), (qh, .inr (1, [.int (nI (Pa)), .ref ae, .ref al, .ref au, .ref ao, .ref ar, .ref ak, .ref aw, .ref att, .ref ass])), (ae, .inl (cI, 10, .inl fae)), (al, .inl (cI, 100, .inl fal)), (au, .inl (cI, 100, .inl fau)), (ao, .inl (cI, 100, .inl fao)), (ar, .inr (3, [.int (nI (Ra)), .ref aRn, .ref aRp])), (aw, .inr (3, [.int (nI (Wa)), .ref aWn, .ref aWp])), (qt, .inr (7, [.int (nI (z)), .ref tb, .int tk, .int (nI (s9)), .int (nI (x9)), .int (nI (v9)), .int t9])), (qf, .inl (cI, 7, .inl ff))] sz)) (XQi (fun (r : Int32) (f2 : (Nat → Int32)) => (True)) D (fun (f2 : Nat → Int32) => [(h0, .inr (8, [.ref qh, .ref qk, .ref qd, .int b0, .ref qa, .ref qm, .ref qs, .ref qp, .ref ql, .ref qt, .ref qz, .ref qf])), (qh, .inr (1, [.int (nI (Pa)), .ref ae, .ref al, .ref au, .ref ao, .ref ar, .ref ak, .ref aw, .ref att, .ref ass])), (ae, .inl (cI, 10, .inl fae)), (al, .inl (cI, 100, .inl fal)), (au, .inl (cI, 100, .inl fau)), (ao, .inl (cI, 100, .inl fao)), (ar, .inr (3, [.int (nI (Ra)), .ref aRn, .ref aRp])), (aw, .inr (3, [.int (nI (Wa)), .ref aWn, .ref aWp])), (qt, .inr (7, [.int (nI (z)), .ref tb, .int tk, .int (nI (s9)), .int (nI (x9)), .int (nI (v9)), .int t9])), (qf, .inl (cI, 7, .inl f2))]) (va_A [(h0, .inr (8, [.ref qh, .ref qk, .ref qd, .int b0, .ref qa, .ref qm, .ref qs, .ref qp, .ref ql, .ref qt, .ref qz, .ref qf])), (qh, .inr (1, [.int (nI (Pa)), .ref ae, .ref al, .ref au, .ref ao, .ref ar, .ref ak, .ref aw, .ref att, .ref ass])), (ae, .inl (cI, 10, .inl fae)), (al, .inl (cI, 100, .inl fal)), (au, .inl (cI, 100, .inl fau)), (ao, .inl (cI, 100, .inl fao)), (ar, .inr (3, [.int (nI (Ra)), .ref aRn, .ref aRp])), (aw, .inr (3, [.int (nI (Wa)), .ref aWn, .ref aWp])), (qt, .inr (7, [.int (nI (z)), .ref tb, .int tk, .int (nI (s9)), .int (nI (x9)), .int (nI (v9)), .int t9])), (qf, .inl (cI, 7, .inl ff))] sz)) 0 0 (va_A [(h0, .inr (8, [.ref qh, .ref qk, .ref qd, .int b0, .ref qa, .ref qm, .ref qs, .ref qp, .ref ql, .ref qt, .ref qz, .ref qf])), (qh, .inr (1, [.int (nI (Pa)), .ref ae, .ref al, .ref au, .ref ao, .ref ar, .ref ak, .ref aw, .ref att, .ref ass])), (ae, .inl (cI, 10, .inl fae)), (al, .inl (cI, 100, .inl fal)), (au, .inl (cI, 100, .inl fau)), (ao, .inl (cI, 100, .inl fao)), (ar, .inr (3, [.int (nI (Ra)), .ref aRn, .ref aRp])), (aw, .inr (3, [.int (nI (Wa)), .ref aWn, .ref aWp])), (qt, .inr (7, [.int (nI (z)), .ref tb, .int tk, .int (nI (s9)), .int (nI (x9)), .int (nI (v9)), .int t9])), (qf, .inl (cI, 7, .inl ff))] sz) := by
  refine xh (QA := fun A => XQi (fun (r : Int32) (f2 : (Nat → Int32)) => (True)) D (fun (f2 : Nat → Int32) => [(h0, .inr (8, [.ref qh, .ref qk, .ref qd, .int b0, .ref qa, .ref qm, .ref qs, .ref qp, .ref ql, .ref qt, .ref qz, .ref qf])), (qh, .inr (1, [.int (nI (Pa)), .ref ae, .ref al, .ref au, .ref ao, .ref ar, .ref ak, .ref aw, .ref att, .ref ass])), (ae, .inl (cI, 10, .inl fae)), (al, .inl (cI, 100, .inl fal)), (au, .inl (cI, 100, .inl fau)), (ao, .inl (cI, 100, .inl fao)), (ar, .inr (3, [.int (nI (Ra)), .ref aRn, .ref aRp])), (aw, .inr (3, [.int (nI (Wa)), .ref aWn, .ref aWp])), (qt, .inr (7, [.int (nI (z)), .ref tb, .int tk, .int (nI (s9)), .int (nI (x9)), .int (nI (v9)), .int t9])), (qf, .inl (cI, 7, .inl f2))]) A) (fr := fun A => A) (by decide) (Nat.le_of_ble_eq_true rfl) ?_
  intro p e s m below meth c ls A hF hr hlk hin hsz hP hK hD hN hZ hA hS hl
  have hF : CallFix p m c cX8_count 2 s _ _ RX8 := hF
  have hx := hF.1
  have hb := hF.2.1
  have hml := hF.2.2.1
  have hown := hF.2.2.2.1
  have hu : ∀ w ∈ wsU, w.before _ s = true := fun w h => hF.2.2.2.2 w (List.mem_cons_of_mem _ h)
  have hl : lv_has ls 2 [(0, .ref h0), (1, .int p0)] := hl
  refine lv_iload_n hx hb dX8_count_0 rfl (lv_at hl 1 rfl) ?_
  rcases x_s6 p0 with h_1 | e_2 | e_2 | e_2 | e_2 | e_2 | e_2
  · refine lv_tableOut (tgt := 94) hx hb dX8_count_1 h_1 (by decide) ?_
    refine lv_aload_n hx hb dX8_count_94 rfl (lv_at hl 0 rfl) ?_
    refine lv_ldc (v := (-1000000001)) hx hb hown (hu _ uw396) dX8_count_95 ?_
    refine xc_Vi (wr := [(qh, .inr (1, [.int (nI (Pa)), .ref ae, .ref al, .ref au, .ref ao, .ref ar, .ref ak, .ref aw, .ref att, .ref ass])), (ae, .inl (cI, 10, .inl fae)), (al, .inl (cI, 100, .inl fal)), (au, .inl (cI, 100, .inl fau)), (ao, .inl (cI, 100, .inl fao)), (ar, .inr (3, [.int (nI (Ra)), .ref aRn, .ref aRp])), (aw, .inr (3, [.int (nI (Wa)), .ref aWn, .ref aWp])), (qt, .inr (7, [.int (nI (z)), .ref tb, .int tk, .int (nI (s9)), .int (nI (x9)), .int (nI (v9)), .int t9]))]) hF (c_X8_finding_B l D cI cJ cZ cS ta sa sv s.heap.size h0 qh qk qd b0 qa qm qs qp ql qt qz qf ff ) kv_X8_80 ⟨rfl, rfl, Nat.le_of_ble_eq_true rfl, Nat.le_of_ble_eq_true rfl⟩ ⟨Nat.le_of_ble_eq_true rfl, Nat.le_of_ble_eq_true rfl⟩ hK hN hZ hP hD hS hA [0, 9] [1, 2, 3, 4, 5, 6, 7, 8] rfl rfl rfl (by decide +kernel) (by decide +kernel) 0 rfl rfl rfl rfl hl.1 rfl (Nat.le_of_ble_eq_true rfl) dX8_count_97 (fun r_3 u_r_3 H locs hw_r_3 hP hD hS => ?_)
    obtain ⟨f2_4, rfl⟩ : ∃ z, z = u_r_3 := ⟨_, rfl⟩
    try dsimp only at hw_r_3
    have hP : va_P D vwCl [(qh, .inr (1, [.int (nI (Pa)), .ref ae, .ref al, .ref au, .ref ao, .ref ar, .ref ak, .ref aw, .ref att, .ref ass])), (ae, .inl (cI, 10, .inl fae)), (al, .inl (cI, 100, .inl fal)), (au, .inl (cI, 100, .inl fau)), (ao, .inl (cI, 100, .inl fao)), (ar, .inr (3, [.int (nI (Ra)), .ref aRn, .ref aRp])), (aw, .inr (3, [.int (nI (Wa)), .ref aWn, .ref aWp])), (qt, .inr (7, [.int (nI (z)), .ref tb, .int tk, .int (nI (s9)), .int (nI (x9)), .int (nI (v9)), .int t9])), (h0, .inr (8, [.ref qh, .ref qk, .ref qd, .int b0, .ref qa, .ref qm, .ref qs, .ref qp, .ref ql, .ref qt, .ref qz, .ref qf])), (qf, .inl (cI, 7, .inl f2_4))] H := hP
    have hD : va_D A [(qh, .inr (1, [.int (nI (Pa)), .ref ae, .ref al, .ref au, .ref ao, .ref ar, .ref ak, .ref aw, .ref att, .ref ass])), (ae, .inl (cI, 10, .inl fae)), (al, .inl (cI, 100, .inl fal)), (au, .inl (cI, 100, .inl fau)), (ao, .inl (cI, 100, .inl fao)), (ar, .inr (3, [.int (nI (Ra)), .ref aRn, .ref aRp])), (aw, .inr (3, [.int (nI (Wa)), .ref aWn, .ref aWp])), (qt, .inr (7, [.int (nI (z)), .ref tb, .int tk, .int (nI (s9)), .int (nI (x9)), .int (nI (v9)), .int t9])), (h0, .inr (8, [.ref qh, .ref qk, .ref qd, .int b0, .ref qa, .ref qm, .ref qs, .ref qp, .ref ql, .ref qt, .ref qz, .ref qf])), (qf, .inl (cI, 7, .inl f2_4))] := hD
    subst hw_r_3
    exact W.iret (v := (-1000000001)) hx hb hr (fun t ht hW => ⟨⟨(-1000000001), f2_4, rfl, trivial, by rw [ht]; exact hP.sub [8, 0, 1, 2, 3, 4, 5, 6, 7, 9] rfl, hD.sub [8, 0, 1, 2, 3, 4, 5, 6, 7, 9] (by decide +kernel) rfl⟩, hS.F ht⟩) hS.2.2 dX8_count_100 hlk
  · refine xl_i (y := 0) e_2 ?_
    refine lv_tableIn (tgt := 40) hx hb dX8_count_1 (by decide) (by decide) rfl (by decide) ?_
    refine lv_aload_n hx hb dX8_count_40 rfl (lv_at hl 0 rfl) ?_
    refine xg hF kf_X8_12 hK hP 0 rfl rfl dX8_count_41 ?_
    refine xg hF kf_X8_75 hK hP 1 rfl rfl dX8_count_44 ?_
    exact W.iret (v := nI (Pa)) hx hb hr (fun t ht hW => ⟨⟨nI (Pa), ff, rfl, trivial, by rw [ht]; exact hP.sub [0, 1, 2, 3, 4, 5, 6, 7, 8, 9] rfl, hD.sub [0, 1, 2, 3, 4, 5, 6, 7, 8, 9] (by decide +kernel) rfl⟩, hS.F ht⟩) hS.2.2 dX8_count_47 hlk
  · refine xl_i (y := 1) e_2 ?_
    refine lv_tableIn (tgt := 48) hx hb dX8_count_1 (by decide) (by decide) rfl (by decide) ?_
    refine lv_aload_n hx hb dX8_count_48 rfl (lv_at hl 0 rfl) ?_
    refine xg hF kf_X8_12 hK hP 0 rfl rfl dX8_count_49 ?_
    refine xc_Vr hF (c_X1_countWays l D cI cJ cZ cS ta sa sv s.heap.size qh ae al au ao ar ak aw att ass Pa fal fau fao ) kv_X8_247 ⟨rfl, rfl, Nat.le_of_ble_eq_true rfl, Nat.le_of_ble_eq_true rfl⟩ ⟨Nat.le_of_ble_eq_true rfl, Nat.le_of_ble_eq_true rfl⟩ hK hN hZ hP hD hS hA [1, 3, 4, 5] rfl rfl 0 rfl rfl rfl rfl hl.1 rfl (Nat.le_of_ble_eq_true rfl) dX8_count_52 (fun r_5 hw_r_5 => ?_)
    exact W.iret (v := r_5) hx hb hr (fun t ht hW => ⟨⟨r_5, ff, rfl, trivial, by rw [ht]; exact hP.sub [0, 1, 2, 3, 4, 5, 6, 7, 8, 9] rfl, hD.sub [0, 1, 2, 3, 4, 5, 6, 7, 8, 9] (by decide +kernel) rfl⟩, hS.F ht⟩) hS.2.2 dX8_count_55 hlk
  · refine xl_i (y := 2) e_2 ?_
    refine lv_tableIn (tgt := 56) hx hb dX8_count_1 (by decide) (by decide) rfl (by decide) ?_
    refine lv_aload_n hx hb dX8_count_56 rfl (lv_at hl 0 rfl) ?_
    refine xg hF kf_X8_12 hK hP 0 rfl rfl dX8_count_57 ?_
    refine xg hF kf_X8_159 hK hP 1 rfl rfl dX8_count_60 ?_
    refine xg hF kf_X8_326 hK hP 6 rfl rfl dX8_count_63 ?_
    exact W.iret (v := nI (Ra)) hx hb hr (fun t ht hW => ⟨⟨nI (Ra), ff, rfl, trivial, by rw [ht]; exact hP.sub [0, 1, 2, 3, 4, 5, 6, 7, 8, 9] rfl, hD.sub [0, 1, 2, 3, 4, 5, 6, 7, 8, 9] (by decide +kernel) rfl⟩, hS.F ht⟩) hS.2.2 dX8_count_66 hlk
  · refine xl_i (y := 3) e_2 ?_
    refine lv_tableIn (tgt := 67) hx hb dX8_count_1 (by decide) (by decide) rfl (by decide) ?_
    refine lv_aload_n hx hb dX8_count_67 rfl (lv_at hl 0 rfl) ?_
    refine xg hF kf_X8_12 hK hP 0 rfl rfl dX8_count_68 ?_
    refine xg hF kf_X8_229 hK hP 1 rfl rfl dX8_count_71 ?_
    refine xg hF kf_X8_326 hK hP 7 rfl rfl dX8_count_74 ?_
    exact W.iret (v := nI (Wa)) hx hb hr (fun t ht hW => ⟨⟨nI (Wa), ff, rfl, trivial, by rw [ht]; exact hP.sub [0, 1, 2, 3, 4, 5, 6, 7, 8, 9] rfl, hD.sub [0, 1, 2, 3, 4, 5, 6, 7, 8, 9] (by decide +kernel) rfl⟩, hS.F ht⟩) hS.2.2 dX8_count_77 hlk
  · refine xl_i (y := 4) e_2 ?_
    refine lv_tableIn (tgt := 78) hx hb dX8_count_1 (by decide) (by decide) rfl (by decide) ?_
    refine lv_aload_n hx hb dX8_count_78 rfl (lv_at hl 0 rfl) ?_
    refine xg hF kf_X8_60 hK hP 0 rfl rfl dX8_count_79 ?_
    refine xg hF kf_X8_275 hK hP 8 rfl rfl dX8_count_82 ?_
    exact W.iret (v := nI (z)) hx hb hr (fun t ht hW => ⟨⟨nI (z), ff, rfl, trivial, by rw [ht]; exact hP.sub [0, 1, 2, 3, 4, 5, 6, 7, 8, 9] rfl, hD.sub [0, 1, 2, 3, 4, 5, 6, 7, 8, 9] (by decide +kernel) rfl⟩, hS.F ht⟩) hS.2.2 dX8_count_85 hlk
  · refine xl_i (y := 5) e_2 ?_
    refine lv_tableIn (tgt := 86) hx hb dX8_count_1 (by decide) (by decide) rfl (by decide) ?_
    refine lv_aload_n hx hb dX8_count_86 rfl (lv_at hl 0 rfl) ?_
    refine xg hF kf_X8_12 hK hP 0 rfl rfl dX8_count_87 ?_
    refine xc_Vr hF (c_X1_allErrands l D cI cJ cZ cS ta sa sv s.heap.size qh ae al au ao ar ak aw att ass Pa fae (by omega)) kv_X8_329 ⟨rfl, rfl, Nat.le_of_ble_eq_true rfl, Nat.le_of_ble_eq_true rfl⟩ ⟨Nat.le_of_ble_eq_true rfl, Nat.le_of_ble_eq_true rfl⟩ hK hN hZ hP hD hS hA [1, 2] rfl rfl 0 rfl rfl rfl rfl hl.1 rfl (Nat.le_of_ble_eq_true rfl) dX8_count_90 (fun r_6 hw_r_6 => ?_)
    exact W.iret (v := r_6) hx hb hr (fun t ht hW => ⟨⟨r_6, ff, rfl, trivial, by rw [ht]; exact hP.sub [0, 1, 2, 3, 4, 5, 6, 7, 8, 9] rfl, hD.sub [0, 1, 2, 3, 4, 5, 6, 7, 8, 9] (by decide +kernel) rfl⟩, hS.F ht⟩) hS.2.2 dX8_count_93 hlk
set_option maxHeartbeats 4000000 in
set_option maxRecDepth 100000 in
theorem c_X8_status (l : Launch) (D : va_G) (cI cJ cZ cS : ClassId) (ta : Nat) (sa sv : Nat → Nat) (sz : Nat) (h0 : Nat) (qh : Nat) (qk : Nat) (qd : Nat) (b0 : Int32) (qa : Nat) (qm : Nat) (qs : Nat) (qp : Nat) (ql : Nat) (qt : Nat) (qz : Nat) (qf : Nat) (ff : Nat → Int32) (p0 : Int32) : Met l yX8_status (Cond.code yX8_status cX8_status 4 (some .int) :: wsU) ({ frames := 1, cells := 0, slots := 0, locals := 22 }) (va_Pc [.ref h0, .int p0] (XW D (xT cI cJ cZ cS) ta sa sv [(h0, .inr (8, [.ref qh, .ref qk, .ref qd, .int b0, .ref qa, .ref qm, .ref qs, .ref qp, .ref ql, .ref qt, .ref qz, .ref qf])), (qf, .inl (cI, 7, .inl ff))] sz)) (XQi (fun (r : Int32) (f2 : (Nat → Int32)) => (True)) D (fun (f2 : Nat → Int32) => [(h0, .inr (8, [.ref qh, .ref qk, .ref qd, .int b0, .ref qa, .ref qm, .ref qs, .ref qp, .ref ql, .ref qt, .ref qz, .ref qf])), (qf, .inl (cI, 7, .inl f2))]) (va_A [(h0, .inr (8, [.ref qh, .ref qk, .ref qd, .int b0, .ref qa, .ref qm, .ref qs, .ref qp, .ref ql, .ref qt, .ref qz, .ref qf])), (qf, .inl (cI, 7, .inl ff))] sz)) 0 0 (va_A [(h0, .inr (8, [.ref qh, .ref qk, .ref qd, .int b0, .ref qa, .ref qm, .ref qs, .ref qp, .ref ql, .ref qt, .ref qz, .ref qf])), (qf, .inl (cI, 7, .inl ff))] sz) := by
  refine xh (QA := fun A => XQi (fun (r : Int32) (f2 : (Nat → Int32)) => (True)) D (fun (f2 : Nat → Int32) => [(h0, .inr (8, [.ref qh, .ref qk, .ref qd, .int b0, .ref qa, .ref qm, .ref qs, .ref qp, .ref ql, .ref qt, .ref qz, .ref qf])), (qf, .inl (cI, 7, .inl f2))]) A) (fr := fun A => A) (by decide) (Nat.le_of_ble_eq_true rfl) ?_
  intro p e s m below meth c ls A hF hr hlk hin hsz hP hK hD hN hZ hA hS hl
  have hF : CallFix p m c cX8_status 4 s _ _ RX8 := hF
  have hx := hF.1
  have hb := hF.2.1
  have hml := hF.2.2.1
  have hown := hF.2.2.2.1
  have hu : ∀ w ∈ wsU, w.before _ s = true := fun w h => hF.2.2.2.2 w (List.mem_cons_of_mem _ h)
  have hl : lv_has ls 4 [(0, .ref h0), (1, .int p0)] := hl
  refine lv_iload_n hx hb dX8_status_0 rfl (lv_at hl 1 rfl) ?_
  refine lv_iconst (v := (-1)) hx hb dX8_status_1 (by decide) ?_
  refine lv_bipush (v := 6) hx hb dX8_status_2 (by decide) ?_
  refine xc_Sr hF (c_X8_isWithin l D cI cJ cZ cS ta sa sv s.heap.size p0 (-1) 6 ) ks_X8_91 ⟨rfl, rfl, Nat.le_of_ble_eq_true rfl, Nat.le_of_ble_eq_true rfl⟩ ⟨Nat.le_of_ble_eq_true rfl, Nat.le_of_ble_eq_true rfl⟩ hK hN hZ hP hD hS hA [] rfl rfl rfl hl.1 rfl (Nat.le_of_ble_eq_true rfl) dX8_status_4 (fun r_1 hw_r_1 => ?_)
  rcases hw_r_1 with ⟨rfl, h_2, h_3⟩ | ⟨rfl, h_4⟩
  · skip
    refine lv_if_ne (tgt := 17) hx hb dX8_status_7 (by decide) (fun c_5 => ?_) (fun c_5 => absurd c_5 (by decide))
    refine lv_iload_n hx hb dX8_status_17 rfl (lv_at hl 1 rfl) ?_
    refine lv_if_lt (tgt := 28) hx hb dX8_status_18 (by decide) (fun c_6 => ?_) (fun c_6 => ?_)
    · skip
      refine lv_iconst (v := 0) hx hb dX8_status_28 (by decide) ?_
      refine lv_istore_n (lv' := [(2, .int 0), (0, .ref h0), (1, .int p0)]) hx hb dX8_status_29 rfl hl (by decide) rfl (fun ls hl => ?_)
      refine lv_iconst (v := 0) hx hb dX8_status_30 (by decide) ?_
      refine lv_istore_n (lv' := [(3, .int 0), (2, .int 0), (0, .ref h0), (1, .int p0)]) hx hb dX8_status_31 rfl hl (by decide) rfl (fun ls hl => ?_)
      suffices loop_32 : ∀ (n_32 : Nat) (i : Nat) (u : Int32) (H : Heap) (locs : List Loc) (ls : Array Slot), 7 - i < n_32 → (i ≤ 7) → va_P D vwCl [(h0, .inr (8, [.ref qh, .ref qk, .ref qd, .int b0, .ref qa, .ref qm, .ref qs, .ref qp, .ref ql, .ref qt, .ref qz, .ref qf])), (qf, .inl (cI, 7, .inl ff))] H → va_D A [(h0, .inr (8, [.ref qh, .ref qk, .ref qd, .int b0, .ref qa, .ref qm, .ref qs, .ref qp, .ref ql, .ref qt, .ref qz, .ref qf])), (qf, .inl (cI, 7, .inl ff))] → va_S A s.heap H locs → lv_has ls 4 [(3, .int (nI (i))), (2, .int u), (0, .ref h0), (1, .int p0)] → W p l e ({ frames := 1, cells := 0, slots := 0, locals := 22 }) s m ([.ref h0, .int p0] : List Value).toArray below meth c H locs 0 0 (MQ below (XQi (fun (r : Int32) (f2 : (Nat → Int32)) => (True)) D (fun (f2 : Nat → Int32) => [(h0, .inr (8, [.ref qh, .ref qk, .ref qd, .int b0, .ref qa, .ref qm, .ref qs, .ref qp, .ref ql, .ref qt, .ref qz, .ref qf])), (qf, .inl (cI, 7, .inl f2))]) A) ([.ref h0, .int p0] : List Value).toArray s 0 0 A) (F0 m 32 ls []) by
        exact loop_32 _ 0 0 _ _ _ (Nat.lt_succ_self _) (by omega) hP hD hS (lv_sub hl [0, 1, 2, 3] rfl)
      intro n_32
      induction n_32 with
      | zero =>
        intro i u H locs ls hm_32
        exact absurd hm_32 (Nat.not_lt_zero _)
      | succ n_32 ih_32 =>
        intro i u H locs ls hm_32 hi hP hD hS hl
        refine lv_iload_n hx hb dX8_status_32 rfl (lv_at hl 0 rfl) ?_
        refine lv_bipush (v := 7) hx hb dX8_status_33 (by decide) ?_
        refine lv_icmp_ge (tgt := 53) hx hb dX8_status_35 (by decide) (fun c_7 => ?_) (fun c_7 => ?_)
        · skip
          have nc_7 : 7 ≤ i := xn_le (a := 7) (b := i) (by omega) (by omega) c_7
          refine lv_iload_n hx hb dX8_status_53 rfl (lv_at hl 1 rfl) ?_
          exact W.iret (v := u) hx hb hr (fun t ht hW => ⟨⟨u, ff, rfl, trivial, by rw [ht]; exact hP.sub [0, 1] rfl, hD.sub [0, 1] (by decide) rfl⟩, hS.F ht⟩) hS.2.2 dX8_status_54 hlk
        · skip
          have nc_7 : i < 7 := xn_nle (a := 7) (b := i) (by omega) (by omega) c_7
          refine lv_iload_n hx hb dX8_status_38 rfl (lv_at hl 1 rfl) ?_
          refine lv_aload_n hx hb dX8_status_39 rfl (lv_at hl 2 rfl) ?_
          refine xg hF kf_X8_70 hK hP 0 rfl rfl dX8_status_40 ?_
          refine lv_iload_n hx hb dX8_status_43 rfl (lv_at hl 0 rfl) ?_
          refine va_iald hx hb hK hP 1 0 rfl rfl (vp_in_nI (show i < 7 by omega) (by decide)) dX8_status_44 ?_
          refine xl_i (y := ff i) (congrArg ff (nI_clamp (show i < 2 ^ 31 by omega))) ?_
          refine lv_iadd hx hb dX8_status_45 ?_
          refine lv_topi (fun x_8 ex_8 => ?_)
          refine lv_istore_n (lv' := [(2, .int x_8), (3, .int (nI (i))), (0, .ref h0), (1, .int p0)]) hx hb dX8_status_46 rfl hl (by decide) rfl (fun ls hl => ?_)
          refine lv_iinc (v := nI (i + 1)) (lv' := [(3, .int (nI (i + 1))), (2, .int x_8), (0, .ref h0), (1, .int p0)]) hx hb dX8_status_47 hl (k := 1) rfl (nI_1 (i)) (by decide) rfl (fun ls hl => ?_)
          refine lv_goto (tgt := 32) hx hb dX8_status_50 (by decide) ?_
          exact ih_32 (i + 1) x_8 _ _ _ (by omega) (by omega) (hP.sub [0, 1] rfl) (hD.sub [0, 1] (by decide) rfl) hS (lv_sub hl [0, 1, 2, 3] rfl)
    · skip
      refine lv_aload_n hx hb dX8_status_21 rfl (lv_at hl 0 rfl) ?_
      refine xg hF kf_X8_70 hK hP 0 rfl rfl dX8_status_22 ?_
      refine lv_iload_n hx hb dX8_status_25 rfl (lv_at hl 1 rfl) ?_
      refine va_iald hx hb hK hP 1 0 rfl rfl (x_in7 c_6 h_3) dX8_status_26 ?_
      exact W.iret (v := ff p0.toNatClampNeg) hx hb hr (fun t ht hW => ⟨⟨ff p0.toNatClampNeg, ff, rfl, trivial, by rw [ht]; exact hP.sub [0, 1] rfl, hD.sub [0, 1] (by decide) rfl⟩, hS.F ht⟩) hS.2.2 dX8_status_27 hlk
  · skip
    refine lv_if_ne (tgt := 17) hx hb dX8_status_7 (by decide) (fun c_9 => absurd (by decide) c_9) (fun c_9 => ?_)
    refine lv_aload_n hx hb dX8_status_10 rfl (lv_at hl 0 rfl) ?_
    refine lv_ldc (v := (-1000000001)) hx hb hown (hu _ uw396) dX8_status_11 ?_
    refine xc_Vi (wr := []) hF (c_X8_finding_B l D cI cJ cZ cS ta sa sv s.heap.size h0 qh qk qd b0 qa qm qs qp ql qt qz qf ff ) kv_X8_80 ⟨rfl, rfl, Nat.le_of_ble_eq_true rfl, Nat.le_of_ble_eq_true rfl⟩ ⟨Nat.le_of_ble_eq_true rfl, Nat.le_of_ble_eq_true rfl⟩ hK hN hZ hP hD hS hA [0, 1] [] rfl rfl rfl rfl (by decide) 0 rfl rfl rfl rfl hl.1 rfl (Nat.le_of_ble_eq_true rfl) dX8_status_13 (fun r_10 u_r_10 H locs hw_r_10 hP hD hS => ?_)
    obtain ⟨f2_11, rfl⟩ : ∃ z, z = u_r_10 := ⟨_, rfl⟩
    try dsimp only at hw_r_10
    have hP : va_P D vwCl [(h0, .inr (8, [.ref qh, .ref qk, .ref qd, .int b0, .ref qa, .ref qm, .ref qs, .ref qp, .ref ql, .ref qt, .ref qz, .ref qf])), (qf, .inl (cI, 7, .inl f2_11))] H := hP
    have hD : va_D A [(h0, .inr (8, [.ref qh, .ref qk, .ref qd, .int b0, .ref qa, .ref qm, .ref qs, .ref qp, .ref ql, .ref qt, .ref qz, .ref qf])), (qf, .inl (cI, 7, .inl f2_11))] := hD
    subst hw_r_10
    exact W.iret (v := (-1000000001)) hx hb hr (fun t ht hW => ⟨⟨(-1000000001), f2_11, rfl, trivial, by rw [ht]; exact hP.sub [0, 1] rfl, hD.sub [0, 1] (by decide) rfl⟩, hS.F ht⟩) hS.2.2 dX8_status_16 hlk
