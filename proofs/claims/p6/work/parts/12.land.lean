def LRX1_countWays_3 : List UInt8 := []
def LBX1_countWays_2 : List UInt8 := [0xe6, 0x1b, 0xac]
def LRX1_countWays_2 : List UInt8 := LBX1_countWays_2 ++ LRX1_countWays_3
def LBX1_countWays_1 : List UInt8 := [0x2e, 0x9a, 0x00, 0x07, 0x03, 0xa7, 0x00, 0x04, 0x04, 0x60, 0x3c, 0x84, 0x02, 0x01, 0xa7, 0xff]
def LRX1_countWays_1 : List UInt8 := LBX1_countWays_1 ++ LRX1_countWays_2
def LBX1_countWays_0 : List UInt8 := [0x03, 0x3c, 0x03, 0x3d, 0x1c, 0x10, 0x64, 0xa2, 0x00, 0x1a, 0x1b, 0x2a, 0xb4, 0x00, 0x19, 0x1c]
def LRX1_countWays_0 : List UInt8 := LBX1_countWays_0 ++ LRX1_countWays_1
set_option maxRecDepth 100000 in
theorem LBX1_countWays_eq : cX1_countWays.data.toList = LRX1_countWays_0 := by decide +kernel
theorem LBX1_countWaysr_0 (k : Nat) : cX1_countWays.data.toList[0 + k]? = LRX1_countWays_0[k]? := by rw [LBX1_countWays_eq, Nat.zero_add]
theorem LBX1_countWaysr_1 (k : Nat) : cX1_countWays.data.toList[16 + k]? = LRX1_countWays_1[k]? := by
  have h := LBX1_countWaysr_0 (16 + k)
  rw [show 0 + (16 + k) = 16 + k by omega] at h
  rw [h]
  exact (List.getElem?_append_right (l₁ := LBX1_countWays_0) (l₂ := LRX1_countWays_1) (show 16 ≤ 16 + k by omega)).trans (congrArg (fun i => LRX1_countWays_1[i]?) (show 16 + k - 16 = k by omega))
theorem LBX1_countWaysr_2 (k : Nat) : cX1_countWays.data.toList[32 + k]? = LRX1_countWays_2[k]? := by
  have h := LBX1_countWaysr_1 (16 + k)
  rw [show 16 + (16 + k) = 32 + k by omega] at h
  rw [h]
  exact (List.getElem?_append_right (l₁ := LBX1_countWays_1) (l₂ := LRX1_countWays_2) (show 16 ≤ 16 + k by omega)).trans (congrArg (fun i => LRX1_countWays_2[i]?) (show 16 + k - 16 = k by omega))
theorem dX1_countWays_0 : decode cX1_countWays 0 = .ok (.iconst 0, 1) := dk_3_ (show cX1_countWays.data.toList[0]? = some 0x03 from (LBX1_countWaysr_0 0).trans (by decide +kernel))
theorem dX1_countWays_1 : decode cX1_countWays 1 = .ok (.istore_n 1, 1) := dk_60_ (show cX1_countWays.data.toList[1]? = some 0x3c from (LBX1_countWaysr_0 1).trans (by decide +kernel))
theorem dX1_countWays_2 : decode cX1_countWays 2 = .ok (.iconst 0, 1) := dk_3_ (show cX1_countWays.data.toList[2]? = some 0x03 from (LBX1_countWaysr_0 2).trans (by decide +kernel))
theorem dX1_countWays_3 : decode cX1_countWays 3 = .ok (.istore_n 2, 1) := dk_61_ (show cX1_countWays.data.toList[3]? = some 0x3d from (LBX1_countWaysr_0 3).trans (by decide +kernel))
theorem dX1_countWays_4 : decode cX1_countWays 4 = .ok (.iload_n 2, 1) := dk_28_ (show cX1_countWays.data.toList[4]? = some 0x1c from (LBX1_countWaysr_0 4).trans (by decide +kernel))
theorem dX1_countWays_5 : decode cX1_countWays 5 = .ok (.bipush 100, 2) := dk_16_ (show cX1_countWays.data.toList[5]? = some 0x10 from (LBX1_countWaysr_0 5).trans (by decide +kernel)) (show cX1_countWays.data.toList[6]? = some 0x64 from (LBX1_countWaysr_0 6).trans (by decide +kernel)) (by decide)
theorem dX1_countWays_7 : decode cX1_countWays 7 = .ok (.if_icmp .ge 26, 3) := dk_162_ (show cX1_countWays.data.toList[7]? = some 0xa2 from (LBX1_countWaysr_0 7).trans (by decide +kernel)) (show cX1_countWays.data.toList[8]? = some 0x00 from (LBX1_countWaysr_0 8).trans (by decide +kernel)) (show cX1_countWays.data.toList[9]? = some 0x1a from (LBX1_countWaysr_0 9).trans (by decide +kernel)) (by decide)
theorem dX1_countWays_10 : decode cX1_countWays 10 = .ok (.iload_n 1, 1) := dk_27_ (show cX1_countWays.data.toList[10]? = some 0x1b from (LBX1_countWaysr_0 10).trans (by decide +kernel))
theorem dX1_countWays_11 : decode cX1_countWays 11 = .ok (.aload_n 0, 1) := dk_42_ (show cX1_countWays.data.toList[11]? = some 0x2a from (LBX1_countWaysr_0 11).trans (by decide +kernel))
theorem dX1_countWays_12 : decode cX1_countWays 12 = .ok (.getfield 25, 3) := dk_180_ (show cX1_countWays.data.toList[12]? = some 0xb4 from (LBX1_countWaysr_0 12).trans (by decide +kernel)) (show cX1_countWays.data.toList[13]? = some 0x00 from (LBX1_countWaysr_0 13).trans (by decide +kernel)) (show cX1_countWays.data.toList[14]? = some 0x19 from (LBX1_countWaysr_0 14).trans (by decide +kernel)) (by decide)
theorem dX1_countWays_15 : decode cX1_countWays 15 = .ok (.iload_n 2, 1) := dk_28_ (show cX1_countWays.data.toList[15]? = some 0x1c from (LBX1_countWaysr_0 15).trans (by decide +kernel))
theorem dX1_countWays_16 : decode cX1_countWays 16 = .ok (.iaload, 1) := dk_46_ (show cX1_countWays.data.toList[16]? = some 0x2e from (LBX1_countWaysr_1 0).trans (by decide +kernel))
theorem dX1_countWays_17 : decode cX1_countWays 17 = .ok (.ifCond .ne 7, 3) := dk_154_ (show cX1_countWays.data.toList[17]? = some 0x9a from (LBX1_countWaysr_1 1).trans (by decide +kernel)) (show cX1_countWays.data.toList[18]? = some 0x00 from (LBX1_countWaysr_1 2).trans (by decide +kernel)) (show cX1_countWays.data.toList[19]? = some 0x07 from (LBX1_countWaysr_1 3).trans (by decide +kernel)) (by decide)
theorem dX1_countWays_20 : decode cX1_countWays 20 = .ok (.iconst 0, 1) := dk_3_ (show cX1_countWays.data.toList[20]? = some 0x03 from (LBX1_countWaysr_1 4).trans (by decide +kernel))
theorem dX1_countWays_21 : decode cX1_countWays 21 = .ok (.goto 4, 3) := dk_167_ (show cX1_countWays.data.toList[21]? = some 0xa7 from (LBX1_countWaysr_1 5).trans (by decide +kernel)) (show cX1_countWays.data.toList[22]? = some 0x00 from (LBX1_countWaysr_1 6).trans (by decide +kernel)) (show cX1_countWays.data.toList[23]? = some 0x04 from (LBX1_countWaysr_1 7).trans (by decide +kernel)) (by decide)
theorem dX1_countWays_24 : decode cX1_countWays 24 = .ok (.iconst 1, 1) := dk_4_ (show cX1_countWays.data.toList[24]? = some 0x04 from (LBX1_countWaysr_1 8).trans (by decide +kernel))
theorem dX1_countWays_25 : decode cX1_countWays 25 = .ok (.iadd, 1) := dk_96_ (show cX1_countWays.data.toList[25]? = some 0x60 from (LBX1_countWaysr_1 9).trans (by decide +kernel))
theorem dX1_countWays_26 : decode cX1_countWays 26 = .ok (.istore_n 1, 1) := dk_60_ (show cX1_countWays.data.toList[26]? = some 0x3c from (LBX1_countWaysr_1 10).trans (by decide +kernel))
theorem dX1_countWays_27 : decode cX1_countWays 27 = .ok (.iinc 2 1, 3) := dk_132_ (show cX1_countWays.data.toList[27]? = some 0x84 from (LBX1_countWaysr_1 11).trans (by decide +kernel)) (show cX1_countWays.data.toList[28]? = some 0x02 from (LBX1_countWaysr_1 12).trans (by decide +kernel)) (show cX1_countWays.data.toList[29]? = some 0x01 from (LBX1_countWaysr_1 13).trans (by decide +kernel)) (by decide) (by decide)
theorem dX1_countWays_30 : decode cX1_countWays 30 = .ok (.goto (-26), 3) := dk_167_ (show cX1_countWays.data.toList[30]? = some 0xa7 from (LBX1_countWaysr_1 14).trans (by decide +kernel)) (show cX1_countWays.data.toList[31]? = some 0xff from (LBX1_countWaysr_1 15).trans (by decide +kernel)) (show cX1_countWays.data.toList[32]? = some 0xe6 from (LBX1_countWaysr_2 0).trans (by decide +kernel)) (by decide)
theorem dX1_countWays_33 : decode cX1_countWays 33 = .ok (.iload_n 1, 1) := dk_27_ (show cX1_countWays.data.toList[33]? = some 0x1b from (LBX1_countWaysr_2 1).trans (by decide +kernel))
theorem dX1_countWays_34 : decode cX1_countWays 34 = .ok (.ireturn, 1) := dk_172_ (show cX1_countWays.data.toList[34]? = some 0xac from (LBX1_countWaysr_2 2).trans (by decide +kernel))
def LRX1_countUnknown_4 : List UInt8 := []
def LBX1_countUnknown_3 : List UInt8 := [0x1b, 0xac]
def LRX1_countUnknown_3 : List UInt8 := LBX1_countUnknown_3 ++ LRX1_countUnknown_4
def LBX1_countUnknown_2 : List UInt8 := [0xa2, 0x00, 0x07, 0x04, 0xa7, 0x00, 0x04, 0x03, 0x60, 0x3c, 0x84, 0x02, 0x01, 0xa7, 0xff, 0xd7]
def LRX1_countUnknown_2 : List UInt8 := LBX1_countUnknown_2 ++ LRX1_countUnknown_3
def LBX1_countUnknown_1 : List UInt8 := [0x2e, 0x99, 0x00, 0x16, 0x2a, 0xb4, 0x00, 0x13, 0x1c, 0x2e, 0x2a, 0xb4, 0x00, 0x16, 0x1c, 0x2e]
def LRX1_countUnknown_1 : List UInt8 := LBX1_countUnknown_1 ++ LRX1_countUnknown_2
def LBX1_countUnknown_0 : List UInt8 := [0x03, 0x3c, 0x03, 0x3d, 0x1c, 0x10, 0x64, 0xa2, 0x00, 0x29, 0x1b, 0x2a, 0xb4, 0x00, 0x19, 0x1c]
def LRX1_countUnknown_0 : List UInt8 := LBX1_countUnknown_0 ++ LRX1_countUnknown_1
set_option maxRecDepth 100000 in
theorem LBX1_countUnknown_eq : cX1_countUnknown.data.toList = LRX1_countUnknown_0 := by decide +kernel
theorem LBX1_countUnknownr_0 (k : Nat) : cX1_countUnknown.data.toList[0 + k]? = LRX1_countUnknown_0[k]? := by rw [LBX1_countUnknown_eq, Nat.zero_add]
theorem LBX1_countUnknownr_1 (k : Nat) : cX1_countUnknown.data.toList[16 + k]? = LRX1_countUnknown_1[k]? := by
  have h := LBX1_countUnknownr_0 (16 + k)
  rw [show 0 + (16 + k) = 16 + k by omega] at h
  rw [h]
  exact (List.getElem?_append_right (l₁ := LBX1_countUnknown_0) (l₂ := LRX1_countUnknown_1) (show 16 ≤ 16 + k by omega)).trans (congrArg (fun i => LRX1_countUnknown_1[i]?) (show 16 + k - 16 = k by omega))
theorem LBX1_countUnknownr_2 (k : Nat) : cX1_countUnknown.data.toList[32 + k]? = LRX1_countUnknown_2[k]? := by
  have h := LBX1_countUnknownr_1 (16 + k)
  rw [show 16 + (16 + k) = 32 + k by omega] at h
  rw [h]
  exact (List.getElem?_append_right (l₁ := LBX1_countUnknown_1) (l₂ := LRX1_countUnknown_2) (show 16 ≤ 16 + k by omega)).trans (congrArg (fun i => LRX1_countUnknown_2[i]?) (show 16 + k - 16 = k by omega))
theorem LBX1_countUnknownr_3 (k : Nat) : cX1_countUnknown.data.toList[48 + k]? = LRX1_countUnknown_3[k]? := by
  have h := LBX1_countUnknownr_2 (16 + k)
  rw [show 32 + (16 + k) = 48 + k by omega] at h
  rw [h]
  exact (List.getElem?_append_right (l₁ := LBX1_countUnknown_2) (l₂ := LRX1_countUnknown_3) (show 16 ≤ 16 + k by omega)).trans (congrArg (fun i => LRX1_countUnknown_3[i]?) (show 16 + k - 16 = k by omega))
theorem dX1_countUnknown_0 : decode cX1_countUnknown 0 = .ok (.iconst 0, 1) := dk_3_ (show cX1_countUnknown.data.toList[0]? = some 0x03 from (LBX1_countUnknownr_0 0).trans (by decide +kernel))
theorem dX1_countUnknown_1 : decode cX1_countUnknown 1 = .ok (.istore_n 1, 1) := dk_60_ (show cX1_countUnknown.data.toList[1]? = some 0x3c from (LBX1_countUnknownr_0 1).trans (by decide +kernel))
theorem dX1_countUnknown_2 : decode cX1_countUnknown 2 = .ok (.iconst 0, 1) := dk_3_ (show cX1_countUnknown.data.toList[2]? = some 0x03 from (LBX1_countUnknownr_0 2).trans (by decide +kernel))
theorem dX1_countUnknown_3 : decode cX1_countUnknown 3 = .ok (.istore_n 2, 1) := dk_61_ (show cX1_countUnknown.data.toList[3]? = some 0x3d from (LBX1_countUnknownr_0 3).trans (by decide +kernel))
theorem dX1_countUnknown_4 : decode cX1_countUnknown 4 = .ok (.iload_n 2, 1) := dk_28_ (show cX1_countUnknown.data.toList[4]? = some 0x1c from (LBX1_countUnknownr_0 4).trans (by decide +kernel))
theorem dX1_countUnknown_5 : decode cX1_countUnknown 5 = .ok (.bipush 100, 2) := dk_16_ (show cX1_countUnknown.data.toList[5]? = some 0x10 from (LBX1_countUnknownr_0 5).trans (by decide +kernel)) (show cX1_countUnknown.data.toList[6]? = some 0x64 from (LBX1_countUnknownr_0 6).trans (by decide +kernel)) (by decide)
theorem dX1_countUnknown_7 : decode cX1_countUnknown 7 = .ok (.if_icmp .ge 41, 3) := dk_162_ (show cX1_countUnknown.data.toList[7]? = some 0xa2 from (LBX1_countUnknownr_0 7).trans (by decide +kernel)) (show cX1_countUnknown.data.toList[8]? = some 0x00 from (LBX1_countUnknownr_0 8).trans (by decide +kernel)) (show cX1_countUnknown.data.toList[9]? = some 0x29 from (LBX1_countUnknownr_0 9).trans (by decide +kernel)) (by decide)
theorem dX1_countUnknown_10 : decode cX1_countUnknown 10 = .ok (.iload_n 1, 1) := dk_27_ (show cX1_countUnknown.data.toList[10]? = some 0x1b from (LBX1_countUnknownr_0 10).trans (by decide +kernel))
theorem dX1_countUnknown_11 : decode cX1_countUnknown 11 = .ok (.aload_n 0, 1) := dk_42_ (show cX1_countUnknown.data.toList[11]? = some 0x2a from (LBX1_countUnknownr_0 11).trans (by decide +kernel))
theorem dX1_countUnknown_12 : decode cX1_countUnknown 12 = .ok (.getfield 25, 3) := dk_180_ (show cX1_countUnknown.data.toList[12]? = some 0xb4 from (LBX1_countUnknownr_0 12).trans (by decide +kernel)) (show cX1_countUnknown.data.toList[13]? = some 0x00 from (LBX1_countUnknownr_0 13).trans (by decide +kernel)) (show cX1_countUnknown.data.toList[14]? = some 0x19 from (LBX1_countUnknownr_0 14).trans (by decide +kernel)) (by decide)
theorem dX1_countUnknown_15 : decode cX1_countUnknown 15 = .ok (.iload_n 2, 1) := dk_28_ (show cX1_countUnknown.data.toList[15]? = some 0x1c from (LBX1_countUnknownr_0 15).trans (by decide +kernel))
theorem dX1_countUnknown_16 : decode cX1_countUnknown 16 = .ok (.iaload, 1) := dk_46_ (show cX1_countUnknown.data.toList[16]? = some 0x2e from (LBX1_countUnknownr_1 0).trans (by decide +kernel))
theorem dX1_countUnknown_17 : decode cX1_countUnknown 17 = .ok (.ifCond .eq 22, 3) := dk_153_ (show cX1_countUnknown.data.toList[17]? = some 0x99 from (LBX1_countUnknownr_1 1).trans (by decide +kernel)) (show cX1_countUnknown.data.toList[18]? = some 0x00 from (LBX1_countUnknownr_1 2).trans (by decide +kernel)) (show cX1_countUnknown.data.toList[19]? = some 0x16 from (LBX1_countUnknownr_1 3).trans (by decide +kernel)) (by decide)
theorem dX1_countUnknown_20 : decode cX1_countUnknown 20 = .ok (.aload_n 0, 1) := dk_42_ (show cX1_countUnknown.data.toList[20]? = some 0x2a from (LBX1_countUnknownr_1 4).trans (by decide +kernel))
theorem dX1_countUnknown_21 : decode cX1_countUnknown 21 = .ok (.getfield 19, 3) := dk_180_ (show cX1_countUnknown.data.toList[21]? = some 0xb4 from (LBX1_countUnknownr_1 5).trans (by decide +kernel)) (show cX1_countUnknown.data.toList[22]? = some 0x00 from (LBX1_countUnknownr_1 6).trans (by decide +kernel)) (show cX1_countUnknown.data.toList[23]? = some 0x13 from (LBX1_countUnknownr_1 7).trans (by decide +kernel)) (by decide)
theorem dX1_countUnknown_24 : decode cX1_countUnknown 24 = .ok (.iload_n 2, 1) := dk_28_ (show cX1_countUnknown.data.toList[24]? = some 0x1c from (LBX1_countUnknownr_1 8).trans (by decide +kernel))
theorem dX1_countUnknown_25 : decode cX1_countUnknown 25 = .ok (.iaload, 1) := dk_46_ (show cX1_countUnknown.data.toList[25]? = some 0x2e from (LBX1_countUnknownr_1 9).trans (by decide +kernel))
theorem dX1_countUnknown_26 : decode cX1_countUnknown 26 = .ok (.aload_n 0, 1) := dk_42_ (show cX1_countUnknown.data.toList[26]? = some 0x2a from (LBX1_countUnknownr_1 10).trans (by decide +kernel))
theorem dX1_countUnknown_27 : decode cX1_countUnknown 27 = .ok (.getfield 22, 3) := dk_180_ (show cX1_countUnknown.data.toList[27]? = some 0xb4 from (LBX1_countUnknownr_1 11).trans (by decide +kernel)) (show cX1_countUnknown.data.toList[28]? = some 0x00 from (LBX1_countUnknownr_1 12).trans (by decide +kernel)) (show cX1_countUnknown.data.toList[29]? = some 0x16 from (LBX1_countUnknownr_1 13).trans (by decide +kernel)) (by decide)
theorem dX1_countUnknown_30 : decode cX1_countUnknown 30 = .ok (.iload_n 2, 1) := dk_28_ (show cX1_countUnknown.data.toList[30]? = some 0x1c from (LBX1_countUnknownr_1 14).trans (by decide +kernel))
theorem dX1_countUnknown_31 : decode cX1_countUnknown 31 = .ok (.iaload, 1) := dk_46_ (show cX1_countUnknown.data.toList[31]? = some 0x2e from (LBX1_countUnknownr_1 15).trans (by decide +kernel))
theorem dX1_countUnknown_32 : decode cX1_countUnknown 32 = .ok (.if_icmp .ge 7, 3) := dk_162_ (show cX1_countUnknown.data.toList[32]? = some 0xa2 from (LBX1_countUnknownr_2 0).trans (by decide +kernel)) (show cX1_countUnknown.data.toList[33]? = some 0x00 from (LBX1_countUnknownr_2 1).trans (by decide +kernel)) (show cX1_countUnknown.data.toList[34]? = some 0x07 from (LBX1_countUnknownr_2 2).trans (by decide +kernel)) (by decide)
theorem dX1_countUnknown_35 : decode cX1_countUnknown 35 = .ok (.iconst 1, 1) := dk_4_ (show cX1_countUnknown.data.toList[35]? = some 0x04 from (LBX1_countUnknownr_2 3).trans (by decide +kernel))
theorem dX1_countUnknown_36 : decode cX1_countUnknown 36 = .ok (.goto 4, 3) := dk_167_ (show cX1_countUnknown.data.toList[36]? = some 0xa7 from (LBX1_countUnknownr_2 4).trans (by decide +kernel)) (show cX1_countUnknown.data.toList[37]? = some 0x00 from (LBX1_countUnknownr_2 5).trans (by decide +kernel)) (show cX1_countUnknown.data.toList[38]? = some 0x04 from (LBX1_countUnknownr_2 6).trans (by decide +kernel)) (by decide)
theorem dX1_countUnknown_39 : decode cX1_countUnknown 39 = .ok (.iconst 0, 1) := dk_3_ (show cX1_countUnknown.data.toList[39]? = some 0x03 from (LBX1_countUnknownr_2 7).trans (by decide +kernel))
theorem dX1_countUnknown_40 : decode cX1_countUnknown 40 = .ok (.iadd, 1) := dk_96_ (show cX1_countUnknown.data.toList[40]? = some 0x60 from (LBX1_countUnknownr_2 8).trans (by decide +kernel))
theorem dX1_countUnknown_41 : decode cX1_countUnknown 41 = .ok (.istore_n 1, 1) := dk_60_ (show cX1_countUnknown.data.toList[41]? = some 0x3c from (LBX1_countUnknownr_2 9).trans (by decide +kernel))
theorem dX1_countUnknown_42 : decode cX1_countUnknown 42 = .ok (.iinc 2 1, 3) := dk_132_ (show cX1_countUnknown.data.toList[42]? = some 0x84 from (LBX1_countUnknownr_2 10).trans (by decide +kernel)) (show cX1_countUnknown.data.toList[43]? = some 0x02 from (LBX1_countUnknownr_2 11).trans (by decide +kernel)) (show cX1_countUnknown.data.toList[44]? = some 0x01 from (LBX1_countUnknownr_2 12).trans (by decide +kernel)) (by decide) (by decide)
theorem dX1_countUnknown_45 : decode cX1_countUnknown 45 = .ok (.goto (-41), 3) := dk_167_ (show cX1_countUnknown.data.toList[45]? = some 0xa7 from (LBX1_countUnknownr_2 13).trans (by decide +kernel)) (show cX1_countUnknown.data.toList[46]? = some 0xff from (LBX1_countUnknownr_2 14).trans (by decide +kernel)) (show cX1_countUnknown.data.toList[47]? = some 0xd7 from (LBX1_countUnknownr_2 15).trans (by decide +kernel)) (by decide)
theorem dX1_countUnknown_48 : decode cX1_countUnknown 48 = .ok (.iload_n 1, 1) := dk_27_ (show cX1_countUnknown.data.toList[48]? = some 0x1b from (LBX1_countUnknownr_3 0).trans (by decide +kernel))
theorem dX1_countUnknown_49 : decode cX1_countUnknown 49 = .ok (.ireturn, 1) := dk_172_ (show cX1_countUnknown.data.toList[49]? = some 0xac from (LBX1_countUnknownr_3 1).trans (by decide +kernel))
def LRX1_allBetweenEnds_3 : List UInt8 := []
def LBX1_allBetweenEnds_2 : List UInt8 := [0x00, 0x13, 0x1c, 0x2e, 0x64, 0x60, 0x3c, 0x84, 0x02, 0x01, 0xa7, 0xff, 0xda, 0x1b, 0xac]
def LRX1_allBetweenEnds_2 : List UInt8 := LBX1_allBetweenEnds_2 ++ LRX1_allBetweenEnds_3
def LBX1_allBetweenEnds_1 : List UInt8 := [0x2e, 0x9a, 0x00, 0x07, 0x03, 0xa7, 0x00, 0x10, 0x2a, 0xb4, 0x00, 0x16, 0x1c, 0x2e, 0x2a, 0xb4]
def LRX1_allBetweenEnds_1 : List UInt8 := LBX1_allBetweenEnds_1 ++ LRX1_allBetweenEnds_2
def LBX1_allBetweenEnds_0 : List UInt8 := [0x03, 0x3c, 0x03, 0x3d, 0x1c, 0x10, 0x64, 0xa2, 0x00, 0x26, 0x1b, 0x2a, 0xb4, 0x00, 0x19, 0x1c]
def LRX1_allBetweenEnds_0 : List UInt8 := LBX1_allBetweenEnds_0 ++ LRX1_allBetweenEnds_1
set_option maxRecDepth 100000 in
theorem LBX1_allBetweenEnds_eq : cX1_allBetweenEnds.data.toList = LRX1_allBetweenEnds_0 := by decide +kernel
theorem LBX1_allBetweenEndsr_0 (k : Nat) : cX1_allBetweenEnds.data.toList[0 + k]? = LRX1_allBetweenEnds_0[k]? := by rw [LBX1_allBetweenEnds_eq, Nat.zero_add]
theorem LBX1_allBetweenEndsr_1 (k : Nat) : cX1_allBetweenEnds.data.toList[16 + k]? = LRX1_allBetweenEnds_1[k]? := by
  have h := LBX1_allBetweenEndsr_0 (16 + k)
  rw [show 0 + (16 + k) = 16 + k by omega] at h
  rw [h]
  exact (List.getElem?_append_right (l₁ := LBX1_allBetweenEnds_0) (l₂ := LRX1_allBetweenEnds_1) (show 16 ≤ 16 + k by omega)).trans (congrArg (fun i => LRX1_allBetweenEnds_1[i]?) (show 16 + k - 16 = k by omega))
theorem LBX1_allBetweenEndsr_2 (k : Nat) : cX1_allBetweenEnds.data.toList[32 + k]? = LRX1_allBetweenEnds_2[k]? := by
  have h := LBX1_allBetweenEndsr_1 (16 + k)
  rw [show 16 + (16 + k) = 32 + k by omega] at h
  rw [h]
  exact (List.getElem?_append_right (l₁ := LBX1_allBetweenEnds_1) (l₂ := LRX1_allBetweenEnds_2) (show 16 ≤ 16 + k by omega)).trans (congrArg (fun i => LRX1_allBetweenEnds_2[i]?) (show 16 + k - 16 = k by omega))
theorem dX1_allBetweenEnds_0 : decode cX1_allBetweenEnds 0 = .ok (.iconst 0, 1) := dk_3_ (show cX1_allBetweenEnds.data.toList[0]? = some 0x03 from (LBX1_allBetweenEndsr_0 0).trans (by decide +kernel))
theorem dX1_allBetweenEnds_1 : decode cX1_allBetweenEnds 1 = .ok (.istore_n 1, 1) := dk_60_ (show cX1_allBetweenEnds.data.toList[1]? = some 0x3c from (LBX1_allBetweenEndsr_0 1).trans (by decide +kernel))
theorem dX1_allBetweenEnds_2 : decode cX1_allBetweenEnds 2 = .ok (.iconst 0, 1) := dk_3_ (show cX1_allBetweenEnds.data.toList[2]? = some 0x03 from (LBX1_allBetweenEndsr_0 2).trans (by decide +kernel))
theorem dX1_allBetweenEnds_3 : decode cX1_allBetweenEnds 3 = .ok (.istore_n 2, 1) := dk_61_ (show cX1_allBetweenEnds.data.toList[3]? = some 0x3d from (LBX1_allBetweenEndsr_0 3).trans (by decide +kernel))
theorem dX1_allBetweenEnds_4 : decode cX1_allBetweenEnds 4 = .ok (.iload_n 2, 1) := dk_28_ (show cX1_allBetweenEnds.data.toList[4]? = some 0x1c from (LBX1_allBetweenEndsr_0 4).trans (by decide +kernel))
theorem dX1_allBetweenEnds_5 : decode cX1_allBetweenEnds 5 = .ok (.bipush 100, 2) := dk_16_ (show cX1_allBetweenEnds.data.toList[5]? = some 0x10 from (LBX1_allBetweenEndsr_0 5).trans (by decide +kernel)) (show cX1_allBetweenEnds.data.toList[6]? = some 0x64 from (LBX1_allBetweenEndsr_0 6).trans (by decide +kernel)) (by decide)
theorem dX1_allBetweenEnds_7 : decode cX1_allBetweenEnds 7 = .ok (.if_icmp .ge 38, 3) := dk_162_ (show cX1_allBetweenEnds.data.toList[7]? = some 0xa2 from (LBX1_allBetweenEndsr_0 7).trans (by decide +kernel)) (show cX1_allBetweenEnds.data.toList[8]? = some 0x00 from (LBX1_allBetweenEndsr_0 8).trans (by decide +kernel)) (show cX1_allBetweenEnds.data.toList[9]? = some 0x26 from (LBX1_allBetweenEndsr_0 9).trans (by decide +kernel)) (by decide)
theorem dX1_allBetweenEnds_10 : decode cX1_allBetweenEnds 10 = .ok (.iload_n 1, 1) := dk_27_ (show cX1_allBetweenEnds.data.toList[10]? = some 0x1b from (LBX1_allBetweenEndsr_0 10).trans (by decide +kernel))
theorem dX1_allBetweenEnds_11 : decode cX1_allBetweenEnds 11 = .ok (.aload_n 0, 1) := dk_42_ (show cX1_allBetweenEnds.data.toList[11]? = some 0x2a from (LBX1_allBetweenEndsr_0 11).trans (by decide +kernel))
theorem dX1_allBetweenEnds_12 : decode cX1_allBetweenEnds 12 = .ok (.getfield 25, 3) := dk_180_ (show cX1_allBetweenEnds.data.toList[12]? = some 0xb4 from (LBX1_allBetweenEndsr_0 12).trans (by decide +kernel)) (show cX1_allBetweenEnds.data.toList[13]? = some 0x00 from (LBX1_allBetweenEndsr_0 13).trans (by decide +kernel)) (show cX1_allBetweenEnds.data.toList[14]? = some 0x19 from (LBX1_allBetweenEndsr_0 14).trans (by decide +kernel)) (by decide)
theorem dX1_allBetweenEnds_15 : decode cX1_allBetweenEnds 15 = .ok (.iload_n 2, 1) := dk_28_ (show cX1_allBetweenEnds.data.toList[15]? = some 0x1c from (LBX1_allBetweenEndsr_0 15).trans (by decide +kernel))
theorem dX1_allBetweenEnds_16 : decode cX1_allBetweenEnds 16 = .ok (.iaload, 1) := dk_46_ (show cX1_allBetweenEnds.data.toList[16]? = some 0x2e from (LBX1_allBetweenEndsr_1 0).trans (by decide +kernel))
theorem dX1_allBetweenEnds_17 : decode cX1_allBetweenEnds 17 = .ok (.ifCond .ne 7, 3) := dk_154_ (show cX1_allBetweenEnds.data.toList[17]? = some 0x9a from (LBX1_allBetweenEndsr_1 1).trans (by decide +kernel)) (show cX1_allBetweenEnds.data.toList[18]? = some 0x00 from (LBX1_allBetweenEndsr_1 2).trans (by decide +kernel)) (show cX1_allBetweenEnds.data.toList[19]? = some 0x07 from (LBX1_allBetweenEndsr_1 3).trans (by decide +kernel)) (by decide)
theorem dX1_allBetweenEnds_20 : decode cX1_allBetweenEnds 20 = .ok (.iconst 0, 1) := dk_3_ (show cX1_allBetweenEnds.data.toList[20]? = some 0x03 from (LBX1_allBetweenEndsr_1 4).trans (by decide +kernel))
theorem dX1_allBetweenEnds_21 : decode cX1_allBetweenEnds 21 = .ok (.goto 16, 3) := dk_167_ (show cX1_allBetweenEnds.data.toList[21]? = some 0xa7 from (LBX1_allBetweenEndsr_1 5).trans (by decide +kernel)) (show cX1_allBetweenEnds.data.toList[22]? = some 0x00 from (LBX1_allBetweenEndsr_1 6).trans (by decide +kernel)) (show cX1_allBetweenEnds.data.toList[23]? = some 0x10 from (LBX1_allBetweenEndsr_1 7).trans (by decide +kernel)) (by decide)
theorem dX1_allBetweenEnds_24 : decode cX1_allBetweenEnds 24 = .ok (.aload_n 0, 1) := dk_42_ (show cX1_allBetweenEnds.data.toList[24]? = some 0x2a from (LBX1_allBetweenEndsr_1 8).trans (by decide +kernel))
theorem dX1_allBetweenEnds_25 : decode cX1_allBetweenEnds 25 = .ok (.getfield 22, 3) := dk_180_ (show cX1_allBetweenEnds.data.toList[25]? = some 0xb4 from (LBX1_allBetweenEndsr_1 9).trans (by decide +kernel)) (show cX1_allBetweenEnds.data.toList[26]? = some 0x00 from (LBX1_allBetweenEndsr_1 10).trans (by decide +kernel)) (show cX1_allBetweenEnds.data.toList[27]? = some 0x16 from (LBX1_allBetweenEndsr_1 11).trans (by decide +kernel)) (by decide)
theorem dX1_allBetweenEnds_28 : decode cX1_allBetweenEnds 28 = .ok (.iload_n 2, 1) := dk_28_ (show cX1_allBetweenEnds.data.toList[28]? = some 0x1c from (LBX1_allBetweenEndsr_1 12).trans (by decide +kernel))
theorem dX1_allBetweenEnds_29 : decode cX1_allBetweenEnds 29 = .ok (.iaload, 1) := dk_46_ (show cX1_allBetweenEnds.data.toList[29]? = some 0x2e from (LBX1_allBetweenEndsr_1 13).trans (by decide +kernel))
theorem dX1_allBetweenEnds_30 : decode cX1_allBetweenEnds 30 = .ok (.aload_n 0, 1) := dk_42_ (show cX1_allBetweenEnds.data.toList[30]? = some 0x2a from (LBX1_allBetweenEndsr_1 14).trans (by decide +kernel))
theorem dX1_allBetweenEnds_31 : decode cX1_allBetweenEnds 31 = .ok (.getfield 19, 3) := dk_180_ (show cX1_allBetweenEnds.data.toList[31]? = some 0xb4 from (LBX1_allBetweenEndsr_1 15).trans (by decide +kernel)) (show cX1_allBetweenEnds.data.toList[32]? = some 0x00 from (LBX1_allBetweenEndsr_2 0).trans (by decide +kernel)) (show cX1_allBetweenEnds.data.toList[33]? = some 0x13 from (LBX1_allBetweenEndsr_2 1).trans (by decide +kernel)) (by decide)
theorem dX1_allBetweenEnds_34 : decode cX1_allBetweenEnds 34 = .ok (.iload_n 2, 1) := dk_28_ (show cX1_allBetweenEnds.data.toList[34]? = some 0x1c from (LBX1_allBetweenEndsr_2 2).trans (by decide +kernel))
theorem dX1_allBetweenEnds_35 : decode cX1_allBetweenEnds 35 = .ok (.iaload, 1) := dk_46_ (show cX1_allBetweenEnds.data.toList[35]? = some 0x2e from (LBX1_allBetweenEndsr_2 3).trans (by decide +kernel))
theorem dX1_allBetweenEnds_36 : decode cX1_allBetweenEnds 36 = .ok (.isub, 1) := dk_100_ (show cX1_allBetweenEnds.data.toList[36]? = some 0x64 from (LBX1_allBetweenEndsr_2 4).trans (by decide +kernel))
theorem dX1_allBetweenEnds_37 : decode cX1_allBetweenEnds 37 = .ok (.iadd, 1) := dk_96_ (show cX1_allBetweenEnds.data.toList[37]? = some 0x60 from (LBX1_allBetweenEndsr_2 5).trans (by decide +kernel))
theorem dX1_allBetweenEnds_38 : decode cX1_allBetweenEnds 38 = .ok (.istore_n 1, 1) := dk_60_ (show cX1_allBetweenEnds.data.toList[38]? = some 0x3c from (LBX1_allBetweenEndsr_2 6).trans (by decide +kernel))
theorem dX1_allBetweenEnds_39 : decode cX1_allBetweenEnds 39 = .ok (.iinc 2 1, 3) := dk_132_ (show cX1_allBetweenEnds.data.toList[39]? = some 0x84 from (LBX1_allBetweenEndsr_2 7).trans (by decide +kernel)) (show cX1_allBetweenEnds.data.toList[40]? = some 0x02 from (LBX1_allBetweenEndsr_2 8).trans (by decide +kernel)) (show cX1_allBetweenEnds.data.toList[41]? = some 0x01 from (LBX1_allBetweenEndsr_2 9).trans (by decide +kernel)) (by decide) (by decide)
theorem dX1_allBetweenEnds_42 : decode cX1_allBetweenEnds 42 = .ok (.goto (-38), 3) := dk_167_ (show cX1_allBetweenEnds.data.toList[42]? = some 0xa7 from (LBX1_allBetweenEndsr_2 10).trans (by decide +kernel)) (show cX1_allBetweenEnds.data.toList[43]? = some 0xff from (LBX1_allBetweenEndsr_2 11).trans (by decide +kernel)) (show cX1_allBetweenEnds.data.toList[44]? = some 0xda from (LBX1_allBetweenEndsr_2 12).trans (by decide +kernel)) (by decide)
theorem dX1_allBetweenEnds_45 : decode cX1_allBetweenEnds 45 = .ok (.iload_n 1, 1) := dk_27_ (show cX1_allBetweenEnds.data.toList[45]? = some 0x1b from (LBX1_allBetweenEndsr_2 13).trans (by decide +kernel))
theorem dX1_allBetweenEnds_46 : decode cX1_allBetweenEnds 46 = .ok (.ireturn, 1) := dk_172_ (show cX1_allBetweenEnds.data.toList[46]? = some 0xac from (LBX1_allBetweenEndsr_2 14).trans (by decide +kernel))
def LRX1_widestWay_4 : List UInt8 := []
def LBX1_widestWay_3 : List UInt8 := [0xb4, 0x00, 0x13, 0x1d, 0x2e, 0x64, 0x3d, 0x84, 0x03, 0x01, 0xa7, 0xff, 0xcc, 0x1b, 0xac]
def LRX1_widestWay_3 : List UInt8 := LBX1_widestWay_3 ++ LRX1_widestWay_4
def LBX1_widestWay_2 : List UInt8 := [0x1d, 0x2e, 0x64, 0x1c, 0xa4, 0x00, 0x13, 0x1d, 0x3c, 0x2a, 0xb4, 0x00, 0x16, 0x1d, 0x2e, 0x2a]
def LRX1_widestWay_2 : List UInt8 := LBX1_widestWay_2 ++ LRX1_widestWay_3
def LBX1_widestWay_1 : List UInt8 := [0x1d, 0x2e, 0x04, 0xa0, 0x00, 0x24, 0x2a, 0xb4, 0x00, 0x16, 0x1d, 0x2e, 0x2a, 0xb4, 0x00, 0x13]
def LRX1_widestWay_1 : List UInt8 := LBX1_widestWay_1 ++ LRX1_widestWay_2
def LBX1_widestWay_0 : List UInt8 := [0x02, 0x3c, 0x03, 0x3d, 0x03, 0x3e, 0x1d, 0x10, 0x64, 0xa2, 0x00, 0x34, 0x2a, 0xb4, 0x00, 0x19]
def LRX1_widestWay_0 : List UInt8 := LBX1_widestWay_0 ++ LRX1_widestWay_1
set_option maxRecDepth 100000 in
theorem LBX1_widestWay_eq : cX1_widestWay.data.toList = LRX1_widestWay_0 := by decide +kernel
theorem LBX1_widestWayr_0 (k : Nat) : cX1_widestWay.data.toList[0 + k]? = LRX1_widestWay_0[k]? := by rw [LBX1_widestWay_eq, Nat.zero_add]
theorem LBX1_widestWayr_1 (k : Nat) : cX1_widestWay.data.toList[16 + k]? = LRX1_widestWay_1[k]? := by
  have h := LBX1_widestWayr_0 (16 + k)
  rw [show 0 + (16 + k) = 16 + k by omega] at h
  rw [h]
  exact (List.getElem?_append_right (l₁ := LBX1_widestWay_0) (l₂ := LRX1_widestWay_1) (show 16 ≤ 16 + k by omega)).trans (congrArg (fun i => LRX1_widestWay_1[i]?) (show 16 + k - 16 = k by omega))
theorem LBX1_widestWayr_2 (k : Nat) : cX1_widestWay.data.toList[32 + k]? = LRX1_widestWay_2[k]? := by
  have h := LBX1_widestWayr_1 (16 + k)
  rw [show 16 + (16 + k) = 32 + k by omega] at h
  rw [h]
  exact (List.getElem?_append_right (l₁ := LBX1_widestWay_1) (l₂ := LRX1_widestWay_2) (show 16 ≤ 16 + k by omega)).trans (congrArg (fun i => LRX1_widestWay_2[i]?) (show 16 + k - 16 = k by omega))
theorem LBX1_widestWayr_3 (k : Nat) : cX1_widestWay.data.toList[48 + k]? = LRX1_widestWay_3[k]? := by
  have h := LBX1_widestWayr_2 (16 + k)
  rw [show 32 + (16 + k) = 48 + k by omega] at h
  rw [h]
  exact (List.getElem?_append_right (l₁ := LBX1_widestWay_2) (l₂ := LRX1_widestWay_3) (show 16 ≤ 16 + k by omega)).trans (congrArg (fun i => LRX1_widestWay_3[i]?) (show 16 + k - 16 = k by omega))
theorem dX1_widestWay_0 : decode cX1_widestWay 0 = .ok (.iconst (-1), 1) := dk_2_ (show cX1_widestWay.data.toList[0]? = some 0x02 from (LBX1_widestWayr_0 0).trans (by decide +kernel))
theorem dX1_widestWay_1 : decode cX1_widestWay 1 = .ok (.istore_n 1, 1) := dk_60_ (show cX1_widestWay.data.toList[1]? = some 0x3c from (LBX1_widestWayr_0 1).trans (by decide +kernel))
theorem dX1_widestWay_2 : decode cX1_widestWay 2 = .ok (.iconst 0, 1) := dk_3_ (show cX1_widestWay.data.toList[2]? = some 0x03 from (LBX1_widestWayr_0 2).trans (by decide +kernel))
theorem dX1_widestWay_3 : decode cX1_widestWay 3 = .ok (.istore_n 2, 1) := dk_61_ (show cX1_widestWay.data.toList[3]? = some 0x3d from (LBX1_widestWayr_0 3).trans (by decide +kernel))
theorem dX1_widestWay_4 : decode cX1_widestWay 4 = .ok (.iconst 0, 1) := dk_3_ (show cX1_widestWay.data.toList[4]? = some 0x03 from (LBX1_widestWayr_0 4).trans (by decide +kernel))
theorem dX1_widestWay_5 : decode cX1_widestWay 5 = .ok (.istore_n 3, 1) := dk_62_ (show cX1_widestWay.data.toList[5]? = some 0x3e from (LBX1_widestWayr_0 5).trans (by decide +kernel))
theorem dX1_widestWay_6 : decode cX1_widestWay 6 = .ok (.iload_n 3, 1) := dk_29_ (show cX1_widestWay.data.toList[6]? = some 0x1d from (LBX1_widestWayr_0 6).trans (by decide +kernel))
theorem dX1_widestWay_7 : decode cX1_widestWay 7 = .ok (.bipush 100, 2) := dk_16_ (show cX1_widestWay.data.toList[7]? = some 0x10 from (LBX1_widestWayr_0 7).trans (by decide +kernel)) (show cX1_widestWay.data.toList[8]? = some 0x64 from (LBX1_widestWayr_0 8).trans (by decide +kernel)) (by decide)
theorem dX1_widestWay_9 : decode cX1_widestWay 9 = .ok (.if_icmp .ge 52, 3) := dk_162_ (show cX1_widestWay.data.toList[9]? = some 0xa2 from (LBX1_widestWayr_0 9).trans (by decide +kernel)) (show cX1_widestWay.data.toList[10]? = some 0x00 from (LBX1_widestWayr_0 10).trans (by decide +kernel)) (show cX1_widestWay.data.toList[11]? = some 0x34 from (LBX1_widestWayr_0 11).trans (by decide +kernel)) (by decide)
theorem dX1_widestWay_12 : decode cX1_widestWay 12 = .ok (.aload_n 0, 1) := dk_42_ (show cX1_widestWay.data.toList[12]? = some 0x2a from (LBX1_widestWayr_0 12).trans (by decide +kernel))
theorem dX1_widestWay_13 : decode cX1_widestWay 13 = .ok (.getfield 25, 3) := dk_180_ (show cX1_widestWay.data.toList[13]? = some 0xb4 from (LBX1_widestWayr_0 13).trans (by decide +kernel)) (show cX1_widestWay.data.toList[14]? = some 0x00 from (LBX1_widestWayr_0 14).trans (by decide +kernel)) (show cX1_widestWay.data.toList[15]? = some 0x19 from (LBX1_widestWayr_0 15).trans (by decide +kernel)) (by decide)
theorem dX1_widestWay_16 : decode cX1_widestWay 16 = .ok (.iload_n 3, 1) := dk_29_ (show cX1_widestWay.data.toList[16]? = some 0x1d from (LBX1_widestWayr_1 0).trans (by decide +kernel))
theorem dX1_widestWay_17 : decode cX1_widestWay 17 = .ok (.iaload, 1) := dk_46_ (show cX1_widestWay.data.toList[17]? = some 0x2e from (LBX1_widestWayr_1 1).trans (by decide +kernel))
theorem dX1_widestWay_18 : decode cX1_widestWay 18 = .ok (.iconst 1, 1) := dk_4_ (show cX1_widestWay.data.toList[18]? = some 0x04 from (LBX1_widestWayr_1 2).trans (by decide +kernel))
theorem dX1_widestWay_19 : decode cX1_widestWay 19 = .ok (.if_icmp .ne 36, 3) := dk_160_ (show cX1_widestWay.data.toList[19]? = some 0xa0 from (LBX1_widestWayr_1 3).trans (by decide +kernel)) (show cX1_widestWay.data.toList[20]? = some 0x00 from (LBX1_widestWayr_1 4).trans (by decide +kernel)) (show cX1_widestWay.data.toList[21]? = some 0x24 from (LBX1_widestWayr_1 5).trans (by decide +kernel)) (by decide)
theorem dX1_widestWay_22 : decode cX1_widestWay 22 = .ok (.aload_n 0, 1) := dk_42_ (show cX1_widestWay.data.toList[22]? = some 0x2a from (LBX1_widestWayr_1 6).trans (by decide +kernel))
theorem dX1_widestWay_23 : decode cX1_widestWay 23 = .ok (.getfield 22, 3) := dk_180_ (show cX1_widestWay.data.toList[23]? = some 0xb4 from (LBX1_widestWayr_1 7).trans (by decide +kernel)) (show cX1_widestWay.data.toList[24]? = some 0x00 from (LBX1_widestWayr_1 8).trans (by decide +kernel)) (show cX1_widestWay.data.toList[25]? = some 0x16 from (LBX1_widestWayr_1 9).trans (by decide +kernel)) (by decide)
theorem dX1_widestWay_26 : decode cX1_widestWay 26 = .ok (.iload_n 3, 1) := dk_29_ (show cX1_widestWay.data.toList[26]? = some 0x1d from (LBX1_widestWayr_1 10).trans (by decide +kernel))
theorem dX1_widestWay_27 : decode cX1_widestWay 27 = .ok (.iaload, 1) := dk_46_ (show cX1_widestWay.data.toList[27]? = some 0x2e from (LBX1_widestWayr_1 11).trans (by decide +kernel))
theorem dX1_widestWay_28 : decode cX1_widestWay 28 = .ok (.aload_n 0, 1) := dk_42_ (show cX1_widestWay.data.toList[28]? = some 0x2a from (LBX1_widestWayr_1 12).trans (by decide +kernel))
theorem dX1_widestWay_29 : decode cX1_widestWay 29 = .ok (.getfield 19, 3) := dk_180_ (show cX1_widestWay.data.toList[29]? = some 0xb4 from (LBX1_widestWayr_1 13).trans (by decide +kernel)) (show cX1_widestWay.data.toList[30]? = some 0x00 from (LBX1_widestWayr_1 14).trans (by decide +kernel)) (show cX1_widestWay.data.toList[31]? = some 0x13 from (LBX1_widestWayr_1 15).trans (by decide +kernel)) (by decide)
theorem dX1_widestWay_32 : decode cX1_widestWay 32 = .ok (.iload_n 3, 1) := dk_29_ (show cX1_widestWay.data.toList[32]? = some 0x1d from (LBX1_widestWayr_2 0).trans (by decide +kernel))
theorem dX1_widestWay_33 : decode cX1_widestWay 33 = .ok (.iaload, 1) := dk_46_ (show cX1_widestWay.data.toList[33]? = some 0x2e from (LBX1_widestWayr_2 1).trans (by decide +kernel))
theorem dX1_widestWay_34 : decode cX1_widestWay 34 = .ok (.isub, 1) := dk_100_ (show cX1_widestWay.data.toList[34]? = some 0x64 from (LBX1_widestWayr_2 2).trans (by decide +kernel))
theorem dX1_widestWay_35 : decode cX1_widestWay 35 = .ok (.iload_n 2, 1) := dk_28_ (show cX1_widestWay.data.toList[35]? = some 0x1c from (LBX1_widestWayr_2 3).trans (by decide +kernel))
theorem dX1_widestWay_36 : decode cX1_widestWay 36 = .ok (.if_icmp .le 19, 3) := dk_164_ (show cX1_widestWay.data.toList[36]? = some 0xa4 from (LBX1_widestWayr_2 4).trans (by decide +kernel)) (show cX1_widestWay.data.toList[37]? = some 0x00 from (LBX1_widestWayr_2 5).trans (by decide +kernel)) (show cX1_widestWay.data.toList[38]? = some 0x13 from (LBX1_widestWayr_2 6).trans (by decide +kernel)) (by decide)
theorem dX1_widestWay_39 : decode cX1_widestWay 39 = .ok (.iload_n 3, 1) := dk_29_ (show cX1_widestWay.data.toList[39]? = some 0x1d from (LBX1_widestWayr_2 7).trans (by decide +kernel))
theorem dX1_widestWay_40 : decode cX1_widestWay 40 = .ok (.istore_n 1, 1) := dk_60_ (show cX1_widestWay.data.toList[40]? = some 0x3c from (LBX1_widestWayr_2 8).trans (by decide +kernel))
theorem dX1_widestWay_41 : decode cX1_widestWay 41 = .ok (.aload_n 0, 1) := dk_42_ (show cX1_widestWay.data.toList[41]? = some 0x2a from (LBX1_widestWayr_2 9).trans (by decide +kernel))
theorem dX1_widestWay_42 : decode cX1_widestWay 42 = .ok (.getfield 22, 3) := dk_180_ (show cX1_widestWay.data.toList[42]? = some 0xb4 from (LBX1_widestWayr_2 10).trans (by decide +kernel)) (show cX1_widestWay.data.toList[43]? = some 0x00 from (LBX1_widestWayr_2 11).trans (by decide +kernel)) (show cX1_widestWay.data.toList[44]? = some 0x16 from (LBX1_widestWayr_2 12).trans (by decide +kernel)) (by decide)
theorem dX1_widestWay_45 : decode cX1_widestWay 45 = .ok (.iload_n 3, 1) := dk_29_ (show cX1_widestWay.data.toList[45]? = some 0x1d from (LBX1_widestWayr_2 13).trans (by decide +kernel))
theorem dX1_widestWay_46 : decode cX1_widestWay 46 = .ok (.iaload, 1) := dk_46_ (show cX1_widestWay.data.toList[46]? = some 0x2e from (LBX1_widestWayr_2 14).trans (by decide +kernel))
theorem dX1_widestWay_47 : decode cX1_widestWay 47 = .ok (.aload_n 0, 1) := dk_42_ (show cX1_widestWay.data.toList[47]? = some 0x2a from (LBX1_widestWayr_2 15).trans (by decide +kernel))
theorem dX1_widestWay_48 : decode cX1_widestWay 48 = .ok (.getfield 19, 3) := dk_180_ (show cX1_widestWay.data.toList[48]? = some 0xb4 from (LBX1_widestWayr_3 0).trans (by decide +kernel)) (show cX1_widestWay.data.toList[49]? = some 0x00 from (LBX1_widestWayr_3 1).trans (by decide +kernel)) (show cX1_widestWay.data.toList[50]? = some 0x13 from (LBX1_widestWayr_3 2).trans (by decide +kernel)) (by decide)
theorem dX1_widestWay_51 : decode cX1_widestWay 51 = .ok (.iload_n 3, 1) := dk_29_ (show cX1_widestWay.data.toList[51]? = some 0x1d from (LBX1_widestWayr_3 3).trans (by decide +kernel))
theorem dX1_widestWay_52 : decode cX1_widestWay 52 = .ok (.iaload, 1) := dk_46_ (show cX1_widestWay.data.toList[52]? = some 0x2e from (LBX1_widestWayr_3 4).trans (by decide +kernel))
theorem dX1_widestWay_53 : decode cX1_widestWay 53 = .ok (.isub, 1) := dk_100_ (show cX1_widestWay.data.toList[53]? = some 0x64 from (LBX1_widestWayr_3 5).trans (by decide +kernel))
theorem dX1_widestWay_54 : decode cX1_widestWay 54 = .ok (.istore_n 2, 1) := dk_61_ (show cX1_widestWay.data.toList[54]? = some 0x3d from (LBX1_widestWayr_3 6).trans (by decide +kernel))
theorem dX1_widestWay_55 : decode cX1_widestWay 55 = .ok (.iinc 3 1, 3) := dk_132_ (show cX1_widestWay.data.toList[55]? = some 0x84 from (LBX1_widestWayr_3 7).trans (by decide +kernel)) (show cX1_widestWay.data.toList[56]? = some 0x03 from (LBX1_widestWayr_3 8).trans (by decide +kernel)) (show cX1_widestWay.data.toList[57]? = some 0x01 from (LBX1_widestWayr_3 9).trans (by decide +kernel)) (by decide) (by decide)
theorem dX1_widestWay_58 : decode cX1_widestWay 58 = .ok (.goto (-52), 3) := dk_167_ (show cX1_widestWay.data.toList[58]? = some 0xa7 from (LBX1_widestWayr_3 10).trans (by decide +kernel)) (show cX1_widestWay.data.toList[59]? = some 0xff from (LBX1_widestWayr_3 11).trans (by decide +kernel)) (show cX1_widestWay.data.toList[60]? = some 0xcc from (LBX1_widestWayr_3 12).trans (by decide +kernel)) (by decide)
theorem dX1_widestWay_61 : decode cX1_widestWay 61 = .ok (.iload_n 1, 1) := dk_27_ (show cX1_widestWay.data.toList[61]? = some 0x1b from (LBX1_widestWayr_3 13).trans (by decide +kernel))
theorem dX1_widestWay_62 : decode cX1_widestWay 62 = .ok (.ireturn, 1) := dk_172_ (show cX1_widestWay.data.toList[62]? = some 0xac from (LBX1_widestWayr_3 14).trans (by decide +kernel))
def LRX1_allErrands_2 : List UInt8 := []
def LBX1_allErrands_1 : List UInt8 := [0x0f, 0x1c, 0x2e, 0x60, 0x3c, 0x84, 0x02, 0x01, 0xa7, 0xff, 0xec, 0x1b, 0xac]
def LRX1_allErrands_1 : List UInt8 := LBX1_allErrands_1 ++ LRX1_allErrands_2
def LBX1_allErrands_0 : List UInt8 := [0x03, 0x3c, 0x03, 0x3d, 0x1c, 0x2a, 0xb4, 0x00, 0x09, 0xa2, 0x00, 0x12, 0x1b, 0x2a, 0xb4, 0x00]
def LRX1_allErrands_0 : List UInt8 := LBX1_allErrands_0 ++ LRX1_allErrands_1
set_option maxRecDepth 100000 in
theorem LBX1_allErrands_eq : cX1_allErrands.data.toList = LRX1_allErrands_0 := by decide +kernel
theorem LBX1_allErrandsr_0 (k : Nat) : cX1_allErrands.data.toList[0 + k]? = LRX1_allErrands_0[k]? := by rw [LBX1_allErrands_eq, Nat.zero_add]
theorem LBX1_allErrandsr_1 (k : Nat) : cX1_allErrands.data.toList[16 + k]? = LRX1_allErrands_1[k]? := by
  have h := LBX1_allErrandsr_0 (16 + k)
  rw [show 0 + (16 + k) = 16 + k by omega] at h
  rw [h]
  exact (List.getElem?_append_right (l₁ := LBX1_allErrands_0) (l₂ := LRX1_allErrands_1) (show 16 ≤ 16 + k by omega)).trans (congrArg (fun i => LRX1_allErrands_1[i]?) (show 16 + k - 16 = k by omega))
theorem dX1_allErrands_0 : decode cX1_allErrands 0 = .ok (.iconst 0, 1) := dk_3_ (show cX1_allErrands.data.toList[0]? = some 0x03 from (LBX1_allErrandsr_0 0).trans (by decide +kernel))
theorem dX1_allErrands_1 : decode cX1_allErrands 1 = .ok (.istore_n 1, 1) := dk_60_ (show cX1_allErrands.data.toList[1]? = some 0x3c from (LBX1_allErrandsr_0 1).trans (by decide +kernel))
theorem dX1_allErrands_2 : decode cX1_allErrands 2 = .ok (.iconst 0, 1) := dk_3_ (show cX1_allErrands.data.toList[2]? = some 0x03 from (LBX1_allErrandsr_0 2).trans (by decide +kernel))
theorem dX1_allErrands_3 : decode cX1_allErrands 3 = .ok (.istore_n 2, 1) := dk_61_ (show cX1_allErrands.data.toList[3]? = some 0x3d from (LBX1_allErrandsr_0 3).trans (by decide +kernel))
theorem dX1_allErrands_4 : decode cX1_allErrands 4 = .ok (.iload_n 2, 1) := dk_28_ (show cX1_allErrands.data.toList[4]? = some 0x1c from (LBX1_allErrandsr_0 4).trans (by decide +kernel))
theorem dX1_allErrands_5 : decode cX1_allErrands 5 = .ok (.aload_n 0, 1) := dk_42_ (show cX1_allErrands.data.toList[5]? = some 0x2a from (LBX1_allErrandsr_0 5).trans (by decide +kernel))
theorem dX1_allErrands_6 : decode cX1_allErrands 6 = .ok (.getfield 9, 3) := dk_180_ (show cX1_allErrands.data.toList[6]? = some 0xb4 from (LBX1_allErrandsr_0 6).trans (by decide +kernel)) (show cX1_allErrands.data.toList[7]? = some 0x00 from (LBX1_allErrandsr_0 7).trans (by decide +kernel)) (show cX1_allErrands.data.toList[8]? = some 0x09 from (LBX1_allErrandsr_0 8).trans (by decide +kernel)) (by decide)
theorem dX1_allErrands_9 : decode cX1_allErrands 9 = .ok (.if_icmp .ge 18, 3) := dk_162_ (show cX1_allErrands.data.toList[9]? = some 0xa2 from (LBX1_allErrandsr_0 9).trans (by decide +kernel)) (show cX1_allErrands.data.toList[10]? = some 0x00 from (LBX1_allErrandsr_0 10).trans (by decide +kernel)) (show cX1_allErrands.data.toList[11]? = some 0x12 from (LBX1_allErrandsr_0 11).trans (by decide +kernel)) (by decide)
theorem dX1_allErrands_12 : decode cX1_allErrands 12 = .ok (.iload_n 1, 1) := dk_27_ (show cX1_allErrands.data.toList[12]? = some 0x1b from (LBX1_allErrandsr_0 12).trans (by decide +kernel))
theorem dX1_allErrands_13 : decode cX1_allErrands 13 = .ok (.aload_n 0, 1) := dk_42_ (show cX1_allErrands.data.toList[13]? = some 0x2a from (LBX1_allErrandsr_0 13).trans (by decide +kernel))
theorem dX1_allErrands_14 : decode cX1_allErrands 14 = .ok (.getfield 15, 3) := dk_180_ (show cX1_allErrands.data.toList[14]? = some 0xb4 from (LBX1_allErrandsr_0 14).trans (by decide +kernel)) (show cX1_allErrands.data.toList[15]? = some 0x00 from (LBX1_allErrandsr_0 15).trans (by decide +kernel)) (show cX1_allErrands.data.toList[16]? = some 0x0f from (LBX1_allErrandsr_1 0).trans (by decide +kernel)) (by decide)
theorem dX1_allErrands_17 : decode cX1_allErrands 17 = .ok (.iload_n 2, 1) := dk_28_ (show cX1_allErrands.data.toList[17]? = some 0x1c from (LBX1_allErrandsr_1 1).trans (by decide +kernel))
theorem dX1_allErrands_18 : decode cX1_allErrands 18 = .ok (.iaload, 1) := dk_46_ (show cX1_allErrands.data.toList[18]? = some 0x2e from (LBX1_allErrandsr_1 2).trans (by decide +kernel))
theorem dX1_allErrands_19 : decode cX1_allErrands 19 = .ok (.iadd, 1) := dk_96_ (show cX1_allErrands.data.toList[19]? = some 0x60 from (LBX1_allErrandsr_1 3).trans (by decide +kernel))
theorem dX1_allErrands_20 : decode cX1_allErrands 20 = .ok (.istore_n 1, 1) := dk_60_ (show cX1_allErrands.data.toList[20]? = some 0x3c from (LBX1_allErrandsr_1 4).trans (by decide +kernel))
theorem dX1_allErrands_21 : decode cX1_allErrands 21 = .ok (.iinc 2 1, 3) := dk_132_ (show cX1_allErrands.data.toList[21]? = some 0x84 from (LBX1_allErrandsr_1 5).trans (by decide +kernel)) (show cX1_allErrands.data.toList[22]? = some 0x02 from (LBX1_allErrandsr_1 6).trans (by decide +kernel)) (show cX1_allErrands.data.toList[23]? = some 0x01 from (LBX1_allErrandsr_1 7).trans (by decide +kernel)) (by decide) (by decide)
theorem dX1_allErrands_24 : decode cX1_allErrands 24 = .ok (.goto (-20), 3) := dk_167_ (show cX1_allErrands.data.toList[24]? = some 0xa7 from (LBX1_allErrandsr_1 8).trans (by decide +kernel)) (show cX1_allErrands.data.toList[25]? = some 0xff from (LBX1_allErrandsr_1 9).trans (by decide +kernel)) (show cX1_allErrands.data.toList[26]? = some 0xec from (LBX1_allErrandsr_1 10).trans (by decide +kernel)) (by decide)
theorem dX1_allErrands_27 : decode cX1_allErrands 27 = .ok (.iload_n 1, 1) := dk_27_ (show cX1_allErrands.data.toList[27]? = some 0x1b from (LBX1_allErrandsr_1 11).trans (by decide +kernel))
theorem dX1_allErrands_28 : decode cX1_allErrands 28 = .ok (.ireturn, 1) := dk_172_ (show cX1_allErrands.data.toList[28]? = some 0xac from (LBX1_allErrandsr_1 12).trans (by decide +kernel))
def LRX1_nearestOf_4 : List UInt8 := []
def LBX1_nearestOf_3 : List UInt8 := [0x3e, 0x84, 0x04, 0x01, 0xa7, 0xff, 0xd4, 0x1c, 0xac]
def LRX1_nearestOf_3 : List UInt8 := LBX1_nearestOf_3 ++ LRX1_nearestOf_4
def LBX1_nearestOf_2 : List UInt8 := [0x00, 0x4a, 0x1d, 0xa2, 0x00, 0x0e, 0x15, 0x04, 0x3d, 0x2a, 0x1b, 0x15, 0x04, 0xb6, 0x00, 0x4a]
def LRX1_nearestOf_2 : List UInt8 := LBX1_nearestOf_2 ++ LRX1_nearestOf_3
def LBX1_nearestOf_1 : List UInt8 := [0x29, 0x2a, 0x1b, 0x15, 0x04, 0xb6, 0x00, 0x41, 0x99, 0x00, 0x19, 0x2a, 0x1b, 0x15, 0x04, 0xb6]
def LRX1_nearestOf_1 : List UInt8 := LBX1_nearestOf_1 ++ LRX1_nearestOf_2
def LBX1_nearestOf_0 : List UInt8 := [0x02, 0x3d, 0x12, 0x49, 0x3e, 0x03, 0x36, 0x04, 0x15, 0x04, 0x2a, 0xb4, 0x00, 0x09, 0xa2, 0x00]
def LRX1_nearestOf_0 : List UInt8 := LBX1_nearestOf_0 ++ LRX1_nearestOf_1
set_option maxRecDepth 100000 in
theorem LBX1_nearestOf_eq : cX1_nearestOf.data.toList = LRX1_nearestOf_0 := by decide +kernel
theorem LBX1_nearestOfr_0 (k : Nat) : cX1_nearestOf.data.toList[0 + k]? = LRX1_nearestOf_0[k]? := by rw [LBX1_nearestOf_eq, Nat.zero_add]
theorem LBX1_nearestOfr_1 (k : Nat) : cX1_nearestOf.data.toList[16 + k]? = LRX1_nearestOf_1[k]? := by
  have h := LBX1_nearestOfr_0 (16 + k)
  rw [show 0 + (16 + k) = 16 + k by omega] at h
  rw [h]
  exact (List.getElem?_append_right (l₁ := LBX1_nearestOf_0) (l₂ := LRX1_nearestOf_1) (show 16 ≤ 16 + k by omega)).trans (congrArg (fun i => LRX1_nearestOf_1[i]?) (show 16 + k - 16 = k by omega))
theorem LBX1_nearestOfr_2 (k : Nat) : cX1_nearestOf.data.toList[32 + k]? = LRX1_nearestOf_2[k]? := by
  have h := LBX1_nearestOfr_1 (16 + k)
  rw [show 16 + (16 + k) = 32 + k by omega] at h
  rw [h]
  exact (List.getElem?_append_right (l₁ := LBX1_nearestOf_1) (l₂ := LRX1_nearestOf_2) (show 16 ≤ 16 + k by omega)).trans (congrArg (fun i => LRX1_nearestOf_2[i]?) (show 16 + k - 16 = k by omega))
theorem LBX1_nearestOfr_3 (k : Nat) : cX1_nearestOf.data.toList[48 + k]? = LRX1_nearestOf_3[k]? := by
  have h := LBX1_nearestOfr_2 (16 + k)
  rw [show 32 + (16 + k) = 48 + k by omega] at h
  rw [h]
  exact (List.getElem?_append_right (l₁ := LBX1_nearestOf_2) (l₂ := LRX1_nearestOf_3) (show 16 ≤ 16 + k by omega)).trans (congrArg (fun i => LRX1_nearestOf_3[i]?) (show 16 + k - 16 = k by omega))
theorem dX1_nearestOf_0 : decode cX1_nearestOf 0 = .ok (.iconst (-1), 1) := dk_2_ (show cX1_nearestOf.data.toList[0]? = some 0x02 from (LBX1_nearestOfr_0 0).trans (by decide +kernel))
theorem dX1_nearestOf_1 : decode cX1_nearestOf 1 = .ok (.istore_n 2, 1) := dk_61_ (show cX1_nearestOf.data.toList[1]? = some 0x3d from (LBX1_nearestOfr_0 1).trans (by decide +kernel))
theorem dX1_nearestOf_2 : decode cX1_nearestOf 2 = .ok (.ldc 73, 2) := dk_18_ (show cX1_nearestOf.data.toList[2]? = some 0x12 from (LBX1_nearestOfr_0 2).trans (by decide +kernel)) (show cX1_nearestOf.data.toList[3]? = some 0x49 from (LBX1_nearestOfr_0 3).trans (by decide +kernel)) (by decide)
theorem dX1_nearestOf_4 : decode cX1_nearestOf 4 = .ok (.istore_n 3, 1) := dk_62_ (show cX1_nearestOf.data.toList[4]? = some 0x3e from (LBX1_nearestOfr_0 4).trans (by decide +kernel))
theorem dX1_nearestOf_5 : decode cX1_nearestOf 5 = .ok (.iconst 0, 1) := dk_3_ (show cX1_nearestOf.data.toList[5]? = some 0x03 from (LBX1_nearestOfr_0 5).trans (by decide +kernel))
theorem dX1_nearestOf_6 : decode cX1_nearestOf 6 = .ok (.istore 4, 2) := dk_54_ (show cX1_nearestOf.data.toList[6]? = some 0x36 from (LBX1_nearestOfr_0 6).trans (by decide +kernel)) (show cX1_nearestOf.data.toList[7]? = some 0x04 from (LBX1_nearestOfr_0 7).trans (by decide +kernel)) (by decide)
theorem dX1_nearestOf_8 : decode cX1_nearestOf 8 = .ok (.iload 4, 2) := dk_21_ (show cX1_nearestOf.data.toList[8]? = some 0x15 from (LBX1_nearestOfr_0 8).trans (by decide +kernel)) (show cX1_nearestOf.data.toList[9]? = some 0x04 from (LBX1_nearestOfr_0 9).trans (by decide +kernel)) (by decide)
theorem dX1_nearestOf_10 : decode cX1_nearestOf 10 = .ok (.aload_n 0, 1) := dk_42_ (show cX1_nearestOf.data.toList[10]? = some 0x2a from (LBX1_nearestOfr_0 10).trans (by decide +kernel))
theorem dX1_nearestOf_11 : decode cX1_nearestOf 11 = .ok (.getfield 9, 3) := dk_180_ (show cX1_nearestOf.data.toList[11]? = some 0xb4 from (LBX1_nearestOfr_0 11).trans (by decide +kernel)) (show cX1_nearestOf.data.toList[12]? = some 0x00 from (LBX1_nearestOfr_0 12).trans (by decide +kernel)) (show cX1_nearestOf.data.toList[13]? = some 0x09 from (LBX1_nearestOfr_0 13).trans (by decide +kernel)) (by decide)
theorem dX1_nearestOf_14 : decode cX1_nearestOf 14 = .ok (.if_icmp .ge 41, 3) := dk_162_ (show cX1_nearestOf.data.toList[14]? = some 0xa2 from (LBX1_nearestOfr_0 14).trans (by decide +kernel)) (show cX1_nearestOf.data.toList[15]? = some 0x00 from (LBX1_nearestOfr_0 15).trans (by decide +kernel)) (show cX1_nearestOf.data.toList[16]? = some 0x29 from (LBX1_nearestOfr_1 0).trans (by decide +kernel)) (by decide)
theorem dX1_nearestOf_17 : decode cX1_nearestOf 17 = .ok (.aload_n 0, 1) := dk_42_ (show cX1_nearestOf.data.toList[17]? = some 0x2a from (LBX1_nearestOfr_1 1).trans (by decide +kernel))
theorem dX1_nearestOf_18 : decode cX1_nearestOf 18 = .ok (.iload_n 1, 1) := dk_27_ (show cX1_nearestOf.data.toList[18]? = some 0x1b from (LBX1_nearestOfr_1 2).trans (by decide +kernel))
theorem dX1_nearestOf_19 : decode cX1_nearestOf 19 = .ok (.iload 4, 2) := dk_21_ (show cX1_nearestOf.data.toList[19]? = some 0x15 from (LBX1_nearestOfr_1 3).trans (by decide +kernel)) (show cX1_nearestOf.data.toList[20]? = some 0x04 from (LBX1_nearestOfr_1 4).trans (by decide +kernel)) (by decide)
theorem dX1_nearestOf_21 : decode cX1_nearestOf 21 = .ok (.invokevirtual 65, 3) := dk_182_ (show cX1_nearestOf.data.toList[21]? = some 0xb6 from (LBX1_nearestOfr_1 5).trans (by decide +kernel)) (show cX1_nearestOf.data.toList[22]? = some 0x00 from (LBX1_nearestOfr_1 6).trans (by decide +kernel)) (show cX1_nearestOf.data.toList[23]? = some 0x41 from (LBX1_nearestOfr_1 7).trans (by decide +kernel)) (by decide)
theorem dX1_nearestOf_24 : decode cX1_nearestOf 24 = .ok (.ifCond .eq 25, 3) := dk_153_ (show cX1_nearestOf.data.toList[24]? = some 0x99 from (LBX1_nearestOfr_1 8).trans (by decide +kernel)) (show cX1_nearestOf.data.toList[25]? = some 0x00 from (LBX1_nearestOfr_1 9).trans (by decide +kernel)) (show cX1_nearestOf.data.toList[26]? = some 0x19 from (LBX1_nearestOfr_1 10).trans (by decide +kernel)) (by decide)
theorem dX1_nearestOf_27 : decode cX1_nearestOf 27 = .ok (.aload_n 0, 1) := dk_42_ (show cX1_nearestOf.data.toList[27]? = some 0x2a from (LBX1_nearestOfr_1 11).trans (by decide +kernel))
theorem dX1_nearestOf_28 : decode cX1_nearestOf 28 = .ok (.iload_n 1, 1) := dk_27_ (show cX1_nearestOf.data.toList[28]? = some 0x1b from (LBX1_nearestOfr_1 12).trans (by decide +kernel))
theorem dX1_nearestOf_29 : decode cX1_nearestOf 29 = .ok (.iload 4, 2) := dk_21_ (show cX1_nearestOf.data.toList[29]? = some 0x15 from (LBX1_nearestOfr_1 13).trans (by decide +kernel)) (show cX1_nearestOf.data.toList[30]? = some 0x04 from (LBX1_nearestOfr_1 14).trans (by decide +kernel)) (by decide)
theorem dX1_nearestOf_31 : decode cX1_nearestOf 31 = .ok (.invokevirtual 74, 3) := dk_182_ (show cX1_nearestOf.data.toList[31]? = some 0xb6 from (LBX1_nearestOfr_1 15).trans (by decide +kernel)) (show cX1_nearestOf.data.toList[32]? = some 0x00 from (LBX1_nearestOfr_2 0).trans (by decide +kernel)) (show cX1_nearestOf.data.toList[33]? = some 0x4a from (LBX1_nearestOfr_2 1).trans (by decide +kernel)) (by decide)
theorem dX1_nearestOf_34 : decode cX1_nearestOf 34 = .ok (.iload_n 3, 1) := dk_29_ (show cX1_nearestOf.data.toList[34]? = some 0x1d from (LBX1_nearestOfr_2 2).trans (by decide +kernel))
theorem dX1_nearestOf_35 : decode cX1_nearestOf 35 = .ok (.if_icmp .ge 14, 3) := dk_162_ (show cX1_nearestOf.data.toList[35]? = some 0xa2 from (LBX1_nearestOfr_2 3).trans (by decide +kernel)) (show cX1_nearestOf.data.toList[36]? = some 0x00 from (LBX1_nearestOfr_2 4).trans (by decide +kernel)) (show cX1_nearestOf.data.toList[37]? = some 0x0e from (LBX1_nearestOfr_2 5).trans (by decide +kernel)) (by decide)
theorem dX1_nearestOf_38 : decode cX1_nearestOf 38 = .ok (.iload 4, 2) := dk_21_ (show cX1_nearestOf.data.toList[38]? = some 0x15 from (LBX1_nearestOfr_2 6).trans (by decide +kernel)) (show cX1_nearestOf.data.toList[39]? = some 0x04 from (LBX1_nearestOfr_2 7).trans (by decide +kernel)) (by decide)
theorem dX1_nearestOf_40 : decode cX1_nearestOf 40 = .ok (.istore_n 2, 1) := dk_61_ (show cX1_nearestOf.data.toList[40]? = some 0x3d from (LBX1_nearestOfr_2 8).trans (by decide +kernel))
theorem dX1_nearestOf_41 : decode cX1_nearestOf 41 = .ok (.aload_n 0, 1) := dk_42_ (show cX1_nearestOf.data.toList[41]? = some 0x2a from (LBX1_nearestOfr_2 9).trans (by decide +kernel))
theorem dX1_nearestOf_42 : decode cX1_nearestOf 42 = .ok (.iload_n 1, 1) := dk_27_ (show cX1_nearestOf.data.toList[42]? = some 0x1b from (LBX1_nearestOfr_2 10).trans (by decide +kernel))
theorem dX1_nearestOf_43 : decode cX1_nearestOf 43 = .ok (.iload 4, 2) := dk_21_ (show cX1_nearestOf.data.toList[43]? = some 0x15 from (LBX1_nearestOfr_2 11).trans (by decide +kernel)) (show cX1_nearestOf.data.toList[44]? = some 0x04 from (LBX1_nearestOfr_2 12).trans (by decide +kernel)) (by decide)
theorem dX1_nearestOf_45 : decode cX1_nearestOf 45 = .ok (.invokevirtual 74, 3) := dk_182_ (show cX1_nearestOf.data.toList[45]? = some 0xb6 from (LBX1_nearestOfr_2 13).trans (by decide +kernel)) (show cX1_nearestOf.data.toList[46]? = some 0x00 from (LBX1_nearestOfr_2 14).trans (by decide +kernel)) (show cX1_nearestOf.data.toList[47]? = some 0x4a from (LBX1_nearestOfr_2 15).trans (by decide +kernel)) (by decide)
theorem dX1_nearestOf_48 : decode cX1_nearestOf 48 = .ok (.istore_n 3, 1) := dk_62_ (show cX1_nearestOf.data.toList[48]? = some 0x3e from (LBX1_nearestOfr_3 0).trans (by decide +kernel))
theorem dX1_nearestOf_49 : decode cX1_nearestOf 49 = .ok (.iinc 4 1, 3) := dk_132_ (show cX1_nearestOf.data.toList[49]? = some 0x84 from (LBX1_nearestOfr_3 1).trans (by decide +kernel)) (show cX1_nearestOf.data.toList[50]? = some 0x04 from (LBX1_nearestOfr_3 2).trans (by decide +kernel)) (show cX1_nearestOf.data.toList[51]? = some 0x01 from (LBX1_nearestOfr_3 3).trans (by decide +kernel)) (by decide) (by decide)
theorem dX1_nearestOf_52 : decode cX1_nearestOf 52 = .ok (.goto (-44), 3) := dk_167_ (show cX1_nearestOf.data.toList[52]? = some 0xa7 from (LBX1_nearestOfr_3 4).trans (by decide +kernel)) (show cX1_nearestOf.data.toList[53]? = some 0xff from (LBX1_nearestOfr_3 5).trans (by decide +kernel)) (show cX1_nearestOf.data.toList[54]? = some 0xd4 from (LBX1_nearestOfr_3 6).trans (by decide +kernel)) (by decide)
theorem dX1_nearestOf_55 : decode cX1_nearestOf 55 = .ok (.iload_n 2, 1) := dk_28_ (show cX1_nearestOf.data.toList[55]? = some 0x1c from (LBX1_nearestOfr_3 7).trans (by decide +kernel))
theorem dX1_nearestOf_56 : decode cX1_nearestOf 56 = .ok (.ireturn, 1) := dk_172_ (show cX1_nearestOf.data.toList[56]? = some 0xac from (LBX1_nearestOfr_3 8).trans (by decide +kernel))
def LRX1_comesTo_2 : List UInt8 := []
def LBX1_comesTo_1 : List UInt8 := [0x1d, 0xb6, 0x00, 0x4d, 0x3e, 0x84, 0x04, 0x01, 0xa7, 0xff, 0xed, 0x1d, 0xac]
def LRX1_comesTo_1 : List UInt8 := LBX1_comesTo_1 ++ LRX1_comesTo_2
def LBX1_comesTo_0 : List UInt8 := [0x1b, 0x3e, 0x03, 0x36, 0x04, 0x15, 0x04, 0x1c, 0xa2, 0x00, 0x13, 0x1d, 0x9b, 0x00, 0x0f, 0x2a]
def LRX1_comesTo_0 : List UInt8 := LBX1_comesTo_0 ++ LRX1_comesTo_1
set_option maxRecDepth 100000 in
theorem LBX1_comesTo_eq : cX1_comesTo.data.toList = LRX1_comesTo_0 := by decide +kernel
theorem LBX1_comesTor_0 (k : Nat) : cX1_comesTo.data.toList[0 + k]? = LRX1_comesTo_0[k]? := by rw [LBX1_comesTo_eq, Nat.zero_add]
theorem LBX1_comesTor_1 (k : Nat) : cX1_comesTo.data.toList[16 + k]? = LRX1_comesTo_1[k]? := by
  have h := LBX1_comesTor_0 (16 + k)
  rw [show 0 + (16 + k) = 16 + k by omega] at h
  rw [h]
  exact (List.getElem?_append_right (l₁ := LBX1_comesTo_0) (l₂ := LRX1_comesTo_1) (show 16 ≤ 16 + k by omega)).trans (congrArg (fun i => LRX1_comesTo_1[i]?) (show 16 + k - 16 = k by omega))
theorem dX1_comesTo_0 : decode cX1_comesTo 0 = .ok (.iload_n 1, 1) := dk_27_ (show cX1_comesTo.data.toList[0]? = some 0x1b from (LBX1_comesTor_0 0).trans (by decide +kernel))
theorem dX1_comesTo_1 : decode cX1_comesTo 1 = .ok (.istore_n 3, 1) := dk_62_ (show cX1_comesTo.data.toList[1]? = some 0x3e from (LBX1_comesTor_0 1).trans (by decide +kernel))
theorem dX1_comesTo_2 : decode cX1_comesTo 2 = .ok (.iconst 0, 1) := dk_3_ (show cX1_comesTo.data.toList[2]? = some 0x03 from (LBX1_comesTor_0 2).trans (by decide +kernel))
theorem dX1_comesTo_3 : decode cX1_comesTo 3 = .ok (.istore 4, 2) := dk_54_ (show cX1_comesTo.data.toList[3]? = some 0x36 from (LBX1_comesTor_0 3).trans (by decide +kernel)) (show cX1_comesTo.data.toList[4]? = some 0x04 from (LBX1_comesTor_0 4).trans (by decide +kernel)) (by decide)
theorem dX1_comesTo_5 : decode cX1_comesTo 5 = .ok (.iload 4, 2) := dk_21_ (show cX1_comesTo.data.toList[5]? = some 0x15 from (LBX1_comesTor_0 5).trans (by decide +kernel)) (show cX1_comesTo.data.toList[6]? = some 0x04 from (LBX1_comesTor_0 6).trans (by decide +kernel)) (by decide)
theorem dX1_comesTo_7 : decode cX1_comesTo 7 = .ok (.iload_n 2, 1) := dk_28_ (show cX1_comesTo.data.toList[7]? = some 0x1c from (LBX1_comesTor_0 7).trans (by decide +kernel))
theorem dX1_comesTo_8 : decode cX1_comesTo 8 = .ok (.if_icmp .ge 19, 3) := dk_162_ (show cX1_comesTo.data.toList[8]? = some 0xa2 from (LBX1_comesTor_0 8).trans (by decide +kernel)) (show cX1_comesTo.data.toList[9]? = some 0x00 from (LBX1_comesTor_0 9).trans (by decide +kernel)) (show cX1_comesTo.data.toList[10]? = some 0x13 from (LBX1_comesTor_0 10).trans (by decide +kernel)) (by decide)
theorem dX1_comesTo_11 : decode cX1_comesTo 11 = .ok (.iload_n 3, 1) := dk_29_ (show cX1_comesTo.data.toList[11]? = some 0x1d from (LBX1_comesTor_0 11).trans (by decide +kernel))
theorem dX1_comesTo_12 : decode cX1_comesTo 12 = .ok (.ifCond .lt 15, 3) := dk_155_ (show cX1_comesTo.data.toList[12]? = some 0x9b from (LBX1_comesTor_0 12).trans (by decide +kernel)) (show cX1_comesTo.data.toList[13]? = some 0x00 from (LBX1_comesTor_0 13).trans (by decide +kernel)) (show cX1_comesTo.data.toList[14]? = some 0x0f from (LBX1_comesTor_0 14).trans (by decide +kernel)) (by decide)
theorem dX1_comesTo_15 : decode cX1_comesTo 15 = .ok (.aload_n 0, 1) := dk_42_ (show cX1_comesTo.data.toList[15]? = some 0x2a from (LBX1_comesTor_0 15).trans (by decide +kernel))
theorem dX1_comesTo_16 : decode cX1_comesTo 16 = .ok (.iload_n 3, 1) := dk_29_ (show cX1_comesTo.data.toList[16]? = some 0x1d from (LBX1_comesTor_1 0).trans (by decide +kernel))
theorem dX1_comesTo_17 : decode cX1_comesTo 17 = .ok (.invokevirtual 77, 3) := dk_182_ (show cX1_comesTo.data.toList[17]? = some 0xb6 from (LBX1_comesTor_1 1).trans (by decide +kernel)) (show cX1_comesTo.data.toList[18]? = some 0x00 from (LBX1_comesTor_1 2).trans (by decide +kernel)) (show cX1_comesTo.data.toList[19]? = some 0x4d from (LBX1_comesTor_1 3).trans (by decide +kernel)) (by decide)
theorem dX1_comesTo_20 : decode cX1_comesTo 20 = .ok (.istore_n 3, 1) := dk_62_ (show cX1_comesTo.data.toList[20]? = some 0x3e from (LBX1_comesTor_1 4).trans (by decide +kernel))
theorem dX1_comesTo_21 : decode cX1_comesTo 21 = .ok (.iinc 4 1, 3) := dk_132_ (show cX1_comesTo.data.toList[21]? = some 0x84 from (LBX1_comesTor_1 5).trans (by decide +kernel)) (show cX1_comesTo.data.toList[22]? = some 0x04 from (LBX1_comesTor_1 6).trans (by decide +kernel)) (show cX1_comesTo.data.toList[23]? = some 0x01 from (LBX1_comesTor_1 7).trans (by decide +kernel)) (by decide) (by decide)
theorem dX1_comesTo_24 : decode cX1_comesTo 24 = .ok (.goto (-19), 3) := dk_167_ (show cX1_comesTo.data.toList[24]? = some 0xa7 from (LBX1_comesTor_1 8).trans (by decide +kernel)) (show cX1_comesTo.data.toList[25]? = some 0xff from (LBX1_comesTor_1 9).trans (by decide +kernel)) (show cX1_comesTo.data.toList[26]? = some 0xed from (LBX1_comesTor_1 10).trans (by decide +kernel)) (by decide)
theorem dX1_comesTo_27 : decode cX1_comesTo 27 = .ok (.iload_n 3, 1) := dk_29_ (show cX1_comesTo.data.toList[27]? = some 0x1d from (LBX1_comesTor_1 11).trans (by decide +kernel))
theorem dX1_comesTo_28 : decode cX1_comesTo 28 = .ok (.ireturn, 1) := dk_172_ (show cX1_comesTo.data.toList[28]? = some 0xac from (LBX1_comesTor_1 12).trans (by decide +kernel))
def LRX1_hollowSet_4 : List UInt8 := []
def LBX1_hollowSet_3 : List UInt8 := [0x4d, 0x3e, 0x84, 0x04, 0x01, 0xa7, 0xff, 0xe4, 0x84, 0x02, 0x01, 0xa7, 0xff, 0xc9, 0x1b, 0xac]
def LRX1_hollowSet_3 : List UInt8 := LBX1_hollowSet_3 ++ LRX1_hollowSet_4
def LBX1_hollowSet_2 : List UInt8 := [0x00, 0x19, 0x1d, 0x9b, 0x00, 0x15, 0x1b, 0x04, 0x1d, 0x78, 0x80, 0x3c, 0x2a, 0x1d, 0xb6, 0x00]
def LRX1_hollowSet_2 : List UInt8 := LBX1_hollowSet_2 ++ LRX1_hollowSet_3
def LBX1_hollowSet_1 : List UInt8 := [0x00, 0x09, 0xb6, 0x00, 0x50, 0x3e, 0x03, 0x36, 0x04, 0x15, 0x04, 0x2a, 0xb4, 0x00, 0x09, 0xa2]
def LRX1_hollowSet_1 : List UInt8 := LBX1_hollowSet_1 ++ LRX1_hollowSet_2
def LBX1_hollowSet_0 : List UInt8 := [0x03, 0x3c, 0x03, 0x3d, 0x1c, 0x2a, 0xb4, 0x00, 0x09, 0xa2, 0x00, 0x35, 0x2a, 0x1c, 0x2a, 0xb4]
def LRX1_hollowSet_0 : List UInt8 := LBX1_hollowSet_0 ++ LRX1_hollowSet_1
set_option maxRecDepth 100000 in
theorem LBX1_hollowSet_eq : cX1_hollowSet.data.toList = LRX1_hollowSet_0 := by decide +kernel
theorem LBX1_hollowSetr_0 (k : Nat) : cX1_hollowSet.data.toList[0 + k]? = LRX1_hollowSet_0[k]? := by rw [LBX1_hollowSet_eq, Nat.zero_add]
theorem LBX1_hollowSetr_1 (k : Nat) : cX1_hollowSet.data.toList[16 + k]? = LRX1_hollowSet_1[k]? := by
  have h := LBX1_hollowSetr_0 (16 + k)
  rw [show 0 + (16 + k) = 16 + k by omega] at h
  rw [h]
  exact (List.getElem?_append_right (l₁ := LBX1_hollowSet_0) (l₂ := LRX1_hollowSet_1) (show 16 ≤ 16 + k by omega)).trans (congrArg (fun i => LRX1_hollowSet_1[i]?) (show 16 + k - 16 = k by omega))
theorem LBX1_hollowSetr_2 (k : Nat) : cX1_hollowSet.data.toList[32 + k]? = LRX1_hollowSet_2[k]? := by
  have h := LBX1_hollowSetr_1 (16 + k)
  rw [show 16 + (16 + k) = 32 + k by omega] at h
  rw [h]
  exact (List.getElem?_append_right (l₁ := LBX1_hollowSet_1) (l₂ := LRX1_hollowSet_2) (show 16 ≤ 16 + k by omega)).trans (congrArg (fun i => LRX1_hollowSet_2[i]?) (show 16 + k - 16 = k by omega))
theorem LBX1_hollowSetr_3 (k : Nat) : cX1_hollowSet.data.toList[48 + k]? = LRX1_hollowSet_3[k]? := by
  have h := LBX1_hollowSetr_2 (16 + k)
  rw [show 32 + (16 + k) = 48 + k by omega] at h
  rw [h]
  exact (List.getElem?_append_right (l₁ := LBX1_hollowSet_2) (l₂ := LRX1_hollowSet_3) (show 16 ≤ 16 + k by omega)).trans (congrArg (fun i => LRX1_hollowSet_3[i]?) (show 16 + k - 16 = k by omega))
theorem dX1_hollowSet_0 : decode cX1_hollowSet 0 = .ok (.iconst 0, 1) := dk_3_ (show cX1_hollowSet.data.toList[0]? = some 0x03 from (LBX1_hollowSetr_0 0).trans (by decide +kernel))
theorem dX1_hollowSet_1 : decode cX1_hollowSet 1 = .ok (.istore_n 1, 1) := dk_60_ (show cX1_hollowSet.data.toList[1]? = some 0x3c from (LBX1_hollowSetr_0 1).trans (by decide +kernel))
theorem dX1_hollowSet_2 : decode cX1_hollowSet 2 = .ok (.iconst 0, 1) := dk_3_ (show cX1_hollowSet.data.toList[2]? = some 0x03 from (LBX1_hollowSetr_0 2).trans (by decide +kernel))
theorem dX1_hollowSet_3 : decode cX1_hollowSet 3 = .ok (.istore_n 2, 1) := dk_61_ (show cX1_hollowSet.data.toList[3]? = some 0x3d from (LBX1_hollowSetr_0 3).trans (by decide +kernel))
theorem dX1_hollowSet_4 : decode cX1_hollowSet 4 = .ok (.iload_n 2, 1) := dk_28_ (show cX1_hollowSet.data.toList[4]? = some 0x1c from (LBX1_hollowSetr_0 4).trans (by decide +kernel))
theorem dX1_hollowSet_5 : decode cX1_hollowSet 5 = .ok (.aload_n 0, 1) := dk_42_ (show cX1_hollowSet.data.toList[5]? = some 0x2a from (LBX1_hollowSetr_0 5).trans (by decide +kernel))
theorem dX1_hollowSet_6 : decode cX1_hollowSet 6 = .ok (.getfield 9, 3) := dk_180_ (show cX1_hollowSet.data.toList[6]? = some 0xb4 from (LBX1_hollowSetr_0 6).trans (by decide +kernel)) (show cX1_hollowSet.data.toList[7]? = some 0x00 from (LBX1_hollowSetr_0 7).trans (by decide +kernel)) (show cX1_hollowSet.data.toList[8]? = some 0x09 from (LBX1_hollowSetr_0 8).trans (by decide +kernel)) (by decide)
theorem dX1_hollowSet_9 : decode cX1_hollowSet 9 = .ok (.if_icmp .ge 53, 3) := dk_162_ (show cX1_hollowSet.data.toList[9]? = some 0xa2 from (LBX1_hollowSetr_0 9).trans (by decide +kernel)) (show cX1_hollowSet.data.toList[10]? = some 0x00 from (LBX1_hollowSetr_0 10).trans (by decide +kernel)) (show cX1_hollowSet.data.toList[11]? = some 0x35 from (LBX1_hollowSetr_0 11).trans (by decide +kernel)) (by decide)
theorem dX1_hollowSet_12 : decode cX1_hollowSet 12 = .ok (.aload_n 0, 1) := dk_42_ (show cX1_hollowSet.data.toList[12]? = some 0x2a from (LBX1_hollowSetr_0 12).trans (by decide +kernel))
theorem dX1_hollowSet_13 : decode cX1_hollowSet 13 = .ok (.iload_n 2, 1) := dk_28_ (show cX1_hollowSet.data.toList[13]? = some 0x1c from (LBX1_hollowSetr_0 13).trans (by decide +kernel))
theorem dX1_hollowSet_14 : decode cX1_hollowSet 14 = .ok (.aload_n 0, 1) := dk_42_ (show cX1_hollowSet.data.toList[14]? = some 0x2a from (LBX1_hollowSetr_0 14).trans (by decide +kernel))
theorem dX1_hollowSet_15 : decode cX1_hollowSet 15 = .ok (.getfield 9, 3) := dk_180_ (show cX1_hollowSet.data.toList[15]? = some 0xb4 from (LBX1_hollowSetr_0 15).trans (by decide +kernel)) (show cX1_hollowSet.data.toList[16]? = some 0x00 from (LBX1_hollowSetr_1 0).trans (by decide +kernel)) (show cX1_hollowSet.data.toList[17]? = some 0x09 from (LBX1_hollowSetr_1 1).trans (by decide +kernel)) (by decide)
theorem dX1_hollowSet_18 : decode cX1_hollowSet 18 = .ok (.invokevirtual 80, 3) := dk_182_ (show cX1_hollowSet.data.toList[18]? = some 0xb6 from (LBX1_hollowSetr_1 2).trans (by decide +kernel)) (show cX1_hollowSet.data.toList[19]? = some 0x00 from (LBX1_hollowSetr_1 3).trans (by decide +kernel)) (show cX1_hollowSet.data.toList[20]? = some 0x50 from (LBX1_hollowSetr_1 4).trans (by decide +kernel)) (by decide)
theorem dX1_hollowSet_21 : decode cX1_hollowSet 21 = .ok (.istore_n 3, 1) := dk_62_ (show cX1_hollowSet.data.toList[21]? = some 0x3e from (LBX1_hollowSetr_1 5).trans (by decide +kernel))
theorem dX1_hollowSet_22 : decode cX1_hollowSet 22 = .ok (.iconst 0, 1) := dk_3_ (show cX1_hollowSet.data.toList[22]? = some 0x03 from (LBX1_hollowSetr_1 6).trans (by decide +kernel))
theorem dX1_hollowSet_23 : decode cX1_hollowSet 23 = .ok (.istore 4, 2) := dk_54_ (show cX1_hollowSet.data.toList[23]? = some 0x36 from (LBX1_hollowSetr_1 7).trans (by decide +kernel)) (show cX1_hollowSet.data.toList[24]? = some 0x04 from (LBX1_hollowSetr_1 8).trans (by decide +kernel)) (by decide)
theorem dX1_hollowSet_25 : decode cX1_hollowSet 25 = .ok (.iload 4, 2) := dk_21_ (show cX1_hollowSet.data.toList[25]? = some 0x15 from (LBX1_hollowSetr_1 9).trans (by decide +kernel)) (show cX1_hollowSet.data.toList[26]? = some 0x04 from (LBX1_hollowSetr_1 10).trans (by decide +kernel)) (by decide)
theorem dX1_hollowSet_27 : decode cX1_hollowSet 27 = .ok (.aload_n 0, 1) := dk_42_ (show cX1_hollowSet.data.toList[27]? = some 0x2a from (LBX1_hollowSetr_1 11).trans (by decide +kernel))
theorem dX1_hollowSet_28 : decode cX1_hollowSet 28 = .ok (.getfield 9, 3) := dk_180_ (show cX1_hollowSet.data.toList[28]? = some 0xb4 from (LBX1_hollowSetr_1 12).trans (by decide +kernel)) (show cX1_hollowSet.data.toList[29]? = some 0x00 from (LBX1_hollowSetr_1 13).trans (by decide +kernel)) (show cX1_hollowSet.data.toList[30]? = some 0x09 from (LBX1_hollowSetr_1 14).trans (by decide +kernel)) (by decide)
theorem dX1_hollowSet_31 : decode cX1_hollowSet 31 = .ok (.if_icmp .ge 25, 3) := dk_162_ (show cX1_hollowSet.data.toList[31]? = some 0xa2 from (LBX1_hollowSetr_1 15).trans (by decide +kernel)) (show cX1_hollowSet.data.toList[32]? = some 0x00 from (LBX1_hollowSetr_2 0).trans (by decide +kernel)) (show cX1_hollowSet.data.toList[33]? = some 0x19 from (LBX1_hollowSetr_2 1).trans (by decide +kernel)) (by decide)
theorem dX1_hollowSet_34 : decode cX1_hollowSet 34 = .ok (.iload_n 3, 1) := dk_29_ (show cX1_hollowSet.data.toList[34]? = some 0x1d from (LBX1_hollowSetr_2 2).trans (by decide +kernel))
theorem dX1_hollowSet_35 : decode cX1_hollowSet 35 = .ok (.ifCond .lt 21, 3) := dk_155_ (show cX1_hollowSet.data.toList[35]? = some 0x9b from (LBX1_hollowSetr_2 3).trans (by decide +kernel)) (show cX1_hollowSet.data.toList[36]? = some 0x00 from (LBX1_hollowSetr_2 4).trans (by decide +kernel)) (show cX1_hollowSet.data.toList[37]? = some 0x15 from (LBX1_hollowSetr_2 5).trans (by decide +kernel)) (by decide)
theorem dX1_hollowSet_38 : decode cX1_hollowSet 38 = .ok (.iload_n 1, 1) := dk_27_ (show cX1_hollowSet.data.toList[38]? = some 0x1b from (LBX1_hollowSetr_2 6).trans (by decide +kernel))
theorem dX1_hollowSet_39 : decode cX1_hollowSet 39 = .ok (.iconst 1, 1) := dk_4_ (show cX1_hollowSet.data.toList[39]? = some 0x04 from (LBX1_hollowSetr_2 7).trans (by decide +kernel))
theorem dX1_hollowSet_40 : decode cX1_hollowSet 40 = .ok (.iload_n 3, 1) := dk_29_ (show cX1_hollowSet.data.toList[40]? = some 0x1d from (LBX1_hollowSetr_2 8).trans (by decide +kernel))
theorem dX1_hollowSet_41 : decode cX1_hollowSet 41 = .ok (.ishl, 1) := dk_120_ (show cX1_hollowSet.data.toList[41]? = some 0x78 from (LBX1_hollowSetr_2 9).trans (by decide +kernel))
theorem dX1_hollowSet_42 : decode cX1_hollowSet 42 = .ok (.ior, 1) := dk_128_ (show cX1_hollowSet.data.toList[42]? = some 0x80 from (LBX1_hollowSetr_2 10).trans (by decide +kernel))
theorem dX1_hollowSet_43 : decode cX1_hollowSet 43 = .ok (.istore_n 1, 1) := dk_60_ (show cX1_hollowSet.data.toList[43]? = some 0x3c from (LBX1_hollowSetr_2 11).trans (by decide +kernel))
theorem dX1_hollowSet_44 : decode cX1_hollowSet 44 = .ok (.aload_n 0, 1) := dk_42_ (show cX1_hollowSet.data.toList[44]? = some 0x2a from (LBX1_hollowSetr_2 12).trans (by decide +kernel))
theorem dX1_hollowSet_45 : decode cX1_hollowSet 45 = .ok (.iload_n 3, 1) := dk_29_ (show cX1_hollowSet.data.toList[45]? = some 0x1d from (LBX1_hollowSetr_2 13).trans (by decide +kernel))
theorem dX1_hollowSet_46 : decode cX1_hollowSet 46 = .ok (.invokevirtual 77, 3) := dk_182_ (show cX1_hollowSet.data.toList[46]? = some 0xb6 from (LBX1_hollowSetr_2 14).trans (by decide +kernel)) (show cX1_hollowSet.data.toList[47]? = some 0x00 from (LBX1_hollowSetr_2 15).trans (by decide +kernel)) (show cX1_hollowSet.data.toList[48]? = some 0x4d from (LBX1_hollowSetr_3 0).trans (by decide +kernel)) (by decide)
theorem dX1_hollowSet_49 : decode cX1_hollowSet 49 = .ok (.istore_n 3, 1) := dk_62_ (show cX1_hollowSet.data.toList[49]? = some 0x3e from (LBX1_hollowSetr_3 1).trans (by decide +kernel))
theorem dX1_hollowSet_50 : decode cX1_hollowSet 50 = .ok (.iinc 4 1, 3) := dk_132_ (show cX1_hollowSet.data.toList[50]? = some 0x84 from (LBX1_hollowSetr_3 2).trans (by decide +kernel)) (show cX1_hollowSet.data.toList[51]? = some 0x04 from (LBX1_hollowSetr_3 3).trans (by decide +kernel)) (show cX1_hollowSet.data.toList[52]? = some 0x01 from (LBX1_hollowSetr_3 4).trans (by decide +kernel)) (by decide) (by decide)
theorem dX1_hollowSet_53 : decode cX1_hollowSet 53 = .ok (.goto (-28), 3) := dk_167_ (show cX1_hollowSet.data.toList[53]? = some 0xa7 from (LBX1_hollowSetr_3 5).trans (by decide +kernel)) (show cX1_hollowSet.data.toList[54]? = some 0xff from (LBX1_hollowSetr_3 6).trans (by decide +kernel)) (show cX1_hollowSet.data.toList[55]? = some 0xe4 from (LBX1_hollowSetr_3 7).trans (by decide +kernel)) (by decide)
theorem dX1_hollowSet_56 : decode cX1_hollowSet 56 = .ok (.iinc 2 1, 3) := dk_132_ (show cX1_hollowSet.data.toList[56]? = some 0x84 from (LBX1_hollowSetr_3 8).trans (by decide +kernel)) (show cX1_hollowSet.data.toList[57]? = some 0x02 from (LBX1_hollowSetr_3 9).trans (by decide +kernel)) (show cX1_hollowSet.data.toList[58]? = some 0x01 from (LBX1_hollowSetr_3 10).trans (by decide +kernel)) (by decide) (by decide)
theorem dX1_hollowSet_59 : decode cX1_hollowSet 59 = .ok (.goto (-55), 3) := dk_167_ (show cX1_hollowSet.data.toList[59]? = some 0xa7 from (LBX1_hollowSetr_3 11).trans (by decide +kernel)) (show cX1_hollowSet.data.toList[60]? = some 0xff from (LBX1_hollowSetr_3 12).trans (by decide +kernel)) (show cX1_hollowSet.data.toList[61]? = some 0xc9 from (LBX1_hollowSetr_3 13).trans (by decide +kernel)) (by decide)
theorem dX1_hollowSet_62 : decode cX1_hollowSet 62 = .ok (.iload_n 1, 1) := dk_27_ (show cX1_hollowSet.data.toList[62]? = some 0x1b from (LBX1_hollowSetr_3 14).trans (by decide +kernel))
theorem dX1_hollowSet_63 : decode cX1_hollowSet 63 = .ok (.ireturn, 1) := dk_172_ (show cX1_hollowSet.data.toList[63]? = some 0xac from (LBX1_hollowSetr_3 15).trans (by decide +kernel))
def LRX1_addRound_2 : List UInt8 := []
def LBX1_addRound_1 : List UInt8 := [0x1d, 0xac]
def LRX1_addRound_1 : List UInt8 := LBX1_addRound_1 ++ LRX1_addRound_2
def LBX1_addRound_0 : List UInt8 := [0x2a, 0xb4, 0x00, 0x1f, 0x1c, 0xb6, 0x00, 0x45, 0x3e, 0x2a, 0xb4, 0x00, 0x23, 0x1d, 0x1b, 0x4f]
def LRX1_addRound_0 : List UInt8 := LBX1_addRound_0 ++ LRX1_addRound_1
set_option maxRecDepth 100000 in
theorem LBX1_addRound_eq : cX1_addRound.data.toList = LRX1_addRound_0 := by decide +kernel
theorem LBX1_addRoundr_0 (k : Nat) : cX1_addRound.data.toList[0 + k]? = LRX1_addRound_0[k]? := by rw [LBX1_addRound_eq, Nat.zero_add]
theorem LBX1_addRoundr_1 (k : Nat) : cX1_addRound.data.toList[16 + k]? = LRX1_addRound_1[k]? := by
  have h := LBX1_addRoundr_0 (16 + k)
  rw [show 0 + (16 + k) = 16 + k by omega] at h
  rw [h]
  exact (List.getElem?_append_right (l₁ := LBX1_addRound_0) (l₂ := LRX1_addRound_1) (show 16 ≤ 16 + k by omega)).trans (congrArg (fun i => LRX1_addRound_1[i]?) (show 16 + k - 16 = k by omega))
theorem dX1_addRound_0 : decode cX1_addRound 0 = .ok (.aload_n 0, 1) := dk_42_ (show cX1_addRound.data.toList[0]? = some 0x2a from (LBX1_addRoundr_0 0).trans (by decide +kernel))
theorem dX1_addRound_1 : decode cX1_addRound 1 = .ok (.getfield 31, 3) := dk_180_ (show cX1_addRound.data.toList[1]? = some 0xb4 from (LBX1_addRoundr_0 1).trans (by decide +kernel)) (show cX1_addRound.data.toList[2]? = some 0x00 from (LBX1_addRoundr_0 2).trans (by decide +kernel)) (show cX1_addRound.data.toList[3]? = some 0x1f from (LBX1_addRoundr_0 3).trans (by decide +kernel)) (by decide)
theorem dX1_addRound_4 : decode cX1_addRound 4 = .ok (.iload_n 2, 1) := dk_28_ (show cX1_addRound.data.toList[4]? = some 0x1c from (LBX1_addRoundr_0 4).trans (by decide +kernel))
theorem dX1_addRound_5 : decode cX1_addRound 5 = .ok (.invokevirtual 69, 3) := dk_182_ (show cX1_addRound.data.toList[5]? = some 0xb6 from (LBX1_addRoundr_0 5).trans (by decide +kernel)) (show cX1_addRound.data.toList[6]? = some 0x00 from (LBX1_addRoundr_0 6).trans (by decide +kernel)) (show cX1_addRound.data.toList[7]? = some 0x45 from (LBX1_addRoundr_0 7).trans (by decide +kernel)) (by decide)
theorem dX1_addRound_8 : decode cX1_addRound 8 = .ok (.istore_n 3, 1) := dk_62_ (show cX1_addRound.data.toList[8]? = some 0x3e from (LBX1_addRoundr_0 8).trans (by decide +kernel))
theorem dX1_addRound_9 : decode cX1_addRound 9 = .ok (.aload_n 0, 1) := dk_42_ (show cX1_addRound.data.toList[9]? = some 0x2a from (LBX1_addRoundr_0 9).trans (by decide +kernel))
theorem dX1_addRound_10 : decode cX1_addRound 10 = .ok (.getfield 35, 3) := dk_180_ (show cX1_addRound.data.toList[10]? = some 0xb4 from (LBX1_addRoundr_0 10).trans (by decide +kernel)) (show cX1_addRound.data.toList[11]? = some 0x00 from (LBX1_addRoundr_0 11).trans (by decide +kernel)) (show cX1_addRound.data.toList[12]? = some 0x23 from (LBX1_addRoundr_0 12).trans (by decide +kernel)) (by decide)
theorem dX1_addRound_13 : decode cX1_addRound 13 = .ok (.iload_n 3, 1) := dk_29_ (show cX1_addRound.data.toList[13]? = some 0x1d from (LBX1_addRoundr_0 13).trans (by decide +kernel))
theorem dX1_addRound_14 : decode cX1_addRound 14 = .ok (.iload_n 1, 1) := dk_27_ (show cX1_addRound.data.toList[14]? = some 0x1b from (LBX1_addRoundr_0 14).trans (by decide +kernel))
theorem dX1_addRound_15 : decode cX1_addRound 15 = .ok (.iastore, 1) := dk_79_ (show cX1_addRound.data.toList[15]? = some 0x4f from (LBX1_addRoundr_0 15).trans (by decide +kernel))
theorem dX1_addRound_16 : decode cX1_addRound 16 = .ok (.iload_n 3, 1) := dk_29_ (show cX1_addRound.data.toList[16]? = some 0x1d from (LBX1_addRoundr_1 0).trans (by decide +kernel))
theorem dX1_addRound_17 : decode cX1_addRound 17 = .ok (.ireturn, 1) := dk_172_ (show cX1_addRound.data.toList[17]? = some 0xac from (LBX1_addRoundr_1 1).trans (by decide +kernel))
def LRX1_addWalk_2 : List UInt8 := []
def LBX1_addWalk_1 : List UInt8 := [0x1c, 0x4f, 0x2a, 0xb4, 0x00, 0x2c, 0x15, 0x04, 0x1d, 0x4f, 0x15, 0x04, 0xac]
def LRX1_addWalk_1 : List UInt8 := LBX1_addWalk_1 ++ LRX1_addWalk_2
def LBX1_addWalk_0 : List UInt8 := [0x2a, 0xb4, 0x00, 0x26, 0x1b, 0xb6, 0x00, 0x45, 0x36, 0x04, 0x2a, 0xb4, 0x00, 0x29, 0x15, 0x04]
def LRX1_addWalk_0 : List UInt8 := LBX1_addWalk_0 ++ LRX1_addWalk_1
set_option maxRecDepth 100000 in
theorem LBX1_addWalk_eq : cX1_addWalk.data.toList = LRX1_addWalk_0 := by decide +kernel
theorem LBX1_addWalkr_0 (k : Nat) : cX1_addWalk.data.toList[0 + k]? = LRX1_addWalk_0[k]? := by rw [LBX1_addWalk_eq, Nat.zero_add]
theorem LBX1_addWalkr_1 (k : Nat) : cX1_addWalk.data.toList[16 + k]? = LRX1_addWalk_1[k]? := by
  have h := LBX1_addWalkr_0 (16 + k)
  rw [show 0 + (16 + k) = 16 + k by omega] at h
  rw [h]
  exact (List.getElem?_append_right (l₁ := LBX1_addWalk_0) (l₂ := LRX1_addWalk_1) (show 16 ≤ 16 + k by omega)).trans (congrArg (fun i => LRX1_addWalk_1[i]?) (show 16 + k - 16 = k by omega))
theorem dX1_addWalk_0 : decode cX1_addWalk 0 = .ok (.aload_n 0, 1) := dk_42_ (show cX1_addWalk.data.toList[0]? = some 0x2a from (LBX1_addWalkr_0 0).trans (by decide +kernel))
theorem dX1_addWalk_1 : decode cX1_addWalk 1 = .ok (.getfield 38, 3) := dk_180_ (show cX1_addWalk.data.toList[1]? = some 0xb4 from (LBX1_addWalkr_0 1).trans (by decide +kernel)) (show cX1_addWalk.data.toList[2]? = some 0x00 from (LBX1_addWalkr_0 2).trans (by decide +kernel)) (show cX1_addWalk.data.toList[3]? = some 0x26 from (LBX1_addWalkr_0 3).trans (by decide +kernel)) (by decide)
theorem dX1_addWalk_4 : decode cX1_addWalk 4 = .ok (.iload_n 1, 1) := dk_27_ (show cX1_addWalk.data.toList[4]? = some 0x1b from (LBX1_addWalkr_0 4).trans (by decide +kernel))
theorem dX1_addWalk_5 : decode cX1_addWalk 5 = .ok (.invokevirtual 69, 3) := dk_182_ (show cX1_addWalk.data.toList[5]? = some 0xb6 from (LBX1_addWalkr_0 5).trans (by decide +kernel)) (show cX1_addWalk.data.toList[6]? = some 0x00 from (LBX1_addWalkr_0 6).trans (by decide +kernel)) (show cX1_addWalk.data.toList[7]? = some 0x45 from (LBX1_addWalkr_0 7).trans (by decide +kernel)) (by decide)
theorem dX1_addWalk_8 : decode cX1_addWalk 8 = .ok (.istore 4, 2) := dk_54_ (show cX1_addWalk.data.toList[8]? = some 0x36 from (LBX1_addWalkr_0 8).trans (by decide +kernel)) (show cX1_addWalk.data.toList[9]? = some 0x04 from (LBX1_addWalkr_0 9).trans (by decide +kernel)) (by decide)
theorem dX1_addWalk_10 : decode cX1_addWalk 10 = .ok (.aload_n 0, 1) := dk_42_ (show cX1_addWalk.data.toList[10]? = some 0x2a from (LBX1_addWalkr_0 10).trans (by decide +kernel))
theorem dX1_addWalk_11 : decode cX1_addWalk 11 = .ok (.getfield 41, 3) := dk_180_ (show cX1_addWalk.data.toList[11]? = some 0xb4 from (LBX1_addWalkr_0 11).trans (by decide +kernel)) (show cX1_addWalk.data.toList[12]? = some 0x00 from (LBX1_addWalkr_0 12).trans (by decide +kernel)) (show cX1_addWalk.data.toList[13]? = some 0x29 from (LBX1_addWalkr_0 13).trans (by decide +kernel)) (by decide)
theorem dX1_addWalk_14 : decode cX1_addWalk 14 = .ok (.iload 4, 2) := dk_21_ (show cX1_addWalk.data.toList[14]? = some 0x15 from (LBX1_addWalkr_0 14).trans (by decide +kernel)) (show cX1_addWalk.data.toList[15]? = some 0x04 from (LBX1_addWalkr_0 15).trans (by decide +kernel)) (by decide)
theorem dX1_addWalk_16 : decode cX1_addWalk 16 = .ok (.iload_n 2, 1) := dk_28_ (show cX1_addWalk.data.toList[16]? = some 0x1c from (LBX1_addWalkr_1 0).trans (by decide +kernel))
theorem dX1_addWalk_17 : decode cX1_addWalk 17 = .ok (.iastore, 1) := dk_79_ (show cX1_addWalk.data.toList[17]? = some 0x4f from (LBX1_addWalkr_1 1).trans (by decide +kernel))
theorem dX1_addWalk_18 : decode cX1_addWalk 18 = .ok (.aload_n 0, 1) := dk_42_ (show cX1_addWalk.data.toList[18]? = some 0x2a from (LBX1_addWalkr_1 2).trans (by decide +kernel))
theorem dX1_addWalk_19 : decode cX1_addWalk 19 = .ok (.getfield 44, 3) := dk_180_ (show cX1_addWalk.data.toList[19]? = some 0xb4 from (LBX1_addWalkr_1 3).trans (by decide +kernel)) (show cX1_addWalk.data.toList[20]? = some 0x00 from (LBX1_addWalkr_1 4).trans (by decide +kernel)) (show cX1_addWalk.data.toList[21]? = some 0x2c from (LBX1_addWalkr_1 5).trans (by decide +kernel)) (by decide)
theorem dX1_addWalk_22 : decode cX1_addWalk 22 = .ok (.iload 4, 2) := dk_21_ (show cX1_addWalk.data.toList[22]? = some 0x15 from (LBX1_addWalkr_1 6).trans (by decide +kernel)) (show cX1_addWalk.data.toList[23]? = some 0x04 from (LBX1_addWalkr_1 7).trans (by decide +kernel)) (by decide)
theorem dX1_addWalk_24 : decode cX1_addWalk 24 = .ok (.iload_n 3, 1) := dk_29_ (show cX1_addWalk.data.toList[24]? = some 0x1d from (LBX1_addWalkr_1 8).trans (by decide +kernel))
theorem dX1_addWalk_25 : decode cX1_addWalk 25 = .ok (.iastore, 1) := dk_79_ (show cX1_addWalk.data.toList[25]? = some 0x4f from (LBX1_addWalkr_1 9).trans (by decide +kernel))
theorem dX1_addWalk_26 : decode cX1_addWalk 26 = .ok (.iload 4, 2) := dk_21_ (show cX1_addWalk.data.toList[26]? = some 0x15 from (LBX1_addWalkr_1 10).trans (by decide +kernel)) (show cX1_addWalk.data.toList[27]? = some 0x04 from (LBX1_addWalkr_1 11).trans (by decide +kernel)) (by decide)
theorem dX1_addWalk_28 : decode cX1_addWalk 28 = .ok (.ireturn, 1) := dk_172_ (show cX1_addWalk.data.toList[28]? = some 0xac from (LBX1_addWalkr_1 12).trans (by decide +kernel))
theorem uw52 : Cond.constant RX1 73 1000000000 ∈ wsU := ut3 (List.mem_of_getElem? (i := 223) rfl) rfl
theorem uw53 : Cond.methodLink RX1 74 yX1_lowOf ∈ wsU := ut3 (List.mem_of_getElem? (i := 224) rfl) rfl
theorem uw54 : Cond.instanceMethod yX1_lowOf ∈ wsU := ut2 (List.mem_of_getElem? (i := 60) rfl) rfl
theorem uw55 : Cond.selects RX1 yX1_lowOf yX1_lowOf ∈ wsU := ut2 (List.mem_of_getElem? (i := 61) rfl) rfl
theorem uw56 : Cond.code yX1_lowOf cX1_lowOf 3 (some .int) ∈ wsU := ut2 (List.mem_of_getElem? (i := 62) rfl) rfl
theorem uw57 : Cond.methodLink RX1 77 yX1_nearestOf ∈ wsU := ut3 (List.mem_of_getElem? (i := 219) rfl) rfl
theorem uw58 : Cond.instanceMethod yX1_nearestOf ∈ wsU := ut3 (List.mem_of_getElem? (i := 221) rfl) rfl
theorem uw59 : Cond.selects RX1 yX1_nearestOf yX1_nearestOf ∈ wsU := us_sel (q := (yX1_nearestOf, 10)) (List.mem_of_getElem? (i := 14) (by decide +kernel)) rfl
theorem uw60 : Cond.code yX1_nearestOf cX1_nearestOf 5 (some .int) ∈ wsU := ut3 (List.mem_of_getElem? (i := 222) rfl) rfl
theorem uw61 : Cond.methodLink RX1 80 yX1_comesTo ∈ wsU := ut3 (List.mem_of_getElem? (i := 233) rfl) rfl
theorem uw62 : Cond.instanceMethod yX1_comesTo ∈ wsU := ut3 (List.mem_of_getElem? (i := 216) rfl) rfl
theorem uw63 : Cond.selects RX1 yX1_comesTo yX1_comesTo ∈ wsU := ut3 (List.mem_of_getElem? (i := 217) rfl) rfl
theorem uw64 : Cond.code yX1_comesTo cX1_comesTo 5 (some .int) ∈ wsU := ut3 (List.mem_of_getElem? (i := 218) rfl) rfl
theorem uw65 : Cond.fieldLink RX1 31 "LongerBack$Land" "rounds" "LLongerBack$Rows;" ∈ wsU := ut1 (List.mem_of_getElem? (i := 67) rfl) rfl
theorem uw66 : Cond.methodLink RX1 69 yX3_begin ∈ wsU := ut2 (List.mem_of_getElem? (i := 179) rfl) rfl
theorem uw67 : Cond.instanceMethod yX3_begin ∈ wsU := ut2 (List.mem_of_getElem? (i := 180) rfl) rfl
theorem uw68 : Cond.selects RX3 yX3_begin yX3_begin ∈ wsU := ut2 (List.mem_of_getElem? (i := 181) rfl) rfl
theorem uw69 : Cond.code yX3_begin cX3_begin 3 (some .int) ∈ wsU := ut2 (List.mem_of_getElem? (i := 182) rfl) rfl
theorem uw70 : Cond.fieldLink RX1 35 "LongerBack$Land" "kinds" "[I" ∈ wsU := ut1 (List.mem_of_getElem? (i := 70) rfl) rfl
theorem uw71 : Cond.fieldLink RX1 38 "LongerBack$Land" "walks" "LLongerBack$Rows;" ∈ wsU := ut1 (List.mem_of_getElem? (i := 73) rfl) rfl
theorem uw72 : Cond.fieldLink RX1 41 "LongerBack$Land" "totals" "[I" ∈ wsU := ut1 (List.mem_of_getElem? (i := 77) rfl) rfl
theorem uw73 : Cond.fieldLink RX1 44 "LongerBack$Land" "slacks" "[I" ∈ wsU := ut1 (List.mem_of_getElem? (i := 80) rfl) rfl
theorem kv_X1_74 : xWV RX1 74 RX1 yX1_lowOf cX1_lowOf 3 (some .int) 2 := ⟨⟨uw53, uw54, uw55, uw19, uw56⟩, by decide +kernel⟩
theorem kv_X1_77 : xWV RX1 77 RX1 yX1_nearestOf cX1_nearestOf 5 (some .int) 1 := ⟨⟨uw57, uw58, uw59, uw19, uw60⟩, by decide +kernel⟩
theorem kv_X1_80 : xWV RX1 80 RX1 yX1_comesTo cX1_comesTo 5 (some .int) 2 := ⟨⟨uw61, uw62, uw63, uw19, uw64⟩, by decide +kernel⟩
theorem kf_X1_31 : xWF RX1 31 1 5 RX1 TX1 10 := ⟨inUX1, rfl, by decide, uw65⟩
theorem kv_X1_69 : xWV RX1 69 RX3 yX3_begin cX3_begin 3 (some .int) 1 := ⟨⟨uw66, uw67, uw68, uw42, uw69⟩, by decide +kernel⟩
theorem kf_X1_35 : xWF RX1 35 1 6 RX1 TX1 10 := ⟨inUX1, rfl, by decide, uw70⟩
theorem kf_X1_38 : xWF RX1 38 1 7 RX1 TX1 10 := ⟨inUX1, rfl, by decide, uw71⟩
theorem kf_X1_41 : xWF RX1 41 1 8 RX1 TX1 10 := ⟨inUX1, rfl, by decide, uw72⟩
theorem kf_X1_44 : xWF RX1 44 1 9 RX1 TX1 10 := ⟨inUX1, rfl, by decide, uw73⟩
set_option maxHeartbeats 4000000 in
set_option maxRecDepth 100000 in
theorem c_X1_countWays (l : Launch) (D : va_G) (cI cJ cZ cS : ClassId) (ta : Nat) (sa sv : Nat → Nat) (sz : Nat) (h0 : Nat) (ae : Nat) (al : Nat) (au : Nat) (ao : Nat) (ar : Nat) (ak : Nat) (aw : Nat) (att : Nat) (ass : Nat) (P : Nat) (lo : Nat → Int32) (hi : Nat → Int32) (d : Nat → Int32) : Met l yX1_countWays (Cond.code yX1_countWays cX1_countWays 3 (some .int) :: wsU) ({ frames := 0, cells := 0, slots := 0, locals := 0 }) (va_Pc [.ref h0] (XW D (xT cI cJ cZ cS) ta sa sv [(h0, .inr (1, [.int (nI (P)), .ref ae, .ref al, .ref au, .ref ao, .ref ar, .ref ak, .ref aw, .ref att, .ref ass])), (al, .inl (cI, 100, .inl lo)), (au, .inl (cI, 100, .inl hi)), (ao, .inl (cI, 100, .inl d))] sz)) (vp_Si (fun r : Int32 => True)) 0 0 (fun _ => False) := by
  refine xh (QA := fun _ => vp_Si (fun r : Int32 => True)) (fr := fun _ _ => False) (by decide) (Nat.le_of_ble_eq_true rfl) ?_
  intro p e s m below meth c ls A hF hr hlk hin hsz hP hK hD hN hZ hA hS hl
  have hF : CallFix p m c cX1_countWays 3 s _ _ RX1 := hF
  have hx := hF.1
  have hb := hF.2.1
  have hml := hF.2.2.1
  have hown := hF.2.2.2.1
  have hu : ∀ w ∈ wsU, w.before _ s = true := fun w h => hF.2.2.2.2 w (List.mem_cons_of_mem _ h)
  have hl : lv_has ls 3 [(0, .ref h0)] := hl
  refine lv_iconst (v := 0) hx hb dX1_countWays_0 (by decide) ?_
  refine lv_istore_n (lv' := [(1, .int 0), (0, .ref h0)]) hx hb dX1_countWays_1 rfl hl (by decide) rfl (fun ls hl => ?_)
  refine lv_iconst (v := 0) hx hb dX1_countWays_2 (by decide) ?_
  refine lv_istore_n (lv' := [(2, .int 0), (1, .int 0), (0, .ref h0)]) hx hb dX1_countWays_3 rfl hl (by decide) rfl (fun ls hl => ?_)
  suffices loop_4 : ∀ (n_4 : Nat) (k : Nat) (x : Int32) (ls : Array Slot), 100 - k < n_4 → (k ≤ 100) → lv_has ls 3 [(2, .int (nI (k))), (1, .int x), (0, .ref h0)] → W p l e ({ frames := 0, cells := 0, slots := 0, locals := 0 }) s m ([.ref h0] : List Value).toArray below meth c s.heap [] 0 0 (MQ below (vp_Si (fun r : Int32 => True)) ([.ref h0] : List Value).toArray s 0 0 (fun _ => False)) (F0 m 4 ls []) by
    exact loop_4 _ 0 0 _ (Nat.lt_succ_self _) (by omega) (lv_sub hl [0, 1, 2] rfl)
  intro n_4
  induction n_4 with
  | zero =>
    intro k x ls hm_4
    exact absurd hm_4 (Nat.not_lt_zero _)
  | succ n_4 ih_4 =>
    intro k x ls hm_4 hk hl
    refine lv_iload_n hx hb dX1_countWays_4 rfl (lv_at hl 0 rfl) ?_
    refine lv_bipush (v := 100) hx hb dX1_countWays_5 (by decide) ?_
    refine lv_icmp_ge (tgt := 33) hx hb dX1_countWays_7 (by decide) (fun c_1 => ?_) (fun c_1 => ?_)
    · skip
      have nc_1 : 100 ≤ k := xn_le (a := 100) (b := k) (by omega) (by omega) c_1
      refine lv_iload_n hx hb dX1_countWays_33 rfl (lv_at hl 1 rfl) ?_
      exact W.iret (v := x) hx hb hr (fun t ht hW => ⟨x, rfl, trivial, ht⟩) (fun q h => by cases h) dX1_countWays_34 hlk
    · skip
      have nc_1 : k < 100 := xn_nle (a := 100) (b := k) (by omega) (by omega) c_1
      refine lv_iload_n hx hb dX1_countWays_10 rfl (lv_at hl 1 rfl) ?_
      refine lv_aload_n hx hb dX1_countWays_11 rfl (lv_at hl 2 rfl) ?_
      refine xg hF kf_X1_25 hK hP 0 rfl rfl dX1_countWays_12 ?_
      refine lv_iload_n hx hb dX1_countWays_15 rfl (lv_at hl 0 rfl) ?_
      refine va_iald hx hb hK hP 3 0 rfl rfl (vp_in_nI (show k < 100 by omega) (by decide)) dX1_countWays_16 ?_
      refine xl_i (y := d k) (congrArg d (nI_clamp (show k < 2 ^ 31 by omega))) ?_
      refine lv_if_ne (tgt := 24) hx hb dX1_countWays_17 (by decide) (fun c_2 => ?_) (fun c_2 => ?_)
      · skip
        refine lv_iconst (v := 1) hx hb dX1_countWays_24 (by decide) ?_
        refine lv_iadd hx hb dX1_countWays_25 ?_
        refine lv_topi (fun x_3 ex_3 => ?_)
        refine lv_istore_n (lv' := [(1, .int x_3), (2, .int (nI (k))), (0, .ref h0)]) hx hb dX1_countWays_26 rfl hl (by decide) rfl (fun ls hl => ?_)
        refine lv_iinc (v := nI (k + 1)) (lv' := [(2, .int (nI (k + 1))), (1, .int x_3), (0, .ref h0)]) hx hb dX1_countWays_27 hl (k := 1) rfl (nI_1 (k)) (by decide) rfl (fun ls hl => ?_)
        refine lv_goto (tgt := 4) hx hb dX1_countWays_30 (by decide) ?_
        exact ih_4 (k + 1) x_3 _ (by omega) (by omega) (lv_sub hl [0, 1, 2] rfl)
      · skip
        refine lv_iconst (v := 0) hx hb dX1_countWays_20 (by decide) ?_
        refine lv_goto (tgt := 25) hx hb dX1_countWays_21 (by decide) ?_
        refine lv_iadd hx hb dX1_countWays_25 ?_
        refine lv_topi (fun x_4 ex_4 => ?_)
        refine lv_istore_n (lv' := [(1, .int x_4), (2, .int (nI (k))), (0, .ref h0)]) hx hb dX1_countWays_26 rfl hl (by decide) rfl (fun ls hl => ?_)
        refine lv_iinc (v := nI (k + 1)) (lv' := [(2, .int (nI (k + 1))), (1, .int x_4), (0, .ref h0)]) hx hb dX1_countWays_27 hl (k := 1) rfl (nI_1 (k)) (by decide) rfl (fun ls hl => ?_)
        refine lv_goto (tgt := 4) hx hb dX1_countWays_30 (by decide) ?_
        exact ih_4 (k + 1) x_4 _ (by omega) (by omega) (lv_sub hl [0, 1, 2] rfl)
set_option maxHeartbeats 4000000 in
set_option maxRecDepth 100000 in
theorem c_X1_countUnknown (l : Launch) (D : va_G) (cI cJ cZ cS : ClassId) (ta : Nat) (sa sv : Nat → Nat) (sz : Nat) (h0 : Nat) (ae : Nat) (al : Nat) (au : Nat) (ao : Nat) (ar : Nat) (ak : Nat) (aw : Nat) (att : Nat) (ass : Nat) (P : Nat) (lo : Nat → Int32) (hi : Nat → Int32) (d : Nat → Int32) : Met l yX1_countUnknown (Cond.code yX1_countUnknown cX1_countUnknown 3 (some .int) :: wsU) ({ frames := 0, cells := 0, slots := 0, locals := 0 }) (va_Pc [.ref h0] (XW D (xT cI cJ cZ cS) ta sa sv [(h0, .inr (1, [.int (nI (P)), .ref ae, .ref al, .ref au, .ref ao, .ref ar, .ref ak, .ref aw, .ref att, .ref ass])), (al, .inl (cI, 100, .inl lo)), (au, .inl (cI, 100, .inl hi)), (ao, .inl (cI, 100, .inl d))] sz)) (vp_Si (fun r : Int32 => True)) 0 0 (fun _ => False) := by
  refine xh (QA := fun _ => vp_Si (fun r : Int32 => True)) (fr := fun _ _ => False) (by decide) (Nat.le_of_ble_eq_true rfl) ?_
  intro p e s m below meth c ls A hF hr hlk hin hsz hP hK hD hN hZ hA hS hl
  have hF : CallFix p m c cX1_countUnknown 3 s _ _ RX1 := hF
  have hx := hF.1
  have hb := hF.2.1
  have hml := hF.2.2.1
  have hown := hF.2.2.2.1
  have hu : ∀ w ∈ wsU, w.before _ s = true := fun w h => hF.2.2.2.2 w (List.mem_cons_of_mem _ h)
  have hl : lv_has ls 3 [(0, .ref h0)] := hl
  refine lv_iconst (v := 0) hx hb dX1_countUnknown_0 (by decide) ?_
  refine lv_istore_n (lv' := [(1, .int 0), (0, .ref h0)]) hx hb dX1_countUnknown_1 rfl hl (by decide) rfl (fun ls hl => ?_)
  refine lv_iconst (v := 0) hx hb dX1_countUnknown_2 (by decide) ?_
  refine lv_istore_n (lv' := [(2, .int 0), (1, .int 0), (0, .ref h0)]) hx hb dX1_countUnknown_3 rfl hl (by decide) rfl (fun ls hl => ?_)
  suffices loop_4 : ∀ (n_4 : Nat) (k : Nat) (x : Int32) (ls : Array Slot), 100 - k < n_4 → (k ≤ 100) → lv_has ls 3 [(2, .int (nI (k))), (1, .int x), (0, .ref h0)] → W p l e ({ frames := 0, cells := 0, slots := 0, locals := 0 }) s m ([.ref h0] : List Value).toArray below meth c s.heap [] 0 0 (MQ below (vp_Si (fun r : Int32 => True)) ([.ref h0] : List Value).toArray s 0 0 (fun _ => False)) (F0 m 4 ls []) by
    exact loop_4 _ 0 0 _ (Nat.lt_succ_self _) (by omega) (lv_sub hl [0, 1, 2] rfl)
  intro n_4
  induction n_4 with
  | zero =>
    intro k x ls hm_4
    exact absurd hm_4 (Nat.not_lt_zero _)
  | succ n_4 ih_4 =>
    intro k x ls hm_4 hk hl
    refine lv_iload_n hx hb dX1_countUnknown_4 rfl (lv_at hl 0 rfl) ?_
    refine lv_bipush (v := 100) hx hb dX1_countUnknown_5 (by decide) ?_
    refine lv_icmp_ge (tgt := 48) hx hb dX1_countUnknown_7 (by decide) (fun c_1 => ?_) (fun c_1 => ?_)
    · skip
      have nc_1 : 100 ≤ k := xn_le (a := 100) (b := k) (by omega) (by omega) c_1
      refine lv_iload_n hx hb dX1_countUnknown_48 rfl (lv_at hl 1 rfl) ?_
      exact W.iret (v := x) hx hb hr (fun t ht hW => ⟨x, rfl, trivial, ht⟩) (fun q h => by cases h) dX1_countUnknown_49 hlk
    · skip
      have nc_1 : k < 100 := xn_nle (a := 100) (b := k) (by omega) (by omega) c_1
      refine lv_iload_n hx hb dX1_countUnknown_10 rfl (lv_at hl 1 rfl) ?_
      refine lv_aload_n hx hb dX1_countUnknown_11 rfl (lv_at hl 2 rfl) ?_
      refine xg hF kf_X1_25 hK hP 0 rfl rfl dX1_countUnknown_12 ?_
      refine lv_iload_n hx hb dX1_countUnknown_15 rfl (lv_at hl 0 rfl) ?_
      refine va_iald hx hb hK hP 3 0 rfl rfl (vp_in_nI (show k < 100 by omega) (by decide)) dX1_countUnknown_16 ?_
      refine xl_i (y := d k) (congrArg d (nI_clamp (show k < 2 ^ 31 by omega))) ?_
      refine lv_if_eq (tgt := 39) hx hb dX1_countUnknown_17 (by decide) (fun c_2 => ?_) (fun c_2 => ?_)
      · skip
        refine lv_iconst (v := 0) hx hb dX1_countUnknown_39 (by decide) ?_
        refine lv_iadd hx hb dX1_countUnknown_40 ?_
        refine lv_topi (fun x_3 ex_3 => ?_)
        refine lv_istore_n (lv' := [(1, .int x_3), (2, .int (nI (k))), (0, .ref h0)]) hx hb dX1_countUnknown_41 rfl hl (by decide) rfl (fun ls hl => ?_)
        refine lv_iinc (v := nI (k + 1)) (lv' := [(2, .int (nI (k + 1))), (1, .int x_3), (0, .ref h0)]) hx hb dX1_countUnknown_42 hl (k := 1) rfl (nI_1 (k)) (by decide) rfl (fun ls hl => ?_)
        refine lv_goto (tgt := 4) hx hb dX1_countUnknown_45 (by decide) ?_
        exact ih_4 (k + 1) x_3 _ (by omega) (by omega) (lv_sub hl [0, 1, 2] rfl)
      · skip
        refine lv_aload_n hx hb dX1_countUnknown_20 rfl (lv_at hl 2 rfl) ?_
        refine xg hF kf_X1_19 hK hP 0 rfl rfl dX1_countUnknown_21 ?_
        refine lv_iload_n hx hb dX1_countUnknown_24 rfl (lv_at hl 0 rfl) ?_
        refine va_iald hx hb hK hP 1 0 rfl rfl (vp_in_nI (show k < 100 by omega) (by decide)) dX1_countUnknown_25 ?_
        refine xl_i (y := lo k) (congrArg lo (nI_clamp (show k < 2 ^ 31 by omega))) ?_
        refine lv_aload_n hx hb dX1_countUnknown_26 rfl (lv_at hl 2 rfl) ?_
        refine xg hF kf_X1_22 hK hP 0 rfl rfl dX1_countUnknown_27 ?_
        refine lv_iload_n hx hb dX1_countUnknown_30 rfl (lv_at hl 0 rfl) ?_
        refine va_iald hx hb hK hP 2 0 rfl rfl (vp_in_nI (show k < 100 by omega) (by decide)) dX1_countUnknown_31 ?_
        refine xl_i (y := hi k) (congrArg hi (nI_clamp (show k < 2 ^ 31 by omega))) ?_
        refine lv_icmp_ge (tgt := 39) hx hb dX1_countUnknown_32 (by decide) (fun c_4 => ?_) (fun c_4 => ?_)
        · skip
          refine lv_iconst (v := 0) hx hb dX1_countUnknown_39 (by decide) ?_
          refine lv_iadd hx hb dX1_countUnknown_40 ?_
          refine lv_topi (fun x_5 ex_5 => ?_)
          refine lv_istore_n (lv' := [(1, .int x_5), (2, .int (nI (k))), (0, .ref h0)]) hx hb dX1_countUnknown_41 rfl hl (by decide) rfl (fun ls hl => ?_)
          refine lv_iinc (v := nI (k + 1)) (lv' := [(2, .int (nI (k + 1))), (1, .int x_5), (0, .ref h0)]) hx hb dX1_countUnknown_42 hl (k := 1) rfl (nI_1 (k)) (by decide) rfl (fun ls hl => ?_)
          refine lv_goto (tgt := 4) hx hb dX1_countUnknown_45 (by decide) ?_
          exact ih_4 (k + 1) x_5 _ (by omega) (by omega) (lv_sub hl [0, 1, 2] rfl)
        · skip
          refine lv_iconst (v := 1) hx hb dX1_countUnknown_35 (by decide) ?_
          refine lv_goto (tgt := 40) hx hb dX1_countUnknown_36 (by decide) ?_
          refine lv_iadd hx hb dX1_countUnknown_40 ?_
          refine lv_topi (fun x_6 ex_6 => ?_)
          refine lv_istore_n (lv' := [(1, .int x_6), (2, .int (nI (k))), (0, .ref h0)]) hx hb dX1_countUnknown_41 rfl hl (by decide) rfl (fun ls hl => ?_)
          refine lv_iinc (v := nI (k + 1)) (lv' := [(2, .int (nI (k + 1))), (1, .int x_6), (0, .ref h0)]) hx hb dX1_countUnknown_42 hl (k := 1) rfl (nI_1 (k)) (by decide) rfl (fun ls hl => ?_)
          refine lv_goto (tgt := 4) hx hb dX1_countUnknown_45 (by decide) ?_
          exact ih_4 (k + 1) x_6 _ (by omega) (by omega) (lv_sub hl [0, 1, 2] rfl)
set_option maxHeartbeats 4000000 in
set_option maxRecDepth 100000 in
theorem c_X1_allBetweenEnds (l : Launch) (D : va_G) (cI cJ cZ cS : ClassId) (ta : Nat) (sa sv : Nat → Nat) (sz : Nat) (h0 : Nat) (ae : Nat) (al : Nat) (au : Nat) (ao : Nat) (ar : Nat) (ak : Nat) (aw : Nat) (att : Nat) (ass : Nat) (P : Nat) (lo : Nat → Int32) (hi : Nat → Int32) (d : Nat → Int32) : Met l yX1_allBetweenEnds (Cond.code yX1_allBetweenEnds cX1_allBetweenEnds 3 (some .int) :: wsU) ({ frames := 0, cells := 0, slots := 0, locals := 0 }) (va_Pc [.ref h0] (XW D (xT cI cJ cZ cS) ta sa sv [(h0, .inr (1, [.int (nI (P)), .ref ae, .ref al, .ref au, .ref ao, .ref ar, .ref ak, .ref aw, .ref att, .ref ass])), (al, .inl (cI, 100, .inl lo)), (au, .inl (cI, 100, .inl hi)), (ao, .inl (cI, 100, .inl d))] sz)) (vp_Si (fun r : Int32 => True)) 0 0 (fun _ => False) := by
  refine xh (QA := fun _ => vp_Si (fun r : Int32 => True)) (fr := fun _ _ => False) (by decide) (Nat.le_of_ble_eq_true rfl) ?_
  intro p e s m below meth c ls A hF hr hlk hin hsz hP hK hD hN hZ hA hS hl
  have hF : CallFix p m c cX1_allBetweenEnds 3 s _ _ RX1 := hF
  have hx := hF.1
  have hb := hF.2.1
  have hml := hF.2.2.1
  have hown := hF.2.2.2.1
  have hu : ∀ w ∈ wsU, w.before _ s = true := fun w h => hF.2.2.2.2 w (List.mem_cons_of_mem _ h)
  have hl : lv_has ls 3 [(0, .ref h0)] := hl
  refine lv_iconst (v := 0) hx hb dX1_allBetweenEnds_0 (by decide) ?_
  refine lv_istore_n (lv' := [(1, .int 0), (0, .ref h0)]) hx hb dX1_allBetweenEnds_1 rfl hl (by decide) rfl (fun ls hl => ?_)
  refine lv_iconst (v := 0) hx hb dX1_allBetweenEnds_2 (by decide) ?_
  refine lv_istore_n (lv' := [(2, .int 0), (1, .int 0), (0, .ref h0)]) hx hb dX1_allBetweenEnds_3 rfl hl (by decide) rfl (fun ls hl => ?_)
  suffices loop_4 : ∀ (n_4 : Nat) (k : Nat) (x : Int32) (ls : Array Slot), 100 - k < n_4 → (k ≤ 100) → lv_has ls 3 [(2, .int (nI (k))), (1, .int x), (0, .ref h0)] → W p l e ({ frames := 0, cells := 0, slots := 0, locals := 0 }) s m ([.ref h0] : List Value).toArray below meth c s.heap [] 0 0 (MQ below (vp_Si (fun r : Int32 => True)) ([.ref h0] : List Value).toArray s 0 0 (fun _ => False)) (F0 m 4 ls []) by
    exact loop_4 _ 0 0 _ (Nat.lt_succ_self _) (by omega) (lv_sub hl [0, 1, 2] rfl)
  intro n_4
  induction n_4 with
  | zero =>
    intro k x ls hm_4
    exact absurd hm_4 (Nat.not_lt_zero _)
  | succ n_4 ih_4 =>
    intro k x ls hm_4 hk hl
    refine lv_iload_n hx hb dX1_allBetweenEnds_4 rfl (lv_at hl 0 rfl) ?_
    refine lv_bipush (v := 100) hx hb dX1_allBetweenEnds_5 (by decide) ?_
    refine lv_icmp_ge (tgt := 45) hx hb dX1_allBetweenEnds_7 (by decide) (fun c_1 => ?_) (fun c_1 => ?_)
    · skip
      have nc_1 : 100 ≤ k := xn_le (a := 100) (b := k) (by omega) (by omega) c_1
      refine lv_iload_n hx hb dX1_allBetweenEnds_45 rfl (lv_at hl 1 rfl) ?_
      exact W.iret (v := x) hx hb hr (fun t ht hW => ⟨x, rfl, trivial, ht⟩) (fun q h => by cases h) dX1_allBetweenEnds_46 hlk
    · skip
      have nc_1 : k < 100 := xn_nle (a := 100) (b := k) (by omega) (by omega) c_1
      refine lv_iload_n hx hb dX1_allBetweenEnds_10 rfl (lv_at hl 1 rfl) ?_
      refine lv_aload_n hx hb dX1_allBetweenEnds_11 rfl (lv_at hl 2 rfl) ?_
      refine xg hF kf_X1_25 hK hP 0 rfl rfl dX1_allBetweenEnds_12 ?_
      refine lv_iload_n hx hb dX1_allBetweenEnds_15 rfl (lv_at hl 0 rfl) ?_
      refine va_iald hx hb hK hP 3 0 rfl rfl (vp_in_nI (show k < 100 by omega) (by decide)) dX1_allBetweenEnds_16 ?_
      refine xl_i (y := d k) (congrArg d (nI_clamp (show k < 2 ^ 31 by omega))) ?_
      refine lv_if_ne (tgt := 24) hx hb dX1_allBetweenEnds_17 (by decide) (fun c_2 => ?_) (fun c_2 => ?_)
      · skip
        refine lv_aload_n hx hb dX1_allBetweenEnds_24 rfl (lv_at hl 2 rfl) ?_
        refine xg hF kf_X1_22 hK hP 0 rfl rfl dX1_allBetweenEnds_25 ?_
        refine lv_iload_n hx hb dX1_allBetweenEnds_28 rfl (lv_at hl 0 rfl) ?_
        refine va_iald hx hb hK hP 2 0 rfl rfl (vp_in_nI (show k < 100 by omega) (by decide)) dX1_allBetweenEnds_29 ?_
        refine xl_i (y := hi k) (congrArg hi (nI_clamp (show k < 2 ^ 31 by omega))) ?_
        refine lv_aload_n hx hb dX1_allBetweenEnds_30 rfl (lv_at hl 2 rfl) ?_
        refine xg hF kf_X1_19 hK hP 0 rfl rfl dX1_allBetweenEnds_31 ?_
        refine lv_iload_n hx hb dX1_allBetweenEnds_34 rfl (lv_at hl 0 rfl) ?_
        refine va_iald hx hb hK hP 1 0 rfl rfl (vp_in_nI (show k < 100 by omega) (by decide)) dX1_allBetweenEnds_35 ?_
        refine xl_i (y := lo k) (congrArg lo (nI_clamp (show k < 2 ^ 31 by omega))) ?_
        refine lv_isub hx hb dX1_allBetweenEnds_36 ?_
        refine lv_topi (fun x_3 ex_3 => ?_)
        refine lv_iadd hx hb dX1_allBetweenEnds_37 ?_
        refine lv_topi (fun x_4 ex_4 => ?_)
        refine lv_istore_n (lv' := [(1, .int x_4), (2, .int (nI (k))), (0, .ref h0)]) hx hb dX1_allBetweenEnds_38 rfl hl (by decide) rfl (fun ls hl => ?_)
        refine lv_iinc (v := nI (k + 1)) (lv' := [(2, .int (nI (k + 1))), (1, .int x_4), (0, .ref h0)]) hx hb dX1_allBetweenEnds_39 hl (k := 1) rfl (nI_1 (k)) (by decide) rfl (fun ls hl => ?_)
        refine lv_goto (tgt := 4) hx hb dX1_allBetweenEnds_42 (by decide) ?_
        exact ih_4 (k + 1) x_4 _ (by omega) (by omega) (lv_sub hl [0, 1, 2] rfl)
      · skip
        refine lv_iconst (v := 0) hx hb dX1_allBetweenEnds_20 (by decide) ?_
        refine lv_goto (tgt := 37) hx hb dX1_allBetweenEnds_21 (by decide) ?_
        refine lv_iadd hx hb dX1_allBetweenEnds_37 ?_
        refine lv_topi (fun x_5 ex_5 => ?_)
        refine lv_istore_n (lv' := [(1, .int x_5), (2, .int (nI (k))), (0, .ref h0)]) hx hb dX1_allBetweenEnds_38 rfl hl (by decide) rfl (fun ls hl => ?_)
        refine lv_iinc (v := nI (k + 1)) (lv' := [(2, .int (nI (k + 1))), (1, .int x_5), (0, .ref h0)]) hx hb dX1_allBetweenEnds_39 hl (k := 1) rfl (nI_1 (k)) (by decide) rfl (fun ls hl => ?_)
        refine lv_goto (tgt := 4) hx hb dX1_allBetweenEnds_42 (by decide) ?_
        exact ih_4 (k + 1) x_5 _ (by omega) (by omega) (lv_sub hl [0, 1, 2] rfl)
set_option maxHeartbeats 4000000 in
set_option maxRecDepth 100000 in
theorem c_X1_widestWay (l : Launch) (D : va_G) (cI cJ cZ cS : ClassId) (ta : Nat) (sa sv : Nat → Nat) (sz : Nat) (h0 : Nat) (ae : Nat) (al : Nat) (au : Nat) (ao : Nat) (ar : Nat) (ak : Nat) (aw : Nat) (att : Nat) (ass : Nat) (P : Nat) (lo : Nat → Int32) (hi : Nat → Int32) (d : Nat → Int32) : Met l yX1_widestWay (Cond.code yX1_widestWay cX1_widestWay 4 (some .int) :: wsU) ({ frames := 0, cells := 0, slots := 0, locals := 0 }) (va_Pc [.ref h0] (XW D (xT cI cJ cZ cS) ta sa sv [(h0, .inr (1, [.int (nI (P)), .ref ae, .ref al, .ref au, .ref ao, .ref ar, .ref ak, .ref aw, .ref att, .ref ass])), (al, .inl (cI, 100, .inl lo)), (au, .inl (cI, 100, .inl hi)), (ao, .inl (cI, 100, .inl d))] sz)) (vp_Si (fun r : Int32 => True)) 0 0 (fun _ => False) := by
  refine xh (QA := fun _ => vp_Si (fun r : Int32 => True)) (fr := fun _ _ => False) (by decide) (Nat.le_of_ble_eq_true rfl) ?_
  intro p e s m below meth c ls A hF hr hlk hin hsz hP hK hD hN hZ hA hS hl
  have hF : CallFix p m c cX1_widestWay 4 s _ _ RX1 := hF
  have hx := hF.1
  have hb := hF.2.1
  have hml := hF.2.2.1
  have hown := hF.2.2.2.1
  have hu : ∀ w ∈ wsU, w.before _ s = true := fun w h => hF.2.2.2.2 w (List.mem_cons_of_mem _ h)
  have hl : lv_has ls 4 [(0, .ref h0)] := hl
  refine lv_iconst (v := (-1)) hx hb dX1_widestWay_0 (by decide) ?_
  refine lv_istore_n (lv' := [(1, .int (-1)), (0, .ref h0)]) hx hb dX1_widestWay_1 rfl hl (by decide) rfl (fun ls hl => ?_)
  refine lv_iconst (v := 0) hx hb dX1_widestWay_2 (by decide) ?_
  refine lv_istore_n (lv' := [(2, .int 0), (1, .int (-1)), (0, .ref h0)]) hx hb dX1_widestWay_3 rfl hl (by decide) rfl (fun ls hl => ?_)
  refine lv_iconst (v := 0) hx hb dX1_widestWay_4 (by decide) ?_
  refine lv_istore_n (lv' := [(3, .int 0), (2, .int 0), (1, .int (-1)), (0, .ref h0)]) hx hb dX1_widestWay_5 rfl hl (by decide) rfl (fun ls hl => ?_)
  suffices loop_6 : ∀ (n_6 : Nat) (k : Nat) (x : Int32) (y : Int32) (ls : Array Slot), 100 - k < n_6 → (k ≤ 100) → lv_has ls 4 [(3, .int (nI (k))), (2, .int y), (1, .int x), (0, .ref h0)] → W p l e ({ frames := 0, cells := 0, slots := 0, locals := 0 }) s m ([.ref h0] : List Value).toArray below meth c s.heap [] 0 0 (MQ below (vp_Si (fun r : Int32 => True)) ([.ref h0] : List Value).toArray s 0 0 (fun _ => False)) (F0 m 6 ls []) by
    exact loop_6 _ 0 (-1) 0 _ (Nat.lt_succ_self _) (by omega) (lv_sub hl [0, 1, 2, 3] rfl)
  intro n_6
  induction n_6 with
  | zero =>
    intro k x y ls hm_6
    exact absurd hm_6 (Nat.not_lt_zero _)
  | succ n_6 ih_6 =>
    intro k x y ls hm_6 hk hl
    refine lv_iload_n hx hb dX1_widestWay_6 rfl (lv_at hl 0 rfl) ?_
    refine lv_bipush (v := 100) hx hb dX1_widestWay_7 (by decide) ?_
    refine lv_icmp_ge (tgt := 61) hx hb dX1_widestWay_9 (by decide) (fun c_1 => ?_) (fun c_1 => ?_)
    · skip
      have nc_1 : 100 ≤ k := xn_le (a := 100) (b := k) (by omega) (by omega) c_1
      refine lv_iload_n hx hb dX1_widestWay_61 rfl (lv_at hl 2 rfl) ?_
      exact W.iret (v := x) hx hb hr (fun t ht hW => ⟨x, rfl, trivial, ht⟩) (fun q h => by cases h) dX1_widestWay_62 hlk
    · skip
      have nc_1 : k < 100 := xn_nle (a := 100) (b := k) (by omega) (by omega) c_1
      refine lv_aload_n hx hb dX1_widestWay_12 rfl (lv_at hl 3 rfl) ?_
      refine xg hF kf_X1_25 hK hP 0 rfl rfl dX1_widestWay_13 ?_
      refine lv_iload_n hx hb dX1_widestWay_16 rfl (lv_at hl 0 rfl) ?_
      refine va_iald hx hb hK hP 3 0 rfl rfl (vp_in_nI (show k < 100 by omega) (by decide)) dX1_widestWay_17 ?_
      refine xl_i (y := d k) (congrArg d (nI_clamp (show k < 2 ^ 31 by omega))) ?_
      refine lv_iconst (v := 1) hx hb dX1_widestWay_18 (by decide) ?_
      refine lv_icmp_ne (tgt := 55) hx hb dX1_widestWay_19 (by decide) (fun c_2 => ?_) (fun c_2 => ?_)
      · skip
        refine lv_iinc (v := nI (k + 1)) (lv' := [(3, .int (nI (k + 1))), (2, .int y), (1, .int x), (0, .ref h0)]) hx hb dX1_widestWay_55 hl (k := 0) rfl (nI_1 (k)) (by decide) rfl (fun ls hl => ?_)
        refine lv_goto (tgt := 6) hx hb dX1_widestWay_58 (by decide) ?_
        exact ih_6 (k + 1) x y _ (by omega) (by omega) (lv_sub hl [0, 1, 2, 3] rfl)
      · skip
        refine lv_aload_n hx hb dX1_widestWay_22 rfl (lv_at hl 3 rfl) ?_
        refine xg hF kf_X1_22 hK hP 0 rfl rfl dX1_widestWay_23 ?_
        refine lv_iload_n hx hb dX1_widestWay_26 rfl (lv_at hl 0 rfl) ?_
        refine va_iald hx hb hK hP 2 0 rfl rfl (vp_in_nI (show k < 100 by omega) (by decide)) dX1_widestWay_27 ?_
        refine xl_i (y := hi k) (congrArg hi (nI_clamp (show k < 2 ^ 31 by omega))) ?_
        refine lv_aload_n hx hb dX1_widestWay_28 rfl (lv_at hl 3 rfl) ?_
        refine xg hF kf_X1_19 hK hP 0 rfl rfl dX1_widestWay_29 ?_
        refine lv_iload_n hx hb dX1_widestWay_32 rfl (lv_at hl 0 rfl) ?_
        refine va_iald hx hb hK hP 1 0 rfl rfl (vp_in_nI (show k < 100 by omega) (by decide)) dX1_widestWay_33 ?_
        refine xl_i (y := lo k) (congrArg lo (nI_clamp (show k < 2 ^ 31 by omega))) ?_
        refine lv_isub hx hb dX1_widestWay_34 ?_
        refine lv_topi (fun x_3 ex_3 => ?_)
        refine lv_iload_n hx hb dX1_widestWay_35 rfl (lv_at hl 1 rfl) ?_
        refine lv_icmp_le (tgt := 55) hx hb dX1_widestWay_36 (by decide) (fun c_4 => ?_) (fun c_4 => ?_)
        · skip
          refine lv_iinc (v := nI (k + 1)) (lv' := [(3, .int (nI (k + 1))), (2, .int y), (1, .int x), (0, .ref h0)]) hx hb dX1_widestWay_55 hl (k := 0) rfl (nI_1 (k)) (by decide) rfl (fun ls hl => ?_)
          refine lv_goto (tgt := 6) hx hb dX1_widestWay_58 (by decide) ?_
          exact ih_6 (k + 1) x y _ (by omega) (by omega) (lv_sub hl [0, 1, 2, 3] rfl)
        · skip
          refine lv_iload_n hx hb dX1_widestWay_39 rfl (lv_at hl 0 rfl) ?_
          refine lv_istore_n (lv' := [(1, .int (nI (k))), (3, .int (nI (k))), (2, .int y), (0, .ref h0)]) hx hb dX1_widestWay_40 rfl hl (by decide) rfl (fun ls hl => ?_)
          refine lv_aload_n hx hb dX1_widestWay_41 rfl (lv_at hl 3 rfl) ?_
          refine xg hF kf_X1_22 hK hP 0 rfl rfl dX1_widestWay_42 ?_
          refine lv_iload_n hx hb dX1_widestWay_45 rfl (lv_at hl 1 rfl) ?_
          refine va_iald hx hb hK hP 2 0 rfl rfl (vp_in_nI (show k < 100 by omega) (by decide)) dX1_widestWay_46 ?_
          refine xl_i (y := hi k) (congrArg hi (nI_clamp (show k < 2 ^ 31 by omega))) ?_
          refine lv_aload_n hx hb dX1_widestWay_47 rfl (lv_at hl 3 rfl) ?_
          refine xg hF kf_X1_19 hK hP 0 rfl rfl dX1_widestWay_48 ?_
          refine lv_iload_n hx hb dX1_widestWay_51 rfl (lv_at hl 1 rfl) ?_
          refine va_iald hx hb hK hP 1 0 rfl rfl (vp_in_nI (show k < 100 by omega) (by decide)) dX1_widestWay_52 ?_
          refine xl_i (y := lo k) (congrArg lo (nI_clamp (show k < 2 ^ 31 by omega))) ?_
          refine lv_isub hx hb dX1_widestWay_53 ?_
          refine lv_topi (fun x_5 ex_5 => ?_)
          refine lv_istore_n (lv' := [(2, .int x_5), (1, .int (nI (k))), (3, .int (nI (k))), (0, .ref h0)]) hx hb dX1_widestWay_54 rfl hl (by decide) rfl (fun ls hl => ?_)
          refine lv_iinc (v := nI (k + 1)) (lv' := [(3, .int (nI (k + 1))), (2, .int x_5), (1, .int (nI (k))), (0, .ref h0)]) hx hb dX1_widestWay_55 hl (k := 2) rfl (nI_1 (k)) (by decide) rfl (fun ls hl => ?_)
          refine lv_goto (tgt := 6) hx hb dX1_widestWay_58 (by decide) ?_
          exact ih_6 (k + 1) (nI (k)) x_5 _ (by omega) (by omega) (lv_sub hl [0, 1, 2, 3] rfl)
set_option maxHeartbeats 4000000 in
set_option maxRecDepth 100000 in
theorem c_X1_allErrands (l : Launch) (D : va_G) (cI cJ cZ cS : ClassId) (ta : Nat) (sa sv : Nat → Nat) (sz : Nat) (h0 : Nat) (ae : Nat) (al : Nat) (au : Nat) (ao : Nat) (ar : Nat) (ak : Nat) (aw : Nat) (att : Nat) (ass : Nat) (P : Nat) (er : Nat → Int32) (hP0 : P ≤ 10) : Met l yX1_allErrands (Cond.code yX1_allErrands cX1_allErrands 3 (some .int) :: wsU) ({ frames := 0, cells := 0, slots := 0, locals := 0 }) (va_Pc [.ref h0] (XW D (xT cI cJ cZ cS) ta sa sv [(h0, .inr (1, [.int (nI (P)), .ref ae, .ref al, .ref au, .ref ao, .ref ar, .ref ak, .ref aw, .ref att, .ref ass])), (ae, .inl (cI, 10, .inl er))] sz)) (vp_Si (fun r : Int32 => True)) 0 0 (fun _ => False) := by
  refine xh (QA := fun _ => vp_Si (fun r : Int32 => True)) (fr := fun _ _ => False) (by decide) (Nat.le_of_ble_eq_true rfl) ?_
  intro p e s m below meth c ls A hF hr hlk hin hsz hP hK hD hN hZ hA hS hl
  have hF : CallFix p m c cX1_allErrands 3 s _ _ RX1 := hF
  have hx := hF.1
  have hb := hF.2.1
  have hml := hF.2.2.1
  have hown := hF.2.2.2.1
  have hu : ∀ w ∈ wsU, w.before _ s = true := fun w h => hF.2.2.2.2 w (List.mem_cons_of_mem _ h)
  have hl : lv_has ls 3 [(0, .ref h0)] := hl
  refine lv_iconst (v := 0) hx hb dX1_allErrands_0 (by decide) ?_
  refine lv_istore_n (lv' := [(1, .int 0), (0, .ref h0)]) hx hb dX1_allErrands_1 rfl hl (by decide) rfl (fun ls hl => ?_)
  refine lv_iconst (v := 0) hx hb dX1_allErrands_2 (by decide) ?_
  refine lv_istore_n (lv' := [(2, .int 0), (1, .int 0), (0, .ref h0)]) hx hb dX1_allErrands_3 rfl hl (by decide) rfl (fun ls hl => ?_)
  suffices loop_4 : ∀ (n_4 : Nat) (k : Nat) (x : Int32) (ls : Array Slot), P - k < n_4 → (k ≤ P) → lv_has ls 3 [(2, .int (nI (k))), (1, .int x), (0, .ref h0)] → W p l e ({ frames := 0, cells := 0, slots := 0, locals := 0 }) s m ([.ref h0] : List Value).toArray below meth c s.heap [] 0 0 (MQ below (vp_Si (fun r : Int32 => True)) ([.ref h0] : List Value).toArray s 0 0 (fun _ => False)) (F0 m 4 ls []) by
    exact loop_4 _ 0 0 _ (Nat.lt_succ_self _) (by omega) (lv_sub hl [0, 1, 2] rfl)
  intro n_4
  induction n_4 with
  | zero =>
    intro k x ls hm_4
    exact absurd hm_4 (Nat.not_lt_zero _)
  | succ n_4 ih_4 =>
    intro k x ls hm_4 hk hl
    refine lv_iload_n hx hb dX1_allErrands_4 rfl (lv_at hl 0 rfl) ?_
    refine lv_aload_n hx hb dX1_allErrands_5 rfl (lv_at hl 2 rfl) ?_
    refine xg hF kf_X1_9 hK hP 0 rfl rfl dX1_allErrands_6 ?_
    refine lv_icmp_ge (tgt := 27) hx hb dX1_allErrands_9 (by decide) (fun c_1 => ?_) (fun c_1 => ?_)
    · skip
      have nc_1 : P ≤ k := xn_le (a := P) (b := k) (by omega) (by omega) c_1
      refine lv_iload_n hx hb dX1_allErrands_27 rfl (lv_at hl 1 rfl) ?_
      exact W.iret (v := x) hx hb hr (fun t ht hW => ⟨x, rfl, trivial, ht⟩) (fun q h => by cases h) dX1_allErrands_28 hlk
    · skip
      have nc_1 : k < P := xn_nle (a := P) (b := k) (by omega) (by omega) c_1
      refine lv_iload_n hx hb dX1_allErrands_12 rfl (lv_at hl 1 rfl) ?_
      refine lv_aload_n hx hb dX1_allErrands_13 rfl (lv_at hl 2 rfl) ?_
      refine xg hF kf_X1_15 hK hP 0 rfl rfl dX1_allErrands_14 ?_
      refine lv_iload_n hx hb dX1_allErrands_17 rfl (lv_at hl 0 rfl) ?_
      refine va_iald hx hb hK hP 1 0 rfl rfl (vp_in_nI (show k < 10 by omega) (by decide)) dX1_allErrands_18 ?_
      refine xl_i (y := er k) (congrArg er (nI_clamp (show k < 2 ^ 31 by omega))) ?_
      refine lv_iadd hx hb dX1_allErrands_19 ?_
      refine lv_topi (fun x_2 ex_2 => ?_)
      refine lv_istore_n (lv' := [(1, .int x_2), (2, .int (nI (k))), (0, .ref h0)]) hx hb dX1_allErrands_20 rfl hl (by decide) rfl (fun ls hl => ?_)
      refine lv_iinc (v := nI (k + 1)) (lv' := [(2, .int (nI (k + 1))), (1, .int x_2), (0, .ref h0)]) hx hb dX1_allErrands_21 hl (k := 1) rfl (nI_1 (k)) (by decide) rfl (fun ls hl => ?_)
      refine lv_goto (tgt := 4) hx hb dX1_allErrands_24 (by decide) ?_
      exact ih_4 (k + 1) x_2 _ (by omega) (by omega) (lv_sub hl [0, 1, 2] rfl)
set_option maxHeartbeats 4000000 in
set_option maxRecDepth 100000 in
theorem c_X1_nearestOf (l : Launch) (D : va_G) (cI cJ cZ cS : ClassId) (ta : Nat) (sa sv : Nat → Nat) (sz : Nat) (h0 : Nat) (ae : Nat) (al : Nat) (au : Nat) (ao : Nat) (ar : Nat) (ak : Nat) (aw : Nat) (att : Nat) (ass : Nat) (P : Nat) (lo : Nat → Int32) (d : Nat → Int32) (j : Nat) (hP0 : P ≤ 10) (hj : j < 10) : Met l yX1_nearestOf (Cond.code yX1_nearestOf cX1_nearestOf 5 (some .int) :: wsU) ({ frames := 2, cells := 0, slots := 0, locals := 43 }) (va_Pc [.ref h0, .int (nI (j))] (XW D (xT cI cJ cZ cS) ta sa sv [(h0, .inr (1, [.int (nI (P)), .ref ae, .ref al, .ref au, .ref ao, .ref ar, .ref ak, .ref aw, .ref att, .ref ass])), (al, .inl (cI, 100, .inl lo)), (ao, .inl (cI, 100, .inl d))] sz)) (vp_Si (fun r : Int32 => (r = (-1)) ∨ (∃ (y : Nat), r = nI (y) ∧ (y < P)))) 0 0 (fun _ => False) := by
  refine xh (QA := fun _ => vp_Si (fun r : Int32 => (r = (-1)) ∨ (∃ (y : Nat), r = nI (y) ∧ (y < P)))) (fr := fun _ _ => False) (by decide) (Nat.le_of_ble_eq_true rfl) ?_
  intro p e s m below meth c ls A hF hr hlk hin hsz hP hK hD hN hZ hA hS hl
  have hF : CallFix p m c cX1_nearestOf 5 s _ _ RX1 := hF
  have hx := hF.1
  have hb := hF.2.1
  have hml := hF.2.2.1
  have hown := hF.2.2.2.1
  have hu : ∀ w ∈ wsU, w.before _ s = true := fun w h => hF.2.2.2.2 w (List.mem_cons_of_mem _ h)
  have hl : lv_has ls 5 [(0, .ref h0), (1, .int (nI (j)))] := hl
  refine lv_iconst (v := (-1)) hx hb dX1_nearestOf_0 (by decide) ?_
  refine lv_istore_n (lv' := [(2, .int (-1)), (0, .ref h0), (1, .int (nI (j)))]) hx hb dX1_nearestOf_1 rfl hl (by decide) rfl (fun ls hl => ?_)
  refine lv_ldc (v := 1000000000) hx hb hown (hu _ uw52) dX1_nearestOf_2 ?_
  refine lv_istore_n (lv' := [(3, .int 1000000000), (2, .int (-1)), (0, .ref h0), (1, .int (nI (j)))]) hx hb dX1_nearestOf_4 rfl hl (by decide) rfl (fun ls hl => ?_)
  refine lv_iconst (v := 0) hx hb dX1_nearestOf_5 (by decide) ?_
  refine lv_istore (lv' := [(4, .int 0), (3, .int 1000000000), (2, .int (-1)), (0, .ref h0), (1, .int (nI (j)))]) hx hb dX1_nearestOf_6 hl (by decide) rfl (fun ls hl => ?_)
  suffices loop_8 : ∀ (n_8 : Nat) (k : Nat) (x : Int32) (z : Int32) (ls : Array Slot), P - k < n_8 → (k ≤ P) → (x = -1 ∨ ∃ y, y < P ∧ x = nI y) → lv_has ls 5 [(4, .int (nI (k))), (3, .int z), (2, .int x), (0, .ref h0), (1, .int (nI (j)))] → W p l e ({ frames := 2, cells := 0, slots := 0, locals := 43 }) s m ([.ref h0, .int (nI (j))] : List Value).toArray below meth c s.heap [] 0 0 (MQ below (vp_Si (fun r : Int32 => (r = (-1)) ∨ (∃ (y : Nat), r = nI (y) ∧ (y < P)))) ([.ref h0, .int (nI (j))] : List Value).toArray s 0 0 (fun _ => False)) (F0 m 8 ls []) by
    exact loop_8 _ 0 (-1) 1000000000 _ (Nat.lt_succ_self _) (by omega) (Or.inl rfl) (lv_sub hl [0, 1, 2, 3, 4] rfl)
  intro n_8
  induction n_8 with
  | zero =>
    intro k x z ls hm_8
    exact absurd hm_8 (Nat.not_lt_zero _)
  | succ n_8 ih_8 =>
    intro k x z ls hm_8 hk hx9 hl
    refine lv_iload hx hb dX1_nearestOf_8 (lv_at hl 0 rfl) ?_
    refine lv_aload_n hx hb dX1_nearestOf_10 rfl (lv_at hl 3 rfl) ?_
    refine xg hF kf_X1_9 hK hP 0 rfl rfl dX1_nearestOf_11 ?_
    refine lv_icmp_ge (tgt := 55) hx hb dX1_nearestOf_14 (by decide) (fun c_1 => ?_) (fun c_1 => ?_)
    · skip
      have nc_1 : P ≤ k := xn_le (a := P) (b := k) (by omega) (by omega) c_1
      refine lv_iload_n hx hb dX1_nearestOf_55 rfl (lv_at hl 2 rfl) ?_
      exact W.iret (v := x) hx hb hr (fun t ht hW => ⟨x, rfl, (xoptp hx9), ht⟩) (fun q h => by cases h) dX1_nearestOf_56 hlk
    · skip
      have nc_1 : k < P := xn_nle (a := P) (b := k) (by omega) (by omega) c_1
      refine lv_aload_n hx hb dX1_nearestOf_17 rfl (lv_at hl 3 rfl) ?_
      refine lv_iload_n hx hb dX1_nearestOf_18 rfl (lv_at hl 4 rfl) ?_
      refine lv_iload hx hb dX1_nearestOf_19 (lv_at hl 0 rfl) ?_
      refine xc_Vr hF (c_X1_isOpen l D cI cJ cZ cS ta sa sv s.heap.size h0 ae al au ao ar ak aw att ass P j k d (by omega) (by omega)) kv_X1_65 ⟨rfl, rfl, Nat.le_of_ble_eq_true rfl, Nat.le_of_ble_eq_true rfl⟩ ⟨Nat.le_of_ble_eq_true rfl, Nat.le_of_ble_eq_true rfl⟩ hK hN hZ hP hD hS hA [0, 2] rfl rfl 0 rfl rfl rfl rfl hl.1 rfl (Nat.le_of_ble_eq_true rfl) dX1_nearestOf_21 (fun r_2 hw_r_2 => ?_)
      rcases hw_r_2 with ⟨rfl, h_3⟩ | ⟨rfl, h_4⟩
      · skip
        refine lv_if_eq (tgt := 49) hx hb dX1_nearestOf_24 (by decide) (fun c_5 => absurd c_5 (by decide)) (fun c_5 => ?_)
        refine lv_aload_n hx hb dX1_nearestOf_27 rfl (lv_at hl 3 rfl) ?_
        refine lv_iload_n hx hb dX1_nearestOf_28 rfl (lv_at hl 4 rfl) ?_
        refine lv_iload hx hb dX1_nearestOf_29 (lv_at hl 0 rfl) ?_
        refine xc_Vr hF (c_X1_lowOf l D cI cJ cZ cS ta sa sv s.heap.size h0 ae al au ao ar ak aw att ass P j k lo (by omega) (by omega)) kv_X1_74 ⟨rfl, rfl, Nat.le_of_ble_eq_true rfl, Nat.le_of_ble_eq_true rfl⟩ ⟨Nat.le_of_ble_eq_true rfl, Nat.le_of_ble_eq_true rfl⟩ hK hN hZ hP hD hS hA [0, 1] rfl rfl 0 rfl rfl rfl rfl hl.1 rfl (Nat.le_of_ble_eq_true rfl) dX1_nearestOf_31 (fun r_6 hw_r_6 => ?_)
        subst hw_r_6
        refine lv_iload_n hx hb dX1_nearestOf_34 rfl (lv_at hl 1 rfl) ?_
        refine lv_icmp_ge (tgt := 49) hx hb dX1_nearestOf_35 (by decide) (fun c_7 => ?_) (fun c_7 => ?_)
        · skip
          refine lv_iinc (v := nI (k + 1)) (lv' := [(4, .int (nI (k + 1))), (3, .int z), (2, .int x), (0, .ref h0), (1, .int (nI (j)))]) hx hb dX1_nearestOf_49 hl (k := 0) rfl (nI_1 (k)) (by decide) rfl (fun ls hl => ?_)
          refine lv_goto (tgt := 8) hx hb dX1_nearestOf_52 (by decide) ?_
          exact ih_8 (k + 1) x z _ (by omega) (by omega) hx9 (lv_sub hl [0, 1, 2, 3, 4] rfl)
        · skip
          refine lv_iload hx hb dX1_nearestOf_38 (lv_at hl 0 rfl) ?_
          refine lv_istore_n (lv' := [(2, .int (nI (k))), (4, .int (nI (k))), (3, .int z), (0, .ref h0), (1, .int (nI (j)))]) hx hb dX1_nearestOf_40 rfl hl (by decide) rfl (fun ls hl => ?_)
          refine lv_aload_n hx hb dX1_nearestOf_41 rfl (lv_at hl 3 rfl) ?_
          refine lv_iload_n hx hb dX1_nearestOf_42 rfl (lv_at hl 4 rfl) ?_
          refine lv_iload hx hb dX1_nearestOf_43 (lv_at hl 1 rfl) ?_
          refine xc_Vr hF (c_X1_lowOf l D cI cJ cZ cS ta sa sv s.heap.size h0 ae al au ao ar ak aw att ass P j k lo (by omega) (by omega)) kv_X1_74 ⟨rfl, rfl, Nat.le_of_ble_eq_true rfl, Nat.le_of_ble_eq_true rfl⟩ ⟨Nat.le_of_ble_eq_true rfl, Nat.le_of_ble_eq_true rfl⟩ hK hN hZ hP hD hS hA [0, 1] rfl rfl 0 rfl rfl rfl rfl hl.1 rfl (Nat.le_of_ble_eq_true rfl) dX1_nearestOf_45 (fun r_8 hw_r_8 => ?_)
          subst hw_r_8
          refine lv_istore_n (lv' := [(3, .int (lo (10 * j + k))), (2, .int (nI (k))), (4, .int (nI (k))), (0, .ref h0), (1, .int (nI (j)))]) hx hb dX1_nearestOf_48 rfl hl (by decide) rfl (fun ls hl => ?_)
          refine lv_iinc (v := nI (k + 1)) (lv' := [(4, .int (nI (k + 1))), (3, .int (lo (10 * j + k))), (2, .int (nI (k))), (0, .ref h0), (1, .int (nI (j)))]) hx hb dX1_nearestOf_49 hl (k := 2) rfl (nI_1 (k)) (by decide) rfl (fun ls hl => ?_)
          refine lv_goto (tgt := 8) hx hb dX1_nearestOf_52 (by decide) ?_
          exact ih_8 (k + 1) (nI (k)) (lo (10 * j + k)) _ (by omega) (by omega) (Or.inr ⟨(k), by omega, rfl⟩) (lv_sub hl [0, 1, 2, 3, 4] rfl)
      · skip
        refine lv_if_eq (tgt := 49) hx hb dX1_nearestOf_24 (by decide) (fun c_9 => ?_) (fun c_9 => absurd (by decide) c_9)
        refine lv_iinc (v := nI (k + 1)) (lv' := [(4, .int (nI (k + 1))), (3, .int z), (2, .int x), (0, .ref h0), (1, .int (nI (j)))]) hx hb dX1_nearestOf_49 hl (k := 0) rfl (nI_1 (k)) (by decide) rfl (fun ls hl => ?_)
        refine lv_goto (tgt := 8) hx hb dX1_nearestOf_52 (by decide) ?_
        exact ih_8 (k + 1) x z _ (by omega) (by omega) hx9 (lv_sub hl [0, 1, 2, 3, 4] rfl)
set_option maxHeartbeats 4000000 in
set_option maxRecDepth 100000 in
theorem c_X1_comesTo (l : Launch) (D : va_G) (cI cJ cZ cS : ClassId) (ta : Nat) (sa sv : Nat → Nat) (sz : Nat) (h0 : Nat) (ae : Nat) (al : Nat) (au : Nat) (ao : Nat) (ar : Nat) (ak : Nat) (aw : Nat) (att : Nat) (ass : Nat) (P : Nat) (lo : Nat → Int32) (d : Nat → Int32) (j : Nat) (w : Nat) (hP0 : P ≤ 10) (hj : j < P) (hw9 : w ≤ 1000) : Met l yX1_comesTo (Cond.code yX1_comesTo cX1_comesTo 5 (some .int) :: wsU) ({ frames := 3, cells := 0, slots := 0, locals := 67 }) (va_Pc [.ref h0, .int (nI (j)), .int (nI (w))] (XW D (xT cI cJ cZ cS) ta sa sv [(h0, .inr (1, [.int (nI (P)), .ref ae, .ref al, .ref au, .ref ao, .ref ar, .ref ak, .ref aw, .ref att, .ref ass])), (al, .inl (cI, 100, .inl lo)), (ao, .inl (cI, 100, .inl d))] sz)) (vp_Si (fun r : Int32 => (r = (-1)) ∨ (∃ (y : Nat), r = nI (y) ∧ (y < P)))) 0 0 (fun _ => False) := by
  refine xh (QA := fun _ => vp_Si (fun r : Int32 => (r = (-1)) ∨ (∃ (y : Nat), r = nI (y) ∧ (y < P)))) (fr := fun _ _ => False) (by decide) (Nat.le_of_ble_eq_true rfl) ?_
  intro p e s m below meth c ls A hF hr hlk hin hsz hP hK hD hN hZ hA hS hl
  have hF : CallFix p m c cX1_comesTo 5 s _ _ RX1 := hF
  have hx := hF.1
  have hb := hF.2.1
  have hml := hF.2.2.1
  have hown := hF.2.2.2.1
  have hu : ∀ w ∈ wsU, w.before _ s = true := fun w h => hF.2.2.2.2 w (List.mem_cons_of_mem _ h)
  have hl : lv_has ls 5 [(0, .ref h0), (1, .int (nI (j))), (2, .int (nI (w)))] := hl
  refine lv_iload_n hx hb dX1_comesTo_0 rfl (lv_at hl 1 rfl) ?_
  refine lv_istore_n (lv' := [(3, .int (nI (j))), (0, .ref h0), (1, .int (nI (j))), (2, .int (nI (w)))]) hx hb dX1_comesTo_1 rfl hl (by decide) rfl (fun ls hl => ?_)
  refine lv_iconst (v := 0) hx hb dX1_comesTo_2 (by decide) ?_
  refine lv_istore (lv' := [(4, .int 0), (3, .int (nI (j))), (0, .ref h0), (1, .int (nI (j))), (2, .int (nI (w)))]) hx hb dX1_comesTo_3 hl (by decide) rfl (fun ls hl => ?_)
  suffices loop_5 : ∀ (n_5 : Nat) (k : Nat) (x : Int32) (ls : Array Slot), w - k < n_5 → (k ≤ w) → (x = -1 ∨ ∃ y, y < P ∧ x = nI y) → lv_has ls 5 [(4, .int (nI (k))), (3, .int x), (0, .ref h0), (1, .int (nI (j))), (2, .int (nI (w)))] → W p l e ({ frames := 3, cells := 0, slots := 0, locals := 67 }) s m ([.ref h0, .int (nI (j)), .int (nI (w))] : List Value).toArray below meth c s.heap [] 0 0 (MQ below (vp_Si (fun r : Int32 => (r = (-1)) ∨ (∃ (y : Nat), r = nI (y) ∧ (y < P)))) ([.ref h0, .int (nI (j)), .int (nI (w))] : List Value).toArray s 0 0 (fun _ => False)) (F0 m 5 ls []) by
    exact loop_5 _ 0 (nI (j)) _ (Nat.lt_succ_self _) (by omega) (Or.inr ⟨(j), by omega, rfl⟩) (lv_sub hl [0, 1, 2, 3, 4] rfl)
  intro n_5
  induction n_5 with
  | zero =>
    intro k x ls hm_5
    exact absurd hm_5 (Nat.not_lt_zero _)
  | succ n_5 ih_5 =>
    intro k x ls hm_5 hk hx9 hl
    refine lv_iload hx hb dX1_comesTo_5 (lv_at hl 0 rfl) ?_
    refine lv_iload_n hx hb dX1_comesTo_7 rfl (lv_at hl 4 rfl) ?_
    refine lv_icmp_ge (tgt := 27) hx hb dX1_comesTo_8 (by decide) (fun c_1 => ?_) (fun c_1 => ?_)
    · skip
      have nc_1 : w ≤ k := xn_le (a := w) (b := k) (by omega) (by omega) c_1
      refine lv_iload_n hx hb dX1_comesTo_27 rfl (lv_at hl 1 rfl) ?_
      exact W.iret (v := x) hx hb hr (fun t ht hW => ⟨x, rfl, (xoptp hx9), ht⟩) (fun q h => by cases h) dX1_comesTo_28 hlk
    · skip
      have nc_1 : k < w := xn_nle (a := w) (b := k) (by omega) (by omega) c_1
      refine lv_iload_n hx hb dX1_comesTo_11 rfl (lv_at hl 1 rfl) ?_
      refine lv_if_lt (tgt := 27) hx hb dX1_comesTo_12 (by decide) (fun c_2 => ?_) (fun c_2 => ?_)
      · skip
        refine lv_iload_n hx hb dX1_comesTo_27 rfl (lv_at hl 1 rfl) ?_
        exact W.iret (v := x) hx hb hr (fun t ht hW => ⟨x, rfl, (xoptp hx9), ht⟩) (fun q h => by cases h) dX1_comesTo_28 hlk
      · skip
        obtain ⟨y_3, hy_3, rfl⟩ := xopt hx9 c_2
        refine lv_aload_n hx hb dX1_comesTo_15 rfl (lv_at hl 2 rfl) ?_
        refine lv_iload_n hx hb dX1_comesTo_16 rfl (lv_at hl 1 rfl) ?_
        refine xc_Vr hF (c_X1_nearestOf l D cI cJ cZ cS ta sa sv s.heap.size h0 ae al au ao ar ak aw att ass P lo d y_3 (by omega) (by omega)) kv_X1_77 ⟨rfl, rfl, Nat.le_of_ble_eq_true rfl, Nat.le_of_ble_eq_true rfl⟩ ⟨Nat.le_of_ble_eq_true rfl, Nat.le_of_ble_eq_true rfl⟩ hK hN hZ hP hD hS hA [0, 1, 2] rfl rfl 0 rfl rfl rfl rfl hl.1 rfl (Nat.le_of_ble_eq_true rfl) dX1_comesTo_17 (fun r_4 hw_r_4 => ?_)
        rcases hw_r_4 with rfl | ⟨y_5, rfl, h_6⟩
        · skip
          refine lv_istore_n (lv' := [(3, .int (-1)), (4, .int (nI (k))), (0, .ref h0), (1, .int (nI (j))), (2, .int (nI (w)))]) hx hb dX1_comesTo_20 rfl hl (by decide) rfl (fun ls hl => ?_)
          refine lv_iinc (v := nI (k + 1)) (lv' := [(4, .int (nI (k + 1))), (3, .int (-1)), (0, .ref h0), (1, .int (nI (j))), (2, .int (nI (w)))]) hx hb dX1_comesTo_21 hl (k := 1) rfl (nI_1 (k)) (by decide) rfl (fun ls hl => ?_)
          refine lv_goto (tgt := 5) hx hb dX1_comesTo_24 (by decide) ?_
          exact ih_5 (k + 1) (-1) _ (by omega) (by omega) (Or.inl rfl) (lv_sub hl [0, 1, 2, 3, 4] rfl)
        · skip
          refine lv_istore_n (lv' := [(3, .int (nI (y_5))), (4, .int (nI (k))), (0, .ref h0), (1, .int (nI (j))), (2, .int (nI (w)))]) hx hb dX1_comesTo_20 rfl hl (by decide) rfl (fun ls hl => ?_)
          refine lv_iinc (v := nI (k + 1)) (lv' := [(4, .int (nI (k + 1))), (3, .int (nI (y_5))), (0, .ref h0), (1, .int (nI (j))), (2, .int (nI (w)))]) hx hb dX1_comesTo_21 hl (k := 1) rfl (nI_1 (k)) (by decide) rfl (fun ls hl => ?_)
          refine lv_goto (tgt := 5) hx hb dX1_comesTo_24 (by decide) ?_
          exact ih_5 (k + 1) (nI (y_5)) _ (by omega) (by omega) (Or.inr ⟨(y_5), by omega, rfl⟩) (lv_sub hl [0, 1, 2, 3, 4] rfl)
set_option maxHeartbeats 4000000 in
set_option maxRecDepth 100000 in
theorem c_X1_hollowSet (l : Launch) (D : va_G) (cI cJ cZ cS : ClassId) (ta : Nat) (sa sv : Nat → Nat) (sz : Nat) (h0 : Nat) (ae : Nat) (al : Nat) (au : Nat) (ao : Nat) (ar : Nat) (ak : Nat) (aw : Nat) (att : Nat) (ass : Nat) (P : Nat) (lo : Nat → Int32) (d : Nat → Int32) (hP0 : P ≤ 10) : Met l yX1_hollowSet (Cond.code yX1_hollowSet cX1_hollowSet 5 (some .int) :: wsU) ({ frames := 4, cells := 0, slots := 0, locals := 91 }) (va_Pc [.ref h0] (XW D (xT cI cJ cZ cS) ta sa sv [(h0, .inr (1, [.int (nI (P)), .ref ae, .ref al, .ref au, .ref ao, .ref ar, .ref ak, .ref aw, .ref att, .ref ass])), (al, .inl (cI, 100, .inl lo)), (ao, .inl (cI, 100, .inl d))] sz)) (vp_Si (fun r : Int32 => True)) 0 0 (fun _ => False) := by
  refine xh (QA := fun _ => vp_Si (fun r : Int32 => True)) (fr := fun _ _ => False) (by decide) (Nat.le_of_ble_eq_true rfl) ?_
  intro p e s m below meth c ls A hF hr hlk hin hsz hP hK hD hN hZ hA hS hl
  have hF : CallFix p m c cX1_hollowSet 5 s _ _ RX1 := hF
  have hx := hF.1
  have hb := hF.2.1
  have hml := hF.2.2.1
  have hown := hF.2.2.2.1
  have hu : ∀ w ∈ wsU, w.before _ s = true := fun w h => hF.2.2.2.2 w (List.mem_cons_of_mem _ h)
  have hl : lv_has ls 5 [(0, .ref h0)] := hl
  refine lv_iconst (v := 0) hx hb dX1_hollowSet_0 (by decide) ?_
  refine lv_istore_n (lv' := [(1, .int 0), (0, .ref h0)]) hx hb dX1_hollowSet_1 rfl hl (by decide) rfl (fun ls hl => ?_)
  refine lv_iconst (v := 0) hx hb dX1_hollowSet_2 (by decide) ?_
  refine lv_istore_n (lv' := [(2, .int 0), (1, .int 0), (0, .ref h0)]) hx hb dX1_hollowSet_3 rfl hl (by decide) rfl (fun ls hl => ?_)
  suffices loop_4 : ∀ (n_4 : Nat) (k : Nat) (u : Int32) (ls : Array Slot), P - k < n_4 → (k ≤ P) → lv_has ls 5 [(2, .int (nI (k))), (1, .int u), (0, .ref h0)] → W p l e ({ frames := 4, cells := 0, slots := 0, locals := 91 }) s m ([.ref h0] : List Value).toArray below meth c s.heap [] 0 0 (MQ below (vp_Si (fun r : Int32 => True)) ([.ref h0] : List Value).toArray s 0 0 (fun _ => False)) (F0 m 4 ls []) by
    exact loop_4 _ 0 0 _ (Nat.lt_succ_self _) (by omega) (lv_sub hl [0, 1, 2] rfl)
  intro n_4
  induction n_4 with
  | zero =>
    intro k u ls hm_4
    exact absurd hm_4 (Nat.not_lt_zero _)
  | succ n_4 ih_4 =>
    intro k u ls hm_4 hk hl
    refine lv_iload_n hx hb dX1_hollowSet_4 rfl (lv_at hl 0 rfl) ?_
    refine lv_aload_n hx hb dX1_hollowSet_5 rfl (lv_at hl 2 rfl) ?_
    refine xg hF kf_X1_9 hK hP 0 rfl rfl dX1_hollowSet_6 ?_
    refine lv_icmp_ge (tgt := 62) hx hb dX1_hollowSet_9 (by decide) (fun c_1 => ?_) (fun c_1 => ?_)
    · skip
      have nc_1 : P ≤ k := xn_le (a := P) (b := k) (by omega) (by omega) c_1
      refine lv_iload_n hx hb dX1_hollowSet_62 rfl (lv_at hl 1 rfl) ?_
      exact W.iret (v := u) hx hb hr (fun t ht hW => ⟨u, rfl, trivial, ht⟩) (fun q h => by cases h) dX1_hollowSet_63 hlk
    · skip
      have nc_1 : k < P := xn_nle (a := P) (b := k) (by omega) (by omega) c_1
      refine lv_aload_n hx hb dX1_hollowSet_12 rfl (lv_at hl 2 rfl) ?_
      refine lv_iload_n hx hb dX1_hollowSet_13 rfl (lv_at hl 0 rfl) ?_
      refine lv_aload_n hx hb dX1_hollowSet_14 rfl (lv_at hl 2 rfl) ?_
      refine xg hF kf_X1_9 hK hP 0 rfl rfl dX1_hollowSet_15 ?_
      refine xc_Vr hF (c_X1_comesTo l D cI cJ cZ cS ta sa sv s.heap.size h0 ae al au ao ar ak aw att ass P lo d k P (by omega) (by omega) (by omega)) kv_X1_80 ⟨rfl, rfl, Nat.le_of_ble_eq_true rfl, Nat.le_of_ble_eq_true rfl⟩ ⟨Nat.le_of_ble_eq_true rfl, Nat.le_of_ble_eq_true rfl⟩ hK hN hZ hP hD hS hA [0, 1, 2] rfl rfl 0 rfl rfl rfl rfl hl.1 rfl (Nat.le_of_ble_eq_true rfl) dX1_hollowSet_18 (fun r_2 hw_r_2 => ?_)
      rcases hw_r_2 with rfl | ⟨y_3, rfl, h_4⟩
      · skip
        refine lv_istore_n (lv' := [(3, .int (-1)), (2, .int (nI (k))), (1, .int u), (0, .ref h0)]) hx hb dX1_hollowSet_21 rfl hl (by decide) rfl (fun ls hl => ?_)
        refine lv_iconst (v := 0) hx hb dX1_hollowSet_22 (by decide) ?_
        refine lv_istore (lv' := [(4, .int 0), (3, .int (-1)), (2, .int (nI (k))), (1, .int u), (0, .ref h0)]) hx hb dX1_hollowSet_23 hl (by decide) rfl (fun ls hl => ?_)
        suffices loop_25 : ∀ (n_25 : Nat) (i : Nat) (x : Int32) (v : Int32) (ls : Array Slot), P - i < n_25 → (i ≤ P) → (x = -1 ∨ ∃ y, y < P ∧ x = nI y) → lv_has ls 5 [(4, .int (nI (i))), (3, .int x), (2, .int (nI (k))), (1, .int v), (0, .ref h0)] → W p l e ({ frames := 4, cells := 0, slots := 0, locals := 91 }) s m ([.ref h0] : List Value).toArray below meth c s.heap [] 0 0 (MQ below (vp_Si (fun r : Int32 => True)) ([.ref h0] : List Value).toArray s 0 0 (fun _ => False)) (F0 m 25 ls []) by
          exact loop_25 _ 0 (-1) u _ (Nat.lt_succ_self _) (by omega) (Or.inl rfl) (lv_sub hl [0, 1, 2, 3, 4] rfl)
        intro n_25
        induction n_25 with
        | zero =>
          intro i x v ls hm_25
          exact absurd hm_25 (Nat.not_lt_zero _)
        | succ n_25 ih_25 =>
          intro i x v ls hm_25 hi hx9 hl
          refine lv_iload hx hb dX1_hollowSet_25 (lv_at hl 0 rfl) ?_
          refine lv_aload_n hx hb dX1_hollowSet_27 rfl (lv_at hl 4 rfl) ?_
          refine xg hF kf_X1_9 hK hP 0 rfl rfl dX1_hollowSet_28 ?_
          refine lv_icmp_ge (tgt := 56) hx hb dX1_hollowSet_31 (by decide) (fun c_5 => ?_) (fun c_5 => ?_)
          · skip
            have nc_5 : P ≤ i := xn_le (a := P) (b := i) (by omega) (by omega) c_5
            refine lv_iinc (v := nI (k + 1)) (lv' := [(2, .int (nI (k + 1))), (4, .int (nI (i))), (3, .int x), (1, .int v), (0, .ref h0)]) hx hb dX1_hollowSet_56 hl (k := 2) rfl (nI_1 (k)) (by decide) rfl (fun ls hl => ?_)
            refine lv_goto (tgt := 4) hx hb dX1_hollowSet_59 (by decide) ?_
            exact ih_4 (k + 1) v _ (by omega) (by omega) (lv_sub hl [0, 3, 4] rfl)
          · skip
            have nc_5 : i < P := xn_nle (a := P) (b := i) (by omega) (by omega) c_5
            refine lv_iload_n hx hb dX1_hollowSet_34 rfl (lv_at hl 1 rfl) ?_
            refine lv_if_lt (tgt := 56) hx hb dX1_hollowSet_35 (by decide) (fun c_6 => ?_) (fun c_6 => ?_)
            · skip
              refine lv_iinc (v := nI (k + 1)) (lv' := [(2, .int (nI (k + 1))), (4, .int (nI (i))), (3, .int x), (1, .int v), (0, .ref h0)]) hx hb dX1_hollowSet_56 hl (k := 2) rfl (nI_1 (k)) (by decide) rfl (fun ls hl => ?_)
              refine lv_goto (tgt := 4) hx hb dX1_hollowSet_59 (by decide) ?_
              exact ih_4 (k + 1) v _ (by omega) (by omega) (lv_sub hl [0, 3, 4] rfl)
            · skip
              obtain ⟨y_7, hy_7, rfl⟩ := xopt hx9 c_6
              refine lv_iload_n hx hb dX1_hollowSet_38 rfl (lv_at hl 3 rfl) ?_
              refine lv_iconst (v := 1) hx hb dX1_hollowSet_39 (by decide) ?_
              refine lv_iload_n hx hb dX1_hollowSet_40 rfl (lv_at hl 1 rfl) ?_
              refine lv_ishl hx hb dX1_hollowSet_41 ?_
              refine lv_topi (fun x_8 ex_8 => ?_)
              refine lv_ior hx hb dX1_hollowSet_42 ?_
              refine lv_topi (fun x_9 ex_9 => ?_)
              refine lv_istore_n (lv' := [(1, .int x_9), (4, .int (nI (i))), (3, .int (nI (y_7))), (2, .int (nI (k))), (0, .ref h0)]) hx hb dX1_hollowSet_43 rfl hl (by decide) rfl (fun ls hl => ?_)
              refine lv_aload_n hx hb dX1_hollowSet_44 rfl (lv_at hl 4 rfl) ?_
              refine lv_iload_n hx hb dX1_hollowSet_45 rfl (lv_at hl 2 rfl) ?_
              refine xc_Vr hF (c_X1_nearestOf l D cI cJ cZ cS ta sa sv s.heap.size h0 ae al au ao ar ak aw att ass P lo d y_7 (by omega) (by omega)) kv_X1_77 ⟨rfl, rfl, Nat.le_of_ble_eq_true rfl, Nat.le_of_ble_eq_true rfl⟩ ⟨Nat.le_of_ble_eq_true rfl, Nat.le_of_ble_eq_true rfl⟩ hK hN hZ hP hD hS hA [0, 1, 2] rfl rfl 0 rfl rfl rfl rfl hl.1 rfl (Nat.le_of_ble_eq_true rfl) dX1_hollowSet_46 (fun r_10 hw_r_10 => ?_)
              rcases hw_r_10 with rfl | ⟨y_11, rfl, h_12⟩
              · skip
                refine lv_istore_n (lv' := [(3, .int (-1)), (1, .int x_9), (4, .int (nI (i))), (2, .int (nI (k))), (0, .ref h0)]) hx hb dX1_hollowSet_49 rfl hl (by decide) rfl (fun ls hl => ?_)
                refine lv_iinc (v := nI (i + 1)) (lv' := [(4, .int (nI (i + 1))), (3, .int (-1)), (1, .int x_9), (2, .int (nI (k))), (0, .ref h0)]) hx hb dX1_hollowSet_50 hl (k := 2) rfl (nI_1 (i)) (by decide) rfl (fun ls hl => ?_)
                refine lv_goto (tgt := 25) hx hb dX1_hollowSet_53 (by decide) ?_
                exact ih_25 (i + 1) (-1) x_9 _ (by omega) (by omega) (Or.inl rfl) (lv_sub hl [0, 1, 3, 2, 4] rfl)
              · skip
                refine lv_istore_n (lv' := [(3, .int (nI (y_11))), (1, .int x_9), (4, .int (nI (i))), (2, .int (nI (k))), (0, .ref h0)]) hx hb dX1_hollowSet_49 rfl hl (by decide) rfl (fun ls hl => ?_)
                refine lv_iinc (v := nI (i + 1)) (lv' := [(4, .int (nI (i + 1))), (3, .int (nI (y_11))), (1, .int x_9), (2, .int (nI (k))), (0, .ref h0)]) hx hb dX1_hollowSet_50 hl (k := 2) rfl (nI_1 (i)) (by decide) rfl (fun ls hl => ?_)
                refine lv_goto (tgt := 25) hx hb dX1_hollowSet_53 (by decide) ?_
                exact ih_25 (i + 1) (nI (y_11)) x_9 _ (by omega) (by omega) (Or.inr ⟨(y_11), by omega, rfl⟩) (lv_sub hl [0, 1, 3, 2, 4] rfl)
      · skip
        refine lv_istore_n (lv' := [(3, .int (nI (y_3))), (2, .int (nI (k))), (1, .int u), (0, .ref h0)]) hx hb dX1_hollowSet_21 rfl hl (by decide) rfl (fun ls hl => ?_)
        refine lv_iconst (v := 0) hx hb dX1_hollowSet_22 (by decide) ?_
        refine lv_istore (lv' := [(4, .int 0), (3, .int (nI (y_3))), (2, .int (nI (k))), (1, .int u), (0, .ref h0)]) hx hb dX1_hollowSet_23 hl (by decide) rfl (fun ls hl => ?_)
        suffices loop_25 : ∀ (n_25 : Nat) (i : Nat) (x : Int32) (v : Int32) (ls : Array Slot), P - i < n_25 → (i ≤ P) → (x = -1 ∨ ∃ y, y < P ∧ x = nI y) → lv_has ls 5 [(4, .int (nI (i))), (3, .int x), (2, .int (nI (k))), (1, .int v), (0, .ref h0)] → W p l e ({ frames := 4, cells := 0, slots := 0, locals := 91 }) s m ([.ref h0] : List Value).toArray below meth c s.heap [] 0 0 (MQ below (vp_Si (fun r : Int32 => True)) ([.ref h0] : List Value).toArray s 0 0 (fun _ => False)) (F0 m 25 ls []) by
          exact loop_25 _ 0 (nI (y_3)) u _ (Nat.lt_succ_self _) (by omega) (Or.inr ⟨(y_3), by omega, rfl⟩) (lv_sub hl [0, 1, 2, 3, 4] rfl)
        intro n_25
        induction n_25 with
        | zero =>
          intro i x v ls hm_25
          exact absurd hm_25 (Nat.not_lt_zero _)
        | succ n_25 ih_25 =>
          intro i x v ls hm_25 hi hx9 hl
          refine lv_iload hx hb dX1_hollowSet_25 (lv_at hl 0 rfl) ?_
          refine lv_aload_n hx hb dX1_hollowSet_27 rfl (lv_at hl 4 rfl) ?_
          refine xg hF kf_X1_9 hK hP 0 rfl rfl dX1_hollowSet_28 ?_
          refine lv_icmp_ge (tgt := 56) hx hb dX1_hollowSet_31 (by decide) (fun c_13 => ?_) (fun c_13 => ?_)
          · skip
            have nc_13 : P ≤ i := xn_le (a := P) (b := i) (by omega) (by omega) c_13
            refine lv_iinc (v := nI (k + 1)) (lv' := [(2, .int (nI (k + 1))), (4, .int (nI (i))), (3, .int x), (1, .int v), (0, .ref h0)]) hx hb dX1_hollowSet_56 hl (k := 2) rfl (nI_1 (k)) (by decide) rfl (fun ls hl => ?_)
            refine lv_goto (tgt := 4) hx hb dX1_hollowSet_59 (by decide) ?_
            exact ih_4 (k + 1) v _ (by omega) (by omega) (lv_sub hl [0, 3, 4] rfl)
          · skip
            have nc_13 : i < P := xn_nle (a := P) (b := i) (by omega) (by omega) c_13
            refine lv_iload_n hx hb dX1_hollowSet_34 rfl (lv_at hl 1 rfl) ?_
            refine lv_if_lt (tgt := 56) hx hb dX1_hollowSet_35 (by decide) (fun c_14 => ?_) (fun c_14 => ?_)
            · skip
              refine lv_iinc (v := nI (k + 1)) (lv' := [(2, .int (nI (k + 1))), (4, .int (nI (i))), (3, .int x), (1, .int v), (0, .ref h0)]) hx hb dX1_hollowSet_56 hl (k := 2) rfl (nI_1 (k)) (by decide) rfl (fun ls hl => ?_)
              refine lv_goto (tgt := 4) hx hb dX1_hollowSet_59 (by decide) ?_
              exact ih_4 (k + 1) v _ (by omega) (by omega) (lv_sub hl [0, 3, 4] rfl)
            · skip
              obtain ⟨y_15, hy_15, rfl⟩ := xopt hx9 c_14
              refine lv_iload_n hx hb dX1_hollowSet_38 rfl (lv_at hl 3 rfl) ?_
              refine lv_iconst (v := 1) hx hb dX1_hollowSet_39 (by decide) ?_
              refine lv_iload_n hx hb dX1_hollowSet_40 rfl (lv_at hl 1 rfl) ?_
              refine lv_ishl hx hb dX1_hollowSet_41 ?_
              refine lv_topi (fun x_16 ex_16 => ?_)
              refine lv_ior hx hb dX1_hollowSet_42 ?_
              refine lv_topi (fun x_17 ex_17 => ?_)
              refine lv_istore_n (lv' := [(1, .int x_17), (4, .int (nI (i))), (3, .int (nI (y_15))), (2, .int (nI (k))), (0, .ref h0)]) hx hb dX1_hollowSet_43 rfl hl (by decide) rfl (fun ls hl => ?_)
              refine lv_aload_n hx hb dX1_hollowSet_44 rfl (lv_at hl 4 rfl) ?_
              refine lv_iload_n hx hb dX1_hollowSet_45 rfl (lv_at hl 2 rfl) ?_
              refine xc_Vr hF (c_X1_nearestOf l D cI cJ cZ cS ta sa sv s.heap.size h0 ae al au ao ar ak aw att ass P lo d y_15 (by omega) (by omega)) kv_X1_77 ⟨rfl, rfl, Nat.le_of_ble_eq_true rfl, Nat.le_of_ble_eq_true rfl⟩ ⟨Nat.le_of_ble_eq_true rfl, Nat.le_of_ble_eq_true rfl⟩ hK hN hZ hP hD hS hA [0, 1, 2] rfl rfl 0 rfl rfl rfl rfl hl.1 rfl (Nat.le_of_ble_eq_true rfl) dX1_hollowSet_46 (fun r_18 hw_r_18 => ?_)
              rcases hw_r_18 with rfl | ⟨y_19, rfl, h_20⟩
              · skip
                refine lv_istore_n (lv' := [(3, .int (-1)), (1, .int x_17), (4, .int (nI (i))), (2, .int (nI (k))), (0, .ref h0)]) hx hb dX1_hollowSet_49 rfl hl (by decide) rfl (fun ls hl => ?_)
                refine lv_iinc (v := nI (i + 1)) (lv' := [(4, .int (nI (i + 1))), (3, .int (-1)), (1, .int x_17), (2, .int (nI (k))), (0, .ref h0)]) hx hb dX1_hollowSet_50 hl (k := 2) rfl (nI_1 (i)) (by decide) rfl (fun ls hl => ?_)
                refine lv_goto (tgt := 25) hx hb dX1_hollowSet_53 (by decide) ?_
                exact ih_25 (i + 1) (-1) x_17 _ (by omega) (by omega) (Or.inl rfl) (lv_sub hl [0, 1, 3, 2, 4] rfl)
              · skip
                refine lv_istore_n (lv' := [(3, .int (nI (y_19))), (1, .int x_17), (4, .int (nI (i))), (2, .int (nI (k))), (0, .ref h0)]) hx hb dX1_hollowSet_49 rfl hl (by decide) rfl (fun ls hl => ?_)
                refine lv_iinc (v := nI (i + 1)) (lv' := [(4, .int (nI (i + 1))), (3, .int (nI (y_19))), (1, .int x_17), (2, .int (nI (k))), (0, .ref h0)]) hx hb dX1_hollowSet_50 hl (k := 2) rfl (nI_1 (i)) (by decide) rfl (fun ls hl => ?_)
                refine lv_goto (tgt := 25) hx hb dX1_hollowSet_53 (by decide) ?_
                exact ih_25 (i + 1) (nI (y_19)) x_17 _ (by omega) (by omega) (Or.inr ⟨(y_19), by omega, rfl⟩) (lv_sub hl [0, 1, 3, 2, 4] rfl)
set_option maxHeartbeats 4000000 in
set_option maxRecDepth 100000 in
theorem c_X1_addRound (l : Launch) (D : va_G) (cI cJ cZ cS : ClassId) (ta : Nat) (sa sv : Nat → Nat) (sz : Nat) (h0 : Nat) (ae : Nat) (al : Nat) (au : Nat) (ao : Nat) (ar : Nat) (ak : Nat) (aw : Nat) (att : Nat) (ass : Nat) (P : Nat) (an : Nat) (ap : Nat) (cn : Nat) (j : Nat) (ln : Nat → Int32) (sp : Nat → Int32) (ki : Nat → Int32) (p0 : Int32) (hc : cn < 8) (hj : j < 10) (hln : BA 8 7 ln) (hsp : BA 48 10 sp) : Met l yX1_addRound (Cond.code yX1_addRound cX1_addRound 4 (some .int) :: wsU) ({ frames := 2, cells := 0, slots := 0, locals := 44 }) (va_Pc [.ref h0, .int p0, .int (nI (j))] (XW D (xT cI cJ cZ cS) ta sa sv [(h0, .inr (1, [.int (nI (P)), .ref ae, .ref al, .ref au, .ref ao, .ref ar, .ref ak, .ref aw, .ref att, .ref ass])), (ar, .inr (3, [.int (nI (cn)), .ref an, .ref ap])), (an, .inl (cI, 8, .inl ln)), (ap, .inl (cI, 48, .inl sp)), (ak, .inl (cI, 8, .inl ki))] sz)) (XQi (fun (r : Int32) (u : (Nat → Int32) × (Nat → Int32) × (Nat → Int32)) => match u with | (l2, s2, k2) => ((r = nI (cn))) ∧ (BA 8 7 l2) ∧ (BA 48 10 s2) ∧ (l2 = upd (upd ln cn 0) cn (nI (0 + 1))) ∧ (s2 = upd sp (cn * 6 + 0) (nI j)) ∧ (k2 = upd ki cn p0)) D (fun (u : (Nat → Int32) × (Nat → Int32) × (Nat → Int32)) => match u with | (l2, s2, k2) => [(h0, .inr (1, [.int (nI (P)), .ref ae, .ref al, .ref au, .ref ao, .ref ar, .ref ak, .ref aw, .ref att, .ref ass])), (ar, .inr (3, [.int (nI (cn + 1)), .ref an, .ref ap])), (an, .inl (cI, 8, .inl l2)), (ap, .inl (cI, 48, .inl s2)), (ak, .inl (cI, 8, .inl k2))]) (va_A [(h0, .inr (1, [.int (nI (P)), .ref ae, .ref al, .ref au, .ref ao, .ref ar, .ref ak, .ref aw, .ref att, .ref ass])), (ar, .inr (3, [.int (nI (cn)), .ref an, .ref ap])), (an, .inl (cI, 8, .inl ln)), (ap, .inl (cI, 48, .inl sp)), (ak, .inl (cI, 8, .inl ki))] sz)) 0 0 (va_A [(h0, .inr (1, [.int (nI (P)), .ref ae, .ref al, .ref au, .ref ao, .ref ar, .ref ak, .ref aw, .ref att, .ref ass])), (ar, .inr (3, [.int (nI (cn)), .ref an, .ref ap])), (an, .inl (cI, 8, .inl ln)), (ap, .inl (cI, 48, .inl sp)), (ak, .inl (cI, 8, .inl ki))] sz) := by
  refine xh (QA := fun A => XQi (fun (r : Int32) (u : (Nat → Int32) × (Nat → Int32) × (Nat → Int32)) => match u with | (l2, s2, k2) => ((r = nI (cn))) ∧ (BA 8 7 l2) ∧ (BA 48 10 s2) ∧ (l2 = upd (upd ln cn 0) cn (nI (0 + 1))) ∧ (s2 = upd sp (cn * 6 + 0) (nI j)) ∧ (k2 = upd ki cn p0)) D (fun (u : (Nat → Int32) × (Nat → Int32) × (Nat → Int32)) => match u with | (l2, s2, k2) => [(h0, .inr (1, [.int (nI (P)), .ref ae, .ref al, .ref au, .ref ao, .ref ar, .ref ak, .ref aw, .ref att, .ref ass])), (ar, .inr (3, [.int (nI (cn + 1)), .ref an, .ref ap])), (an, .inl (cI, 8, .inl l2)), (ap, .inl (cI, 48, .inl s2)), (ak, .inl (cI, 8, .inl k2))]) A) (fr := fun A => A) (by decide) (Nat.le_of_ble_eq_true rfl) ?_
  intro p e s m below meth c ls A hF hr hlk hin hsz hP hK hD hN hZ hA hS hl
  have hF : CallFix p m c cX1_addRound 4 s _ _ RX1 := hF
  have hx := hF.1
  have hb := hF.2.1
  have hml := hF.2.2.1
  have hown := hF.2.2.2.1
  have hu : ∀ w ∈ wsU, w.before _ s = true := fun w h => hF.2.2.2.2 w (List.mem_cons_of_mem _ h)
  have hl : lv_has ls 4 [(0, .ref h0), (1, .int p0), (2, .int (nI (j)))] := hl
  refine lv_aload_n hx hb dX1_addRound_0 rfl (lv_at hl 0 rfl) ?_
  refine xg hF kf_X1_31 hK hP 0 rfl rfl dX1_addRound_1 ?_
  refine lv_iload_n hx hb dX1_addRound_4 rfl (lv_at hl 2 rfl) ?_
  refine xc_Vi (wr := [(h0, .inr (1, [.int (nI (P)), .ref ae, .ref al, .ref au, .ref ao, .ref ar, .ref ak, .ref aw, .ref att, .ref ass])), (ak, .inl (cI, 8, .inl ki))]) hF (c_X3_begin l D cI cJ cZ cS ta sa sv s.heap.size ar an ap cn j ln sp (by omega) (by omega) hln hsp) kv_X1_69 ⟨rfl, rfl, Nat.le_of_ble_eq_true rfl, Nat.le_of_ble_eq_true rfl⟩ ⟨Nat.le_of_ble_eq_true rfl, Nat.le_of_ble_eq_true rfl⟩ hK hN hZ hP hD hS hA [1, 2, 3] [0, 4] rfl rfl rfl rfl (by decide) 0 rfl rfl rfl rfl hl.1 rfl (Nat.le_of_ble_eq_true rfl) dX1_addRound_5 (fun r_1 u_r_1 H locs hw_r_1 hP hD hS => ?_)
  obtain ⟨l2_2, s2_3⟩ := u_r_1
  try dsimp only at hw_r_1
  obtain ⟨hw_r_1, i_4, i_5, i_6, i_7⟩ := hw_r_1
  have hP : va_P D vwCl [(h0, .inr (1, [.int (nI (P)), .ref ae, .ref al, .ref au, .ref ao, .ref ar, .ref ak, .ref aw, .ref att, .ref ass])), (ak, .inl (cI, 8, .inl ki)), (ar, .inr (3, [.int (nI (cn + 1)), .ref an, .ref ap])), (an, .inl (cI, 8, .inl l2_2)), (ap, .inl (cI, 48, .inl s2_3))] H := hP
  have hD : va_D A [(h0, .inr (1, [.int (nI (P)), .ref ae, .ref al, .ref au, .ref ao, .ref ar, .ref ak, .ref aw, .ref att, .ref ass])), (ak, .inl (cI, 8, .inl ki)), (ar, .inr (3, [.int (nI (cn + 1)), .ref an, .ref ap])), (an, .inl (cI, 8, .inl l2_2)), (ap, .inl (cI, 48, .inl s2_3))] := hD
  subst hw_r_1
  refine lv_istore_n (lv' := [(3, .int (nI (cn))), (0, .ref h0), (1, .int p0), (2, .int (nI (j)))]) hx hb dX1_addRound_8 rfl hl (by decide) rfl (fun ls hl => ?_)
  refine lv_aload_n hx hb dX1_addRound_9 rfl (lv_at hl 1 rfl) ?_
  refine xg hF kf_X1_35 hK hP 0 rfl rfl dX1_addRound_10 ?_
  refine lv_iload_n hx hb dX1_addRound_13 rfl (lv_at hl 0 rfl) ?_
  refine lv_iload_n hx hb dX1_addRound_14 rfl (lv_at hl 2 rfl) ?_
  refine va_iast hx hb hK hP hD hS 1 0 rfl rfl (vp_in_nI (show cn < 8 by omega) (by decide)) dX1_addRound_15 (fun H locs hP hD hS => ?_)
  rw [nI_clamp (show cn < 2 ^ 31 by omega)] at hP hD
  obtain ⟨f_8, ef_8⟩ : ∃ g, g = upd ki cn p0 := ⟨_, rfl⟩
  rw [← ef_8] at hP hD
  have hP : va_P D vwCl [(h0, .inr (1, [.int (nI (P)), .ref ae, .ref al, .ref au, .ref ao, .ref ar, .ref ak, .ref aw, .ref att, .ref ass])), (ak, .inl (cI, 8, .inl f_8)), (ar, .inr (3, [.int (nI (cn + 1)), .ref an, .ref ap])), (an, .inl (cI, 8, .inl l2_2)), (ap, .inl (cI, 48, .inl s2_3))] H := hP
  have hD : va_D A [(h0, .inr (1, [.int (nI (P)), .ref ae, .ref al, .ref au, .ref ao, .ref ar, .ref ak, .ref aw, .ref att, .ref ass])), (ak, .inl (cI, 8, .inl f_8)), (ar, .inr (3, [.int (nI (cn + 1)), .ref an, .ref ap])), (an, .inl (cI, 8, .inl l2_2)), (ap, .inl (cI, 48, .inl s2_3))] := hD
  refine lv_iload_n hx hb dX1_addRound_16 rfl (lv_at hl 0 rfl) ?_
  exact W.iret (v := nI (cn)) hx hb hr (fun t ht hW => ⟨⟨nI (cn), (l2_2, s2_3, f_8), rfl, ⟨(by first | exact rfl), i_4, i_5, (by first | assumption | omega), (by first | assumption | omega), (by first | assumption | omega)⟩, by rw [ht]; exact hP.sub [0, 2, 3, 4, 1] rfl, hD.sub [0, 2, 3, 4, 1] (by decide +kernel) rfl⟩, hS.F ht⟩) hS.2.2 dX1_addRound_17 hlk
set_option maxHeartbeats 4000000 in
set_option maxRecDepth 100000 in
theorem c_X1_addWalk (l : Launch) (D : va_G) (cI cJ cZ cS : ClassId) (ta : Nat) (sa sv : Nat → Nat) (sz : Nat) (h0 : Nat) (ae : Nat) (al : Nat) (au : Nat) (ao : Nat) (ar : Nat) (ak : Nat) (aw : Nat) (att : Nat) (ass : Nat) (P : Nat) (an : Nat) (ap : Nat) (cn : Nat) (j : Nat) (ln : Nat → Int32) (sp : Nat → Int32) (to9 : Nat → Int32) (sl : Nat → Int32) (p0 : Int32) (p1 : Int32) (hc : cn < 8) (hj : j < 10) (hln : BA 8 7 ln) (hsp : BA 48 10 sp) : Met l yX1_addWalk (Cond.code yX1_addWalk cX1_addWalk 5 (some .int) :: wsU) ({ frames := 2, cells := 0, slots := 0, locals := 44 }) (va_Pc [.ref h0, .int (nI (j)), .int p0, .int p1] (XW D (xT cI cJ cZ cS) ta sa sv [(h0, .inr (1, [.int (nI (P)), .ref ae, .ref al, .ref au, .ref ao, .ref ar, .ref ak, .ref aw, .ref att, .ref ass])), (aw, .inr (3, [.int (nI (cn)), .ref an, .ref ap])), (an, .inl (cI, 8, .inl ln)), (ap, .inl (cI, 48, .inl sp)), (att, .inl (cI, 8, .inl to9)), (ass, .inl (cI, 8, .inl sl))] sz)) (XQi (fun (r : Int32) (u : (Nat → Int32) × (Nat → Int32) × (Nat → Int32) × (Nat → Int32)) => match u with | (l2, s2, t2, z2) => ((r = nI (cn))) ∧ (BA 8 7 l2) ∧ (BA 48 10 s2) ∧ (l2 = upd (upd ln cn 0) cn (nI (0 + 1))) ∧ (s2 = upd sp (cn * 6 + 0) (nI j)) ∧ (t2 = upd to9 cn p0) ∧ (z2 = upd sl cn p1)) D (fun (u : (Nat → Int32) × (Nat → Int32) × (Nat → Int32) × (Nat → Int32)) => match u with | (l2, s2, t2, z2) => [(h0, .inr (1, [.int (nI (P)), .ref ae, .ref al, .ref au, .ref ao, .ref ar, .ref ak, .ref aw, .ref att, .ref ass])), (aw, .inr (3, [.int (nI (cn + 1)), .ref an, .ref ap])), (an, .inl (cI, 8, .inl l2)), (ap, .inl (cI, 48, .inl s2)), (att, .inl (cI, 8, .inl t2)), (ass, .inl (cI, 8, .inl z2))]) (va_A [(h0, .inr (1, [.int (nI (P)), .ref ae, .ref al, .ref au, .ref ao, .ref ar, .ref ak, .ref aw, .ref att, .ref ass])), (aw, .inr (3, [.int (nI (cn)), .ref an, .ref ap])), (an, .inl (cI, 8, .inl ln)), (ap, .inl (cI, 48, .inl sp)), (att, .inl (cI, 8, .inl to9)), (ass, .inl (cI, 8, .inl sl))] sz)) 0 0 (va_A [(h0, .inr (1, [.int (nI (P)), .ref ae, .ref al, .ref au, .ref ao, .ref ar, .ref ak, .ref aw, .ref att, .ref ass])), (aw, .inr (3, [.int (nI (cn)), .ref an, .ref ap])), (an, .inl (cI, 8, .inl ln)), (ap, .inl (cI, 48, .inl sp)), (att, .inl (cI, 8, .inl to9)), (ass, .inl (cI, 8, .inl sl))] sz) := by
  refine xh (QA := fun A => XQi (fun (r : Int32) (u : (Nat → Int32) × (Nat → Int32) × (Nat → Int32) × (Nat → Int32)) => match u with | (l2, s2, t2, z2) => ((r = nI (cn))) ∧ (BA 8 7 l2) ∧ (BA 48 10 s2) ∧ (l2 = upd (upd ln cn 0) cn (nI (0 + 1))) ∧ (s2 = upd sp (cn * 6 + 0) (nI j)) ∧ (t2 = upd to9 cn p0) ∧ (z2 = upd sl cn p1)) D (fun (u : (Nat → Int32) × (Nat → Int32) × (Nat → Int32) × (Nat → Int32)) => match u with | (l2, s2, t2, z2) => [(h0, .inr (1, [.int (nI (P)), .ref ae, .ref al, .ref au, .ref ao, .ref ar, .ref ak, .ref aw, .ref att, .ref ass])), (aw, .inr (3, [.int (nI (cn + 1)), .ref an, .ref ap])), (an, .inl (cI, 8, .inl l2)), (ap, .inl (cI, 48, .inl s2)), (att, .inl (cI, 8, .inl t2)), (ass, .inl (cI, 8, .inl z2))]) A) (fr := fun A => A) (by decide) (Nat.le_of_ble_eq_true rfl) ?_
  intro p e s m below meth c ls A hF hr hlk hin hsz hP hK hD hN hZ hA hS hl
  have hF : CallFix p m c cX1_addWalk 5 s _ _ RX1 := hF
  have hx := hF.1
  have hb := hF.2.1
  have hml := hF.2.2.1
  have hown := hF.2.2.2.1
  have hu : ∀ w ∈ wsU, w.before _ s = true := fun w h => hF.2.2.2.2 w (List.mem_cons_of_mem _ h)
  have hl : lv_has ls 5 [(0, .ref h0), (1, .int (nI (j))), (2, .int p0), (3, .int p1)] := hl
  refine lv_aload_n hx hb dX1_addWalk_0 rfl (lv_at hl 0 rfl) ?_
  refine xg hF kf_X1_38 hK hP 0 rfl rfl dX1_addWalk_1 ?_
  refine lv_iload_n hx hb dX1_addWalk_4 rfl (lv_at hl 1 rfl) ?_
  refine xc_Vi (wr := [(h0, .inr (1, [.int (nI (P)), .ref ae, .ref al, .ref au, .ref ao, .ref ar, .ref ak, .ref aw, .ref att, .ref ass])), (att, .inl (cI, 8, .inl to9)), (ass, .inl (cI, 8, .inl sl))]) hF (c_X3_begin l D cI cJ cZ cS ta sa sv s.heap.size aw an ap cn j ln sp (by omega) (by omega) hln hsp) kv_X1_69 ⟨rfl, rfl, Nat.le_of_ble_eq_true rfl, Nat.le_of_ble_eq_true rfl⟩ ⟨Nat.le_of_ble_eq_true rfl, Nat.le_of_ble_eq_true rfl⟩ hK hN hZ hP hD hS hA [1, 2, 3] [0, 4, 5] rfl rfl rfl rfl (by decide) 0 rfl rfl rfl rfl hl.1 rfl (Nat.le_of_ble_eq_true rfl) dX1_addWalk_5 (fun r_1 u_r_1 H locs hw_r_1 hP hD hS => ?_)
  obtain ⟨l2_2, s2_3⟩ := u_r_1
  try dsimp only at hw_r_1
  obtain ⟨hw_r_1, i_4, i_5, i_6, i_7⟩ := hw_r_1
  have hP : va_P D vwCl [(h0, .inr (1, [.int (nI (P)), .ref ae, .ref al, .ref au, .ref ao, .ref ar, .ref ak, .ref aw, .ref att, .ref ass])), (att, .inl (cI, 8, .inl to9)), (ass, .inl (cI, 8, .inl sl)), (aw, .inr (3, [.int (nI (cn + 1)), .ref an, .ref ap])), (an, .inl (cI, 8, .inl l2_2)), (ap, .inl (cI, 48, .inl s2_3))] H := hP
  have hD : va_D A [(h0, .inr (1, [.int (nI (P)), .ref ae, .ref al, .ref au, .ref ao, .ref ar, .ref ak, .ref aw, .ref att, .ref ass])), (att, .inl (cI, 8, .inl to9)), (ass, .inl (cI, 8, .inl sl)), (aw, .inr (3, [.int (nI (cn + 1)), .ref an, .ref ap])), (an, .inl (cI, 8, .inl l2_2)), (ap, .inl (cI, 48, .inl s2_3))] := hD
  subst hw_r_1
  refine lv_istore (lv' := [(4, .int (nI (cn))), (0, .ref h0), (1, .int (nI (j))), (2, .int p0), (3, .int p1)]) hx hb dX1_addWalk_8 hl (by decide) rfl (fun ls hl => ?_)
  refine lv_aload_n hx hb dX1_addWalk_10 rfl (lv_at hl 1 rfl) ?_
  refine xg hF kf_X1_41 hK hP 0 rfl rfl dX1_addWalk_11 ?_
  refine lv_iload hx hb dX1_addWalk_14 (lv_at hl 0 rfl) ?_
  refine lv_iload_n hx hb dX1_addWalk_16 rfl (lv_at hl 3 rfl) ?_
  refine va_iast hx hb hK hP hD hS 1 0 rfl rfl (vp_in_nI (show cn < 8 by omega) (by decide)) dX1_addWalk_17 (fun H locs hP hD hS => ?_)
  rw [nI_clamp (show cn < 2 ^ 31 by omega)] at hP hD
  obtain ⟨f_8, ef_8⟩ : ∃ g, g = upd to9 cn p0 := ⟨_, rfl⟩
  rw [← ef_8] at hP hD
  have hP : va_P D vwCl [(h0, .inr (1, [.int (nI (P)), .ref ae, .ref al, .ref au, .ref ao, .ref ar, .ref ak, .ref aw, .ref att, .ref ass])), (att, .inl (cI, 8, .inl f_8)), (ass, .inl (cI, 8, .inl sl)), (aw, .inr (3, [.int (nI (cn + 1)), .ref an, .ref ap])), (an, .inl (cI, 8, .inl l2_2)), (ap, .inl (cI, 48, .inl s2_3))] H := hP
  have hD : va_D A [(h0, .inr (1, [.int (nI (P)), .ref ae, .ref al, .ref au, .ref ao, .ref ar, .ref ak, .ref aw, .ref att, .ref ass])), (att, .inl (cI, 8, .inl f_8)), (ass, .inl (cI, 8, .inl sl)), (aw, .inr (3, [.int (nI (cn + 1)), .ref an, .ref ap])), (an, .inl (cI, 8, .inl l2_2)), (ap, .inl (cI, 48, .inl s2_3))] := hD
  refine lv_aload_n hx hb dX1_addWalk_18 rfl (lv_at hl 1 rfl) ?_
  refine xg hF kf_X1_44 hK hP 0 rfl rfl dX1_addWalk_19 ?_
  refine lv_iload hx hb dX1_addWalk_22 (lv_at hl 0 rfl) ?_
  refine lv_iload_n hx hb dX1_addWalk_24 rfl (lv_at hl 4 rfl) ?_
  refine va_iast hx hb hK hP hD hS 2 0 rfl rfl (vp_in_nI (show cn < 8 by omega) (by decide)) dX1_addWalk_25 (fun H locs hP hD hS => ?_)
  rw [nI_clamp (show cn < 2 ^ 31 by omega)] at hP hD
  obtain ⟨f_9, ef_9⟩ : ∃ g, g = upd sl cn p1 := ⟨_, rfl⟩
  rw [← ef_9] at hP hD
  have hP : va_P D vwCl [(h0, .inr (1, [.int (nI (P)), .ref ae, .ref al, .ref au, .ref ao, .ref ar, .ref ak, .ref aw, .ref att, .ref ass])), (att, .inl (cI, 8, .inl f_8)), (ass, .inl (cI, 8, .inl f_9)), (aw, .inr (3, [.int (nI (cn + 1)), .ref an, .ref ap])), (an, .inl (cI, 8, .inl l2_2)), (ap, .inl (cI, 48, .inl s2_3))] H := hP
  have hD : va_D A [(h0, .inr (1, [.int (nI (P)), .ref ae, .ref al, .ref au, .ref ao, .ref ar, .ref ak, .ref aw, .ref att, .ref ass])), (att, .inl (cI, 8, .inl f_8)), (ass, .inl (cI, 8, .inl f_9)), (aw, .inr (3, [.int (nI (cn + 1)), .ref an, .ref ap])), (an, .inl (cI, 8, .inl l2_2)), (ap, .inl (cI, 48, .inl s2_3))] := hD
  refine lv_iload hx hb dX1_addWalk_26 (lv_at hl 0 rfl) ?_
  exact W.iret (v := nI (cn)) hx hb hr (fun t ht hW => ⟨⟨nI (cn), (l2_2, s2_3, f_8, f_9), rfl, ⟨(by first | exact rfl), i_4, i_5, (by first | assumption | omega), (by first | assumption | omega), (by first | assumption | omega), (by first | assumption | omega)⟩, by rw [ht]; exact hP.sub [0, 3, 4, 5, 1, 2] rfl, hD.sub [0, 3, 4, 5, 1, 2] (by decide +kernel) rfl⟩, hS.F ht⟩) hS.2.2 dX1_addWalk_28 hlk
