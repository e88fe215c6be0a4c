def LRX8_finding_2 : List UInt8 := []
def LBX8_finding_1 : List UInt8 := [0xb4, 0x00, 0x46, 0x1c, 0x5c, 0x2e, 0x04, 0x60, 0x4f, 0x1b, 0xac]
def LRX8_finding_1 : List UInt8 := LBX8_finding_1 ++ LRX8_finding_2
def LBX8_finding_0 : List UInt8 := [0x12, 0x5f, 0x1b, 0x64, 0x3d, 0x1c, 0x9b, 0x00, 0x13, 0x1c, 0x10, 0x07, 0xa2, 0x00, 0x0d, 0x2a]
def LRX8_finding_0 : List UInt8 := LBX8_finding_0 ++ LRX8_finding_1
set_option maxRecDepth 100000 in
theorem LBX8_finding_eq : cX8_finding.data.toList = LRX8_finding_0 := by decide +kernel
theorem LBX8_findingr_0 (k : Nat) : cX8_finding.data.toList[0 + k]? = LRX8_finding_0[k]? := by rw [LBX8_finding_eq, Nat.zero_add]
theorem LBX8_findingr_1 (k : Nat) : cX8_finding.data.toList[16 + k]? = LRX8_finding_1[k]? := by
  have h := LBX8_findingr_0 (16 + k)
  rw [show 0 + (16 + k) = 16 + k by omega] at h
  rw [h]
  exact (List.getElem?_append_right (l₁ := LBX8_finding_0) (l₂ := LRX8_finding_1) (show 16 ≤ 16 + k by omega)).trans (congrArg (fun i => LRX8_finding_1[i]?) (show 16 + k - 16 = k by omega))
theorem dX8_finding_0 : decode cX8_finding 0 = .ok (.ldc 95, 2) := dk_18_ (show cX8_finding.data.toList[0]? = some 0x12 from (LBX8_findingr_0 0).trans (by decide +kernel)) (show cX8_finding.data.toList[1]? = some 0x5f from (LBX8_findingr_0 1).trans (by decide +kernel)) (by decide)
theorem dX8_finding_2 : decode cX8_finding 2 = .ok (.iload_n 1, 1) := dk_27_ (show cX8_finding.data.toList[2]? = some 0x1b from (LBX8_findingr_0 2).trans (by decide +kernel))
theorem dX8_finding_3 : decode cX8_finding 3 = .ok (.isub, 1) := dk_100_ (show cX8_finding.data.toList[3]? = some 0x64 from (LBX8_findingr_0 3).trans (by decide +kernel))
theorem dX8_finding_4 : decode cX8_finding 4 = .ok (.istore_n 2, 1) := dk_61_ (show cX8_finding.data.toList[4]? = some 0x3d from (LBX8_findingr_0 4).trans (by decide +kernel))
theorem dX8_finding_5 : decode cX8_finding 5 = .ok (.iload_n 2, 1) := dk_28_ (show cX8_finding.data.toList[5]? = some 0x1c from (LBX8_findingr_0 5).trans (by decide +kernel))
theorem dX8_finding_6 : decode cX8_finding 6 = .ok (.ifCond .lt 19, 3) := dk_155_ (show cX8_finding.data.toList[6]? = some 0x9b from (LBX8_findingr_0 6).trans (by decide +kernel)) (show cX8_finding.data.toList[7]? = some 0x00 from (LBX8_findingr_0 7).trans (by decide +kernel)) (show cX8_finding.data.toList[8]? = some 0x13 from (LBX8_findingr_0 8).trans (by decide +kernel)) (by decide)
theorem dX8_finding_9 : decode cX8_finding 9 = .ok (.iload_n 2, 1) := dk_28_ (show cX8_finding.data.toList[9]? = some 0x1c from (LBX8_findingr_0 9).trans (by decide +kernel))
theorem dX8_finding_10 : decode cX8_finding 10 = .ok (.bipush 7, 2) := dk_16_ (show cX8_finding.data.toList[10]? = some 0x10 from (LBX8_findingr_0 10).trans (by decide +kernel)) (show cX8_finding.data.toList[11]? = some 0x07 from (LBX8_findingr_0 11).trans (by decide +kernel)) (by decide)
theorem dX8_finding_12 : decode cX8_finding 12 = .ok (.if_icmp .ge 13, 3) := dk_162_ (show cX8_finding.data.toList[12]? = some 0xa2 from (LBX8_findingr_0 12).trans (by decide +kernel)) (show cX8_finding.data.toList[13]? = some 0x00 from (LBX8_findingr_0 13).trans (by decide +kernel)) (show cX8_finding.data.toList[14]? = some 0x0d from (LBX8_findingr_0 14).trans (by decide +kernel)) (by decide)
theorem dX8_finding_15 : decode cX8_finding 15 = .ok (.aload_n 0, 1) := dk_42_ (show cX8_finding.data.toList[15]? = some 0x2a from (LBX8_findingr_0 15).trans (by decide +kernel))
theorem dX8_finding_16 : decode cX8_finding 16 = .ok (.getfield 70, 3) := dk_180_ (show cX8_finding.data.toList[16]? = some 0xb4 from (LBX8_findingr_1 0).trans (by decide +kernel)) (show cX8_finding.data.toList[17]? = some 0x00 from (LBX8_findingr_1 1).trans (by decide +kernel)) (show cX8_finding.data.toList[18]? = some 0x46 from (LBX8_findingr_1 2).trans (by decide +kernel)) (by decide)
theorem dX8_finding_19 : decode cX8_finding 19 = .ok (.iload_n 2, 1) := dk_28_ (show cX8_finding.data.toList[19]? = some 0x1c from (LBX8_findingr_1 3).trans (by decide +kernel))
theorem dX8_finding_20 : decode cX8_finding 20 = .ok (.dup2, 1) := dk_92_ (show cX8_finding.data.toList[20]? = some 0x5c from (LBX8_findingr_1 4).trans (by decide +kernel))
theorem dX8_finding_21 : decode cX8_finding 21 = .ok (.iaload, 1) := dk_46_ (show cX8_finding.data.toList[21]? = some 0x2e from (LBX8_findingr_1 5).trans (by decide +kernel))
theorem dX8_finding_22 : decode cX8_finding 22 = .ok (.iconst 1, 1) := dk_4_ (show cX8_finding.data.toList[22]? = some 0x04 from (LBX8_findingr_1 6).trans (by decide +kernel))
theorem dX8_finding_23 : decode cX8_finding 23 = .ok (.iadd, 1) := dk_96_ (show cX8_finding.data.toList[23]? = some 0x60 from (LBX8_findingr_1 7).trans (by decide +kernel))
theorem dX8_finding_24 : decode cX8_finding 24 = .ok (.iastore, 1) := dk_79_ (show cX8_finding.data.toList[24]? = some 0x4f from (LBX8_findingr_1 8).trans (by decide +kernel))
theorem dX8_finding_25 : decode cX8_finding 25 = .ok (.iload_n 1, 1) := dk_27_ (show cX8_finding.data.toList[25]? = some 0x1b from (LBX8_findingr_1 9).trans (by decide +kernel))
theorem dX8_finding_26 : decode cX8_finding 26 = .ok (.ireturn, 1) := dk_172_ (show cX8_finding.data.toList[26]? = some 0xac from (LBX8_findingr_1 10).trans (by decide +kernel))
def LRX8_lengthOrNone_2 : List UInt8 := []
def LBX8_lengthOrNone_1 : List UInt8 := [0xac]
def LRX8_lengthOrNone_1 : List UInt8 := LBX8_lengthOrNone_1 ++ LRX8_lengthOrNone_2
def LBX8_lengthOrNone_0 : List UInt8 := [0x1b, 0x12, 0x9a, 0xa0, 0x00, 0x0c, 0x2a, 0x12, 0x71, 0xb6, 0x00, 0x50, 0xa7, 0x00, 0x04, 0x1b]
def LRX8_lengthOrNone_0 : List UInt8 := LBX8_lengthOrNone_0 ++ LRX8_lengthOrNone_1
set_option maxRecDepth 100000 in
theorem LBX8_lengthOrNone_eq : cX8_lengthOrNone.data.toList = LRX8_lengthOrNone_0 := by decide +kernel
theorem LBX8_lengthOrNoner_0 (k : Nat) : cX8_lengthOrNone.data.toList[0 + k]? = LRX8_lengthOrNone_0[k]? := by rw [LBX8_lengthOrNone_eq, Nat.zero_add]
theorem LBX8_lengthOrNoner_1 (k : Nat) : cX8_lengthOrNone.data.toList[16 + k]? = LRX8_lengthOrNone_1[k]? := by
  have h := LBX8_lengthOrNoner_0 (16 + k)
  rw [show 0 + (16 + k) = 16 + k by omega] at h
  rw [h]
  exact (List.getElem?_append_right (l₁ := LBX8_lengthOrNone_0) (l₂ := LRX8_lengthOrNone_1) (show 16 ≤ 16 + k by omega)).trans (congrArg (fun i => LRX8_lengthOrNone_1[i]?) (show 16 + k - 16 = k by omega))
theorem dX8_lengthOrNone_0 : decode cX8_lengthOrNone 0 = .ok (.iload_n 1, 1) := dk_27_ (show cX8_lengthOrNone.data.toList[0]? = some 0x1b from (LBX8_lengthOrNoner_0 0).trans (by decide +kernel))
theorem dX8_lengthOrNone_1 : decode cX8_lengthOrNone 1 = .ok (.ldc 154, 2) := dk_18_ (show cX8_lengthOrNone.data.toList[1]? = some 0x12 from (LBX8_lengthOrNoner_0 1).trans (by decide +kernel)) (show cX8_lengthOrNone.data.toList[2]? = some 0x9a from (LBX8_lengthOrNoner_0 2).trans (by decide +kernel)) (by decide)
theorem dX8_lengthOrNone_3 : decode cX8_lengthOrNone 3 = .ok (.if_icmp .ne 12, 3) := dk_160_ (show cX8_lengthOrNone.data.toList[3]? = some 0xa0 from (LBX8_lengthOrNoner_0 3).trans (by decide +kernel)) (show cX8_lengthOrNone.data.toList[4]? = some 0x00 from (LBX8_lengthOrNoner_0 4).trans (by decide +kernel)) (show cX8_lengthOrNone.data.toList[5]? = some 0x0c from (LBX8_lengthOrNoner_0 5).trans (by decide +kernel)) (by decide)
theorem dX8_lengthOrNone_6 : decode cX8_lengthOrNone 6 = .ok (.aload_n 0, 1) := dk_42_ (show cX8_lengthOrNone.data.toList[6]? = some 0x2a from (LBX8_lengthOrNoner_0 6).trans (by decide +kernel))
theorem dX8_lengthOrNone_7 : decode cX8_lengthOrNone 7 = .ok (.ldc 113, 2) := dk_18_ (show cX8_lengthOrNone.data.toList[7]? = some 0x12 from (LBX8_lengthOrNoner_0 7).trans (by decide +kernel)) (show cX8_lengthOrNone.data.toList[8]? = some 0x71 from (LBX8_lengthOrNoner_0 8).trans (by decide +kernel)) (by decide)
theorem dX8_lengthOrNone_9 : decode cX8_lengthOrNone 9 = .ok (.invokevirtual 80, 3) := dk_182_ (show cX8_lengthOrNone.data.toList[9]? = some 0xb6 from (LBX8_lengthOrNoner_0 9).trans (by decide +kernel)) (show cX8_lengthOrNone.data.toList[10]? = some 0x00 from (LBX8_lengthOrNoner_0 10).trans (by decide +kernel)) (show cX8_lengthOrNone.data.toList[11]? = some 0x50 from (LBX8_lengthOrNoner_0 11).trans (by decide +kernel)) (by decide)
theorem dX8_lengthOrNone_12 : decode cX8_lengthOrNone 12 = .ok (.goto 4, 3) := dk_167_ (show cX8_lengthOrNone.data.toList[12]? = some 0xa7 from (LBX8_lengthOrNoner_0 12).trans (by decide +kernel)) (show cX8_lengthOrNone.data.toList[13]? = some 0x00 from (LBX8_lengthOrNoner_0 13).trans (by decide +kernel)) (show cX8_lengthOrNone.data.toList[14]? = some 0x04 from (LBX8_lengthOrNoner_0 14).trans (by decide +kernel)) (by decide)
theorem dX8_lengthOrNone_15 : decode cX8_lengthOrNone 15 = .ok (.iload_n 1, 1) := dk_27_ (show cX8_lengthOrNone.data.toList[15]? = some 0x1b from (LBX8_lengthOrNoner_0 15).trans (by decide +kernel))
theorem dX8_lengthOrNone_16 : decode cX8_lengthOrNone 16 = .ok (.ireturn, 1) := dk_172_ (show cX8_lengthOrNone.data.toList[16]? = some 0xac from (LBX8_lengthOrNoner_1 0).trans (by decide +kernel))
def LRX8_place_2 : List UInt8 := []
def LBX8_place_1 : List UInt8 := [0x00, 0x50, 0xac, 0x2a, 0xb4, 0x00, 0x0c, 0x03, 0xb6, 0x00, 0x54, 0xac]
def LRX8_place_1 : List UInt8 := LBX8_place_1 ++ LRX8_place_2
def LBX8_place_0 : List UInt8 := [0x2a, 0xb4, 0x00, 0x0c, 0xb4, 0x00, 0x4b, 0x10, 0x0a, 0xa1, 0x00, 0x0a, 0x2a, 0x12, 0x4f, 0xb6]
def LRX8_place_0 : List UInt8 := LBX8_place_0 ++ LRX8_place_1
set_option maxRecDepth 100000 in
theorem LBX8_place_eq : cX8_place.data.toList = LRX8_place_0 := by decide +kernel
theorem LBX8_placer_0 (k : Nat) : cX8_place.data.toList[0 + k]? = LRX8_place_0[k]? := by rw [LBX8_place_eq, Nat.zero_add]
theorem LBX8_placer_1 (k : Nat) : cX8_place.data.toList[16 + k]? = LRX8_place_1[k]? := by
  have h := LBX8_placer_0 (16 + k)
  rw [show 0 + (16 + k) = 16 + k by omega] at h
  rw [h]
  exact (List.getElem?_append_right (l₁ := LBX8_place_0) (l₂ := LRX8_place_1) (show 16 ≤ 16 + k by omega)).trans (congrArg (fun i => LRX8_place_1[i]?) (show 16 + k - 16 = k by omega))
theorem dX8_place_0 : decode cX8_place 0 = .ok (.aload_n 0, 1) := dk_42_ (show cX8_place.data.toList[0]? = some 0x2a from (LBX8_placer_0 0).trans (by decide +kernel))
theorem dX8_place_1 : decode cX8_place 1 = .ok (.getfield 12, 3) := dk_180_ (show cX8_place.data.toList[1]? = some 0xb4 from (LBX8_placer_0 1).trans (by decide +kernel)) (show cX8_place.data.toList[2]? = some 0x00 from (LBX8_placer_0 2).trans (by decide +kernel)) (show cX8_place.data.toList[3]? = some 0x0c from (LBX8_placer_0 3).trans (by decide +kernel)) (by decide)
theorem dX8_place_4 : decode cX8_place 4 = .ok (.getfield 75, 3) := dk_180_ (show cX8_place.data.toList[4]? = some 0xb4 from (LBX8_placer_0 4).trans (by decide +kernel)) (show cX8_place.data.toList[5]? = some 0x00 from (LBX8_placer_0 5).trans (by decide +kernel)) (show cX8_place.data.toList[6]? = some 0x4b from (LBX8_placer_0 6).trans (by decide +kernel)) (by decide)
theorem dX8_place_7 : decode cX8_place 7 = .ok (.bipush 10, 2) := dk_16_ (show cX8_place.data.toList[7]? = some 0x10 from (LBX8_placer_0 7).trans (by decide +kernel)) (show cX8_place.data.toList[8]? = some 0x0a from (LBX8_placer_0 8).trans (by decide +kernel)) (by decide)
theorem dX8_place_9 : decode cX8_place 9 = .ok (.if_icmp .lt 10, 3) := dk_161_ (show cX8_place.data.toList[9]? = some 0xa1 from (LBX8_placer_0 9).trans (by decide +kernel)) (show cX8_place.data.toList[10]? = some 0x00 from (LBX8_placer_0 10).trans (by decide +kernel)) (show cX8_place.data.toList[11]? = some 0x0a from (LBX8_placer_0 11).trans (by decide +kernel)) (by decide)
theorem dX8_place_12 : decode cX8_place 12 = .ok (.aload_n 0, 1) := dk_42_ (show cX8_place.data.toList[12]? = some 0x2a from (LBX8_placer_0 12).trans (by decide +kernel))
theorem dX8_place_13 : decode cX8_place 13 = .ok (.ldc 79, 2) := dk_18_ (show cX8_place.data.toList[13]? = some 0x12 from (LBX8_placer_0 13).trans (by decide +kernel)) (show cX8_place.data.toList[14]? = some 0x4f from (LBX8_placer_0 14).trans (by decide +kernel)) (by decide)
theorem dX8_place_15 : decode cX8_place 15 = .ok (.invokevirtual 80, 3) := dk_182_ (show cX8_place.data.toList[15]? = some 0xb6 from (LBX8_placer_0 15).trans (by decide +kernel)) (show cX8_place.data.toList[16]? = some 0x00 from (LBX8_placer_1 0).trans (by decide +kernel)) (show cX8_place.data.toList[17]? = some 0x50 from (LBX8_placer_1 1).trans (by decide +kernel)) (by decide)
theorem dX8_place_18 : decode cX8_place 18 = .ok (.ireturn, 1) := dk_172_ (show cX8_place.data.toList[18]? = some 0xac from (LBX8_placer_1 2).trans (by decide +kernel))
theorem dX8_place_19 : decode cX8_place 19 = .ok (.aload_n 0, 1) := dk_42_ (show cX8_place.data.toList[19]? = some 0x2a from (LBX8_placer_1 3).trans (by decide +kernel))
theorem dX8_place_20 : decode cX8_place 20 = .ok (.getfield 12, 3) := dk_180_ (show cX8_place.data.toList[20]? = some 0xb4 from (LBX8_placer_1 4).trans (by decide +kernel)) (show cX8_place.data.toList[21]? = some 0x00 from (LBX8_placer_1 5).trans (by decide +kernel)) (show cX8_place.data.toList[22]? = some 0x0c from (LBX8_placer_1 6).trans (by decide +kernel)) (by decide)
theorem dX8_place_23 : decode cX8_place 23 = .ok (.iconst 0, 1) := dk_3_ (show cX8_place.data.toList[23]? = some 0x03 from (LBX8_placer_1 7).trans (by decide +kernel))
theorem dX8_place_24 : decode cX8_place 24 = .ok (.invokevirtual 84, 3) := dk_182_ (show cX8_place.data.toList[24]? = some 0xb6 from (LBX8_placer_1 8).trans (by decide +kernel)) (show cX8_place.data.toList[25]? = some 0x00 from (LBX8_placer_1 9).trans (by decide +kernel)) (show cX8_place.data.toList[26]? = some 0x54 from (LBX8_placer_1 10).trans (by decide +kernel)) (by decide)
theorem dX8_place_27 : decode cX8_place 27 = .ok (.ireturn, 1) := dk_172_ (show cX8_place.data.toList[27]? = some 0xac from (LBX8_placer_1 11).trans (by decide +kernel))
def LRX8_errands_4 : List UInt8 := []
def LBX8_errands_3 : List UInt8 := [0x4f, 0x1d, 0xac]
def LRX8_errands_3 : List UInt8 := LBX8_errands_3 ++ LRX8_errands_4
def LBX8_errands_2 : List UInt8 := [0x0c, 0xb4, 0x00, 0x60, 0x1b, 0x2e, 0x3e, 0x2a, 0xb4, 0x00, 0x0c, 0xb4, 0x00, 0x60, 0x1b, 0x1c]
def LRX8_errands_2 : List UInt8 := LBX8_errands_2 ++ LRX8_errands_3
def LBX8_errands_1 : List UInt8 := [0xb8, 0x00, 0x5b, 0x9a, 0x00, 0x0a, 0x2a, 0x12, 0x5f, 0xb6, 0x00, 0x50, 0xac, 0x2a, 0xb4, 0x00]
def LRX8_errands_1 : List UInt8 := LBX8_errands_1 ++ LRX8_errands_2
def LBX8_errands_0 : List UInt8 := [0x2a, 0xb4, 0x00, 0x0c, 0x1b, 0x85, 0xb6, 0x00, 0x57, 0x99, 0x00, 0x0d, 0x1c, 0x03, 0x10, 0x63]
def LRX8_errands_0 : List UInt8 := LBX8_errands_0 ++ LRX8_errands_1
set_option maxRecDepth 100000 in
theorem LBX8_errands_eq : cX8_errands.data.toList = LRX8_errands_0 := by decide +kernel
theorem LBX8_errandsr_0 (k : Nat) : cX8_errands.data.toList[0 + k]? = LRX8_errands_0[k]? := by rw [LBX8_errands_eq, Nat.zero_add]
theorem LBX8_errandsr_1 (k : Nat) : cX8_errands.data.toList[16 + k]? = LRX8_errands_1[k]? := by
  have h := LBX8_errandsr_0 (16 + k)
  rw [show 0 + (16 + k) = 16 + k by omega] at h
  rw [h]
  exact (List.getElem?_append_right (l₁ := LBX8_errands_0) (l₂ := LRX8_errands_1) (show 16 ≤ 16 + k by omega)).trans (congrArg (fun i => LRX8_errands_1[i]?) (show 16 + k - 16 = k by omega))
theorem LBX8_errandsr_2 (k : Nat) : cX8_errands.data.toList[32 + k]? = LRX8_errands_2[k]? := by
  have h := LBX8_errandsr_1 (16 + k)
  rw [show 16 + (16 + k) = 32 + k by omega] at h
  rw [h]
  exact (List.getElem?_append_right (l₁ := LBX8_errands_1) (l₂ := LRX8_errands_2) (show 16 ≤ 16 + k by omega)).trans (congrArg (fun i => LRX8_errands_2[i]?) (show 16 + k - 16 = k by omega))
theorem LBX8_errandsr_3 (k : Nat) : cX8_errands.data.toList[48 + k]? = LRX8_errands_3[k]? := by
  have h := LBX8_errandsr_2 (16 + k)
  rw [show 32 + (16 + k) = 48 + k by omega] at h
  rw [h]
  exact (List.getElem?_append_right (l₁ := LBX8_errands_2) (l₂ := LRX8_errands_3) (show 16 ≤ 16 + k by omega)).trans (congrArg (fun i => LRX8_errands_3[i]?) (show 16 + k - 16 = k by omega))
theorem dX8_errands_0 : decode cX8_errands 0 = .ok (.aload_n 0, 1) := dk_42_ (show cX8_errands.data.toList[0]? = some 0x2a from (LBX8_errandsr_0 0).trans (by decide +kernel))
theorem dX8_errands_1 : decode cX8_errands 1 = .ok (.getfield 12, 3) := dk_180_ (show cX8_errands.data.toList[1]? = some 0xb4 from (LBX8_errandsr_0 1).trans (by decide +kernel)) (show cX8_errands.data.toList[2]? = some 0x00 from (LBX8_errandsr_0 2).trans (by decide +kernel)) (show cX8_errands.data.toList[3]? = some 0x0c from (LBX8_errandsr_0 3).trans (by decide +kernel)) (by decide)
theorem dX8_errands_4 : decode cX8_errands 4 = .ok (.iload_n 1, 1) := dk_27_ (show cX8_errands.data.toList[4]? = some 0x1b from (LBX8_errandsr_0 4).trans (by decide +kernel))
theorem dX8_errands_5 : decode cX8_errands 5 = .ok (.i2l, 1) := dk_133_ (show cX8_errands.data.toList[5]? = some 0x85 from (LBX8_errandsr_0 5).trans (by decide +kernel))
theorem dX8_errands_6 : decode cX8_errands 6 = .ok (.invokevirtual 87, 3) := dk_182_ (show cX8_errands.data.toList[6]? = some 0xb6 from (LBX8_errandsr_0 6).trans (by decide +kernel)) (show cX8_errands.data.toList[7]? = some 0x00 from (LBX8_errandsr_0 7).trans (by decide +kernel)) (show cX8_errands.data.toList[8]? = some 0x57 from (LBX8_errandsr_0 8).trans (by decide +kernel)) (by decide)
theorem dX8_errands_9 : decode cX8_errands 9 = .ok (.ifCond .eq 13, 3) := dk_153_ (show cX8_errands.data.toList[9]? = some 0x99 from (LBX8_errandsr_0 9).trans (by decide +kernel)) (show cX8_errands.data.toList[10]? = some 0x00 from (LBX8_errandsr_0 10).trans (by decide +kernel)) (show cX8_errands.data.toList[11]? = some 0x0d from (LBX8_errandsr_0 11).trans (by decide +kernel)) (by decide)
theorem dX8_errands_12 : decode cX8_errands 12 = .ok (.iload_n 2, 1) := dk_28_ (show cX8_errands.data.toList[12]? = some 0x1c from (LBX8_errandsr_0 12).trans (by decide +kernel))
theorem dX8_errands_13 : decode cX8_errands 13 = .ok (.iconst 0, 1) := dk_3_ (show cX8_errands.data.toList[13]? = some 0x03 from (LBX8_errandsr_0 13).trans (by decide +kernel))
theorem dX8_errands_14 : decode cX8_errands 14 = .ok (.bipush 99, 2) := dk_16_ (show cX8_errands.data.toList[14]? = some 0x10 from (LBX8_errandsr_0 14).trans (by decide +kernel)) (show cX8_errands.data.toList[15]? = some 0x63 from (LBX8_errandsr_0 15).trans (by decide +kernel)) (by decide)
theorem dX8_errands_16 : decode cX8_errands 16 = .ok (.invokestatic 91, 3) := dk_184_ (show cX8_errands.data.toList[16]? = some 0xb8 from (LBX8_errandsr_1 0).trans (by decide +kernel)) (show cX8_errands.data.toList[17]? = some 0x00 from (LBX8_errandsr_1 1).trans (by decide +kernel)) (show cX8_errands.data.toList[18]? = some 0x5b from (LBX8_errandsr_1 2).trans (by decide +kernel)) (by decide)
theorem dX8_errands_19 : decode cX8_errands 19 = .ok (.ifCond .ne 10, 3) := dk_154_ (show cX8_errands.data.toList[19]? = some 0x9a from (LBX8_errandsr_1 3).trans (by decide +kernel)) (show cX8_errands.data.toList[20]? = some 0x00 from (LBX8_errandsr_1 4).trans (by decide +kernel)) (show cX8_errands.data.toList[21]? = some 0x0a from (LBX8_errandsr_1 5).trans (by decide +kernel)) (by decide)
theorem dX8_errands_22 : decode cX8_errands 22 = .ok (.aload_n 0, 1) := dk_42_ (show cX8_errands.data.toList[22]? = some 0x2a from (LBX8_errandsr_1 6).trans (by decide +kernel))
theorem dX8_errands_23 : decode cX8_errands 23 = .ok (.ldc 95, 2) := dk_18_ (show cX8_errands.data.toList[23]? = some 0x12 from (LBX8_errandsr_1 7).trans (by decide +kernel)) (show cX8_errands.data.toList[24]? = some 0x5f from (LBX8_errandsr_1 8).trans (by decide +kernel)) (by decide)
theorem dX8_errands_25 : decode cX8_errands 25 = .ok (.invokevirtual 80, 3) := dk_182_ (show cX8_errands.data.toList[25]? = some 0xb6 from (LBX8_errandsr_1 9).trans (by decide +kernel)) (show cX8_errands.data.toList[26]? = some 0x00 from (LBX8_errandsr_1 10).trans (by decide +kernel)) (show cX8_errands.data.toList[27]? = some 0x50 from (LBX8_errandsr_1 11).trans (by decide +kernel)) (by decide)
theorem dX8_errands_28 : decode cX8_errands 28 = .ok (.ireturn, 1) := dk_172_ (show cX8_errands.data.toList[28]? = some 0xac from (LBX8_errandsr_1 12).trans (by decide +kernel))
theorem dX8_errands_29 : decode cX8_errands 29 = .ok (.aload_n 0, 1) := dk_42_ (show cX8_errands.data.toList[29]? = some 0x2a from (LBX8_errandsr_1 13).trans (by decide +kernel))
theorem dX8_errands_30 : decode cX8_errands 30 = .ok (.getfield 12, 3) := dk_180_ (show cX8_errands.data.toList[30]? = some 0xb4 from (LBX8_errandsr_1 14).trans (by decide +kernel)) (show cX8_errands.data.toList[31]? = some 0x00 from (LBX8_errandsr_1 15).trans (by decide +kernel)) (show cX8_errands.data.toList[32]? = some 0x0c from (LBX8_errandsr_2 0).trans (by decide +kernel)) (by decide)
theorem dX8_errands_33 : decode cX8_errands 33 = .ok (.getfield 96, 3) := dk_180_ (show cX8_errands.data.toList[33]? = some 0xb4 from (LBX8_errandsr_2 1).trans (by decide +kernel)) (show cX8_errands.data.toList[34]? = some 0x00 from (LBX8_errandsr_2 2).trans (by decide +kernel)) (show cX8_errands.data.toList[35]? = some 0x60 from (LBX8_errandsr_2 3).trans (by decide +kernel)) (by decide)
theorem dX8_errands_36 : decode cX8_errands 36 = .ok (.iload_n 1, 1) := dk_27_ (show cX8_errands.data.toList[36]? = some 0x1b from (LBX8_errandsr_2 4).trans (by decide +kernel))
theorem dX8_errands_37 : decode cX8_errands 37 = .ok (.iaload, 1) := dk_46_ (show cX8_errands.data.toList[37]? = some 0x2e from (LBX8_errandsr_2 5).trans (by decide +kernel))
theorem dX8_errands_38 : decode cX8_errands 38 = .ok (.istore_n 3, 1) := dk_62_ (show cX8_errands.data.toList[38]? = some 0x3e from (LBX8_errandsr_2 6).trans (by decide +kernel))
theorem dX8_errands_39 : decode cX8_errands 39 = .ok (.aload_n 0, 1) := dk_42_ (show cX8_errands.data.toList[39]? = some 0x2a from (LBX8_errandsr_2 7).trans (by decide +kernel))
theorem dX8_errands_40 : decode cX8_errands 40 = .ok (.getfield 12, 3) := dk_180_ (show cX8_errands.data.toList[40]? = some 0xb4 from (LBX8_errandsr_2 8).trans (by decide +kernel)) (show cX8_errands.data.toList[41]? = some 0x00 from (LBX8_errandsr_2 9).trans (by decide +kernel)) (show cX8_errands.data.toList[42]? = some 0x0c from (LBX8_errandsr_2 10).trans (by decide +kernel)) (by decide)
theorem dX8_errands_43 : decode cX8_errands 43 = .ok (.getfield 96, 3) := dk_180_ (show cX8_errands.data.toList[43]? = some 0xb4 from (LBX8_errandsr_2 11).trans (by decide +kernel)) (show cX8_errands.data.toList[44]? = some 0x00 from (LBX8_errandsr_2 12).trans (by decide +kernel)) (show cX8_errands.data.toList[45]? = some 0x60 from (LBX8_errandsr_2 13).trans (by decide +kernel)) (by decide)
theorem dX8_errands_46 : decode cX8_errands 46 = .ok (.iload_n 1, 1) := dk_27_ (show cX8_errands.data.toList[46]? = some 0x1b from (LBX8_errandsr_2 14).trans (by decide +kernel))
theorem dX8_errands_47 : decode cX8_errands 47 = .ok (.iload_n 2, 1) := dk_28_ (show cX8_errands.data.toList[47]? = some 0x1c from (LBX8_errandsr_2 15).trans (by decide +kernel))
theorem dX8_errands_48 : decode cX8_errands 48 = .ok (.iastore, 1) := dk_79_ (show cX8_errands.data.toList[48]? = some 0x4f from (LBX8_errandsr_3 0).trans (by decide +kernel))
theorem dX8_errands_49 : decode cX8_errands 49 = .ok (.iload_n 3, 1) := dk_29_ (show cX8_errands.data.toList[49]? = some 0x1d from (LBX8_errandsr_3 1).trans (by decide +kernel))
theorem dX8_errands_50 : decode cX8_errands 50 = .ok (.ireturn, 1) := dk_172_ (show cX8_errands.data.toList[50]? = some 0xac from (LBX8_errandsr_3 2).trans (by decide +kernel))
def LRX8_way_4 : List UInt8 := []
def LBX8_way_3 : List UInt8 := [0xb6, 0x00, 0x6d, 0x15, 0x05, 0x99, 0x00, 0x07, 0x03, 0xa7, 0x00, 0x04, 0x04, 0xac]
def LRX8_way_3 : List UInt8 := LBX8_way_3 ++ LRX8_way_4
def LBX8_way_2 : List UInt8 := [0x1b, 0x1c, 0xb6, 0x00, 0x6a, 0x36, 0x05, 0x2a, 0xb4, 0x00, 0x0c, 0x1b, 0x1c, 0x1d, 0x15, 0x04]
def LRX8_way_2 : List UInt8 := LBX8_way_2 ++ LRX8_way_3
def LBX8_way_1 : List UInt8 := [0x00, 0x67, 0x9a, 0x00, 0x0a, 0x2a, 0x12, 0x5f, 0xb6, 0x00, 0x50, 0xac, 0x2a, 0xb4, 0x00, 0x0c]
def LRX8_way_1 : List UInt8 := LBX8_way_1 ++ LRX8_way_2
def LBX8_way_0 : List UInt8 := [0x2a, 0xb4, 0x00, 0x0c, 0x1b, 0x1c, 0xb6, 0x00, 0x63, 0x99, 0x00, 0x0c, 0x1d, 0x15, 0x04, 0xb8]
def LRX8_way_0 : List UInt8 := LBX8_way_0 ++ LRX8_way_1
set_option maxRecDepth 100000 in
theorem LBX8_way_eq : cX8_way.data.toList = LRX8_way_0 := by decide +kernel
theorem LBX8_wayr_0 (k : Nat) : cX8_way.data.toList[0 + k]? = LRX8_way_0[k]? := by rw [LBX8_way_eq, Nat.zero_add]
theorem LBX8_wayr_1 (k : Nat) : cX8_way.data.toList[16 + k]? = LRX8_way_1[k]? := by
  have h := LBX8_wayr_0 (16 + k)
  rw [show 0 + (16 + k) = 16 + k by omega] at h
  rw [h]
  exact (List.getElem?_append_right (l₁ := LBX8_way_0) (l₂ := LRX8_way_1) (show 16 ≤ 16 + k by omega)).trans (congrArg (fun i => LRX8_way_1[i]?) (show 16 + k - 16 = k by omega))
theorem LBX8_wayr_2 (k : Nat) : cX8_way.data.toList[32 + k]? = LRX8_way_2[k]? := by
  have h := LBX8_wayr_1 (16 + k)
  rw [show 16 + (16 + k) = 32 + k by omega] at h
  rw [h]
  exact (List.getElem?_append_right (l₁ := LBX8_way_1) (l₂ := LRX8_way_2) (show 16 ≤ 16 + k by omega)).trans (congrArg (fun i => LRX8_way_2[i]?) (show 16 + k - 16 = k by omega))
theorem LBX8_wayr_3 (k : Nat) : cX8_way.data.toList[48 + k]? = LRX8_way_3[k]? := by
  have h := LBX8_wayr_2 (16 + k)
  rw [show 32 + (16 + k) = 48 + k by omega] at h
  rw [h]
  exact (List.getElem?_append_right (l₁ := LBX8_way_2) (l₂ := LRX8_way_3) (show 16 ≤ 16 + k by omega)).trans (congrArg (fun i => LRX8_way_3[i]?) (show 16 + k - 16 = k by omega))
theorem dX8_way_0 : decode cX8_way 0 = .ok (.aload_n 0, 1) := dk_42_ (show cX8_way.data.toList[0]? = some 0x2a from (LBX8_wayr_0 0).trans (by decide +kernel))
theorem dX8_way_1 : decode cX8_way 1 = .ok (.getfield 12, 3) := dk_180_ (show cX8_way.data.toList[1]? = some 0xb4 from (LBX8_wayr_0 1).trans (by decide +kernel)) (show cX8_way.data.toList[2]? = some 0x00 from (LBX8_wayr_0 2).trans (by decide +kernel)) (show cX8_way.data.toList[3]? = some 0x0c from (LBX8_wayr_0 3).trans (by decide +kernel)) (by decide)
theorem dX8_way_4 : decode cX8_way 4 = .ok (.iload_n 1, 1) := dk_27_ (show cX8_way.data.toList[4]? = some 0x1b from (LBX8_wayr_0 4).trans (by decide +kernel))
theorem dX8_way_5 : decode cX8_way 5 = .ok (.iload_n 2, 1) := dk_28_ (show cX8_way.data.toList[5]? = some 0x1c from (LBX8_wayr_0 5).trans (by decide +kernel))
theorem dX8_way_6 : decode cX8_way 6 = .ok (.invokevirtual 99, 3) := dk_182_ (show cX8_way.data.toList[6]? = some 0xb6 from (LBX8_wayr_0 6).trans (by decide +kernel)) (show cX8_way.data.toList[7]? = some 0x00 from (LBX8_wayr_0 7).trans (by decide +kernel)) (show cX8_way.data.toList[8]? = some 0x63 from (LBX8_wayr_0 8).trans (by decide +kernel)) (by decide)
theorem dX8_way_9 : decode cX8_way 9 = .ok (.ifCond .eq 12, 3) := dk_153_ (show cX8_way.data.toList[9]? = some 0x99 from (LBX8_wayr_0 9).trans (by decide +kernel)) (show cX8_way.data.toList[10]? = some 0x00 from (LBX8_wayr_0 10).trans (by decide +kernel)) (show cX8_way.data.toList[11]? = some 0x0c from (LBX8_wayr_0 11).trans (by decide +kernel)) (by decide)
theorem dX8_way_12 : decode cX8_way 12 = .ok (.iload_n 3, 1) := dk_29_ (show cX8_way.data.toList[12]? = some 0x1d from (LBX8_wayr_0 12).trans (by decide +kernel))
theorem dX8_way_13 : decode cX8_way 13 = .ok (.iload 4, 2) := dk_21_ (show cX8_way.data.toList[13]? = some 0x15 from (LBX8_wayr_0 13).trans (by decide +kernel)) (show cX8_way.data.toList[14]? = some 0x04 from (LBX8_wayr_0 14).trans (by decide +kernel)) (by decide)
theorem dX8_way_15 : decode cX8_way 15 = .ok (.invokestatic 103, 3) := dk_184_ (show cX8_way.data.toList[15]? = some 0xb8 from (LBX8_wayr_0 15).trans (by decide +kernel)) (show cX8_way.data.toList[16]? = some 0x00 from (LBX8_wayr_1 0).trans (by decide +kernel)) (show cX8_way.data.toList[17]? = some 0x67 from (LBX8_wayr_1 1).trans (by decide +kernel)) (by decide)
theorem dX8_way_18 : decode cX8_way 18 = .ok (.ifCond .ne 10, 3) := dk_154_ (show cX8_way.data.toList[18]? = some 0x9a from (LBX8_wayr_1 2).trans (by decide +kernel)) (show cX8_way.data.toList[19]? = some 0x00 from (LBX8_wayr_1 3).trans (by decide +kernel)) (show cX8_way.data.toList[20]? = some 0x0a from (LBX8_wayr_1 4).trans (by decide +kernel)) (by decide)
theorem dX8_way_21 : decode cX8_way 21 = .ok (.aload_n 0, 1) := dk_42_ (show cX8_way.data.toList[21]? = some 0x2a from (LBX8_wayr_1 5).trans (by decide +kernel))
theorem dX8_way_22 : decode cX8_way 22 = .ok (.ldc 95, 2) := dk_18_ (show cX8_way.data.toList[22]? = some 0x12 from (LBX8_wayr_1 6).trans (by decide +kernel)) (show cX8_way.data.toList[23]? = some 0x5f from (LBX8_wayr_1 7).trans (by decide +kernel)) (by decide)
theorem dX8_way_24 : decode cX8_way 24 = .ok (.invokevirtual 80, 3) := dk_182_ (show cX8_way.data.toList[24]? = some 0xb6 from (LBX8_wayr_1 8).trans (by decide +kernel)) (show cX8_way.data.toList[25]? = some 0x00 from (LBX8_wayr_1 9).trans (by decide +kernel)) (show cX8_way.data.toList[26]? = some 0x50 from (LBX8_wayr_1 10).trans (by decide +kernel)) (by decide)
theorem dX8_way_27 : decode cX8_way 27 = .ok (.ireturn, 1) := dk_172_ (show cX8_way.data.toList[27]? = some 0xac from (LBX8_wayr_1 11).trans (by decide +kernel))
theorem dX8_way_28 : decode cX8_way 28 = .ok (.aload_n 0, 1) := dk_42_ (show cX8_way.data.toList[28]? = some 0x2a from (LBX8_wayr_1 12).trans (by decide +kernel))
theorem dX8_way_29 : decode cX8_way 29 = .ok (.getfield 12, 3) := dk_180_ (show cX8_way.data.toList[29]? = some 0xb4 from (LBX8_wayr_1 13).trans (by decide +kernel)) (show cX8_way.data.toList[30]? = some 0x00 from (LBX8_wayr_1 14).trans (by decide +kernel)) (show cX8_way.data.toList[31]? = some 0x0c from (LBX8_wayr_1 15).trans (by decide +kernel)) (by decide)
theorem dX8_way_32 : decode cX8_way 32 = .ok (.iload_n 1, 1) := dk_27_ (show cX8_way.data.toList[32]? = some 0x1b from (LBX8_wayr_2 0).trans (by decide +kernel))
theorem dX8_way_33 : decode cX8_way 33 = .ok (.iload_n 2, 1) := dk_28_ (show cX8_way.data.toList[33]? = some 0x1c from (LBX8_wayr_2 1).trans (by decide +kernel))
theorem dX8_way_34 : decode cX8_way 34 = .ok (.invokevirtual 106, 3) := dk_182_ (show cX8_way.data.toList[34]? = some 0xb6 from (LBX8_wayr_2 2).trans (by decide +kernel)) (show cX8_way.data.toList[35]? = some 0x00 from (LBX8_wayr_2 3).trans (by decide +kernel)) (show cX8_way.data.toList[36]? = some 0x6a from (LBX8_wayr_2 4).trans (by decide +kernel)) (by decide)
theorem dX8_way_37 : decode cX8_way 37 = .ok (.istore 5, 2) := dk_54_ (show cX8_way.data.toList[37]? = some 0x36 from (LBX8_wayr_2 5).trans (by decide +kernel)) (show cX8_way.data.toList[38]? = some 0x05 from (LBX8_wayr_2 6).trans (by decide +kernel)) (by decide)
theorem dX8_way_39 : decode cX8_way 39 = .ok (.aload_n 0, 1) := dk_42_ (show cX8_way.data.toList[39]? = some 0x2a from (LBX8_wayr_2 7).trans (by decide +kernel))
theorem dX8_way_40 : decode cX8_way 40 = .ok (.getfield 12, 3) := dk_180_ (show cX8_way.data.toList[40]? = some 0xb4 from (LBX8_wayr_2 8).trans (by decide +kernel)) (show cX8_way.data.toList[41]? = some 0x00 from (LBX8_wayr_2 9).trans (by decide +kernel)) (show cX8_way.data.toList[42]? = some 0x0c from (LBX8_wayr_2 10).trans (by decide +kernel)) (by decide)
theorem dX8_way_43 : decode cX8_way 43 = .ok (.iload_n 1, 1) := dk_27_ (show cX8_way.data.toList[43]? = some 0x1b from (LBX8_wayr_2 11).trans (by decide +kernel))
theorem dX8_way_44 : decode cX8_way 44 = .ok (.iload_n 2, 1) := dk_28_ (show cX8_way.data.toList[44]? = some 0x1c from (LBX8_wayr_2 12).trans (by decide +kernel))
theorem dX8_way_45 : decode cX8_way 45 = .ok (.iload_n 3, 1) := dk_29_ (show cX8_way.data.toList[45]? = some 0x1d from (LBX8_wayr_2 13).trans (by decide +kernel))
theorem dX8_way_46 : decode cX8_way 46 = .ok (.iload 4, 2) := dk_21_ (show cX8_way.data.toList[46]? = some 0x15 from (LBX8_wayr_2 14).trans (by decide +kernel)) (show cX8_way.data.toList[47]? = some 0x04 from (LBX8_wayr_2 15).trans (by decide +kernel)) (by decide)
theorem dX8_way_48 : decode cX8_way 48 = .ok (.invokevirtual 109, 3) := dk_182_ (show cX8_way.data.toList[48]? = some 0xb6 from (LBX8_wayr_3 0).trans (by decide +kernel)) (show cX8_way.data.toList[49]? = some 0x00 from (LBX8_wayr_3 1).trans (by decide +kernel)) (show cX8_way.data.toList[50]? = some 0x6d from (LBX8_wayr_3 2).trans (by decide +kernel)) (by decide)
theorem dX8_way_51 : decode cX8_way 51 = .ok (.iload 5, 2) := dk_21_ (show cX8_way.data.toList[51]? = some 0x15 from (LBX8_wayr_3 3).trans (by decide +kernel)) (show cX8_way.data.toList[52]? = some 0x05 from (LBX8_wayr_3 4).trans (by decide +kernel)) (by decide)
theorem dX8_way_53 : decode cX8_way 53 = .ok (.ifCond .eq 7, 3) := dk_153_ (show cX8_way.data.toList[53]? = some 0x99 from (LBX8_wayr_3 5).trans (by decide +kernel)) (show cX8_way.data.toList[54]? = some 0x00 from (LBX8_wayr_3 6).trans (by decide +kernel)) (show cX8_way.data.toList[55]? = some 0x07 from (LBX8_wayr_3 7).trans (by decide +kernel)) (by decide)
theorem dX8_way_56 : decode cX8_way 56 = .ok (.iconst 0, 1) := dk_3_ (show cX8_way.data.toList[56]? = some 0x03 from (LBX8_wayr_3 8).trans (by decide +kernel))
theorem dX8_way_57 : decode cX8_way 57 = .ok (.goto 4, 3) := dk_167_ (show cX8_way.data.toList[57]? = some 0xa7 from (LBX8_wayr_3 9).trans (by decide +kernel)) (show cX8_way.data.toList[58]? = some 0x00 from (LBX8_wayr_3 10).trans (by decide +kernel)) (show cX8_way.data.toList[59]? = some 0x04 from (LBX8_wayr_3 11).trans (by decide +kernel)) (by decide)
theorem dX8_way_60 : decode cX8_way 60 = .ok (.iconst 1, 1) := dk_4_ (show cX8_way.data.toList[60]? = some 0x04 from (LBX8_wayr_3 12).trans (by decide +kernel))
theorem dX8_way_61 : decode cX8_way 61 = .ok (.ireturn, 1) := dk_172_ (show cX8_way.data.toList[61]? = some 0xac from (LBX8_wayr_3 13).trans (by decide +kernel))
def LRX8_wayOf_6 : List UInt8 := []
def LBX8_wayOf_5 : List UInt8 := [0x1b, 0x1c, 0xb6, 0x00, 0x79, 0x99, 0x00, 0x07, 0x03, 0xa7, 0x00, 0x04, 0x04, 0xac]
def LRX8_wayOf_5 : List UInt8 := LBX8_wayOf_5 ++ LRX8_wayOf_6
def LBX8_wayOf_4 : List UInt8 := [0x00, 0x0d, 0x2a, 0xb4, 0x00, 0x0c, 0x1b, 0x1c, 0xb6, 0x00, 0x76, 0xac, 0x2a, 0xb4, 0x00, 0x0c]
def LRX8_wayOf_4 : List UInt8 := LBX8_wayOf_4 ++ LRX8_wayOf_5
def LBX8_wayOf_3 : List UInt8 := [0x9a, 0x00, 0x0d, 0x2a, 0xb4, 0x00, 0x0c, 0x1b, 0x1c, 0xb6, 0x00, 0x72, 0xac, 0x1d, 0x04, 0xa0]
def LRX8_wayOf_3 : List UInt8 := LBX8_wayOf_3 ++ LRX8_wayOf_4
def LBX8_wayOf_2 : List UInt8 := [0x1b, 0x1c, 0xb6, 0x00, 0x6a, 0x9a, 0x00, 0x0a, 0x2a, 0x12, 0x71, 0xb6, 0x00, 0x50, 0xac, 0x1d]
def LRX8_wayOf_2 : List UInt8 := LBX8_wayOf_2 ++ LRX8_wayOf_3
def LBX8_wayOf_1 : List UInt8 := [0x00, 0x5b, 0x9a, 0x00, 0x0a, 0x2a, 0x12, 0x5f, 0xb6, 0x00, 0x50, 0xac, 0x2a, 0xb4, 0x00, 0x0c]
def LRX8_wayOf_1 : List UInt8 := LBX8_wayOf_1 ++ LRX8_wayOf_2
def LBX8_wayOf_0 : List UInt8 := [0x2a, 0xb4, 0x00, 0x0c, 0x1b, 0x1c, 0xb6, 0x00, 0x63, 0x99, 0x00, 0x0c, 0x1d, 0x03, 0x05, 0xb8]
def LRX8_wayOf_0 : List UInt8 := LBX8_wayOf_0 ++ LRX8_wayOf_1
set_option maxRecDepth 100000 in
theorem LBX8_wayOf_eq : cX8_wayOf.data.toList = LRX8_wayOf_0 := by decide +kernel
theorem LBX8_wayOfr_0 (k : Nat) : cX8_wayOf.data.toList[0 + k]? = LRX8_wayOf_0[k]? := by rw [LBX8_wayOf_eq, Nat.zero_add]
theorem LBX8_wayOfr_1 (k : Nat) : cX8_wayOf.data.toList[16 + k]? = LRX8_wayOf_1[k]? := by
  have h := LBX8_wayOfr_0 (16 + k)
  rw [show 0 + (16 + k) = 16 + k by omega] at h
  rw [h]
  exact (List.getElem?_append_right (l₁ := LBX8_wayOf_0) (l₂ := LRX8_wayOf_1) (show 16 ≤ 16 + k by omega)).trans (congrArg (fun i => LRX8_wayOf_1[i]?) (show 16 + k - 16 = k by omega))
theorem LBX8_wayOfr_2 (k : Nat) : cX8_wayOf.data.toList[32 + k]? = LRX8_wayOf_2[k]? := by
  have h := LBX8_wayOfr_1 (16 + k)
  rw [show 16 + (16 + k) = 32 + k by omega] at h
  rw [h]
  exact (List.getElem?_append_right (l₁ := LBX8_wayOf_1) (l₂ := LRX8_wayOf_2) (show 16 ≤ 16 + k by omega)).trans (congrArg (fun i => LRX8_wayOf_2[i]?) (show 16 + k - 16 = k by omega))
theorem LBX8_wayOfr_3 (k : Nat) : cX8_wayOf.data.toList[48 + k]? = LRX8_wayOf_3[k]? := by
  have h := LBX8_wayOfr_2 (16 + k)
  rw [show 32 + (16 + k) = 48 + k by omega] at h
  rw [h]
  exact (List.getElem?_append_right (l₁ := LBX8_wayOf_2) (l₂ := LRX8_wayOf_3) (show 16 ≤ 16 + k by omega)).trans (congrArg (fun i => LRX8_wayOf_3[i]?) (show 16 + k - 16 = k by omega))
theorem LBX8_wayOfr_4 (k : Nat) : cX8_wayOf.data.toList[64 + k]? = LRX8_wayOf_4[k]? := by
  have h := LBX8_wayOfr_3 (16 + k)
  rw [show 48 + (16 + k) = 64 + k by omega] at h
  rw [h]
  exact (List.getElem?_append_right (l₁ := LBX8_wayOf_3) (l₂ := LRX8_wayOf_4) (show 16 ≤ 16 + k by omega)).trans (congrArg (fun i => LRX8_wayOf_4[i]?) (show 16 + k - 16 = k by omega))
theorem LBX8_wayOfr_5 (k : Nat) : cX8_wayOf.data.toList[80 + k]? = LRX8_wayOf_5[k]? := by
  have h := LBX8_wayOfr_4 (16 + k)
  rw [show 64 + (16 + k) = 80 + k by omega] at h
  rw [h]
  exact (List.getElem?_append_right (l₁ := LBX8_wayOf_4) (l₂ := LRX8_wayOf_5) (show 16 ≤ 16 + k by omega)).trans (congrArg (fun i => LRX8_wayOf_5[i]?) (show 16 + k - 16 = k by omega))
theorem dX8_wayOf_0 : decode cX8_wayOf 0 = .ok (.aload_n 0, 1) := dk_42_ (show cX8_wayOf.data.toList[0]? = some 0x2a from (LBX8_wayOfr_0 0).trans (by decide +kernel))
theorem dX8_wayOf_1 : decode cX8_wayOf 1 = .ok (.getfield 12, 3) := dk_180_ (show cX8_wayOf.data.toList[1]? = some 0xb4 from (LBX8_wayOfr_0 1).trans (by decide +kernel)) (show cX8_wayOf.data.toList[2]? = some 0x00 from (LBX8_wayOfr_0 2).trans (by decide +kernel)) (show cX8_wayOf.data.toList[3]? = some 0x0c from (LBX8_wayOfr_0 3).trans (by decide +kernel)) (by decide)
theorem dX8_wayOf_4 : decode cX8_wayOf 4 = .ok (.iload_n 1, 1) := dk_27_ (show cX8_wayOf.data.toList[4]? = some 0x1b from (LBX8_wayOfr_0 4).trans (by decide +kernel))
theorem dX8_wayOf_5 : decode cX8_wayOf 5 = .ok (.iload_n 2, 1) := dk_28_ (show cX8_wayOf.data.toList[5]? = some 0x1c from (LBX8_wayOfr_0 5).trans (by decide +kernel))
theorem dX8_wayOf_6 : decode cX8_wayOf 6 = .ok (.invokevirtual 99, 3) := dk_182_ (show cX8_wayOf.data.toList[6]? = some 0xb6 from (LBX8_wayOfr_0 6).trans (by decide +kernel)) (show cX8_wayOf.data.toList[7]? = some 0x00 from (LBX8_wayOfr_0 7).trans (by decide +kernel)) (show cX8_wayOf.data.toList[8]? = some 0x63 from (LBX8_wayOfr_0 8).trans (by decide +kernel)) (by decide)
theorem dX8_wayOf_9 : decode cX8_wayOf 9 = .ok (.ifCond .eq 12, 3) := dk_153_ (show cX8_wayOf.data.toList[9]? = some 0x99 from (LBX8_wayOfr_0 9).trans (by decide +kernel)) (show cX8_wayOf.data.toList[10]? = some 0x00 from (LBX8_wayOfr_0 10).trans (by decide +kernel)) (show cX8_wayOf.data.toList[11]? = some 0x0c from (LBX8_wayOfr_0 11).trans (by decide +kernel)) (by decide)
theorem dX8_wayOf_12 : decode cX8_wayOf 12 = .ok (.iload_n 3, 1) := dk_29_ (show cX8_wayOf.data.toList[12]? = some 0x1d from (LBX8_wayOfr_0 12).trans (by decide +kernel))
theorem dX8_wayOf_13 : decode cX8_wayOf 13 = .ok (.iconst 0, 1) := dk_3_ (show cX8_wayOf.data.toList[13]? = some 0x03 from (LBX8_wayOfr_0 13).trans (by decide +kernel))
theorem dX8_wayOf_14 : decode cX8_wayOf 14 = .ok (.iconst 2, 1) := dk_5_ (show cX8_wayOf.data.toList[14]? = some 0x05 from (LBX8_wayOfr_0 14).trans (by decide +kernel))
theorem dX8_wayOf_15 : decode cX8_wayOf 15 = .ok (.invokestatic 91, 3) := dk_184_ (show cX8_wayOf.data.toList[15]? = some 0xb8 from (LBX8_wayOfr_0 15).trans (by decide +kernel)) (show cX8_wayOf.data.toList[16]? = some 0x00 from (LBX8_wayOfr_1 0).trans (by decide +kernel)) (show cX8_wayOf.data.toList[17]? = some 0x5b from (LBX8_wayOfr_1 1).trans (by decide +kernel)) (by decide)
theorem dX8_wayOf_18 : decode cX8_wayOf 18 = .ok (.ifCond .ne 10, 3) := dk_154_ (show cX8_wayOf.data.toList[18]? = some 0x9a from (LBX8_wayOfr_1 2).trans (by decide +kernel)) (show cX8_wayOf.data.toList[19]? = some 0x00 from (LBX8_wayOfr_1 3).trans (by decide +kernel)) (show cX8_wayOf.data.toList[20]? = some 0x0a from (LBX8_wayOfr_1 4).trans (by decide +kernel)) (by decide)
theorem dX8_wayOf_21 : decode cX8_wayOf 21 = .ok (.aload_n 0, 1) := dk_42_ (show cX8_wayOf.data.toList[21]? = some 0x2a from (LBX8_wayOfr_1 5).trans (by decide +kernel))
theorem dX8_wayOf_22 : decode cX8_wayOf 22 = .ok (.ldc 95, 2) := dk_18_ (show cX8_wayOf.data.toList[22]? = some 0x12 from (LBX8_wayOfr_1 6).trans (by decide +kernel)) (show cX8_wayOf.data.toList[23]? = some 0x5f from (LBX8_wayOfr_1 7).trans (by decide +kernel)) (by decide)
theorem dX8_wayOf_24 : decode cX8_wayOf 24 = .ok (.invokevirtual 80, 3) := dk_182_ (show cX8_wayOf.data.toList[24]? = some 0xb6 from (LBX8_wayOfr_1 8).trans (by decide +kernel)) (show cX8_wayOf.data.toList[25]? = some 0x00 from (LBX8_wayOfr_1 9).trans (by decide +kernel)) (show cX8_wayOf.data.toList[26]? = some 0x50 from (LBX8_wayOfr_1 10).trans (by decide +kernel)) (by decide)
theorem dX8_wayOf_27 : decode cX8_wayOf 27 = .ok (.ireturn, 1) := dk_172_ (show cX8_wayOf.data.toList[27]? = some 0xac from (LBX8_wayOfr_1 11).trans (by decide +kernel))
theorem dX8_wayOf_28 : decode cX8_wayOf 28 = .ok (.aload_n 0, 1) := dk_42_ (show cX8_wayOf.data.toList[28]? = some 0x2a from (LBX8_wayOfr_1 12).trans (by decide +kernel))
theorem dX8_wayOf_29 : decode cX8_wayOf 29 = .ok (.getfield 12, 3) := dk_180_ (show cX8_wayOf.data.toList[29]? = some 0xb4 from (LBX8_wayOfr_1 13).trans (by decide +kernel)) (show cX8_wayOf.data.toList[30]? = some 0x00 from (LBX8_wayOfr_1 14).trans (by decide +kernel)) (show cX8_wayOf.data.toList[31]? = some 0x0c from (LBX8_wayOfr_1 15).trans (by decide +kernel)) (by decide)
theorem dX8_wayOf_32 : decode cX8_wayOf 32 = .ok (.iload_n 1, 1) := dk_27_ (show cX8_wayOf.data.toList[32]? = some 0x1b from (LBX8_wayOfr_2 0).trans (by decide +kernel))
theorem dX8_wayOf_33 : decode cX8_wayOf 33 = .ok (.iload_n 2, 1) := dk_28_ (show cX8_wayOf.data.toList[33]? = some 0x1c from (LBX8_wayOfr_2 1).trans (by decide +kernel))
theorem dX8_wayOf_34 : decode cX8_wayOf 34 = .ok (.invokevirtual 106, 3) := dk_182_ (show cX8_wayOf.data.toList[34]? = some 0xb6 from (LBX8_wayOfr_2 2).trans (by decide +kernel)) (show cX8_wayOf.data.toList[35]? = some 0x00 from (LBX8_wayOfr_2 3).trans (by decide +kernel)) (show cX8_wayOf.data.toList[36]? = some 0x6a from (LBX8_wayOfr_2 4).trans (by decide +kernel)) (by decide)
theorem dX8_wayOf_37 : decode cX8_wayOf 37 = .ok (.ifCond .ne 10, 3) := dk_154_ (show cX8_wayOf.data.toList[37]? = some 0x9a from (LBX8_wayOfr_2 5).trans (by decide +kernel)) (show cX8_wayOf.data.toList[38]? = some 0x00 from (LBX8_wayOfr_2 6).trans (by decide +kernel)) (show cX8_wayOf.data.toList[39]? = some 0x0a from (LBX8_wayOfr_2 7).trans (by decide +kernel)) (by decide)
theorem dX8_wayOf_40 : decode cX8_wayOf 40 = .ok (.aload_n 0, 1) := dk_42_ (show cX8_wayOf.data.toList[40]? = some 0x2a from (LBX8_wayOfr_2 8).trans (by decide +kernel))
theorem dX8_wayOf_41 : decode cX8_wayOf 41 = .ok (.ldc 113, 2) := dk_18_ (show cX8_wayOf.data.toList[41]? = some 0x12 from (LBX8_wayOfr_2 9).trans (by decide +kernel)) (show cX8_wayOf.data.toList[42]? = some 0x71 from (LBX8_wayOfr_2 10).trans (by decide +kernel)) (by decide)
theorem dX8_wayOf_43 : decode cX8_wayOf 43 = .ok (.invokevirtual 80, 3) := dk_182_ (show cX8_wayOf.data.toList[43]? = some 0xb6 from (LBX8_wayOfr_2 11).trans (by decide +kernel)) (show cX8_wayOf.data.toList[44]? = some 0x00 from (LBX8_wayOfr_2 12).trans (by decide +kernel)) (show cX8_wayOf.data.toList[45]? = some 0x50 from (LBX8_wayOfr_2 13).trans (by decide +kernel)) (by decide)
theorem dX8_wayOf_46 : decode cX8_wayOf 46 = .ok (.ireturn, 1) := dk_172_ (show cX8_wayOf.data.toList[46]? = some 0xac from (LBX8_wayOfr_2 14).trans (by decide +kernel))
theorem dX8_wayOf_47 : decode cX8_wayOf 47 = .ok (.iload_n 3, 1) := dk_29_ (show cX8_wayOf.data.toList[47]? = some 0x1d from (LBX8_wayOfr_2 15).trans (by decide +kernel))
theorem dX8_wayOf_48 : decode cX8_wayOf 48 = .ok (.ifCond .ne 13, 3) := dk_154_ (show cX8_wayOf.data.toList[48]? = some 0x9a from (LBX8_wayOfr_3 0).trans (by decide +kernel)) (show cX8_wayOf.data.toList[49]? = some 0x00 from (LBX8_wayOfr_3 1).trans (by decide +kernel)) (show cX8_wayOf.data.toList[50]? = some 0x0d from (LBX8_wayOfr_3 2).trans (by decide +kernel)) (by decide)
theorem dX8_wayOf_51 : decode cX8_wayOf 51 = .ok (.aload_n 0, 1) := dk_42_ (show cX8_wayOf.data.toList[51]? = some 0x2a from (LBX8_wayOfr_3 3).trans (by decide +kernel))
theorem dX8_wayOf_52 : decode cX8_wayOf 52 = .ok (.getfield 12, 3) := dk_180_ (show cX8_wayOf.data.toList[52]? = some 0xb4 from (LBX8_wayOfr_3 4).trans (by decide +kernel)) (show cX8_wayOf.data.toList[53]? = some 0x00 from (LBX8_wayOfr_3 5).trans (by decide +kernel)) (show cX8_wayOf.data.toList[54]? = some 0x0c from (LBX8_wayOfr_3 6).trans (by decide +kernel)) (by decide)
theorem dX8_wayOf_55 : decode cX8_wayOf 55 = .ok (.iload_n 1, 1) := dk_27_ (show cX8_wayOf.data.toList[55]? = some 0x1b from (LBX8_wayOfr_3 7).trans (by decide +kernel))
theorem dX8_wayOf_56 : decode cX8_wayOf 56 = .ok (.iload_n 2, 1) := dk_28_ (show cX8_wayOf.data.toList[56]? = some 0x1c from (LBX8_wayOfr_3 8).trans (by decide +kernel))
theorem dX8_wayOf_57 : decode cX8_wayOf 57 = .ok (.invokevirtual 114, 3) := dk_182_ (show cX8_wayOf.data.toList[57]? = some 0xb6 from (LBX8_wayOfr_3 9).trans (by decide +kernel)) (show cX8_wayOf.data.toList[58]? = some 0x00 from (LBX8_wayOfr_3 10).trans (by decide +kernel)) (show cX8_wayOf.data.toList[59]? = some 0x72 from (LBX8_wayOfr_3 11).trans (by decide +kernel)) (by decide)
theorem dX8_wayOf_60 : decode cX8_wayOf 60 = .ok (.ireturn, 1) := dk_172_ (show cX8_wayOf.data.toList[60]? = some 0xac from (LBX8_wayOfr_3 12).trans (by decide +kernel))
theorem dX8_wayOf_61 : decode cX8_wayOf 61 = .ok (.iload_n 3, 1) := dk_29_ (show cX8_wayOf.data.toList[61]? = some 0x1d from (LBX8_wayOfr_3 13).trans (by decide +kernel))
theorem dX8_wayOf_62 : decode cX8_wayOf 62 = .ok (.iconst 1, 1) := dk_4_ (show cX8_wayOf.data.toList[62]? = some 0x04 from (LBX8_wayOfr_3 14).trans (by decide +kernel))
theorem dX8_wayOf_63 : decode cX8_wayOf 63 = .ok (.if_icmp .ne 13, 3) := dk_160_ (show cX8_wayOf.data.toList[63]? = some 0xa0 from (LBX8_wayOfr_3 15).trans (by decide +kernel)) (show cX8_wayOf.data.toList[64]? = some 0x00 from (LBX8_wayOfr_4 0).trans (by decide +kernel)) (show cX8_wayOf.data.toList[65]? = some 0x0d from (LBX8_wayOfr_4 1).trans (by decide +kernel)) (by decide)
theorem dX8_wayOf_66 : decode cX8_wayOf 66 = .ok (.aload_n 0, 1) := dk_42_ (show cX8_wayOf.data.toList[66]? = some 0x2a from (LBX8_wayOfr_4 2).trans (by decide +kernel))
theorem dX8_wayOf_67 : decode cX8_wayOf 67 = .ok (.getfield 12, 3) := dk_180_ (show cX8_wayOf.data.toList[67]? = some 0xb4 from (LBX8_wayOfr_4 3).trans (by decide +kernel)) (show cX8_wayOf.data.toList[68]? = some 0x00 from (LBX8_wayOfr_4 4).trans (by decide +kernel)) (show cX8_wayOf.data.toList[69]? = some 0x0c from (LBX8_wayOfr_4 5).trans (by decide +kernel)) (by decide)
theorem dX8_wayOf_70 : decode cX8_wayOf 70 = .ok (.iload_n 1, 1) := dk_27_ (show cX8_wayOf.data.toList[70]? = some 0x1b from (LBX8_wayOfr_4 6).trans (by decide +kernel))
theorem dX8_wayOf_71 : decode cX8_wayOf 71 = .ok (.iload_n 2, 1) := dk_28_ (show cX8_wayOf.data.toList[71]? = some 0x1c from (LBX8_wayOfr_4 7).trans (by decide +kernel))
theorem dX8_wayOf_72 : decode cX8_wayOf 72 = .ok (.invokevirtual 118, 3) := dk_182_ (show cX8_wayOf.data.toList[72]? = some 0xb6 from (LBX8_wayOfr_4 8).trans (by decide +kernel)) (show cX8_wayOf.data.toList[73]? = some 0x00 from (LBX8_wayOfr_4 9).trans (by decide +kernel)) (show cX8_wayOf.data.toList[74]? = some 0x76 from (LBX8_wayOfr_4 10).trans (by decide +kernel)) (by decide)
theorem dX8_wayOf_75 : decode cX8_wayOf 75 = .ok (.ireturn, 1) := dk_172_ (show cX8_wayOf.data.toList[75]? = some 0xac from (LBX8_wayOfr_4 11).trans (by decide +kernel))
theorem dX8_wayOf_76 : decode cX8_wayOf 76 = .ok (.aload_n 0, 1) := dk_42_ (show cX8_wayOf.data.toList[76]? = some 0x2a from (LBX8_wayOfr_4 12).trans (by decide +kernel))
theorem dX8_wayOf_77 : decode cX8_wayOf 77 = .ok (.getfield 12, 3) := dk_180_ (show cX8_wayOf.data.toList[77]? = some 0xb4 from (LBX8_wayOfr_4 13).trans (by decide +kernel)) (show cX8_wayOf.data.toList[78]? = some 0x00 from (LBX8_wayOfr_4 14).trans (by decide +kernel)) (show cX8_wayOf.data.toList[79]? = some 0x0c from (LBX8_wayOfr_4 15).trans (by decide +kernel)) (by decide)
theorem dX8_wayOf_80 : decode cX8_wayOf 80 = .ok (.iload_n 1, 1) := dk_27_ (show cX8_wayOf.data.toList[80]? = some 0x1b from (LBX8_wayOfr_5 0).trans (by decide +kernel))
theorem dX8_wayOf_81 : decode cX8_wayOf 81 = .ok (.iload_n 2, 1) := dk_28_ (show cX8_wayOf.data.toList[81]? = some 0x1c from (LBX8_wayOfr_5 1).trans (by decide +kernel))
theorem dX8_wayOf_82 : decode cX8_wayOf 82 = .ok (.invokevirtual 121, 3) := dk_182_ (show cX8_wayOf.data.toList[82]? = some 0xb6 from (LBX8_wayOfr_5 2).trans (by decide +kernel)) (show cX8_wayOf.data.toList[83]? = some 0x00 from (LBX8_wayOfr_5 3).trans (by decide +kernel)) (show cX8_wayOf.data.toList[84]? = some 0x79 from (LBX8_wayOfr_5 4).trans (by decide +kernel)) (by decide)
theorem dX8_wayOf_85 : decode cX8_wayOf 85 = .ok (.ifCond .eq 7, 3) := dk_153_ (show cX8_wayOf.data.toList[85]? = some 0x99 from (LBX8_wayOfr_5 5).trans (by decide +kernel)) (show cX8_wayOf.data.toList[86]? = some 0x00 from (LBX8_wayOfr_5 6).trans (by decide +kernel)) (show cX8_wayOf.data.toList[87]? = some 0x07 from (LBX8_wayOfr_5 7).trans (by decide +kernel)) (by decide)
theorem dX8_wayOf_88 : decode cX8_wayOf 88 = .ok (.iconst 0, 1) := dk_3_ (show cX8_wayOf.data.toList[88]? = some 0x03 from (LBX8_wayOfr_5 8).trans (by decide +kernel))
theorem dX8_wayOf_89 : decode cX8_wayOf 89 = .ok (.goto 4, 3) := dk_167_ (show cX8_wayOf.data.toList[89]? = some 0xa7 from (LBX8_wayOfr_5 9).trans (by decide +kernel)) (show cX8_wayOf.data.toList[90]? = some 0x00 from (LBX8_wayOfr_5 10).trans (by decide +kernel)) (show cX8_wayOf.data.toList[91]? = some 0x04 from (LBX8_wayOfr_5 11).trans (by decide +kernel)) (by decide)
theorem dX8_wayOf_92 : decode cX8_wayOf 92 = .ok (.iconst 1, 1) := dk_4_ (show cX8_wayOf.data.toList[92]? = some 0x04 from (LBX8_wayOfr_5 12).trans (by decide +kernel))
theorem dX8_wayOf_93 : decode cX8_wayOf 93 = .ok (.ireturn, 1) := dk_172_ (show cX8_wayOf.data.toList[93]? = some 0xac from (LBX8_wayOfr_5 13).trans (by decide +kernel))
def LRX8_shut_5 : List UInt8 := []
def LBX8_shut_4 : List UInt8 := [0xb6, 0x00, 0x7c, 0x15, 0x04, 0x1d, 0xa0, 0x00, 0x07, 0x03, 0xa7, 0x00, 0x04, 0x04, 0xac]
def LRX8_shut_4 : List UInt8 := LBX8_shut_4 ++ LRX8_shut_5
def LBX8_shut_3 : List UInt8 := [0x00, 0x07, 0x04, 0xa7, 0x00, 0x04, 0x03, 0x36, 0x04, 0x2a, 0xb4, 0x00, 0x0c, 0x1b, 0x1c, 0x1d]
def LRX8_shut_3 : List UInt8 := LBX8_shut_3 ++ LRX8_shut_4
def LBX8_shut_2 : List UInt8 := [0x12, 0x71, 0xb6, 0x00, 0x50, 0xac, 0x2a, 0xb4, 0x00, 0x0c, 0x1b, 0x1c, 0xb6, 0x00, 0x79, 0x9a]
def LRX8_shut_2 : List UInt8 := LBX8_shut_2 ++ LRX8_shut_3
def LBX8_shut_1 : List UInt8 := [0x00, 0x50, 0xac, 0x2a, 0xb4, 0x00, 0x0c, 0x1b, 0x1c, 0xb6, 0x00, 0x6a, 0x9a, 0x00, 0x0a, 0x2a]
def LRX8_shut_1 : List UInt8 := LBX8_shut_1 ++ LRX8_shut_2
def LBX8_shut_0 : List UInt8 := [0x2a, 0xb4, 0x00, 0x0c, 0x1b, 0x1c, 0xb6, 0x00, 0x63, 0x9a, 0x00, 0x0a, 0x2a, 0x12, 0x5f, 0xb6]
def LRX8_shut_0 : List UInt8 := LBX8_shut_0 ++ LRX8_shut_1
set_option maxRecDepth 100000 in
theorem LBX8_shut_eq : cX8_shut.data.toList = LRX8_shut_0 := by decide +kernel
theorem LBX8_shutr_0 (k : Nat) : cX8_shut.data.toList[0 + k]? = LRX8_shut_0[k]? := by rw [LBX8_shut_eq, Nat.zero_add]
theorem LBX8_shutr_1 (k : Nat) : cX8_shut.data.toList[16 + k]? = LRX8_shut_1[k]? := by
  have h := LBX8_shutr_0 (16 + k)
  rw [show 0 + (16 + k) = 16 + k by omega] at h
  rw [h]
  exact (List.getElem?_append_right (l₁ := LBX8_shut_0) (l₂ := LRX8_shut_1) (show 16 ≤ 16 + k by omega)).trans (congrArg (fun i => LRX8_shut_1[i]?) (show 16 + k - 16 = k by omega))
theorem LBX8_shutr_2 (k : Nat) : cX8_shut.data.toList[32 + k]? = LRX8_shut_2[k]? := by
  have h := LBX8_shutr_1 (16 + k)
  rw [show 16 + (16 + k) = 32 + k by omega] at h
  rw [h]
  exact (List.getElem?_append_right (l₁ := LBX8_shut_1) (l₂ := LRX8_shut_2) (show 16 ≤ 16 + k by omega)).trans (congrArg (fun i => LRX8_shut_2[i]?) (show 16 + k - 16 = k by omega))
theorem LBX8_shutr_3 (k : Nat) : cX8_shut.data.toList[48 + k]? = LRX8_shut_3[k]? := by
  have h := LBX8_shutr_2 (16 + k)
  rw [show 32 + (16 + k) = 48 + k by omega] at h
  rw [h]
  exact (List.getElem?_append_right (l₁ := LBX8_shut_2) (l₂ := LRX8_shut_3) (show 16 ≤ 16 + k by omega)).trans (congrArg (fun i => LRX8_shut_3[i]?) (show 16 + k - 16 = k by omega))
theorem LBX8_shutr_4 (k : Nat) : cX8_shut.data.toList[64 + k]? = LRX8_shut_4[k]? := by
  have h := LBX8_shutr_3 (16 + k)
  rw [show 48 + (16 + k) = 64 + k by omega] at h
  rw [h]
  exact (List.getElem?_append_right (l₁ := LBX8_shut_3) (l₂ := LRX8_shut_4) (show 16 ≤ 16 + k by omega)).trans (congrArg (fun i => LRX8_shut_4[i]?) (show 16 + k - 16 = k by omega))
theorem dX8_shut_0 : decode cX8_shut 0 = .ok (.aload_n 0, 1) := dk_42_ (show cX8_shut.data.toList[0]? = some 0x2a from (LBX8_shutr_0 0).trans (by decide +kernel))
theorem dX8_shut_1 : decode cX8_shut 1 = .ok (.getfield 12, 3) := dk_180_ (show cX8_shut.data.toList[1]? = some 0xb4 from (LBX8_shutr_0 1).trans (by decide +kernel)) (show cX8_shut.data.toList[2]? = some 0x00 from (LBX8_shutr_0 2).trans (by decide +kernel)) (show cX8_shut.data.toList[3]? = some 0x0c from (LBX8_shutr_0 3).trans (by decide +kernel)) (by decide)
theorem dX8_shut_4 : decode cX8_shut 4 = .ok (.iload_n 1, 1) := dk_27_ (show cX8_shut.data.toList[4]? = some 0x1b from (LBX8_shutr_0 4).trans (by decide +kernel))
theorem dX8_shut_5 : decode cX8_shut 5 = .ok (.iload_n 2, 1) := dk_28_ (show cX8_shut.data.toList[5]? = some 0x1c from (LBX8_shutr_0 5).trans (by decide +kernel))
theorem dX8_shut_6 : decode cX8_shut 6 = .ok (.invokevirtual 99, 3) := dk_182_ (show cX8_shut.data.toList[6]? = some 0xb6 from (LBX8_shutr_0 6).trans (by decide +kernel)) (show cX8_shut.data.toList[7]? = some 0x00 from (LBX8_shutr_0 7).trans (by decide +kernel)) (show cX8_shut.data.toList[8]? = some 0x63 from (LBX8_shutr_0 8).trans (by decide +kernel)) (by decide)
theorem dX8_shut_9 : decode cX8_shut 9 = .ok (.ifCond .ne 10, 3) := dk_154_ (show cX8_shut.data.toList[9]? = some 0x9a from (LBX8_shutr_0 9).trans (by decide +kernel)) (show cX8_shut.data.toList[10]? = some 0x00 from (LBX8_shutr_0 10).trans (by decide +kernel)) (show cX8_shut.data.toList[11]? = some 0x0a from (LBX8_shutr_0 11).trans (by decide +kernel)) (by decide)
theorem dX8_shut_12 : decode cX8_shut 12 = .ok (.aload_n 0, 1) := dk_42_ (show cX8_shut.data.toList[12]? = some 0x2a from (LBX8_shutr_0 12).trans (by decide +kernel))
theorem dX8_shut_13 : decode cX8_shut 13 = .ok (.ldc 95, 2) := dk_18_ (show cX8_shut.data.toList[13]? = some 0x12 from (LBX8_shutr_0 13).trans (by decide +kernel)) (show cX8_shut.data.toList[14]? = some 0x5f from (LBX8_shutr_0 14).trans (by decide +kernel)) (by decide)
theorem dX8_shut_15 : decode cX8_shut 15 = .ok (.invokevirtual 80, 3) := dk_182_ (show cX8_shut.data.toList[15]? = some 0xb6 from (LBX8_shutr_0 15).trans (by decide +kernel)) (show cX8_shut.data.toList[16]? = some 0x00 from (LBX8_shutr_1 0).trans (by decide +kernel)) (show cX8_shut.data.toList[17]? = some 0x50 from (LBX8_shutr_1 1).trans (by decide +kernel)) (by decide)
theorem dX8_shut_18 : decode cX8_shut 18 = .ok (.ireturn, 1) := dk_172_ (show cX8_shut.data.toList[18]? = some 0xac from (LBX8_shutr_1 2).trans (by decide +kernel))
theorem dX8_shut_19 : decode cX8_shut 19 = .ok (.aload_n 0, 1) := dk_42_ (show cX8_shut.data.toList[19]? = some 0x2a from (LBX8_shutr_1 3).trans (by decide +kernel))
theorem dX8_shut_20 : decode cX8_shut 20 = .ok (.getfield 12, 3) := dk_180_ (show cX8_shut.data.toList[20]? = some 0xb4 from (LBX8_shutr_1 4).trans (by decide +kernel)) (show cX8_shut.data.toList[21]? = some 0x00 from (LBX8_shutr_1 5).trans (by decide +kernel)) (show cX8_shut.data.toList[22]? = some 0x0c from (LBX8_shutr_1 6).trans (by decide +kernel)) (by decide)
theorem dX8_shut_23 : decode cX8_shut 23 = .ok (.iload_n 1, 1) := dk_27_ (show cX8_shut.data.toList[23]? = some 0x1b from (LBX8_shutr_1 7).trans (by decide +kernel))
theorem dX8_shut_24 : decode cX8_shut 24 = .ok (.iload_n 2, 1) := dk_28_ (show cX8_shut.data.toList[24]? = some 0x1c from (LBX8_shutr_1 8).trans (by decide +kernel))
theorem dX8_shut_25 : decode cX8_shut 25 = .ok (.invokevirtual 106, 3) := dk_182_ (show cX8_shut.data.toList[25]? = some 0xb6 from (LBX8_shutr_1 9).trans (by decide +kernel)) (show cX8_shut.data.toList[26]? = some 0x00 from (LBX8_shutr_1 10).trans (by decide +kernel)) (show cX8_shut.data.toList[27]? = some 0x6a from (LBX8_shutr_1 11).trans (by decide +kernel)) (by decide)
theorem dX8_shut_28 : decode cX8_shut 28 = .ok (.ifCond .ne 10, 3) := dk_154_ (show cX8_shut.data.toList[28]? = some 0x9a from (LBX8_shutr_1 12).trans (by decide +kernel)) (show cX8_shut.data.toList[29]? = some 0x00 from (LBX8_shutr_1 13).trans (by decide +kernel)) (show cX8_shut.data.toList[30]? = some 0x0a from (LBX8_shutr_1 14).trans (by decide +kernel)) (by decide)
theorem dX8_shut_31 : decode cX8_shut 31 = .ok (.aload_n 0, 1) := dk_42_ (show cX8_shut.data.toList[31]? = some 0x2a from (LBX8_shutr_1 15).trans (by decide +kernel))
theorem dX8_shut_32 : decode cX8_shut 32 = .ok (.ldc 113, 2) := dk_18_ (show cX8_shut.data.toList[32]? = some 0x12 from (LBX8_shutr_2 0).trans (by decide +kernel)) (show cX8_shut.data.toList[33]? = some 0x71 from (LBX8_shutr_2 1).trans (by decide +kernel)) (by decide)
theorem dX8_shut_34 : decode cX8_shut 34 = .ok (.invokevirtual 80, 3) := dk_182_ (show cX8_shut.data.toList[34]? = some 0xb6 from (LBX8_shutr_2 2).trans (by decide +kernel)) (show cX8_shut.data.toList[35]? = some 0x00 from (LBX8_shutr_2 3).trans (by decide +kernel)) (show cX8_shut.data.toList[36]? = some 0x50 from (LBX8_shutr_2 4).trans (by decide +kernel)) (by decide)
theorem dX8_shut_37 : decode cX8_shut 37 = .ok (.ireturn, 1) := dk_172_ (show cX8_shut.data.toList[37]? = some 0xac from (LBX8_shutr_2 5).trans (by decide +kernel))
theorem dX8_shut_38 : decode cX8_shut 38 = .ok (.aload_n 0, 1) := dk_42_ (show cX8_shut.data.toList[38]? = some 0x2a from (LBX8_shutr_2 6).trans (by decide +kernel))
theorem dX8_shut_39 : decode cX8_shut 39 = .ok (.getfield 12, 3) := dk_180_ (show cX8_shut.data.toList[39]? = some 0xb4 from (LBX8_shutr_2 7).trans (by decide +kernel)) (show cX8_shut.data.toList[40]? = some 0x00 from (LBX8_shutr_2 8).trans (by decide +kernel)) (show cX8_shut.data.toList[41]? = some 0x0c from (LBX8_shutr_2 9).trans (by decide +kernel)) (by decide)
theorem dX8_shut_42 : decode cX8_shut 42 = .ok (.iload_n 1, 1) := dk_27_ (show cX8_shut.data.toList[42]? = some 0x1b from (LBX8_shutr_2 10).trans (by decide +kernel))
theorem dX8_shut_43 : decode cX8_shut 43 = .ok (.iload_n 2, 1) := dk_28_ (show cX8_shut.data.toList[43]? = some 0x1c from (LBX8_shutr_2 11).trans (by decide +kernel))
theorem dX8_shut_44 : decode cX8_shut 44 = .ok (.invokevirtual 121, 3) := dk_182_ (show cX8_shut.data.toList[44]? = some 0xb6 from (LBX8_shutr_2 12).trans (by decide +kernel)) (show cX8_shut.data.toList[45]? = some 0x00 from (LBX8_shutr_2 13).trans (by decide +kernel)) (show cX8_shut.data.toList[46]? = some 0x79 from (LBX8_shutr_2 14).trans (by decide +kernel)) (by decide)
theorem dX8_shut_47 : decode cX8_shut 47 = .ok (.ifCond .ne 7, 3) := dk_154_ (show cX8_shut.data.toList[47]? = some 0x9a from (LBX8_shutr_2 15).trans (by decide +kernel)) (show cX8_shut.data.toList[48]? = some 0x00 from (LBX8_shutr_3 0).trans (by decide +kernel)) (show cX8_shut.data.toList[49]? = some 0x07 from (LBX8_shutr_3 1).trans (by decide +kernel)) (by decide)
theorem dX8_shut_50 : decode cX8_shut 50 = .ok (.iconst 1, 1) := dk_4_ (show cX8_shut.data.toList[50]? = some 0x04 from (LBX8_shutr_3 2).trans (by decide +kernel))
theorem dX8_shut_51 : decode cX8_shut 51 = .ok (.goto 4, 3) := dk_167_ (show cX8_shut.data.toList[51]? = some 0xa7 from (LBX8_shutr_3 3).trans (by decide +kernel)) (show cX8_shut.data.toList[52]? = some 0x00 from (LBX8_shutr_3 4).trans (by decide +kernel)) (show cX8_shut.data.toList[53]? = some 0x04 from (LBX8_shutr_3 5).trans (by decide +kernel)) (by decide)
theorem dX8_shut_54 : decode cX8_shut 54 = .ok (.iconst 0, 1) := dk_3_ (show cX8_shut.data.toList[54]? = some 0x03 from (LBX8_shutr_3 6).trans (by decide +kernel))
theorem dX8_shut_55 : decode cX8_shut 55 = .ok (.istore 4, 2) := dk_54_ (show cX8_shut.data.toList[55]? = some 0x36 from (LBX8_shutr_3 7).trans (by decide +kernel)) (show cX8_shut.data.toList[56]? = some 0x04 from (LBX8_shutr_3 8).trans (by decide +kernel)) (by decide)
theorem dX8_shut_57 : decode cX8_shut 57 = .ok (.aload_n 0, 1) := dk_42_ (show cX8_shut.data.toList[57]? = some 0x2a from (LBX8_shutr_3 9).trans (by decide +kernel))
theorem dX8_shut_58 : decode cX8_shut 58 = .ok (.getfield 12, 3) := dk_180_ (show cX8_shut.data.toList[58]? = some 0xb4 from (LBX8_shutr_3 10).trans (by decide +kernel)) (show cX8_shut.data.toList[59]? = some 0x00 from (LBX8_shutr_3 11).trans (by decide +kernel)) (show cX8_shut.data.toList[60]? = some 0x0c from (LBX8_shutr_3 12).trans (by decide +kernel)) (by decide)
theorem dX8_shut_61 : decode cX8_shut 61 = .ok (.iload_n 1, 1) := dk_27_ (show cX8_shut.data.toList[61]? = some 0x1b from (LBX8_shutr_3 13).trans (by decide +kernel))
theorem dX8_shut_62 : decode cX8_shut 62 = .ok (.iload_n 2, 1) := dk_28_ (show cX8_shut.data.toList[62]? = some 0x1c from (LBX8_shutr_3 14).trans (by decide +kernel))
theorem dX8_shut_63 : decode cX8_shut 63 = .ok (.iload_n 3, 1) := dk_29_ (show cX8_shut.data.toList[63]? = some 0x1d from (LBX8_shutr_3 15).trans (by decide +kernel))
theorem dX8_shut_64 : decode cX8_shut 64 = .ok (.invokevirtual 124, 3) := dk_182_ (show cX8_shut.data.toList[64]? = some 0xb6 from (LBX8_shutr_4 0).trans (by decide +kernel)) (show cX8_shut.data.toList[65]? = some 0x00 from (LBX8_shutr_4 1).trans (by decide +kernel)) (show cX8_shut.data.toList[66]? = some 0x7c from (LBX8_shutr_4 2).trans (by decide +kernel)) (by decide)
theorem dX8_shut_67 : decode cX8_shut 67 = .ok (.iload 4, 2) := dk_21_ (show cX8_shut.data.toList[67]? = some 0x15 from (LBX8_shutr_4 3).trans (by decide +kernel)) (show cX8_shut.data.toList[68]? = some 0x04 from (LBX8_shutr_4 4).trans (by decide +kernel)) (by decide)
theorem dX8_shut_69 : decode cX8_shut 69 = .ok (.iload_n 3, 1) := dk_29_ (show cX8_shut.data.toList[69]? = some 0x1d from (LBX8_shutr_4 5).trans (by decide +kernel))
theorem dX8_shut_70 : decode cX8_shut 70 = .ok (.if_icmp .ne 7, 3) := dk_160_ (show cX8_shut.data.toList[70]? = some 0xa0 from (LBX8_shutr_4 6).trans (by decide +kernel)) (show cX8_shut.data.toList[71]? = some 0x00 from (LBX8_shutr_4 7).trans (by decide +kernel)) (show cX8_shut.data.toList[72]? = some 0x07 from (LBX8_shutr_4 8).trans (by decide +kernel)) (by decide)
theorem dX8_shut_73 : decode cX8_shut 73 = .ok (.iconst 0, 1) := dk_3_ (show cX8_shut.data.toList[73]? = some 0x03 from (LBX8_shutr_4 9).trans (by decide +kernel))
theorem dX8_shut_74 : decode cX8_shut 74 = .ok (.goto 4, 3) := dk_167_ (show cX8_shut.data.toList[74]? = some 0xa7 from (LBX8_shutr_4 10).trans (by decide +kernel)) (show cX8_shut.data.toList[75]? = some 0x00 from (LBX8_shutr_4 11).trans (by decide +kernel)) (show cX8_shut.data.toList[76]? = some 0x04 from (LBX8_shutr_4 12).trans (by decide +kernel)) (by decide)
theorem dX8_shut_77 : decode cX8_shut 77 = .ok (.iconst 1, 1) := dk_4_ (show cX8_shut.data.toList[77]? = some 0x04 from (LBX8_shutr_4 13).trans (by decide +kernel))
theorem dX8_shut_78 : decode cX8_shut 78 = .ok (.ireturn, 1) := dk_172_ (show cX8_shut.data.toList[78]? = some 0xac from (LBX8_shutr_4 14).trans (by decide +kernel))
def LRX8_isLooped_2 : List UInt8 := []
def LBX8_isLooped_1 : List UInt8 := [0x01, 0x4c, 0xac]
def LRX8_isLooped_1 : List UInt8 := LBX8_isLooped_1 ++ LRX8_isLooped_2
def LBX8_isLooped_0 : List UInt8 := [0x2a, 0xb4, 0x00, 0x1d, 0x2a, 0xb4, 0x00, 0x0c, 0xb6, 0x00, 0x92, 0x2a, 0xb4, 0x00, 0x1d, 0xb6]
def LRX8_isLooped_0 : List UInt8 := LBX8_isLooped_0 ++ LRX8_isLooped_1
set_option maxRecDepth 100000 in
theorem LBX8_isLooped_eq : cX8_isLooped.data.toList = LRX8_isLooped_0 := by decide +kernel
theorem LBX8_isLoopedr_0 (k : Nat) : cX8_isLooped.data.toList[0 + k]? = LRX8_isLooped_0[k]? := by rw [LBX8_isLooped_eq, Nat.zero_add]
theorem LBX8_isLoopedr_1 (k : Nat) : cX8_isLooped.data.toList[16 + k]? = LRX8_isLooped_1[k]? := by
  have h := LBX8_isLoopedr_0 (16 + k)
  rw [show 0 + (16 + k) = 16 + k by omega] at h
  rw [h]
  exact (List.getElem?_append_right (l₁ := LBX8_isLooped_0) (l₂ := LRX8_isLooped_1) (show 16 ≤ 16 + k by omega)).trans (congrArg (fun i => LRX8_isLooped_1[i]?) (show 16 + k - 16 = k by omega))
theorem dX8_isLooped_0 : decode cX8_isLooped 0 = .ok (.aload_n 0, 1) := dk_42_ (show cX8_isLooped.data.toList[0]? = some 0x2a from (LBX8_isLoopedr_0 0).trans (by decide +kernel))
theorem dX8_isLooped_1 : decode cX8_isLooped 1 = .ok (.getfield 29, 3) := dk_180_ (show cX8_isLooped.data.toList[1]? = some 0xb4 from (LBX8_isLoopedr_0 1).trans (by decide +kernel)) (show cX8_isLooped.data.toList[2]? = some 0x00 from (LBX8_isLoopedr_0 2).trans (by decide +kernel)) (show cX8_isLooped.data.toList[3]? = some 0x1d from (LBX8_isLoopedr_0 3).trans (by decide +kernel)) (by decide)
theorem dX8_isLooped_4 : decode cX8_isLooped 4 = .ok (.aload_n 0, 1) := dk_42_ (show cX8_isLooped.data.toList[4]? = some 0x2a from (LBX8_isLoopedr_0 4).trans (by decide +kernel))
theorem dX8_isLooped_5 : decode cX8_isLooped 5 = .ok (.getfield 12, 3) := dk_180_ (show cX8_isLooped.data.toList[5]? = some 0xb4 from (LBX8_isLoopedr_0 5).trans (by decide +kernel)) (show cX8_isLooped.data.toList[6]? = some 0x00 from (LBX8_isLoopedr_0 6).trans (by decide +kernel)) (show cX8_isLooped.data.toList[7]? = some 0x0c from (LBX8_isLoopedr_0 7).trans (by decide +kernel)) (by decide)
theorem dX8_isLooped_8 : decode cX8_isLooped 8 = .ok (.invokevirtual 146, 3) := dk_182_ (show cX8_isLooped.data.toList[8]? = some 0xb6 from (LBX8_isLoopedr_0 8).trans (by decide +kernel)) (show cX8_isLooped.data.toList[9]? = some 0x00 from (LBX8_isLoopedr_0 9).trans (by decide +kernel)) (show cX8_isLooped.data.toList[10]? = some 0x92 from (LBX8_isLoopedr_0 10).trans (by decide +kernel)) (by decide)
theorem dX8_isLooped_11 : decode cX8_isLooped 11 = .ok (.aload_n 0, 1) := dk_42_ (show cX8_isLooped.data.toList[11]? = some 0x2a from (LBX8_isLoopedr_0 11).trans (by decide +kernel))
theorem dX8_isLooped_12 : decode cX8_isLooped 12 = .ok (.getfield 29, 3) := dk_180_ (show cX8_isLooped.data.toList[12]? = some 0xb4 from (LBX8_isLoopedr_0 12).trans (by decide +kernel)) (show cX8_isLooped.data.toList[13]? = some 0x00 from (LBX8_isLoopedr_0 13).trans (by decide +kernel)) (show cX8_isLooped.data.toList[14]? = some 0x1d from (LBX8_isLoopedr_0 14).trans (by decide +kernel)) (by decide)
theorem dX8_isLooped_15 : decode cX8_isLooped 15 = .ok (.invokevirtual 332, 3) := dk_182_ (show cX8_isLooped.data.toList[15]? = some 0xb6 from (LBX8_isLoopedr_0 15).trans (by decide +kernel)) (show cX8_isLooped.data.toList[16]? = some 0x01 from (LBX8_isLoopedr_1 0).trans (by decide +kernel)) (show cX8_isLooped.data.toList[17]? = some 0x4c from (LBX8_isLoopedr_1 1).trans (by decide +kernel)) (by decide)
theorem dX8_isLooped_18 : decode cX8_isLooped 18 = .ok (.ireturn, 1) := dk_172_ (show cX8_isLooped.data.toList[18]? = some 0xac from (LBX8_isLoopedr_1 2).trans (by decide +kernel))
def LRX8_far_4 : List UInt8 := []
def LBX8_far_3 : List UInt8 := [0x00, 0x1d, 0x1b, 0x1c, 0xb6, 0x00, 0x85, 0xb6, 0x00, 0x88, 0xac]
def LRX8_far_3 : List UInt8 := LBX8_far_3 ++ LRX8_far_4
def LBX8_far_2 : List UInt8 := [0xb6, 0x00, 0x80, 0x99, 0x00, 0x0a, 0x2a, 0x12, 0x84, 0xb6, 0x00, 0x50, 0xac, 0x2a, 0x2a, 0xb4]
def LRX8_far_2 : List UInt8 := LBX8_far_2 ++ LRX8_far_3
def LBX8_far_1 : List UInt8 := [0x1c, 0x85, 0xb6, 0x00, 0x57, 0x9a, 0x00, 0x0a, 0x2a, 0x12, 0x5f, 0xb6, 0x00, 0x50, 0xac, 0x2a]
def LRX8_far_1 : List UInt8 := LBX8_far_1 ++ LRX8_far_2
def LBX8_far_0 : List UInt8 := [0x2a, 0xb4, 0x00, 0x0c, 0x1b, 0x85, 0xb6, 0x00, 0x57, 0x99, 0x00, 0x0f, 0x2a, 0xb4, 0x00, 0x0c]
def LRX8_far_0 : List UInt8 := LBX8_far_0 ++ LRX8_far_1
set_option maxRecDepth 100000 in
theorem LBX8_far_eq : cX8_far.data.toList = LRX8_far_0 := by decide +kernel
theorem LBX8_farr_0 (k : Nat) : cX8_far.data.toList[0 + k]? = LRX8_far_0[k]? := by rw [LBX8_far_eq, Nat.zero_add]
theorem LBX8_farr_1 (k : Nat) : cX8_far.data.toList[16 + k]? = LRX8_far_1[k]? := by
  have h := LBX8_farr_0 (16 + k)
  rw [show 0 + (16 + k) = 16 + k by omega] at h
  rw [h]
  exact (List.getElem?_append_right (l₁ := LBX8_far_0) (l₂ := LRX8_far_1) (show 16 ≤ 16 + k by omega)).trans (congrArg (fun i => LRX8_far_1[i]?) (show 16 + k - 16 = k by omega))
theorem LBX8_farr_2 (k : Nat) : cX8_far.data.toList[32 + k]? = LRX8_far_2[k]? := by
  have h := LBX8_farr_1 (16 + k)
  rw [show 16 + (16 + k) = 32 + k by omega] at h
  rw [h]
  exact (List.getElem?_append_right (l₁ := LBX8_far_1) (l₂ := LRX8_far_2) (show 16 ≤ 16 + k by omega)).trans (congrArg (fun i => LRX8_far_2[i]?) (show 16 + k - 16 = k by omega))
theorem LBX8_farr_3 (k : Nat) : cX8_far.data.toList[48 + k]? = LRX8_far_3[k]? := by
  have h := LBX8_farr_2 (16 + k)
  rw [show 32 + (16 + k) = 48 + k by omega] at h
  rw [h]
  exact (List.getElem?_append_right (l₁ := LBX8_far_2) (l₂ := LRX8_far_3) (show 16 ≤ 16 + k by omega)).trans (congrArg (fun i => LRX8_far_3[i]?) (show 16 + k - 16 = k by omega))
theorem dX8_far_0 : decode cX8_far 0 = .ok (.aload_n 0, 1) := dk_42_ (show cX8_far.data.toList[0]? = some 0x2a from (LBX8_farr_0 0).trans (by decide +kernel))
theorem dX8_far_1 : decode cX8_far 1 = .ok (.getfield 12, 3) := dk_180_ (show cX8_far.data.toList[1]? = some 0xb4 from (LBX8_farr_0 1).trans (by decide +kernel)) (show cX8_far.data.toList[2]? = some 0x00 from (LBX8_farr_0 2).trans (by decide +kernel)) (show cX8_far.data.toList[3]? = some 0x0c from (LBX8_farr_0 3).trans (by decide +kernel)) (by decide)
theorem dX8_far_4 : decode cX8_far 4 = .ok (.iload_n 1, 1) := dk_27_ (show cX8_far.data.toList[4]? = some 0x1b from (LBX8_farr_0 4).trans (by decide +kernel))
theorem dX8_far_5 : decode cX8_far 5 = .ok (.i2l, 1) := dk_133_ (show cX8_far.data.toList[5]? = some 0x85 from (LBX8_farr_0 5).trans (by decide +kernel))
theorem dX8_far_6 : decode cX8_far 6 = .ok (.invokevirtual 87, 3) := dk_182_ (show cX8_far.data.toList[6]? = some 0xb6 from (LBX8_farr_0 6).trans (by decide +kernel)) (show cX8_far.data.toList[7]? = some 0x00 from (LBX8_farr_0 7).trans (by decide +kernel)) (show cX8_far.data.toList[8]? = some 0x57 from (LBX8_farr_0 8).trans (by decide +kernel)) (by decide)
theorem dX8_far_9 : decode cX8_far 9 = .ok (.ifCond .eq 15, 3) := dk_153_ (show cX8_far.data.toList[9]? = some 0x99 from (LBX8_farr_0 9).trans (by decide +kernel)) (show cX8_far.data.toList[10]? = some 0x00 from (LBX8_farr_0 10).trans (by decide +kernel)) (show cX8_far.data.toList[11]? = some 0x0f from (LBX8_farr_0 11).trans (by decide +kernel)) (by decide)
theorem dX8_far_12 : decode cX8_far 12 = .ok (.aload_n 0, 1) := dk_42_ (show cX8_far.data.toList[12]? = some 0x2a from (LBX8_farr_0 12).trans (by decide +kernel))
theorem dX8_far_13 : decode cX8_far 13 = .ok (.getfield 12, 3) := dk_180_ (show cX8_far.data.toList[13]? = some 0xb4 from (LBX8_farr_0 13).trans (by decide +kernel)) (show cX8_far.data.toList[14]? = some 0x00 from (LBX8_farr_0 14).trans (by decide +kernel)) (show cX8_far.data.toList[15]? = some 0x0c from (LBX8_farr_0 15).trans (by decide +kernel)) (by decide)
theorem dX8_far_16 : decode cX8_far 16 = .ok (.iload_n 2, 1) := dk_28_ (show cX8_far.data.toList[16]? = some 0x1c from (LBX8_farr_1 0).trans (by decide +kernel))
theorem dX8_far_17 : decode cX8_far 17 = .ok (.i2l, 1) := dk_133_ (show cX8_far.data.toList[17]? = some 0x85 from (LBX8_farr_1 1).trans (by decide +kernel))
theorem dX8_far_18 : decode cX8_far 18 = .ok (.invokevirtual 87, 3) := dk_182_ (show cX8_far.data.toList[18]? = some 0xb6 from (LBX8_farr_1 2).trans (by decide +kernel)) (show cX8_far.data.toList[19]? = some 0x00 from (LBX8_farr_1 3).trans (by decide +kernel)) (show cX8_far.data.toList[20]? = some 0x57 from (LBX8_farr_1 4).trans (by decide +kernel)) (by decide)
theorem dX8_far_21 : decode cX8_far 21 = .ok (.ifCond .ne 10, 3) := dk_154_ (show cX8_far.data.toList[21]? = some 0x9a from (LBX8_farr_1 5).trans (by decide +kernel)) (show cX8_far.data.toList[22]? = some 0x00 from (LBX8_farr_1 6).trans (by decide +kernel)) (show cX8_far.data.toList[23]? = some 0x0a from (LBX8_farr_1 7).trans (by decide +kernel)) (by decide)
theorem dX8_far_24 : decode cX8_far 24 = .ok (.aload_n 0, 1) := dk_42_ (show cX8_far.data.toList[24]? = some 0x2a from (LBX8_farr_1 8).trans (by decide +kernel))
theorem dX8_far_25 : decode cX8_far 25 = .ok (.ldc 95, 2) := dk_18_ (show cX8_far.data.toList[25]? = some 0x12 from (LBX8_farr_1 9).trans (by decide +kernel)) (show cX8_far.data.toList[26]? = some 0x5f from (LBX8_farr_1 10).trans (by decide +kernel)) (by decide)
theorem dX8_far_27 : decode cX8_far 27 = .ok (.invokevirtual 80, 3) := dk_182_ (show cX8_far.data.toList[27]? = some 0xb6 from (LBX8_farr_1 11).trans (by decide +kernel)) (show cX8_far.data.toList[28]? = some 0x00 from (LBX8_farr_1 12).trans (by decide +kernel)) (show cX8_far.data.toList[29]? = some 0x50 from (LBX8_farr_1 13).trans (by decide +kernel)) (by decide)
theorem dX8_far_30 : decode cX8_far 30 = .ok (.ireturn, 1) := dk_172_ (show cX8_far.data.toList[30]? = some 0xac from (LBX8_farr_1 14).trans (by decide +kernel))
theorem dX8_far_31 : decode cX8_far 31 = .ok (.aload_n 0, 1) := dk_42_ (show cX8_far.data.toList[31]? = some 0x2a from (LBX8_farr_1 15).trans (by decide +kernel))
theorem dX8_far_32 : decode cX8_far 32 = .ok (.invokevirtual 128, 3) := dk_182_ (show cX8_far.data.toList[32]? = some 0xb6 from (LBX8_farr_2 0).trans (by decide +kernel)) (show cX8_far.data.toList[33]? = some 0x00 from (LBX8_farr_2 1).trans (by decide +kernel)) (show cX8_far.data.toList[34]? = some 0x80 from (LBX8_farr_2 2).trans (by decide +kernel)) (by decide)
theorem dX8_far_35 : decode cX8_far 35 = .ok (.ifCond .eq 10, 3) := dk_153_ (show cX8_far.data.toList[35]? = some 0x99 from (LBX8_farr_2 3).trans (by decide +kernel)) (show cX8_far.data.toList[36]? = some 0x00 from (LBX8_farr_2 4).trans (by decide +kernel)) (show cX8_far.data.toList[37]? = some 0x0a from (LBX8_farr_2 5).trans (by decide +kernel)) (by decide)
theorem dX8_far_38 : decode cX8_far 38 = .ok (.aload_n 0, 1) := dk_42_ (show cX8_far.data.toList[38]? = some 0x2a from (LBX8_farr_2 6).trans (by decide +kernel))
theorem dX8_far_39 : decode cX8_far 39 = .ok (.ldc 132, 2) := dk_18_ (show cX8_far.data.toList[39]? = some 0x12 from (LBX8_farr_2 7).trans (by decide +kernel)) (show cX8_far.data.toList[40]? = some 0x84 from (LBX8_farr_2 8).trans (by decide +kernel)) (by decide)
theorem dX8_far_41 : decode cX8_far 41 = .ok (.invokevirtual 80, 3) := dk_182_ (show cX8_far.data.toList[41]? = some 0xb6 from (LBX8_farr_2 9).trans (by decide +kernel)) (show cX8_far.data.toList[42]? = some 0x00 from (LBX8_farr_2 10).trans (by decide +kernel)) (show cX8_far.data.toList[43]? = some 0x50 from (LBX8_farr_2 11).trans (by decide +kernel)) (by decide)
theorem dX8_far_44 : decode cX8_far 44 = .ok (.ireturn, 1) := dk_172_ (show cX8_far.data.toList[44]? = some 0xac from (LBX8_farr_2 12).trans (by decide +kernel))
theorem dX8_far_45 : decode cX8_far 45 = .ok (.aload_n 0, 1) := dk_42_ (show cX8_far.data.toList[45]? = some 0x2a from (LBX8_farr_2 13).trans (by decide +kernel))
theorem dX8_far_46 : decode cX8_far 46 = .ok (.aload_n 0, 1) := dk_42_ (show cX8_far.data.toList[46]? = some 0x2a from (LBX8_farr_2 14).trans (by decide +kernel))
theorem dX8_far_47 : decode cX8_far 47 = .ok (.getfield 29, 3) := dk_180_ (show cX8_far.data.toList[47]? = some 0xb4 from (LBX8_farr_2 15).trans (by decide +kernel)) (show cX8_far.data.toList[48]? = some 0x00 from (LBX8_farr_3 0).trans (by decide +kernel)) (show cX8_far.data.toList[49]? = some 0x1d from (LBX8_farr_3 1).trans (by decide +kernel)) (by decide)
theorem dX8_far_50 : decode cX8_far 50 = .ok (.iload_n 1, 1) := dk_27_ (show cX8_far.data.toList[50]? = some 0x1b from (LBX8_farr_3 2).trans (by decide +kernel))
theorem dX8_far_51 : decode cX8_far 51 = .ok (.iload_n 2, 1) := dk_28_ (show cX8_far.data.toList[51]? = some 0x1c from (LBX8_farr_3 3).trans (by decide +kernel))
theorem dX8_far_52 : decode cX8_far 52 = .ok (.invokevirtual 133, 3) := dk_182_ (show cX8_far.data.toList[52]? = some 0xb6 from (LBX8_farr_3 4).trans (by decide +kernel)) (show cX8_far.data.toList[53]? = some 0x00 from (LBX8_farr_3 5).trans (by decide +kernel)) (show cX8_far.data.toList[54]? = some 0x85 from (LBX8_farr_3 6).trans (by decide +kernel)) (by decide)
theorem dX8_far_55 : decode cX8_far 55 = .ok (.invokevirtual 136, 3) := dk_182_ (show cX8_far.data.toList[55]? = some 0xb6 from (LBX8_farr_3 7).trans (by decide +kernel)) (show cX8_far.data.toList[56]? = some 0x00 from (LBX8_farr_3 8).trans (by decide +kernel)) (show cX8_far.data.toList[57]? = some 0x88 from (LBX8_farr_3 9).trans (by decide +kernel)) (by decide)
theorem dX8_far_58 : decode cX8_far 58 = .ok (.ireturn, 1) := dk_172_ (show cX8_far.data.toList[58]? = some 0xac from (LBX8_farr_3 10).trans (by decide +kernel))
def LRX8_by_7 : List UInt8 := []
def LBX8_by_6 : List UInt8 := [0x1d, 0x2a, 0xb4, 0x00, 0x0c, 0x1b, 0x1c, 0x1d, 0xb6, 0x00, 0x8e, 0xac]
def LRX8_by_6 : List UInt8 := LBX8_by_6 ++ LRX8_by_7
def LBX8_by_5 : List UInt8 := [0xb6, 0x00, 0x50, 0xac, 0x1d, 0x9c, 0x00, 0x08, 0x15, 0x04, 0xa7, 0x00, 0x11, 0x2a, 0xb4, 0x00]
def LRX8_by_5 : List UInt8 := LBX8_by_5 ++ LRX8_by_6
def LBX8_by_4 : List UInt8 := [0x36, 0x04, 0x15, 0x04, 0x9b, 0x00, 0x09, 0x1d, 0x15, 0x04, 0xa4, 0x00, 0x0a, 0x2a, 0x12, 0x71]
def LRX8_by_4 : List UInt8 := LBX8_by_4 ++ LRX8_by_5
def LBX8_by_3 : List UInt8 := [0x2a, 0x12, 0x84, 0xb6, 0x00, 0x50, 0xac, 0x2a, 0xb4, 0x00, 0x1d, 0x1b, 0x1c, 0xb6, 0x00, 0x8b]
def LRX8_by_3 : List UInt8 := LBX8_by_3 ++ LRX8_by_4
def LBX8_by_2 : List UInt8 := [0x00, 0x0a, 0x2a, 0x12, 0x5f, 0xb6, 0x00, 0x50, 0xac, 0x2a, 0xb6, 0x00, 0x80, 0x99, 0x00, 0x0a]
def LRX8_by_2 : List UInt8 := LBX8_by_2 ++ LRX8_by_3
def LBX8_by_1 : List UInt8 := [0x1c, 0x85, 0xb6, 0x00, 0x57, 0x99, 0x00, 0x0d, 0x1d, 0x02, 0x10, 0x09, 0xb8, 0x00, 0x5b, 0x9a]
def LRX8_by_1 : List UInt8 := LBX8_by_1 ++ LRX8_by_2
def LBX8_by_0 : List UInt8 := [0x2a, 0xb4, 0x00, 0x0c, 0x1b, 0x85, 0xb6, 0x00, 0x57, 0x99, 0x00, 0x19, 0x2a, 0xb4, 0x00, 0x0c]
def LRX8_by_0 : List UInt8 := LBX8_by_0 ++ LRX8_by_1
set_option maxRecDepth 100000 in
theorem LBX8_by_eq : cX8_by.data.toList = LRX8_by_0 := by decide +kernel
theorem LBX8_byr_0 (k : Nat) : cX8_by.data.toList[0 + k]? = LRX8_by_0[k]? := by rw [LBX8_by_eq, Nat.zero_add]
theorem LBX8_byr_1 (k : Nat) : cX8_by.data.toList[16 + k]? = LRX8_by_1[k]? := by
  have h := LBX8_byr_0 (16 + k)
  rw [show 0 + (16 + k) = 16 + k by omega] at h
  rw [h]
  exact (List.getElem?_append_right (l₁ := LBX8_by_0) (l₂ := LRX8_by_1) (show 16 ≤ 16 + k by omega)).trans (congrArg (fun i => LRX8_by_1[i]?) (show 16 + k - 16 = k by omega))
theorem LBX8_byr_2 (k : Nat) : cX8_by.data.toList[32 + k]? = LRX8_by_2[k]? := by
  have h := LBX8_byr_1 (16 + k)
  rw [show 16 + (16 + k) = 32 + k by omega] at h
  rw [h]
  exact (List.getElem?_append_right (l₁ := LBX8_by_1) (l₂ := LRX8_by_2) (show 16 ≤ 16 + k by omega)).trans (congrArg (fun i => LRX8_by_2[i]?) (show 16 + k - 16 = k by omega))
theorem LBX8_byr_3 (k : Nat) : cX8_by.data.toList[48 + k]? = LRX8_by_3[k]? := by
  have h := LBX8_byr_2 (16 + k)
  rw [show 32 + (16 + k) = 48 + k by omega] at h
  rw [h]
  exact (List.getElem?_append_right (l₁ := LBX8_by_2) (l₂ := LRX8_by_3) (show 16 ≤ 16 + k by omega)).trans (congrArg (fun i => LRX8_by_3[i]?) (show 16 + k - 16 = k by omega))
theorem LBX8_byr_4 (k : Nat) : cX8_by.data.toList[64 + k]? = LRX8_by_4[k]? := by
  have h := LBX8_byr_3 (16 + k)
  rw [show 48 + (16 + k) = 64 + k by omega] at h
  rw [h]
  exact (List.getElem?_append_right (l₁ := LBX8_by_3) (l₂ := LRX8_by_4) (show 16 ≤ 16 + k by omega)).trans (congrArg (fun i => LRX8_by_4[i]?) (show 16 + k - 16 = k by omega))
theorem LBX8_byr_5 (k : Nat) : cX8_by.data.toList[80 + k]? = LRX8_by_5[k]? := by
  have h := LBX8_byr_4 (16 + k)
  rw [show 64 + (16 + k) = 80 + k by omega] at h
  rw [h]
  exact (List.getElem?_append_right (l₁ := LBX8_by_4) (l₂ := LRX8_by_5) (show 16 ≤ 16 + k by omega)).trans (congrArg (fun i => LRX8_by_5[i]?) (show 16 + k - 16 = k by omega))
theorem LBX8_byr_6 (k : Nat) : cX8_by.data.toList[96 + k]? = LRX8_by_6[k]? := by
  have h := LBX8_byr_5 (16 + k)
  rw [show 80 + (16 + k) = 96 + k by omega] at h
  rw [h]
  exact (List.getElem?_append_right (l₁ := LBX8_by_5) (l₂ := LRX8_by_6) (show 16 ≤ 16 + k by omega)).trans (congrArg (fun i => LRX8_by_6[i]?) (show 16 + k - 16 = k by omega))
theorem dX8_by_0 : decode cX8_by 0 = .ok (.aload_n 0, 1) := dk_42_ (show cX8_by.data.toList[0]? = some 0x2a from (LBX8_byr_0 0).trans (by decide +kernel))
theorem dX8_by_1 : decode cX8_by 1 = .ok (.getfield 12, 3) := dk_180_ (show cX8_by.data.toList[1]? = some 0xb4 from (LBX8_byr_0 1).trans (by decide +kernel)) (show cX8_by.data.toList[2]? = some 0x00 from (LBX8_byr_0 2).trans (by decide +kernel)) (show cX8_by.data.toList[3]? = some 0x0c from (LBX8_byr_0 3).trans (by decide +kernel)) (by decide)
theorem dX8_by_4 : decode cX8_by 4 = .ok (.iload_n 1, 1) := dk_27_ (show cX8_by.data.toList[4]? = some 0x1b from (LBX8_byr_0 4).trans (by decide +kernel))
theorem dX8_by_5 : decode cX8_by 5 = .ok (.i2l, 1) := dk_133_ (show cX8_by.data.toList[5]? = some 0x85 from (LBX8_byr_0 5).trans (by decide +kernel))
theorem dX8_by_6 : decode cX8_by 6 = .ok (.invokevirtual 87, 3) := dk_182_ (show cX8_by.data.toList[6]? = some 0xb6 from (LBX8_byr_0 6).trans (by decide +kernel)) (show cX8_by.data.toList[7]? = some 0x00 from (LBX8_byr_0 7).trans (by decide +kernel)) (show cX8_by.data.toList[8]? = some 0x57 from (LBX8_byr_0 8).trans (by decide +kernel)) (by decide)
theorem dX8_by_9 : decode cX8_by 9 = .ok (.ifCond .eq 25, 3) := dk_153_ (show cX8_by.data.toList[9]? = some 0x99 from (LBX8_byr_0 9).trans (by decide +kernel)) (show cX8_by.data.toList[10]? = some 0x00 from (LBX8_byr_0 10).trans (by decide +kernel)) (show cX8_by.data.toList[11]? = some 0x19 from (LBX8_byr_0 11).trans (by decide +kernel)) (by decide)
theorem dX8_by_12 : decode cX8_by 12 = .ok (.aload_n 0, 1) := dk_42_ (show cX8_by.data.toList[12]? = some 0x2a from (LBX8_byr_0 12).trans (by decide +kernel))
theorem dX8_by_13 : decode cX8_by 13 = .ok (.getfield 12, 3) := dk_180_ (show cX8_by.data.toList[13]? = some 0xb4 from (LBX8_byr_0 13).trans (by decide +kernel)) (show cX8_by.data.toList[14]? = some 0x00 from (LBX8_byr_0 14).trans (by decide +kernel)) (show cX8_by.data.toList[15]? = some 0x0c from (LBX8_byr_0 15).trans (by decide +kernel)) (by decide)
theorem dX8_by_16 : decode cX8_by 16 = .ok (.iload_n 2, 1) := dk_28_ (show cX8_by.data.toList[16]? = some 0x1c from (LBX8_byr_1 0).trans (by decide +kernel))
theorem dX8_by_17 : decode cX8_by 17 = .ok (.i2l, 1) := dk_133_ (show cX8_by.data.toList[17]? = some 0x85 from (LBX8_byr_1 1).trans (by decide +kernel))
theorem dX8_by_18 : decode cX8_by 18 = .ok (.invokevirtual 87, 3) := dk_182_ (show cX8_by.data.toList[18]? = some 0xb6 from (LBX8_byr_1 2).trans (by decide +kernel)) (show cX8_by.data.toList[19]? = some 0x00 from (LBX8_byr_1 3).trans (by decide +kernel)) (show cX8_by.data.toList[20]? = some 0x57 from (LBX8_byr_1 4).trans (by decide +kernel)) (by decide)
theorem dX8_by_21 : decode cX8_by 21 = .ok (.ifCond .eq 13, 3) := dk_153_ (show cX8_by.data.toList[21]? = some 0x99 from (LBX8_byr_1 5).trans (by decide +kernel)) (show cX8_by.data.toList[22]? = some 0x00 from (LBX8_byr_1 6).trans (by decide +kernel)) (show cX8_by.data.toList[23]? = some 0x0d from (LBX8_byr_1 7).trans (by decide +kernel)) (by decide)
theorem dX8_by_24 : decode cX8_by 24 = .ok (.iload_n 3, 1) := dk_29_ (show cX8_by.data.toList[24]? = some 0x1d from (LBX8_byr_1 8).trans (by decide +kernel))
theorem dX8_by_25 : decode cX8_by 25 = .ok (.iconst (-1), 1) := dk_2_ (show cX8_by.data.toList[25]? = some 0x02 from (LBX8_byr_1 9).trans (by decide +kernel))
theorem dX8_by_26 : decode cX8_by 26 = .ok (.bipush 9, 2) := dk_16_ (show cX8_by.data.toList[26]? = some 0x10 from (LBX8_byr_1 10).trans (by decide +kernel)) (show cX8_by.data.toList[27]? = some 0x09 from (LBX8_byr_1 11).trans (by decide +kernel)) (by decide)
theorem dX8_by_28 : decode cX8_by 28 = .ok (.invokestatic 91, 3) := dk_184_ (show cX8_by.data.toList[28]? = some 0xb8 from (LBX8_byr_1 12).trans (by decide +kernel)) (show cX8_by.data.toList[29]? = some 0x00 from (LBX8_byr_1 13).trans (by decide +kernel)) (show cX8_by.data.toList[30]? = some 0x5b from (LBX8_byr_1 14).trans (by decide +kernel)) (by decide)
theorem dX8_by_31 : decode cX8_by 31 = .ok (.ifCond .ne 10, 3) := dk_154_ (show cX8_by.data.toList[31]? = some 0x9a from (LBX8_byr_1 15).trans (by decide +kernel)) (show cX8_by.data.toList[32]? = some 0x00 from (LBX8_byr_2 0).trans (by decide +kernel)) (show cX8_by.data.toList[33]? = some 0x0a from (LBX8_byr_2 1).trans (by decide +kernel)) (by decide)
theorem dX8_by_34 : decode cX8_by 34 = .ok (.aload_n 0, 1) := dk_42_ (show cX8_by.data.toList[34]? = some 0x2a from (LBX8_byr_2 2).trans (by decide +kernel))
theorem dX8_by_35 : decode cX8_by 35 = .ok (.ldc 95, 2) := dk_18_ (show cX8_by.data.toList[35]? = some 0x12 from (LBX8_byr_2 3).trans (by decide +kernel)) (show cX8_by.data.toList[36]? = some 0x5f from (LBX8_byr_2 4).trans (by decide +kernel)) (by decide)
theorem dX8_by_37 : decode cX8_by 37 = .ok (.invokevirtual 80, 3) := dk_182_ (show cX8_by.data.toList[37]? = some 0xb6 from (LBX8_byr_2 5).trans (by decide +kernel)) (show cX8_by.data.toList[38]? = some 0x00 from (LBX8_byr_2 6).trans (by decide +kernel)) (show cX8_by.data.toList[39]? = some 0x50 from (LBX8_byr_2 7).trans (by decide +kernel)) (by decide)
theorem dX8_by_40 : decode cX8_by 40 = .ok (.ireturn, 1) := dk_172_ (show cX8_by.data.toList[40]? = some 0xac from (LBX8_byr_2 8).trans (by decide +kernel))
theorem dX8_by_41 : decode cX8_by 41 = .ok (.aload_n 0, 1) := dk_42_ (show cX8_by.data.toList[41]? = some 0x2a from (LBX8_byr_2 9).trans (by decide +kernel))
theorem dX8_by_42 : decode cX8_by 42 = .ok (.invokevirtual 128, 3) := dk_182_ (show cX8_by.data.toList[42]? = some 0xb6 from (LBX8_byr_2 10).trans (by decide +kernel)) (show cX8_by.data.toList[43]? = some 0x00 from (LBX8_byr_2 11).trans (by decide +kernel)) (show cX8_by.data.toList[44]? = some 0x80 from (LBX8_byr_2 12).trans (by decide +kernel)) (by decide)
theorem dX8_by_45 : decode cX8_by 45 = .ok (.ifCond .eq 10, 3) := dk_153_ (show cX8_by.data.toList[45]? = some 0x99 from (LBX8_byr_2 13).trans (by decide +kernel)) (show cX8_by.data.toList[46]? = some 0x00 from (LBX8_byr_2 14).trans (by decide +kernel)) (show cX8_by.data.toList[47]? = some 0x0a from (LBX8_byr_2 15).trans (by decide +kernel)) (by decide)
theorem dX8_by_48 : decode cX8_by 48 = .ok (.aload_n 0, 1) := dk_42_ (show cX8_by.data.toList[48]? = some 0x2a from (LBX8_byr_3 0).trans (by decide +kernel))
theorem dX8_by_49 : decode cX8_by 49 = .ok (.ldc 132, 2) := dk_18_ (show cX8_by.data.toList[49]? = some 0x12 from (LBX8_byr_3 1).trans (by decide +kernel)) (show cX8_by.data.toList[50]? = some 0x84 from (LBX8_byr_3 2).trans (by decide +kernel)) (by decide)
theorem dX8_by_51 : decode cX8_by 51 = .ok (.invokevirtual 80, 3) := dk_182_ (show cX8_by.data.toList[51]? = some 0xb6 from (LBX8_byr_3 3).trans (by decide +kernel)) (show cX8_by.data.toList[52]? = some 0x00 from (LBX8_byr_3 4).trans (by decide +kernel)) (show cX8_by.data.toList[53]? = some 0x50 from (LBX8_byr_3 5).trans (by decide +kernel)) (by decide)
theorem dX8_by_54 : decode cX8_by 54 = .ok (.ireturn, 1) := dk_172_ (show cX8_by.data.toList[54]? = some 0xac from (LBX8_byr_3 6).trans (by decide +kernel))
theorem dX8_by_55 : decode cX8_by 55 = .ok (.aload_n 0, 1) := dk_42_ (show cX8_by.data.toList[55]? = some 0x2a from (LBX8_byr_3 7).trans (by decide +kernel))
theorem dX8_by_56 : decode cX8_by 56 = .ok (.getfield 29, 3) := dk_180_ (show cX8_by.data.toList[56]? = some 0xb4 from (LBX8_byr_3 8).trans (by decide +kernel)) (show cX8_by.data.toList[57]? = some 0x00 from (LBX8_byr_3 9).trans (by decide +kernel)) (show cX8_by.data.toList[58]? = some 0x1d from (LBX8_byr_3 10).trans (by decide +kernel)) (by decide)
theorem dX8_by_59 : decode cX8_by 59 = .ok (.iload_n 1, 1) := dk_27_ (show cX8_by.data.toList[59]? = some 0x1b from (LBX8_byr_3 11).trans (by decide +kernel))
theorem dX8_by_60 : decode cX8_by 60 = .ok (.iload_n 2, 1) := dk_28_ (show cX8_by.data.toList[60]? = some 0x1c from (LBX8_byr_3 12).trans (by decide +kernel))
theorem dX8_by_61 : decode cX8_by 61 = .ok (.invokevirtual 139, 3) := dk_182_ (show cX8_by.data.toList[61]? = some 0xb6 from (LBX8_byr_3 13).trans (by decide +kernel)) (show cX8_by.data.toList[62]? = some 0x00 from (LBX8_byr_3 14).trans (by decide +kernel)) (show cX8_by.data.toList[63]? = some 0x8b from (LBX8_byr_3 15).trans (by decide +kernel)) (by decide)
theorem dX8_by_64 : decode cX8_by 64 = .ok (.istore 4, 2) := dk_54_ (show cX8_by.data.toList[64]? = some 0x36 from (LBX8_byr_4 0).trans (by decide +kernel)) (show cX8_by.data.toList[65]? = some 0x04 from (LBX8_byr_4 1).trans (by decide +kernel)) (by decide)
theorem dX8_by_66 : decode cX8_by 66 = .ok (.iload 4, 2) := dk_21_ (show cX8_by.data.toList[66]? = some 0x15 from (LBX8_byr_4 2).trans (by decide +kernel)) (show cX8_by.data.toList[67]? = some 0x04 from (LBX8_byr_4 3).trans (by decide +kernel)) (by decide)
theorem dX8_by_68 : decode cX8_by 68 = .ok (.ifCond .lt 9, 3) := dk_155_ (show cX8_by.data.toList[68]? = some 0x9b from (LBX8_byr_4 4).trans (by decide +kernel)) (show cX8_by.data.toList[69]? = some 0x00 from (LBX8_byr_4 5).trans (by decide +kernel)) (show cX8_by.data.toList[70]? = some 0x09 from (LBX8_byr_4 6).trans (by decide +kernel)) (by decide)
theorem dX8_by_71 : decode cX8_by 71 = .ok (.iload_n 3, 1) := dk_29_ (show cX8_by.data.toList[71]? = some 0x1d from (LBX8_byr_4 7).trans (by decide +kernel))
theorem dX8_by_72 : decode cX8_by 72 = .ok (.iload 4, 2) := dk_21_ (show cX8_by.data.toList[72]? = some 0x15 from (LBX8_byr_4 8).trans (by decide +kernel)) (show cX8_by.data.toList[73]? = some 0x04 from (LBX8_byr_4 9).trans (by decide +kernel)) (by decide)
theorem dX8_by_74 : decode cX8_by 74 = .ok (.if_icmp .le 10, 3) := dk_164_ (show cX8_by.data.toList[74]? = some 0xa4 from (LBX8_byr_4 10).trans (by decide +kernel)) (show cX8_by.data.toList[75]? = some 0x00 from (LBX8_byr_4 11).trans (by decide +kernel)) (show cX8_by.data.toList[76]? = some 0x0a from (LBX8_byr_4 12).trans (by decide +kernel)) (by decide)
theorem dX8_by_77 : decode cX8_by 77 = .ok (.aload_n 0, 1) := dk_42_ (show cX8_by.data.toList[77]? = some 0x2a from (LBX8_byr_4 13).trans (by decide +kernel))
theorem dX8_by_78 : decode cX8_by 78 = .ok (.ldc 113, 2) := dk_18_ (show cX8_by.data.toList[78]? = some 0x12 from (LBX8_byr_4 14).trans (by decide +kernel)) (show cX8_by.data.toList[79]? = some 0x71 from (LBX8_byr_4 15).trans (by decide +kernel)) (by decide)
theorem dX8_by_80 : decode cX8_by 80 = .ok (.invokevirtual 80, 3) := dk_182_ (show cX8_by.data.toList[80]? = some 0xb6 from (LBX8_byr_5 0).trans (by decide +kernel)) (show cX8_by.data.toList[81]? = some 0x00 from (LBX8_byr_5 1).trans (by decide +kernel)) (show cX8_by.data.toList[82]? = some 0x50 from (LBX8_byr_5 2).trans (by decide +kernel)) (by decide)
theorem dX8_by_83 : decode cX8_by 83 = .ok (.ireturn, 1) := dk_172_ (show cX8_by.data.toList[83]? = some 0xac from (LBX8_byr_5 3).trans (by decide +kernel))
theorem dX8_by_84 : decode cX8_by 84 = .ok (.iload_n 3, 1) := dk_29_ (show cX8_by.data.toList[84]? = some 0x1d from (LBX8_byr_5 4).trans (by decide +kernel))
theorem dX8_by_85 : decode cX8_by 85 = .ok (.ifCond .ge 8, 3) := dk_156_ (show cX8_by.data.toList[85]? = some 0x9c from (LBX8_byr_5 5).trans (by decide +kernel)) (show cX8_by.data.toList[86]? = some 0x00 from (LBX8_byr_5 6).trans (by decide +kernel)) (show cX8_by.data.toList[87]? = some 0x08 from (LBX8_byr_5 7).trans (by decide +kernel)) (by decide)
theorem dX8_by_88 : decode cX8_by 88 = .ok (.iload 4, 2) := dk_21_ (show cX8_by.data.toList[88]? = some 0x15 from (LBX8_byr_5 8).trans (by decide +kernel)) (show cX8_by.data.toList[89]? = some 0x04 from (LBX8_byr_5 9).trans (by decide +kernel)) (by decide)
theorem dX8_by_90 : decode cX8_by 90 = .ok (.goto 17, 3) := dk_167_ (show cX8_by.data.toList[90]? = some 0xa7 from (LBX8_byr_5 10).trans (by decide +kernel)) (show cX8_by.data.toList[91]? = some 0x00 from (LBX8_byr_5 11).trans (by decide +kernel)) (show cX8_by.data.toList[92]? = some 0x11 from (LBX8_byr_5 12).trans (by decide +kernel)) (by decide)
theorem dX8_by_93 : decode cX8_by 93 = .ok (.aload_n 0, 1) := dk_42_ (show cX8_by.data.toList[93]? = some 0x2a from (LBX8_byr_5 13).trans (by decide +kernel))
theorem dX8_by_94 : decode cX8_by 94 = .ok (.getfield 29, 3) := dk_180_ (show cX8_by.data.toList[94]? = some 0xb4 from (LBX8_byr_5 14).trans (by decide +kernel)) (show cX8_by.data.toList[95]? = some 0x00 from (LBX8_byr_5 15).trans (by decide +kernel)) (show cX8_by.data.toList[96]? = some 0x1d from (LBX8_byr_6 0).trans (by decide +kernel)) (by decide)
theorem dX8_by_97 : decode cX8_by 97 = .ok (.aload_n 0, 1) := dk_42_ (show cX8_by.data.toList[97]? = some 0x2a from (LBX8_byr_6 1).trans (by decide +kernel))
theorem dX8_by_98 : decode cX8_by 98 = .ok (.getfield 12, 3) := dk_180_ (show cX8_by.data.toList[98]? = some 0xb4 from (LBX8_byr_6 2).trans (by decide +kernel)) (show cX8_by.data.toList[99]? = some 0x00 from (LBX8_byr_6 3).trans (by decide +kernel)) (show cX8_by.data.toList[100]? = some 0x0c from (LBX8_byr_6 4).trans (by decide +kernel)) (by decide)
theorem dX8_by_101 : decode cX8_by 101 = .ok (.iload_n 1, 1) := dk_27_ (show cX8_by.data.toList[101]? = some 0x1b from (LBX8_byr_6 5).trans (by decide +kernel))
theorem dX8_by_102 : decode cX8_by 102 = .ok (.iload_n 2, 1) := dk_28_ (show cX8_by.data.toList[102]? = some 0x1c from (LBX8_byr_6 6).trans (by decide +kernel))
theorem dX8_by_103 : decode cX8_by 103 = .ok (.iload_n 3, 1) := dk_29_ (show cX8_by.data.toList[103]? = some 0x1d from (LBX8_byr_6 7).trans (by decide +kernel))
theorem dX8_by_104 : decode cX8_by 104 = .ok (.invokevirtual 142, 3) := dk_182_ (show cX8_by.data.toList[104]? = some 0xb6 from (LBX8_byr_6 8).trans (by decide +kernel)) (show cX8_by.data.toList[105]? = some 0x00 from (LBX8_byr_6 9).trans (by decide +kernel)) (show cX8_by.data.toList[106]? = some 0x8e from (LBX8_byr_6 10).trans (by decide +kernel)) (by decide)
theorem dX8_by_107 : decode cX8_by 107 = .ok (.ireturn, 1) := dk_172_ (show cX8_by.data.toList[107]? = some 0xac from (LBX8_byr_6 11).trans (by decide +kernel))
def LRX8_loops_2 : List UInt8 := []
def LBX8_loops_1 : List UInt8 := [0x00, 0x96, 0xac]
def LRX8_loops_1 : List UInt8 := LBX8_loops_1 ++ LRX8_loops_2
def LBX8_loops_0 : List UInt8 := [0x2a, 0xb4, 0x00, 0x1d, 0x2a, 0xb4, 0x00, 0x0c, 0xb6, 0x00, 0x92, 0x2a, 0xb4, 0x00, 0x1d, 0xb6]
def LRX8_loops_0 : List UInt8 := LBX8_loops_0 ++ LRX8_loops_1
set_option maxRecDepth 100000 in
theorem LBX8_loops_eq : cX8_loops.data.toList = LRX8_loops_0 := by decide +kernel
theorem LBX8_loopsr_0 (k : Nat) : cX8_loops.data.toList[0 + k]? = LRX8_loops_0[k]? := by rw [LBX8_loops_eq, Nat.zero_add]
theorem LBX8_loopsr_1 (k : Nat) : cX8_loops.data.toList[16 + k]? = LRX8_loops_1[k]? := by
  have h := LBX8_loopsr_0 (16 + k)
  rw [show 0 + (16 + k) = 16 + k by omega] at h
  rw [h]
  exact (List.getElem?_append_right (l₁ := LBX8_loops_0) (l₂ := LRX8_loops_1) (show 16 ≤ 16 + k by omega)).trans (congrArg (fun i => LRX8_loops_1[i]?) (show 16 + k - 16 = k by omega))
theorem dX8_loops_0 : decode cX8_loops 0 = .ok (.aload_n 0, 1) := dk_42_ (show cX8_loops.data.toList[0]? = some 0x2a from (LBX8_loopsr_0 0).trans (by decide +kernel))
theorem dX8_loops_1 : decode cX8_loops 1 = .ok (.getfield 29, 3) := dk_180_ (show cX8_loops.data.toList[1]? = some 0xb4 from (LBX8_loopsr_0 1).trans (by decide +kernel)) (show cX8_loops.data.toList[2]? = some 0x00 from (LBX8_loopsr_0 2).trans (by decide +kernel)) (show cX8_loops.data.toList[3]? = some 0x1d from (LBX8_loopsr_0 3).trans (by decide +kernel)) (by decide)
theorem dX8_loops_4 : decode cX8_loops 4 = .ok (.aload_n 0, 1) := dk_42_ (show cX8_loops.data.toList[4]? = some 0x2a from (LBX8_loopsr_0 4).trans (by decide +kernel))
theorem dX8_loops_5 : decode cX8_loops 5 = .ok (.getfield 12, 3) := dk_180_ (show cX8_loops.data.toList[5]? = some 0xb4 from (LBX8_loopsr_0 5).trans (by decide +kernel)) (show cX8_loops.data.toList[6]? = some 0x00 from (LBX8_loopsr_0 6).trans (by decide +kernel)) (show cX8_loops.data.toList[7]? = some 0x0c from (LBX8_loopsr_0 7).trans (by decide +kernel)) (by decide)
theorem dX8_loops_8 : decode cX8_loops 8 = .ok (.invokevirtual 146, 3) := dk_182_ (show cX8_loops.data.toList[8]? = some 0xb6 from (LBX8_loopsr_0 8).trans (by decide +kernel)) (show cX8_loops.data.toList[9]? = some 0x00 from (LBX8_loopsr_0 9).trans (by decide +kernel)) (show cX8_loops.data.toList[10]? = some 0x92 from (LBX8_loopsr_0 10).trans (by decide +kernel)) (by decide)
theorem dX8_loops_11 : decode cX8_loops 11 = .ok (.aload_n 0, 1) := dk_42_ (show cX8_loops.data.toList[11]? = some 0x2a from (LBX8_loopsr_0 11).trans (by decide +kernel))
theorem dX8_loops_12 : decode cX8_loops 12 = .ok (.getfield 29, 3) := dk_180_ (show cX8_loops.data.toList[12]? = some 0xb4 from (LBX8_loopsr_0 12).trans (by decide +kernel)) (show cX8_loops.data.toList[13]? = some 0x00 from (LBX8_loopsr_0 13).trans (by decide +kernel)) (show cX8_loops.data.toList[14]? = some 0x1d from (LBX8_loopsr_0 14).trans (by decide +kernel)) (by decide)
theorem dX8_loops_15 : decode cX8_loops 15 = .ok (.invokevirtual 150, 3) := dk_182_ (show cX8_loops.data.toList[15]? = some 0xb6 from (LBX8_loopsr_0 15).trans (by decide +kernel)) (show cX8_loops.data.toList[16]? = some 0x00 from (LBX8_loopsr_1 0).trans (by decide +kernel)) (show cX8_loops.data.toList[17]? = some 0x96 from (LBX8_loopsr_1 1).trans (by decide +kernel)) (by decide)
theorem dX8_loops_18 : decode cX8_loops 18 = .ok (.ireturn, 1) := dk_172_ (show cX8_loops.data.toList[18]? = some 0xac from (LBX8_loopsr_1 2).trans (by decide +kernel))
def LRX8_longer_6 : List UInt8 := []
def LBX8_longer_5 : List UInt8 := [0x12, 0x71, 0xb6, 0x00, 0x50, 0xac, 0x1d, 0x15, 0x04, 0x64, 0xac]
def LRX8_longer_5 : List UInt8 := LBX8_longer_5 ++ LRX8_longer_6
def LBX8_longer_4 : List UInt8 := [0x36, 0x04, 0x1d, 0x12, 0x9a, 0x9f, 0x00, 0x0a, 0x15, 0x04, 0x12, 0x9a, 0xa0, 0x00, 0x0a, 0x2a]
def LRX8_longer_4 : List UInt8 := LBX8_longer_4 ++ LRX8_longer_5
def LBX8_longer_3 : List UInt8 := [0x1d, 0x1b, 0x1c, 0xb6, 0x00, 0x85, 0x3e, 0x2a, 0xb4, 0x00, 0x1d, 0x1c, 0x1b, 0xb6, 0x00, 0x85]
def LRX8_longer_3 : List UInt8 := LBX8_longer_3 ++ LRX8_longer_4
def LBX8_longer_2 : List UInt8 := [0xb6, 0x00, 0x80, 0x99, 0x00, 0x0a, 0x2a, 0x12, 0x84, 0xb6, 0x00, 0x50, 0xac, 0x2a, 0xb4, 0x00]
def LRX8_longer_2 : List UInt8 := LBX8_longer_2 ++ LRX8_longer_3
def LBX8_longer_1 : List UInt8 := [0x1c, 0x85, 0xb6, 0x00, 0x57, 0x9a, 0x00, 0x0a, 0x2a, 0x12, 0x5f, 0xb6, 0x00, 0x50, 0xac, 0x2a]
def LRX8_longer_1 : List UInt8 := LBX8_longer_1 ++ LRX8_longer_2
def LBX8_longer_0 : List UInt8 := [0x2a, 0xb4, 0x00, 0x0c, 0x1b, 0x85, 0xb6, 0x00, 0x57, 0x99, 0x00, 0x0f, 0x2a, 0xb4, 0x00, 0x0c]
def LRX8_longer_0 : List UInt8 := LBX8_longer_0 ++ LRX8_longer_1
set_option maxRecDepth 100000 in
theorem LBX8_longer_eq : cX8_longer.data.toList = LRX8_longer_0 := by decide +kernel
theorem LBX8_longerr_0 (k : Nat) : cX8_longer.data.toList[0 + k]? = LRX8_longer_0[k]? := by rw [LBX8_longer_eq, Nat.zero_add]
theorem LBX8_longerr_1 (k : Nat) : cX8_longer.data.toList[16 + k]? = LRX8_longer_1[k]? := by
  have h := LBX8_longerr_0 (16 + k)
  rw [show 0 + (16 + k) = 16 + k by omega] at h
  rw [h]
  exact (List.getElem?_append_right (l₁ := LBX8_longer_0) (l₂ := LRX8_longer_1) (show 16 ≤ 16 + k by omega)).trans (congrArg (fun i => LRX8_longer_1[i]?) (show 16 + k - 16 = k by omega))
theorem LBX8_longerr_2 (k : Nat) : cX8_longer.data.toList[32 + k]? = LRX8_longer_2[k]? := by
  have h := LBX8_longerr_1 (16 + k)
  rw [show 16 + (16 + k) = 32 + k by omega] at h
  rw [h]
  exact (List.getElem?_append_right (l₁ := LBX8_longer_1) (l₂ := LRX8_longer_2) (show 16 ≤ 16 + k by omega)).trans (congrArg (fun i => LRX8_longer_2[i]?) (show 16 + k - 16 = k by omega))
theorem LBX8_longerr_3 (k : Nat) : cX8_longer.data.toList[48 + k]? = LRX8_longer_3[k]? := by
  have h := LBX8_longerr_2 (16 + k)
  rw [show 32 + (16 + k) = 48 + k by omega] at h
  rw [h]
  exact (List.getElem?_append_right (l₁ := LBX8_longer_2) (l₂ := LRX8_longer_3) (show 16 ≤ 16 + k by omega)).trans (congrArg (fun i => LRX8_longer_3[i]?) (show 16 + k - 16 = k by omega))
theorem LBX8_longerr_4 (k : Nat) : cX8_longer.data.toList[64 + k]? = LRX8_longer_4[k]? := by
  have h := LBX8_longerr_3 (16 + k)
  rw [show 48 + (16 + k) = 64 + k by omega] at h
  rw [h]
  exact (List.getElem?_append_right (l₁ := LBX8_longer_3) (l₂ := LRX8_longer_4) (show 16 ≤ 16 + k by omega)).trans (congrArg (fun i => LRX8_longer_4[i]?) (show 16 + k - 16 = k by omega))
theorem LBX8_longerr_5 (k : Nat) : cX8_longer.data.toList[80 + k]? = LRX8_longer_5[k]? := by
  have h := LBX8_longerr_4 (16 + k)
  rw [show 64 + (16 + k) = 80 + k by omega] at h
  rw [h]
  exact (List.getElem?_append_right (l₁ := LBX8_longer_4) (l₂ := LRX8_longer_5) (show 16 ≤ 16 + k by omega)).trans (congrArg (fun i => LRX8_longer_5[i]?) (show 16 + k - 16 = k by omega))
theorem dX8_longer_0 : decode cX8_longer 0 = .ok (.aload_n 0, 1) := dk_42_ (show cX8_longer.data.toList[0]? = some 0x2a from (LBX8_longerr_0 0).trans (by decide +kernel))
theorem dX8_longer_1 : decode cX8_longer 1 = .ok (.getfield 12, 3) := dk_180_ (show cX8_longer.data.toList[1]? = some 0xb4 from (LBX8_longerr_0 1).trans (by decide +kernel)) (show cX8_longer.data.toList[2]? = some 0x00 from (LBX8_longerr_0 2).trans (by decide +kernel)) (show cX8_longer.data.toList[3]? = some 0x0c from (LBX8_longerr_0 3).trans (by decide +kernel)) (by decide)
theorem dX8_longer_4 : decode cX8_longer 4 = .ok (.iload_n 1, 1) := dk_27_ (show cX8_longer.data.toList[4]? = some 0x1b from (LBX8_longerr_0 4).trans (by decide +kernel))
theorem dX8_longer_5 : decode cX8_longer 5 = .ok (.i2l, 1) := dk_133_ (show cX8_longer.data.toList[5]? = some 0x85 from (LBX8_longerr_0 5).trans (by decide +kernel))
theorem dX8_longer_6 : decode cX8_longer 6 = .ok (.invokevirtual 87, 3) := dk_182_ (show cX8_longer.data.toList[6]? = some 0xb6 from (LBX8_longerr_0 6).trans (by decide +kernel)) (show cX8_longer.data.toList[7]? = some 0x00 from (LBX8_longerr_0 7).trans (by decide +kernel)) (show cX8_longer.data.toList[8]? = some 0x57 from (LBX8_longerr_0 8).trans (by decide +kernel)) (by decide)
theorem dX8_longer_9 : decode cX8_longer 9 = .ok (.ifCond .eq 15, 3) := dk_153_ (show cX8_longer.data.toList[9]? = some 0x99 from (LBX8_longerr_0 9).trans (by decide +kernel)) (show cX8_longer.data.toList[10]? = some 0x00 from (LBX8_longerr_0 10).trans (by decide +kernel)) (show cX8_longer.data.toList[11]? = some 0x0f from (LBX8_longerr_0 11).trans (by decide +kernel)) (by decide)
theorem dX8_longer_12 : decode cX8_longer 12 = .ok (.aload_n 0, 1) := dk_42_ (show cX8_longer.data.toList[12]? = some 0x2a from (LBX8_longerr_0 12).trans (by decide +kernel))
theorem dX8_longer_13 : decode cX8_longer 13 = .ok (.getfield 12, 3) := dk_180_ (show cX8_longer.data.toList[13]? = some 0xb4 from (LBX8_longerr_0 13).trans (by decide +kernel)) (show cX8_longer.data.toList[14]? = some 0x00 from (LBX8_longerr_0 14).trans (by decide +kernel)) (show cX8_longer.data.toList[15]? = some 0x0c from (LBX8_longerr_0 15).trans (by decide +kernel)) (by decide)
theorem dX8_longer_16 : decode cX8_longer 16 = .ok (.iload_n 2, 1) := dk_28_ (show cX8_longer.data.toList[16]? = some 0x1c from (LBX8_longerr_1 0).trans (by decide +kernel))
theorem dX8_longer_17 : decode cX8_longer 17 = .ok (.i2l, 1) := dk_133_ (show cX8_longer.data.toList[17]? = some 0x85 from (LBX8_longerr_1 1).trans (by decide +kernel))
theorem dX8_longer_18 : decode cX8_longer 18 = .ok (.invokevirtual 87, 3) := dk_182_ (show cX8_longer.data.toList[18]? = some 0xb6 from (LBX8_longerr_1 2).trans (by decide +kernel)) (show cX8_longer.data.toList[19]? = some 0x00 from (LBX8_longerr_1 3).trans (by decide +kernel)) (show cX8_longer.data.toList[20]? = some 0x57 from (LBX8_longerr_1 4).trans (by decide +kernel)) (by decide)
theorem dX8_longer_21 : decode cX8_longer 21 = .ok (.ifCond .ne 10, 3) := dk_154_ (show cX8_longer.data.toList[21]? = some 0x9a from (LBX8_longerr_1 5).trans (by decide +kernel)) (show cX8_longer.data.toList[22]? = some 0x00 from (LBX8_longerr_1 6).trans (by decide +kernel)) (show cX8_longer.data.toList[23]? = some 0x0a from (LBX8_longerr_1 7).trans (by decide +kernel)) (by decide)
theorem dX8_longer_24 : decode cX8_longer 24 = .ok (.aload_n 0, 1) := dk_42_ (show cX8_longer.data.toList[24]? = some 0x2a from (LBX8_longerr_1 8).trans (by decide +kernel))
theorem dX8_longer_25 : decode cX8_longer 25 = .ok (.ldc 95, 2) := dk_18_ (show cX8_longer.data.toList[25]? = some 0x12 from (LBX8_longerr_1 9).trans (by decide +kernel)) (show cX8_longer.data.toList[26]? = some 0x5f from (LBX8_longerr_1 10).trans (by decide +kernel)) (by decide)
theorem dX8_longer_27 : decode cX8_longer 27 = .ok (.invokevirtual 80, 3) := dk_182_ (show cX8_longer.data.toList[27]? = some 0xb6 from (LBX8_longerr_1 11).trans (by decide +kernel)) (show cX8_longer.data.toList[28]? = some 0x00 from (LBX8_longerr_1 12).trans (by decide +kernel)) (show cX8_longer.data.toList[29]? = some 0x50 from (LBX8_longerr_1 13).trans (by decide +kernel)) (by decide)
theorem dX8_longer_30 : decode cX8_longer 30 = .ok (.ireturn, 1) := dk_172_ (show cX8_longer.data.toList[30]? = some 0xac from (LBX8_longerr_1 14).trans (by decide +kernel))
theorem dX8_longer_31 : decode cX8_longer 31 = .ok (.aload_n 0, 1) := dk_42_ (show cX8_longer.data.toList[31]? = some 0x2a from (LBX8_longerr_1 15).trans (by decide +kernel))
theorem dX8_longer_32 : decode cX8_longer 32 = .ok (.invokevirtual 128, 3) := dk_182_ (show cX8_longer.data.toList[32]? = some 0xb6 from (LBX8_longerr_2 0).trans (by decide +kernel)) (show cX8_longer.data.toList[33]? = some 0x00 from (LBX8_longerr_2 1).trans (by decide +kernel)) (show cX8_longer.data.toList[34]? = some 0x80 from (LBX8_longerr_2 2).trans (by decide +kernel)) (by decide)
theorem dX8_longer_35 : decode cX8_longer 35 = .ok (.ifCond .eq 10, 3) := dk_153_ (show cX8_longer.data.toList[35]? = some 0x99 from (LBX8_longerr_2 3).trans (by decide +kernel)) (show cX8_longer.data.toList[36]? = some 0x00 from (LBX8_longerr_2 4).trans (by decide +kernel)) (show cX8_longer.data.toList[37]? = some 0x0a from (LBX8_longerr_2 5).trans (by decide +kernel)) (by decide)
theorem dX8_longer_38 : decode cX8_longer 38 = .ok (.aload_n 0, 1) := dk_42_ (show cX8_longer.data.toList[38]? = some 0x2a from (LBX8_longerr_2 6).trans (by decide +kernel))
theorem dX8_longer_39 : decode cX8_longer 39 = .ok (.ldc 132, 2) := dk_18_ (show cX8_longer.data.toList[39]? = some 0x12 from (LBX8_longerr_2 7).trans (by decide +kernel)) (show cX8_longer.data.toList[40]? = some 0x84 from (LBX8_longerr_2 8).trans (by decide +kernel)) (by decide)
theorem dX8_longer_41 : decode cX8_longer 41 = .ok (.invokevirtual 80, 3) := dk_182_ (show cX8_longer.data.toList[41]? = some 0xb6 from (LBX8_longerr_2 9).trans (by decide +kernel)) (show cX8_longer.data.toList[42]? = some 0x00 from (LBX8_longerr_2 10).trans (by decide +kernel)) (show cX8_longer.data.toList[43]? = some 0x50 from (LBX8_longerr_2 11).trans (by decide +kernel)) (by decide)
theorem dX8_longer_44 : decode cX8_longer 44 = .ok (.ireturn, 1) := dk_172_ (show cX8_longer.data.toList[44]? = some 0xac from (LBX8_longerr_2 12).trans (by decide +kernel))
theorem dX8_longer_45 : decode cX8_longer 45 = .ok (.aload_n 0, 1) := dk_42_ (show cX8_longer.data.toList[45]? = some 0x2a from (LBX8_longerr_2 13).trans (by decide +kernel))
theorem dX8_longer_46 : decode cX8_longer 46 = .ok (.getfield 29, 3) := dk_180_ (show cX8_longer.data.toList[46]? = some 0xb4 from (LBX8_longerr_2 14).trans (by decide +kernel)) (show cX8_longer.data.toList[47]? = some 0x00 from (LBX8_longerr_2 15).trans (by decide +kernel)) (show cX8_longer.data.toList[48]? = some 0x1d from (LBX8_longerr_3 0).trans (by decide +kernel)) (by decide)
theorem dX8_longer_49 : decode cX8_longer 49 = .ok (.iload_n 1, 1) := dk_27_ (show cX8_longer.data.toList[49]? = some 0x1b from (LBX8_longerr_3 1).trans (by decide +kernel))
theorem dX8_longer_50 : decode cX8_longer 50 = .ok (.iload_n 2, 1) := dk_28_ (show cX8_longer.data.toList[50]? = some 0x1c from (LBX8_longerr_3 2).trans (by decide +kernel))
theorem dX8_longer_51 : decode cX8_longer 51 = .ok (.invokevirtual 133, 3) := dk_182_ (show cX8_longer.data.toList[51]? = some 0xb6 from (LBX8_longerr_3 3).trans (by decide +kernel)) (show cX8_longer.data.toList[52]? = some 0x00 from (LBX8_longerr_3 4).trans (by decide +kernel)) (show cX8_longer.data.toList[53]? = some 0x85 from (LBX8_longerr_3 5).trans (by decide +kernel)) (by decide)
theorem dX8_longer_54 : decode cX8_longer 54 = .ok (.istore_n 3, 1) := dk_62_ (show cX8_longer.data.toList[54]? = some 0x3e from (LBX8_longerr_3 6).trans (by decide +kernel))
theorem dX8_longer_55 : decode cX8_longer 55 = .ok (.aload_n 0, 1) := dk_42_ (show cX8_longer.data.toList[55]? = some 0x2a from (LBX8_longerr_3 7).trans (by decide +kernel))
theorem dX8_longer_56 : decode cX8_longer 56 = .ok (.getfield 29, 3) := dk_180_ (show cX8_longer.data.toList[56]? = some 0xb4 from (LBX8_longerr_3 8).trans (by decide +kernel)) (show cX8_longer.data.toList[57]? = some 0x00 from (LBX8_longerr_3 9).trans (by decide +kernel)) (show cX8_longer.data.toList[58]? = some 0x1d from (LBX8_longerr_3 10).trans (by decide +kernel)) (by decide)
theorem dX8_longer_59 : decode cX8_longer 59 = .ok (.iload_n 2, 1) := dk_28_ (show cX8_longer.data.toList[59]? = some 0x1c from (LBX8_longerr_3 11).trans (by decide +kernel))
theorem dX8_longer_60 : decode cX8_longer 60 = .ok (.iload_n 1, 1) := dk_27_ (show cX8_longer.data.toList[60]? = some 0x1b from (LBX8_longerr_3 12).trans (by decide +kernel))
theorem dX8_longer_61 : decode cX8_longer 61 = .ok (.invokevirtual 133, 3) := dk_182_ (show cX8_longer.data.toList[61]? = some 0xb6 from (LBX8_longerr_3 13).trans (by decide +kernel)) (show cX8_longer.data.toList[62]? = some 0x00 from (LBX8_longerr_3 14).trans (by decide +kernel)) (show cX8_longer.data.toList[63]? = some 0x85 from (LBX8_longerr_3 15).trans (by decide +kernel)) (by decide)
theorem dX8_longer_64 : decode cX8_longer 64 = .ok (.istore 4, 2) := dk_54_ (show cX8_longer.data.toList[64]? = some 0x36 from (LBX8_longerr_4 0).trans (by decide +kernel)) (show cX8_longer.data.toList[65]? = some 0x04 from (LBX8_longerr_4 1).trans (by decide +kernel)) (by decide)
theorem dX8_longer_66 : decode cX8_longer 66 = .ok (.iload_n 3, 1) := dk_29_ (show cX8_longer.data.toList[66]? = some 0x1d from (LBX8_longerr_4 2).trans (by decide +kernel))
theorem dX8_longer_67 : decode cX8_longer 67 = .ok (.ldc 154, 2) := dk_18_ (show cX8_longer.data.toList[67]? = some 0x12 from (LBX8_longerr_4 3).trans (by decide +kernel)) (show cX8_longer.data.toList[68]? = some 0x9a from (LBX8_longerr_4 4).trans (by decide +kernel)) (by decide)
theorem dX8_longer_69 : decode cX8_longer 69 = .ok (.if_icmp .eq 10, 3) := dk_159_ (show cX8_longer.data.toList[69]? = some 0x9f from (LBX8_longerr_4 5).trans (by decide +kernel)) (show cX8_longer.data.toList[70]? = some 0x00 from (LBX8_longerr_4 6).trans (by decide +kernel)) (show cX8_longer.data.toList[71]? = some 0x0a from (LBX8_longerr_4 7).trans (by decide +kernel)) (by decide)
theorem dX8_longer_72 : decode cX8_longer 72 = .ok (.iload 4, 2) := dk_21_ (show cX8_longer.data.toList[72]? = some 0x15 from (LBX8_longerr_4 8).trans (by decide +kernel)) (show cX8_longer.data.toList[73]? = some 0x04 from (LBX8_longerr_4 9).trans (by decide +kernel)) (by decide)
theorem dX8_longer_74 : decode cX8_longer 74 = .ok (.ldc 154, 2) := dk_18_ (show cX8_longer.data.toList[74]? = some 0x12 from (LBX8_longerr_4 10).trans (by decide +kernel)) (show cX8_longer.data.toList[75]? = some 0x9a from (LBX8_longerr_4 11).trans (by decide +kernel)) (by decide)
theorem dX8_longer_76 : decode cX8_longer 76 = .ok (.if_icmp .ne 10, 3) := dk_160_ (show cX8_longer.data.toList[76]? = some 0xa0 from (LBX8_longerr_4 12).trans (by decide +kernel)) (show cX8_longer.data.toList[77]? = some 0x00 from (LBX8_longerr_4 13).trans (by decide +kernel)) (show cX8_longer.data.toList[78]? = some 0x0a from (LBX8_longerr_4 14).trans (by decide +kernel)) (by decide)
theorem dX8_longer_79 : decode cX8_longer 79 = .ok (.aload_n 0, 1) := dk_42_ (show cX8_longer.data.toList[79]? = some 0x2a from (LBX8_longerr_4 15).trans (by decide +kernel))
theorem dX8_longer_80 : decode cX8_longer 80 = .ok (.ldc 113, 2) := dk_18_ (show cX8_longer.data.toList[80]? = some 0x12 from (LBX8_longerr_5 0).trans (by decide +kernel)) (show cX8_longer.data.toList[81]? = some 0x71 from (LBX8_longerr_5 1).trans (by decide +kernel)) (by decide)
theorem dX8_longer_82 : decode cX8_longer 82 = .ok (.invokevirtual 80, 3) := dk_182_ (show cX8_longer.data.toList[82]? = some 0xb6 from (LBX8_longerr_5 2).trans (by decide +kernel)) (show cX8_longer.data.toList[83]? = some 0x00 from (LBX8_longerr_5 3).trans (by decide +kernel)) (show cX8_longer.data.toList[84]? = some 0x50 from (LBX8_longerr_5 4).trans (by decide +kernel)) (by decide)
theorem dX8_longer_85 : decode cX8_longer 85 = .ok (.ireturn, 1) := dk_172_ (show cX8_longer.data.toList[85]? = some 0xac from (LBX8_longerr_5 5).trans (by decide +kernel))
theorem dX8_longer_86 : decode cX8_longer 86 = .ok (.iload_n 3, 1) := dk_29_ (show cX8_longer.data.toList[86]? = some 0x1d from (LBX8_longerr_5 6).trans (by decide +kernel))
theorem dX8_longer_87 : decode cX8_longer 87 = .ok (.iload 4, 2) := dk_21_ (show cX8_longer.data.toList[87]? = some 0x15 from (LBX8_longerr_5 7).trans (by decide +kernel)) (show cX8_longer.data.toList[88]? = some 0x04 from (LBX8_longerr_5 8).trans (by decide +kernel)) (by decide)
theorem dX8_longer_89 : decode cX8_longer 89 = .ok (.isub, 1) := dk_100_ (show cX8_longer.data.toList[89]? = some 0x64 from (LBX8_longerr_5 9).trans (by decide +kernel))
theorem dX8_longer_90 : decode cX8_longer 90 = .ok (.ireturn, 1) := dk_172_ (show cX8_longer.data.toList[90]? = some 0xac from (LBX8_longerr_5 10).trans (by decide +kernel))
def LRX8_trip_4 : List UInt8 := []
def LBX8_trip_3 : List UInt8 := [0x88, 0xac]
def LRX8_trip_3 : List UInt8 := LBX8_trip_3 ++ LRX8_trip_4
def LBX8_trip_2 : List UInt8 := [0xac, 0x2a, 0x2a, 0xb4, 0x00, 0x1d, 0x2a, 0xb4, 0x00, 0x0c, 0x1b, 0xb6, 0x00, 0xc9, 0xb6, 0x00]
def LRX8_trip_2 : List UInt8 := LBX8_trip_2 ++ LRX8_trip_3
def LBX8_trip_1 : List UInt8 := [0x00, 0x50, 0xac, 0x2a, 0xb6, 0x00, 0x80, 0x99, 0x00, 0x0a, 0x2a, 0x12, 0x84, 0xb6, 0x00, 0x50]
def LRX8_trip_1 : List UInt8 := LBX8_trip_1 ++ LRX8_trip_2
def LBX8_trip_0 : List UInt8 := [0x2a, 0xb4, 0x00, 0x0c, 0x1b, 0x85, 0xb6, 0x00, 0x57, 0x9a, 0x00, 0x0a, 0x2a, 0x12, 0x5f, 0xb6]
def LRX8_trip_0 : List UInt8 := LBX8_trip_0 ++ LRX8_trip_1
set_option maxRecDepth 100000 in
theorem LBX8_trip_eq : cX8_trip.data.toList = LRX8_trip_0 := by decide +kernel
theorem LBX8_tripr_0 (k : Nat) : cX8_trip.data.toList[0 + k]? = LRX8_trip_0[k]? := by rw [LBX8_trip_eq, Nat.zero_add]
theorem LBX8_tripr_1 (k : Nat) : cX8_trip.data.toList[16 + k]? = LRX8_trip_1[k]? := by
  have h := LBX8_tripr_0 (16 + k)
  rw [show 0 + (16 + k) = 16 + k by omega] at h
  rw [h]
  exact (List.getElem?_append_right (l₁ := LBX8_trip_0) (l₂ := LRX8_trip_1) (show 16 ≤ 16 + k by omega)).trans (congrArg (fun i => LRX8_trip_1[i]?) (show 16 + k - 16 = k by omega))
theorem LBX8_tripr_2 (k : Nat) : cX8_trip.data.toList[32 + k]? = LRX8_trip_2[k]? := by
  have h := LBX8_tripr_1 (16 + k)
  rw [show 16 + (16 + k) = 32 + k by omega] at h
  rw [h]
  exact (List.getElem?_append_right (l₁ := LBX8_trip_1) (l₂ := LRX8_trip_2) (show 16 ≤ 16 + k by omega)).trans (congrArg (fun i => LRX8_trip_2[i]?) (show 16 + k - 16 = k by omega))
theorem LBX8_tripr_3 (k : Nat) : cX8_trip.data.toList[48 + k]? = LRX8_trip_3[k]? := by
  have h := LBX8_tripr_2 (16 + k)
  rw [show 32 + (16 + k) = 48 + k by omega] at h
  rw [h]
  exact (List.getElem?_append_right (l₁ := LBX8_trip_2) (l₂ := LRX8_trip_3) (show 16 ≤ 16 + k by omega)).trans (congrArg (fun i => LRX8_trip_3[i]?) (show 16 + k - 16 = k by omega))
theorem dX8_trip_0 : decode cX8_trip 0 = .ok (.aload_n 0, 1) := dk_42_ (show cX8_trip.data.toList[0]? = some 0x2a from (LBX8_tripr_0 0).trans (by decide +kernel))
theorem dX8_trip_1 : decode cX8_trip 1 = .ok (.getfield 12, 3) := dk_180_ (show cX8_trip.data.toList[1]? = some 0xb4 from (LBX8_tripr_0 1).trans (by decide +kernel)) (show cX8_trip.data.toList[2]? = some 0x00 from (LBX8_tripr_0 2).trans (by decide +kernel)) (show cX8_trip.data.toList[3]? = some 0x0c from (LBX8_tripr_0 3).trans (by decide +kernel)) (by decide)
theorem dX8_trip_4 : decode cX8_trip 4 = .ok (.iload_n 1, 1) := dk_27_ (show cX8_trip.data.toList[4]? = some 0x1b from (LBX8_tripr_0 4).trans (by decide +kernel))
theorem dX8_trip_5 : decode cX8_trip 5 = .ok (.i2l, 1) := dk_133_ (show cX8_trip.data.toList[5]? = some 0x85 from (LBX8_tripr_0 5).trans (by decide +kernel))
theorem dX8_trip_6 : decode cX8_trip 6 = .ok (.invokevirtual 87, 3) := dk_182_ (show cX8_trip.data.toList[6]? = some 0xb6 from (LBX8_tripr_0 6).trans (by decide +kernel)) (show cX8_trip.data.toList[7]? = some 0x00 from (LBX8_tripr_0 7).trans (by decide +kernel)) (show cX8_trip.data.toList[8]? = some 0x57 from (LBX8_tripr_0 8).trans (by decide +kernel)) (by decide)
theorem dX8_trip_9 : decode cX8_trip 9 = .ok (.ifCond .ne 10, 3) := dk_154_ (show cX8_trip.data.toList[9]? = some 0x9a from (LBX8_tripr_0 9).trans (by decide +kernel)) (show cX8_trip.data.toList[10]? = some 0x00 from (LBX8_tripr_0 10).trans (by decide +kernel)) (show cX8_trip.data.toList[11]? = some 0x0a from (LBX8_tripr_0 11).trans (by decide +kernel)) (by decide)
theorem dX8_trip_12 : decode cX8_trip 12 = .ok (.aload_n 0, 1) := dk_42_ (show cX8_trip.data.toList[12]? = some 0x2a from (LBX8_tripr_0 12).trans (by decide +kernel))
theorem dX8_trip_13 : decode cX8_trip 13 = .ok (.ldc 95, 2) := dk_18_ (show cX8_trip.data.toList[13]? = some 0x12 from (LBX8_tripr_0 13).trans (by decide +kernel)) (show cX8_trip.data.toList[14]? = some 0x5f from (LBX8_tripr_0 14).trans (by decide +kernel)) (by decide)
theorem dX8_trip_15 : decode cX8_trip 15 = .ok (.invokevirtual 80, 3) := dk_182_ (show cX8_trip.data.toList[15]? = some 0xb6 from (LBX8_tripr_0 15).trans (by decide +kernel)) (show cX8_trip.data.toList[16]? = some 0x00 from (LBX8_tripr_1 0).trans (by decide +kernel)) (show cX8_trip.data.toList[17]? = some 0x50 from (LBX8_tripr_1 1).trans (by decide +kernel)) (by decide)
theorem dX8_trip_18 : decode cX8_trip 18 = .ok (.ireturn, 1) := dk_172_ (show cX8_trip.data.toList[18]? = some 0xac from (LBX8_tripr_1 2).trans (by decide +kernel))
theorem dX8_trip_19 : decode cX8_trip 19 = .ok (.aload_n 0, 1) := dk_42_ (show cX8_trip.data.toList[19]? = some 0x2a from (LBX8_tripr_1 3).trans (by decide +kernel))
theorem dX8_trip_20 : decode cX8_trip 20 = .ok (.invokevirtual 128, 3) := dk_182_ (show cX8_trip.data.toList[20]? = some 0xb6 from (LBX8_tripr_1 4).trans (by decide +kernel)) (show cX8_trip.data.toList[21]? = some 0x00 from (LBX8_tripr_1 5).trans (by decide +kernel)) (show cX8_trip.data.toList[22]? = some 0x80 from (LBX8_tripr_1 6).trans (by decide +kernel)) (by decide)
theorem dX8_trip_23 : decode cX8_trip 23 = .ok (.ifCond .eq 10, 3) := dk_153_ (show cX8_trip.data.toList[23]? = some 0x99 from (LBX8_tripr_1 7).trans (by decide +kernel)) (show cX8_trip.data.toList[24]? = some 0x00 from (LBX8_tripr_1 8).trans (by decide +kernel)) (show cX8_trip.data.toList[25]? = some 0x0a from (LBX8_tripr_1 9).trans (by decide +kernel)) (by decide)
theorem dX8_trip_26 : decode cX8_trip 26 = .ok (.aload_n 0, 1) := dk_42_ (show cX8_trip.data.toList[26]? = some 0x2a from (LBX8_tripr_1 10).trans (by decide +kernel))
theorem dX8_trip_27 : decode cX8_trip 27 = .ok (.ldc 132, 2) := dk_18_ (show cX8_trip.data.toList[27]? = some 0x12 from (LBX8_tripr_1 11).trans (by decide +kernel)) (show cX8_trip.data.toList[28]? = some 0x84 from (LBX8_tripr_1 12).trans (by decide +kernel)) (by decide)
theorem dX8_trip_29 : decode cX8_trip 29 = .ok (.invokevirtual 80, 3) := dk_182_ (show cX8_trip.data.toList[29]? = some 0xb6 from (LBX8_tripr_1 13).trans (by decide +kernel)) (show cX8_trip.data.toList[30]? = some 0x00 from (LBX8_tripr_1 14).trans (by decide +kernel)) (show cX8_trip.data.toList[31]? = some 0x50 from (LBX8_tripr_1 15).trans (by decide +kernel)) (by decide)
theorem dX8_trip_32 : decode cX8_trip 32 = .ok (.ireturn, 1) := dk_172_ (show cX8_trip.data.toList[32]? = some 0xac from (LBX8_tripr_2 0).trans (by decide +kernel))
theorem dX8_trip_33 : decode cX8_trip 33 = .ok (.aload_n 0, 1) := dk_42_ (show cX8_trip.data.toList[33]? = some 0x2a from (LBX8_tripr_2 1).trans (by decide +kernel))
theorem dX8_trip_34 : decode cX8_trip 34 = .ok (.aload_n 0, 1) := dk_42_ (show cX8_trip.data.toList[34]? = some 0x2a from (LBX8_tripr_2 2).trans (by decide +kernel))
theorem dX8_trip_35 : decode cX8_trip 35 = .ok (.getfield 29, 3) := dk_180_ (show cX8_trip.data.toList[35]? = some 0xb4 from (LBX8_tripr_2 3).trans (by decide +kernel)) (show cX8_trip.data.toList[36]? = some 0x00 from (LBX8_tripr_2 4).trans (by decide +kernel)) (show cX8_trip.data.toList[37]? = some 0x1d from (LBX8_tripr_2 5).trans (by decide +kernel)) (by decide)
theorem dX8_trip_38 : decode cX8_trip 38 = .ok (.aload_n 0, 1) := dk_42_ (show cX8_trip.data.toList[38]? = some 0x2a from (LBX8_tripr_2 6).trans (by decide +kernel))
theorem dX8_trip_39 : decode cX8_trip 39 = .ok (.getfield 12, 3) := dk_180_ (show cX8_trip.data.toList[39]? = some 0xb4 from (LBX8_tripr_2 7).trans (by decide +kernel)) (show cX8_trip.data.toList[40]? = some 0x00 from (LBX8_tripr_2 8).trans (by decide +kernel)) (show cX8_trip.data.toList[41]? = some 0x0c from (LBX8_tripr_2 9).trans (by decide +kernel)) (by decide)
theorem dX8_trip_42 : decode cX8_trip 42 = .ok (.iload_n 1, 1) := dk_27_ (show cX8_trip.data.toList[42]? = some 0x1b from (LBX8_tripr_2 10).trans (by decide +kernel))
theorem dX8_trip_43 : decode cX8_trip 43 = .ok (.invokevirtual 201, 3) := dk_182_ (show cX8_trip.data.toList[43]? = some 0xb6 from (LBX8_tripr_2 11).trans (by decide +kernel)) (show cX8_trip.data.toList[44]? = some 0x00 from (LBX8_tripr_2 12).trans (by decide +kernel)) (show cX8_trip.data.toList[45]? = some 0xc9 from (LBX8_tripr_2 13).trans (by decide +kernel)) (by decide)
theorem dX8_trip_46 : decode cX8_trip 46 = .ok (.invokevirtual 136, 3) := dk_182_ (show cX8_trip.data.toList[46]? = some 0xb6 from (LBX8_tripr_2 14).trans (by decide +kernel)) (show cX8_trip.data.toList[47]? = some 0x00 from (LBX8_tripr_2 15).trans (by decide +kernel)) (show cX8_trip.data.toList[48]? = some 0x88 from (LBX8_tripr_3 0).trans (by decide +kernel)) (by decide)
theorem dX8_trip_49 : decode cX8_trip 49 = .ok (.ireturn, 1) := dk_172_ (show cX8_trip.data.toList[49]? = some 0xac from (LBX8_tripr_3 1).trans (by decide +kernel))
def LRX8_live_3 : List UInt8 := []
def LBX8_live_2 : List UInt8 := [0x71, 0xb6, 0x00, 0x50, 0xa7, 0x00, 0x04, 0x1b, 0xac]
def LRX8_live_2 : List UInt8 := LBX8_live_2 ++ LRX8_live_3
def LBX8_live_1 : List UInt8 := [0x00, 0x1d, 0x2a, 0xb4, 0x00, 0x0c, 0xb6, 0x00, 0xc5, 0x3c, 0x1b, 0x9c, 0x00, 0x0c, 0x2a, 0x12]
def LRX8_live_1 : List UInt8 := LBX8_live_1 ++ LRX8_live_2
def LBX8_live_0 : List UInt8 := [0x2a, 0xb6, 0x00, 0x80, 0x99, 0x00, 0x0a, 0x2a, 0x12, 0x84, 0xb6, 0x00, 0x50, 0xac, 0x2a, 0xb4]
def LRX8_live_0 : List UInt8 := LBX8_live_0 ++ LRX8_live_1
set_option maxRecDepth 100000 in
theorem LBX8_live_eq : cX8_live.data.toList = LRX8_live_0 := by decide +kernel
theorem LBX8_liver_0 (k : Nat) : cX8_live.data.toList[0 + k]? = LRX8_live_0[k]? := by rw [LBX8_live_eq, Nat.zero_add]
theorem LBX8_liver_1 (k : Nat) : cX8_live.data.toList[16 + k]? = LRX8_live_1[k]? := by
  have h := LBX8_liver_0 (16 + k)
  rw [show 0 + (16 + k) = 16 + k by omega] at h
  rw [h]
  exact (List.getElem?_append_right (l₁ := LBX8_live_0) (l₂ := LRX8_live_1) (show 16 ≤ 16 + k by omega)).trans (congrArg (fun i => LRX8_live_1[i]?) (show 16 + k - 16 = k by omega))
theorem LBX8_liver_2 (k : Nat) : cX8_live.data.toList[32 + k]? = LRX8_live_2[k]? := by
  have h := LBX8_liver_1 (16 + k)
  rw [show 16 + (16 + k) = 32 + k by omega] at h
  rw [h]
  exact (List.getElem?_append_right (l₁ := LBX8_live_1) (l₂ := LRX8_live_2) (show 16 ≤ 16 + k by omega)).trans (congrArg (fun i => LRX8_live_2[i]?) (show 16 + k - 16 = k by omega))
theorem dX8_live_0 : decode cX8_live 0 = .ok (.aload_n 0, 1) := dk_42_ (show cX8_live.data.toList[0]? = some 0x2a from (LBX8_liver_0 0).trans (by decide +kernel))
theorem dX8_live_1 : decode cX8_live 1 = .ok (.invokevirtual 128, 3) := dk_182_ (show cX8_live.data.toList[1]? = some 0xb6 from (LBX8_liver_0 1).trans (by decide +kernel)) (show cX8_live.data.toList[2]? = some 0x00 from (LBX8_liver_0 2).trans (by decide +kernel)) (show cX8_live.data.toList[3]? = some 0x80 from (LBX8_liver_0 3).trans (by decide +kernel)) (by decide)
theorem dX8_live_4 : decode cX8_live 4 = .ok (.ifCond .eq 10, 3) := dk_153_ (show cX8_live.data.toList[4]? = some 0x99 from (LBX8_liver_0 4).trans (by decide +kernel)) (show cX8_live.data.toList[5]? = some 0x00 from (LBX8_liver_0 5).trans (by decide +kernel)) (show cX8_live.data.toList[6]? = some 0x0a from (LBX8_liver_0 6).trans (by decide +kernel)) (by decide)
theorem dX8_live_7 : decode cX8_live 7 = .ok (.aload_n 0, 1) := dk_42_ (show cX8_live.data.toList[7]? = some 0x2a from (LBX8_liver_0 7).trans (by decide +kernel))
theorem dX8_live_8 : decode cX8_live 8 = .ok (.ldc 132, 2) := dk_18_ (show cX8_live.data.toList[8]? = some 0x12 from (LBX8_liver_0 8).trans (by decide +kernel)) (show cX8_live.data.toList[9]? = some 0x84 from (LBX8_liver_0 9).trans (by decide +kernel)) (by decide)
theorem dX8_live_10 : decode cX8_live 10 = .ok (.invokevirtual 80, 3) := dk_182_ (show cX8_live.data.toList[10]? = some 0xb6 from (LBX8_liver_0 10).trans (by decide +kernel)) (show cX8_live.data.toList[11]? = some 0x00 from (LBX8_liver_0 11).trans (by decide +kernel)) (show cX8_live.data.toList[12]? = some 0x50 from (LBX8_liver_0 12).trans (by decide +kernel)) (by decide)
theorem dX8_live_13 : decode cX8_live 13 = .ok (.ireturn, 1) := dk_172_ (show cX8_live.data.toList[13]? = some 0xac from (LBX8_liver_0 13).trans (by decide +kernel))
theorem dX8_live_14 : decode cX8_live 14 = .ok (.aload_n 0, 1) := dk_42_ (show cX8_live.data.toList[14]? = some 0x2a from (LBX8_liver_0 14).trans (by decide +kernel))
theorem dX8_live_15 : decode cX8_live 15 = .ok (.getfield 29, 3) := dk_180_ (show cX8_live.data.toList[15]? = some 0xb4 from (LBX8_liver_0 15).trans (by decide +kernel)) (show cX8_live.data.toList[16]? = some 0x00 from (LBX8_liver_1 0).trans (by decide +kernel)) (show cX8_live.data.toList[17]? = some 0x1d from (LBX8_liver_1 1).trans (by decide +kernel)) (by decide)
theorem dX8_live_18 : decode cX8_live 18 = .ok (.aload_n 0, 1) := dk_42_ (show cX8_live.data.toList[18]? = some 0x2a from (LBX8_liver_1 2).trans (by decide +kernel))
theorem dX8_live_19 : decode cX8_live 19 = .ok (.getfield 12, 3) := dk_180_ (show cX8_live.data.toList[19]? = some 0xb4 from (LBX8_liver_1 3).trans (by decide +kernel)) (show cX8_live.data.toList[20]? = some 0x00 from (LBX8_liver_1 4).trans (by decide +kernel)) (show cX8_live.data.toList[21]? = some 0x0c from (LBX8_liver_1 5).trans (by decide +kernel)) (by decide)
theorem dX8_live_22 : decode cX8_live 22 = .ok (.invokevirtual 197, 3) := dk_182_ (show cX8_live.data.toList[22]? = some 0xb6 from (LBX8_liver_1 6).trans (by decide +kernel)) (show cX8_live.data.toList[23]? = some 0x00 from (LBX8_liver_1 7).trans (by decide +kernel)) (show cX8_live.data.toList[24]? = some 0xc5 from (LBX8_liver_1 8).trans (by decide +kernel)) (by decide)
theorem dX8_live_25 : decode cX8_live 25 = .ok (.istore_n 1, 1) := dk_60_ (show cX8_live.data.toList[25]? = some 0x3c from (LBX8_liver_1 9).trans (by decide +kernel))
theorem dX8_live_26 : decode cX8_live 26 = .ok (.iload_n 1, 1) := dk_27_ (show cX8_live.data.toList[26]? = some 0x1b from (LBX8_liver_1 10).trans (by decide +kernel))
theorem dX8_live_27 : decode cX8_live 27 = .ok (.ifCond .ge 12, 3) := dk_156_ (show cX8_live.data.toList[27]? = some 0x9c from (LBX8_liver_1 11).trans (by decide +kernel)) (show cX8_live.data.toList[28]? = some 0x00 from (LBX8_liver_1 12).trans (by decide +kernel)) (show cX8_live.data.toList[29]? = some 0x0c from (LBX8_liver_1 13).trans (by decide +kernel)) (by decide)
theorem dX8_live_30 : decode cX8_live 30 = .ok (.aload_n 0, 1) := dk_42_ (show cX8_live.data.toList[30]? = some 0x2a from (LBX8_liver_1 14).trans (by decide +kernel))
theorem dX8_live_31 : decode cX8_live 31 = .ok (.ldc 113, 2) := dk_18_ (show cX8_live.data.toList[31]? = some 0x12 from (LBX8_liver_1 15).trans (by decide +kernel)) (show cX8_live.data.toList[32]? = some 0x71 from (LBX8_liver_2 0).trans (by decide +kernel)) (by decide)
theorem dX8_live_33 : decode cX8_live 33 = .ok (.invokevirtual 80, 3) := dk_182_ (show cX8_live.data.toList[33]? = some 0xb6 from (LBX8_liver_2 1).trans (by decide +kernel)) (show cX8_live.data.toList[34]? = some 0x00 from (LBX8_liver_2 2).trans (by decide +kernel)) (show cX8_live.data.toList[35]? = some 0x50 from (LBX8_liver_2 3).trans (by decide +kernel)) (by decide)
theorem dX8_live_36 : decode cX8_live 36 = .ok (.goto 4, 3) := dk_167_ (show cX8_live.data.toList[36]? = some 0xa7 from (LBX8_liver_2 4).trans (by decide +kernel)) (show cX8_live.data.toList[37]? = some 0x00 from (LBX8_liver_2 5).trans (by decide +kernel)) (show cX8_live.data.toList[38]? = some 0x04 from (LBX8_liver_2 6).trans (by decide +kernel)) (by decide)
theorem dX8_live_39 : decode cX8_live 39 = .ok (.iload_n 1, 1) := dk_27_ (show cX8_live.data.toList[39]? = some 0x1b from (LBX8_liver_2 7).trans (by decide +kernel))
theorem dX8_live_40 : decode cX8_live 40 = .ok (.ireturn, 1) := dk_172_ (show cX8_live.data.toList[40]? = some 0xac from (LBX8_liver_2 8).trans (by decide +kernel))
def LRX8_meet_6 : List UInt8 := []
def LBX8_meet_5 : List UInt8 := [0x15, 0x04, 0xac]
def LRX8_meet_5 : List UInt8 := LBX8_meet_5 ++ LRX8_meet_6
def LBX8_meet_4 : List UInt8 := [0x36, 0x04, 0x15, 0x04, 0x9c, 0x00, 0x0c, 0x2a, 0x12, 0x71, 0xb6, 0x00, 0x50, 0xa7, 0x00, 0x05]
def LRX8_meet_4 : List UInt8 := LBX8_meet_4 ++ LRX8_meet_5
def LBX8_meet_3 : List UInt8 := [0x12, 0x84, 0xb6, 0x00, 0x50, 0xac, 0x2a, 0xb4, 0x00, 0x1d, 0x1b, 0x1c, 0x1d, 0xb6, 0x00, 0xcd]
def LRX8_meet_3 : List UInt8 := LBX8_meet_3 ++ LRX8_meet_4
def LBX8_meet_2 : List UInt8 := [0x0a, 0x2a, 0x12, 0x5f, 0xb6, 0x00, 0x50, 0xac, 0x2a, 0xb6, 0x00, 0x80, 0x99, 0x00, 0x0a, 0x2a]
def LRX8_meet_2 : List UInt8 := LBX8_meet_2 ++ LRX8_meet_3
def LBX8_meet_1 : List UInt8 := [0x1c, 0x85, 0xb6, 0x00, 0x57, 0x99, 0x00, 0x0c, 0x1d, 0x03, 0x05, 0xb8, 0x00, 0x5b, 0x9a, 0x00]
def LRX8_meet_1 : List UInt8 := LBX8_meet_1 ++ LRX8_meet_2
def LBX8_meet_0 : List UInt8 := [0x2a, 0xb4, 0x00, 0x0c, 0x1b, 0x85, 0xb6, 0x00, 0x57, 0x99, 0x00, 0x18, 0x2a, 0xb4, 0x00, 0x0c]
def LRX8_meet_0 : List UInt8 := LBX8_meet_0 ++ LRX8_meet_1
set_option maxRecDepth 100000 in
theorem LBX8_meet_eq : cX8_meet.data.toList = LRX8_meet_0 := by decide +kernel
theorem LBX8_meetr_0 (k : Nat) : cX8_meet.data.toList[0 + k]? = LRX8_meet_0[k]? := by rw [LBX8_meet_eq, Nat.zero_add]
theorem LBX8_meetr_1 (k : Nat) : cX8_meet.data.toList[16 + k]? = LRX8_meet_1[k]? := by
  have h := LBX8_meetr_0 (16 + k)
  rw [show 0 + (16 + k) = 16 + k by omega] at h
  rw [h]
  exact (List.getElem?_append_right (l₁ := LBX8_meet_0) (l₂ := LRX8_meet_1) (show 16 ≤ 16 + k by omega)).trans (congrArg (fun i => LRX8_meet_1[i]?) (show 16 + k - 16 = k by omega))
theorem LBX8_meetr_2 (k : Nat) : cX8_meet.data.toList[32 + k]? = LRX8_meet_2[k]? := by
  have h := LBX8_meetr_1 (16 + k)
  rw [show 16 + (16 + k) = 32 + k by omega] at h
  rw [h]
  exact (List.getElem?_append_right (l₁ := LBX8_meet_1) (l₂ := LRX8_meet_2) (show 16 ≤ 16 + k by omega)).trans (congrArg (fun i => LRX8_meet_2[i]?) (show 16 + k - 16 = k by omega))
theorem LBX8_meetr_3 (k : Nat) : cX8_meet.data.toList[48 + k]? = LRX8_meet_3[k]? := by
  have h := LBX8_meetr_2 (16 + k)
  rw [show 32 + (16 + k) = 48 + k by omega] at h
  rw [h]
  exact (List.getElem?_append_right (l₁ := LBX8_meet_2) (l₂ := LRX8_meet_3) (show 16 ≤ 16 + k by omega)).trans (congrArg (fun i => LRX8_meet_3[i]?) (show 16 + k - 16 = k by omega))
theorem LBX8_meetr_4 (k : Nat) : cX8_meet.data.toList[64 + k]? = LRX8_meet_4[k]? := by
  have h := LBX8_meetr_3 (16 + k)
  rw [show 48 + (16 + k) = 64 + k by omega] at h
  rw [h]
  exact (List.getElem?_append_right (l₁ := LBX8_meet_3) (l₂ := LRX8_meet_4) (show 16 ≤ 16 + k by omega)).trans (congrArg (fun i => LRX8_meet_4[i]?) (show 16 + k - 16 = k by omega))
theorem LBX8_meetr_5 (k : Nat) : cX8_meet.data.toList[80 + k]? = LRX8_meet_5[k]? := by
  have h := LBX8_meetr_4 (16 + k)
  rw [show 64 + (16 + k) = 80 + k by omega] at h
  rw [h]
  exact (List.getElem?_append_right (l₁ := LBX8_meet_4) (l₂ := LRX8_meet_5) (show 16 ≤ 16 + k by omega)).trans (congrArg (fun i => LRX8_meet_5[i]?) (show 16 + k - 16 = k by omega))
theorem dX8_meet_0 : decode cX8_meet 0 = .ok (.aload_n 0, 1) := dk_42_ (show cX8_meet.data.toList[0]? = some 0x2a from (LBX8_meetr_0 0).trans (by decide +kernel))
theorem dX8_meet_1 : decode cX8_meet 1 = .ok (.getfield 12, 3) := dk_180_ (show cX8_meet.data.toList[1]? = some 0xb4 from (LBX8_meetr_0 1).trans (by decide +kernel)) (show cX8_meet.data.toList[2]? = some 0x00 from (LBX8_meetr_0 2).trans (by decide +kernel)) (show cX8_meet.data.toList[3]? = some 0x0c from (LBX8_meetr_0 3).trans (by decide +kernel)) (by decide)
theorem dX8_meet_4 : decode cX8_meet 4 = .ok (.iload_n 1, 1) := dk_27_ (show cX8_meet.data.toList[4]? = some 0x1b from (LBX8_meetr_0 4).trans (by decide +kernel))
theorem dX8_meet_5 : decode cX8_meet 5 = .ok (.i2l, 1) := dk_133_ (show cX8_meet.data.toList[5]? = some 0x85 from (LBX8_meetr_0 5).trans (by decide +kernel))
theorem dX8_meet_6 : decode cX8_meet 6 = .ok (.invokevirtual 87, 3) := dk_182_ (show cX8_meet.data.toList[6]? = some 0xb6 from (LBX8_meetr_0 6).trans (by decide +kernel)) (show cX8_meet.data.toList[7]? = some 0x00 from (LBX8_meetr_0 7).trans (by decide +kernel)) (show cX8_meet.data.toList[8]? = some 0x57 from (LBX8_meetr_0 8).trans (by decide +kernel)) (by decide)
theorem dX8_meet_9 : decode cX8_meet 9 = .ok (.ifCond .eq 24, 3) := dk_153_ (show cX8_meet.data.toList[9]? = some 0x99 from (LBX8_meetr_0 9).trans (by decide +kernel)) (show cX8_meet.data.toList[10]? = some 0x00 from (LBX8_meetr_0 10).trans (by decide +kernel)) (show cX8_meet.data.toList[11]? = some 0x18 from (LBX8_meetr_0 11).trans (by decide +kernel)) (by decide)
theorem dX8_meet_12 : decode cX8_meet 12 = .ok (.aload_n 0, 1) := dk_42_ (show cX8_meet.data.toList[12]? = some 0x2a from (LBX8_meetr_0 12).trans (by decide +kernel))
theorem dX8_meet_13 : decode cX8_meet 13 = .ok (.getfield 12, 3) := dk_180_ (show cX8_meet.data.toList[13]? = some 0xb4 from (LBX8_meetr_0 13).trans (by decide +kernel)) (show cX8_meet.data.toList[14]? = some 0x00 from (LBX8_meetr_0 14).trans (by decide +kernel)) (show cX8_meet.data.toList[15]? = some 0x0c from (LBX8_meetr_0 15).trans (by decide +kernel)) (by decide)
theorem dX8_meet_16 : decode cX8_meet 16 = .ok (.iload_n 2, 1) := dk_28_ (show cX8_meet.data.toList[16]? = some 0x1c from (LBX8_meetr_1 0).trans (by decide +kernel))
theorem dX8_meet_17 : decode cX8_meet 17 = .ok (.i2l, 1) := dk_133_ (show cX8_meet.data.toList[17]? = some 0x85 from (LBX8_meetr_1 1).trans (by decide +kernel))
theorem dX8_meet_18 : decode cX8_meet 18 = .ok (.invokevirtual 87, 3) := dk_182_ (show cX8_meet.data.toList[18]? = some 0xb6 from (LBX8_meetr_1 2).trans (by decide +kernel)) (show cX8_meet.data.toList[19]? = some 0x00 from (LBX8_meetr_1 3).trans (by decide +kernel)) (show cX8_meet.data.toList[20]? = some 0x57 from (LBX8_meetr_1 4).trans (by decide +kernel)) (by decide)
theorem dX8_meet_21 : decode cX8_meet 21 = .ok (.ifCond .eq 12, 3) := dk_153_ (show cX8_meet.data.toList[21]? = some 0x99 from (LBX8_meetr_1 5).trans (by decide +kernel)) (show cX8_meet.data.toList[22]? = some 0x00 from (LBX8_meetr_1 6).trans (by decide +kernel)) (show cX8_meet.data.toList[23]? = some 0x0c from (LBX8_meetr_1 7).trans (by decide +kernel)) (by decide)
theorem dX8_meet_24 : decode cX8_meet 24 = .ok (.iload_n 3, 1) := dk_29_ (show cX8_meet.data.toList[24]? = some 0x1d from (LBX8_meetr_1 8).trans (by decide +kernel))
theorem dX8_meet_25 : decode cX8_meet 25 = .ok (.iconst 0, 1) := dk_3_ (show cX8_meet.data.toList[25]? = some 0x03 from (LBX8_meetr_1 9).trans (by decide +kernel))
theorem dX8_meet_26 : decode cX8_meet 26 = .ok (.iconst 2, 1) := dk_5_ (show cX8_meet.data.toList[26]? = some 0x05 from (LBX8_meetr_1 10).trans (by decide +kernel))
theorem dX8_meet_27 : decode cX8_meet 27 = .ok (.invokestatic 91, 3) := dk_184_ (show cX8_meet.data.toList[27]? = some 0xb8 from (LBX8_meetr_1 11).trans (by decide +kernel)) (show cX8_meet.data.toList[28]? = some 0x00 from (LBX8_meetr_1 12).trans (by decide +kernel)) (show cX8_meet.data.toList[29]? = some 0x5b from (LBX8_meetr_1 13).trans (by decide +kernel)) (by decide)
theorem dX8_meet_30 : decode cX8_meet 30 = .ok (.ifCond .ne 10, 3) := dk_154_ (show cX8_meet.data.toList[30]? = some 0x9a from (LBX8_meetr_1 14).trans (by decide +kernel)) (show cX8_meet.data.toList[31]? = some 0x00 from (LBX8_meetr_1 15).trans (by decide +kernel)) (show cX8_meet.data.toList[32]? = some 0x0a from (LBX8_meetr_2 0).trans (by decide +kernel)) (by decide)
theorem dX8_meet_33 : decode cX8_meet 33 = .ok (.aload_n 0, 1) := dk_42_ (show cX8_meet.data.toList[33]? = some 0x2a from (LBX8_meetr_2 1).trans (by decide +kernel))
theorem dX8_meet_34 : decode cX8_meet 34 = .ok (.ldc 95, 2) := dk_18_ (show cX8_meet.data.toList[34]? = some 0x12 from (LBX8_meetr_2 2).trans (by decide +kernel)) (show cX8_meet.data.toList[35]? = some 0x5f from (LBX8_meetr_2 3).trans (by decide +kernel)) (by decide)
theorem dX8_meet_36 : decode cX8_meet 36 = .ok (.invokevirtual 80, 3) := dk_182_ (show cX8_meet.data.toList[36]? = some 0xb6 from (LBX8_meetr_2 4).trans (by decide +kernel)) (show cX8_meet.data.toList[37]? = some 0x00 from (LBX8_meetr_2 5).trans (by decide +kernel)) (show cX8_meet.data.toList[38]? = some 0x50 from (LBX8_meetr_2 6).trans (by decide +kernel)) (by decide)
theorem dX8_meet_39 : decode cX8_meet 39 = .ok (.ireturn, 1) := dk_172_ (show cX8_meet.data.toList[39]? = some 0xac from (LBX8_meetr_2 7).trans (by decide +kernel))
theorem dX8_meet_40 : decode cX8_meet 40 = .ok (.aload_n 0, 1) := dk_42_ (show cX8_meet.data.toList[40]? = some 0x2a from (LBX8_meetr_2 8).trans (by decide +kernel))
theorem dX8_meet_41 : decode cX8_meet 41 = .ok (.invokevirtual 128, 3) := dk_182_ (show cX8_meet.data.toList[41]? = some 0xb6 from (LBX8_meetr_2 9).trans (by decide +kernel)) (show cX8_meet.data.toList[42]? = some 0x00 from (LBX8_meetr_2 10).trans (by decide +kernel)) (show cX8_meet.data.toList[43]? = some 0x80 from (LBX8_meetr_2 11).trans (by decide +kernel)) (by decide)
theorem dX8_meet_44 : decode cX8_meet 44 = .ok (.ifCond .eq 10, 3) := dk_153_ (show cX8_meet.data.toList[44]? = some 0x99 from (LBX8_meetr_2 12).trans (by decide +kernel)) (show cX8_meet.data.toList[45]? = some 0x00 from (LBX8_meetr_2 13).trans (by decide +kernel)) (show cX8_meet.data.toList[46]? = some 0x0a from (LBX8_meetr_2 14).trans (by decide +kernel)) (by decide)
theorem dX8_meet_47 : decode cX8_meet 47 = .ok (.aload_n 0, 1) := dk_42_ (show cX8_meet.data.toList[47]? = some 0x2a from (LBX8_meetr_2 15).trans (by decide +kernel))
theorem dX8_meet_48 : decode cX8_meet 48 = .ok (.ldc 132, 2) := dk_18_ (show cX8_meet.data.toList[48]? = some 0x12 from (LBX8_meetr_3 0).trans (by decide +kernel)) (show cX8_meet.data.toList[49]? = some 0x84 from (LBX8_meetr_3 1).trans (by decide +kernel)) (by decide)
theorem dX8_meet_50 : decode cX8_meet 50 = .ok (.invokevirtual 80, 3) := dk_182_ (show cX8_meet.data.toList[50]? = some 0xb6 from (LBX8_meetr_3 2).trans (by decide +kernel)) (show cX8_meet.data.toList[51]? = some 0x00 from (LBX8_meetr_3 3).trans (by decide +kernel)) (show cX8_meet.data.toList[52]? = some 0x50 from (LBX8_meetr_3 4).trans (by decide +kernel)) (by decide)
theorem dX8_meet_53 : decode cX8_meet 53 = .ok (.ireturn, 1) := dk_172_ (show cX8_meet.data.toList[53]? = some 0xac from (LBX8_meetr_3 5).trans (by decide +kernel))
theorem dX8_meet_54 : decode cX8_meet 54 = .ok (.aload_n 0, 1) := dk_42_ (show cX8_meet.data.toList[54]? = some 0x2a from (LBX8_meetr_3 6).trans (by decide +kernel))
theorem dX8_meet_55 : decode cX8_meet 55 = .ok (.getfield 29, 3) := dk_180_ (show cX8_meet.data.toList[55]? = some 0xb4 from (LBX8_meetr_3 7).trans (by decide +kernel)) (show cX8_meet.data.toList[56]? = some 0x00 from (LBX8_meetr_3 8).trans (by decide +kernel)) (show cX8_meet.data.toList[57]? = some 0x1d from (LBX8_meetr_3 9).trans (by decide +kernel)) (by decide)
theorem dX8_meet_58 : decode cX8_meet 58 = .ok (.iload_n 1, 1) := dk_27_ (show cX8_meet.data.toList[58]? = some 0x1b from (LBX8_meetr_3 10).trans (by decide +kernel))
theorem dX8_meet_59 : decode cX8_meet 59 = .ok (.iload_n 2, 1) := dk_28_ (show cX8_meet.data.toList[59]? = some 0x1c from (LBX8_meetr_3 11).trans (by decide +kernel))
theorem dX8_meet_60 : decode cX8_meet 60 = .ok (.iload_n 3, 1) := dk_29_ (show cX8_meet.data.toList[60]? = some 0x1d from (LBX8_meetr_3 12).trans (by decide +kernel))
theorem dX8_meet_61 : decode cX8_meet 61 = .ok (.invokevirtual 205, 3) := dk_182_ (show cX8_meet.data.toList[61]? = some 0xb6 from (LBX8_meetr_3 13).trans (by decide +kernel)) (show cX8_meet.data.toList[62]? = some 0x00 from (LBX8_meetr_3 14).trans (by decide +kernel)) (show cX8_meet.data.toList[63]? = some 0xcd from (LBX8_meetr_3 15).trans (by decide +kernel)) (by decide)
theorem dX8_meet_64 : decode cX8_meet 64 = .ok (.istore 4, 2) := dk_54_ (show cX8_meet.data.toList[64]? = some 0x36 from (LBX8_meetr_4 0).trans (by decide +kernel)) (show cX8_meet.data.toList[65]? = some 0x04 from (LBX8_meetr_4 1).trans (by decide +kernel)) (by decide)
theorem dX8_meet_66 : decode cX8_meet 66 = .ok (.iload 4, 2) := dk_21_ (show cX8_meet.data.toList[66]? = some 0x15 from (LBX8_meetr_4 2).trans (by decide +kernel)) (show cX8_meet.data.toList[67]? = some 0x04 from (LBX8_meetr_4 3).trans (by decide +kernel)) (by decide)
theorem dX8_meet_68 : decode cX8_meet 68 = .ok (.ifCond .ge 12, 3) := dk_156_ (show cX8_meet.data.toList[68]? = some 0x9c from (LBX8_meetr_4 4).trans (by decide +kernel)) (show cX8_meet.data.toList[69]? = some 0x00 from (LBX8_meetr_4 5).trans (by decide +kernel)) (show cX8_meet.data.toList[70]? = some 0x0c from (LBX8_meetr_4 6).trans (by decide +kernel)) (by decide)
theorem dX8_meet_71 : decode cX8_meet 71 = .ok (.aload_n 0, 1) := dk_42_ (show cX8_meet.data.toList[71]? = some 0x2a from (LBX8_meetr_4 7).trans (by decide +kernel))
theorem dX8_meet_72 : decode cX8_meet 72 = .ok (.ldc 113, 2) := dk_18_ (show cX8_meet.data.toList[72]? = some 0x12 from (LBX8_meetr_4 8).trans (by decide +kernel)) (show cX8_meet.data.toList[73]? = some 0x71 from (LBX8_meetr_4 9).trans (by decide +kernel)) (by decide)
theorem dX8_meet_74 : decode cX8_meet 74 = .ok (.invokevirtual 80, 3) := dk_182_ (show cX8_meet.data.toList[74]? = some 0xb6 from (LBX8_meetr_4 10).trans (by decide +kernel)) (show cX8_meet.data.toList[75]? = some 0x00 from (LBX8_meetr_4 11).trans (by decide +kernel)) (show cX8_meet.data.toList[76]? = some 0x50 from (LBX8_meetr_4 12).trans (by decide +kernel)) (by decide)
theorem dX8_meet_77 : decode cX8_meet 77 = .ok (.goto 5, 3) := dk_167_ (show cX8_meet.data.toList[77]? = some 0xa7 from (LBX8_meetr_4 13).trans (by decide +kernel)) (show cX8_meet.data.toList[78]? = some 0x00 from (LBX8_meetr_4 14).trans (by decide +kernel)) (show cX8_meet.data.toList[79]? = some 0x05 from (LBX8_meetr_4 15).trans (by decide +kernel)) (by decide)
theorem dX8_meet_80 : decode cX8_meet 80 = .ok (.iload 4, 2) := dk_21_ (show cX8_meet.data.toList[80]? = some 0x15 from (LBX8_meetr_5 0).trans (by decide +kernel)) (show cX8_meet.data.toList[81]? = some 0x04 from (LBX8_meetr_5 1).trans (by decide +kernel)) (by decide)
theorem dX8_meet_82 : decode cX8_meet 82 = .ok (.ireturn, 1) := dk_172_ (show cX8_meet.data.toList[82]? = some 0xac from (LBX8_meetr_5 2).trans (by decide +kernel))
def LRX8_round_4 : List UInt8 := []
def LBX8_round_3 : List UInt8 := [0x00, 0x0c, 0x1b, 0x1c, 0xb6, 0x00, 0xa8, 0xac]
def LRX8_round_3 : List UInt8 := LBX8_round_3 ++ LRX8_round_4
def LBX8_round_2 : List UInt8 := [0x9f, 0xb6, 0x00, 0xa3, 0x99, 0x00, 0x0a, 0x2a, 0x12, 0x4f, 0xb6, 0x00, 0x50, 0xac, 0x2a, 0xb4]
def LRX8_round_2 : List UInt8 := LBX8_round_2 ++ LRX8_round_3
def LBX8_round_1 : List UInt8 := [0x9a, 0x00, 0x0a, 0x2a, 0x12, 0x5f, 0xb6, 0x00, 0x50, 0xac, 0x2a, 0xb4, 0x00, 0x0c, 0xb4, 0x00]
def LRX8_round_1 : List UInt8 := LBX8_round_1 ++ LRX8_round_2
def LBX8_round_0 : List UInt8 := [0x1b, 0xb8, 0x00, 0x9b, 0x99, 0x00, 0x0f, 0x2a, 0xb4, 0x00, 0x0c, 0x1c, 0x85, 0xb6, 0x00, 0x57]
def LRX8_round_0 : List UInt8 := LBX8_round_0 ++ LRX8_round_1
set_option maxRecDepth 100000 in
theorem LBX8_round_eq : cX8_round.data.toList = LRX8_round_0 := by decide +kernel
theorem LBX8_roundr_0 (k : Nat) : cX8_round.data.toList[0 + k]? = LRX8_round_0[k]? := by rw [LBX8_round_eq, Nat.zero_add]
theorem LBX8_roundr_1 (k : Nat) : cX8_round.data.toList[16 + k]? = LRX8_round_1[k]? := by
  have h := LBX8_roundr_0 (16 + k)
  rw [show 0 + (16 + k) = 16 + k by omega] at h
  rw [h]
  exact (List.getElem?_append_right (l₁ := LBX8_round_0) (l₂ := LRX8_round_1) (show 16 ≤ 16 + k by omega)).trans (congrArg (fun i => LRX8_round_1[i]?) (show 16 + k - 16 = k by omega))
theorem LBX8_roundr_2 (k : Nat) : cX8_round.data.toList[32 + k]? = LRX8_round_2[k]? := by
  have h := LBX8_roundr_1 (16 + k)
  rw [show 16 + (16 + k) = 32 + k by omega] at h
  rw [h]
  exact (List.getElem?_append_right (l₁ := LBX8_round_1) (l₂ := LRX8_round_2) (show 16 ≤ 16 + k by omega)).trans (congrArg (fun i => LRX8_round_2[i]?) (show 16 + k - 16 = k by omega))
theorem LBX8_roundr_3 (k : Nat) : cX8_round.data.toList[48 + k]? = LRX8_round_3[k]? := by
  have h := LBX8_roundr_2 (16 + k)
  rw [show 32 + (16 + k) = 48 + k by omega] at h
  rw [h]
  exact (List.getElem?_append_right (l₁ := LBX8_round_2) (l₂ := LRX8_round_3) (show 16 ≤ 16 + k by omega)).trans (congrArg (fun i => LRX8_round_3[i]?) (show 16 + k - 16 = k by omega))
theorem dX8_round_0 : decode cX8_round 0 = .ok (.iload_n 1, 1) := dk_27_ (show cX8_round.data.toList[0]? = some 0x1b from (LBX8_roundr_0 0).trans (by decide +kernel))
theorem dX8_round_1 : decode cX8_round 1 = .ok (.invokestatic 155, 3) := dk_184_ (show cX8_round.data.toList[1]? = some 0xb8 from (LBX8_roundr_0 1).trans (by decide +kernel)) (show cX8_round.data.toList[2]? = some 0x00 from (LBX8_roundr_0 2).trans (by decide +kernel)) (show cX8_round.data.toList[3]? = some 0x9b from (LBX8_roundr_0 3).trans (by decide +kernel)) (by decide)
theorem dX8_round_4 : decode cX8_round 4 = .ok (.ifCond .eq 15, 3) := dk_153_ (show cX8_round.data.toList[4]? = some 0x99 from (LBX8_roundr_0 4).trans (by decide +kernel)) (show cX8_round.data.toList[5]? = some 0x00 from (LBX8_roundr_0 5).trans (by decide +kernel)) (show cX8_round.data.toList[6]? = some 0x0f from (LBX8_roundr_0 6).trans (by decide +kernel)) (by decide)
theorem dX8_round_7 : decode cX8_round 7 = .ok (.aload_n 0, 1) := dk_42_ (show cX8_round.data.toList[7]? = some 0x2a from (LBX8_roundr_0 7).trans (by decide +kernel))
theorem dX8_round_8 : decode cX8_round 8 = .ok (.getfield 12, 3) := dk_180_ (show cX8_round.data.toList[8]? = some 0xb4 from (LBX8_roundr_0 8).trans (by decide +kernel)) (show cX8_round.data.toList[9]? = some 0x00 from (LBX8_roundr_0 9).trans (by decide +kernel)) (show cX8_round.data.toList[10]? = some 0x0c from (LBX8_roundr_0 10).trans (by decide +kernel)) (by decide)
theorem dX8_round_11 : decode cX8_round 11 = .ok (.iload_n 2, 1) := dk_28_ (show cX8_round.data.toList[11]? = some 0x1c from (LBX8_roundr_0 11).trans (by decide +kernel))
theorem dX8_round_12 : decode cX8_round 12 = .ok (.i2l, 1) := dk_133_ (show cX8_round.data.toList[12]? = some 0x85 from (LBX8_roundr_0 12).trans (by decide +kernel))
theorem dX8_round_13 : decode cX8_round 13 = .ok (.invokevirtual 87, 3) := dk_182_ (show cX8_round.data.toList[13]? = some 0xb6 from (LBX8_roundr_0 13).trans (by decide +kernel)) (show cX8_round.data.toList[14]? = some 0x00 from (LBX8_roundr_0 14).trans (by decide +kernel)) (show cX8_round.data.toList[15]? = some 0x57 from (LBX8_roundr_0 15).trans (by decide +kernel)) (by decide)
theorem dX8_round_16 : decode cX8_round 16 = .ok (.ifCond .ne 10, 3) := dk_154_ (show cX8_round.data.toList[16]? = some 0x9a from (LBX8_roundr_1 0).trans (by decide +kernel)) (show cX8_round.data.toList[17]? = some 0x00 from (LBX8_roundr_1 1).trans (by decide +kernel)) (show cX8_round.data.toList[18]? = some 0x0a from (LBX8_roundr_1 2).trans (by decide +kernel)) (by decide)
theorem dX8_round_19 : decode cX8_round 19 = .ok (.aload_n 0, 1) := dk_42_ (show cX8_round.data.toList[19]? = some 0x2a from (LBX8_roundr_1 3).trans (by decide +kernel))
theorem dX8_round_20 : decode cX8_round 20 = .ok (.ldc 95, 2) := dk_18_ (show cX8_round.data.toList[20]? = some 0x12 from (LBX8_roundr_1 4).trans (by decide +kernel)) (show cX8_round.data.toList[21]? = some 0x5f from (LBX8_roundr_1 5).trans (by decide +kernel)) (by decide)
theorem dX8_round_22 : decode cX8_round 22 = .ok (.invokevirtual 80, 3) := dk_182_ (show cX8_round.data.toList[22]? = some 0xb6 from (LBX8_roundr_1 6).trans (by decide +kernel)) (show cX8_round.data.toList[23]? = some 0x00 from (LBX8_roundr_1 7).trans (by decide +kernel)) (show cX8_round.data.toList[24]? = some 0x50 from (LBX8_roundr_1 8).trans (by decide +kernel)) (by decide)
theorem dX8_round_25 : decode cX8_round 25 = .ok (.ireturn, 1) := dk_172_ (show cX8_round.data.toList[25]? = some 0xac from (LBX8_roundr_1 9).trans (by decide +kernel))
theorem dX8_round_26 : decode cX8_round 26 = .ok (.aload_n 0, 1) := dk_42_ (show cX8_round.data.toList[26]? = some 0x2a from (LBX8_roundr_1 10).trans (by decide +kernel))
theorem dX8_round_27 : decode cX8_round 27 = .ok (.getfield 12, 3) := dk_180_ (show cX8_round.data.toList[27]? = some 0xb4 from (LBX8_roundr_1 11).trans (by decide +kernel)) (show cX8_round.data.toList[28]? = some 0x00 from (LBX8_roundr_1 12).trans (by decide +kernel)) (show cX8_round.data.toList[29]? = some 0x0c from (LBX8_roundr_1 13).trans (by decide +kernel)) (by decide)
theorem dX8_round_30 : decode cX8_round 30 = .ok (.getfield 159, 3) := dk_180_ (show cX8_round.data.toList[30]? = some 0xb4 from (LBX8_roundr_1 14).trans (by decide +kernel)) (show cX8_round.data.toList[31]? = some 0x00 from (LBX8_roundr_1 15).trans (by decide +kernel)) (show cX8_round.data.toList[32]? = some 0x9f from (LBX8_roundr_2 0).trans (by decide +kernel)) (by decide)
theorem dX8_round_33 : decode cX8_round 33 = .ok (.invokevirtual 163, 3) := dk_182_ (show cX8_round.data.toList[33]? = some 0xb6 from (LBX8_roundr_2 1).trans (by decide +kernel)) (show cX8_round.data.toList[34]? = some 0x00 from (LBX8_roundr_2 2).trans (by decide +kernel)) (show cX8_round.data.toList[35]? = some 0xa3 from (LBX8_roundr_2 3).trans (by decide +kernel)) (by decide)
theorem dX8_round_36 : decode cX8_round 36 = .ok (.ifCond .eq 10, 3) := dk_153_ (show cX8_round.data.toList[36]? = some 0x99 from (LBX8_roundr_2 4).trans (by decide +kernel)) (show cX8_round.data.toList[37]? = some 0x00 from (LBX8_roundr_2 5).trans (by decide +kernel)) (show cX8_round.data.toList[38]? = some 0x0a from (LBX8_roundr_2 6).trans (by decide +kernel)) (by decide)
theorem dX8_round_39 : decode cX8_round 39 = .ok (.aload_n 0, 1) := dk_42_ (show cX8_round.data.toList[39]? = some 0x2a from (LBX8_roundr_2 7).trans (by decide +kernel))
theorem dX8_round_40 : decode cX8_round 40 = .ok (.ldc 79, 2) := dk_18_ (show cX8_round.data.toList[40]? = some 0x12 from (LBX8_roundr_2 8).trans (by decide +kernel)) (show cX8_round.data.toList[41]? = some 0x4f from (LBX8_roundr_2 9).trans (by decide +kernel)) (by decide)
theorem dX8_round_42 : decode cX8_round 42 = .ok (.invokevirtual 80, 3) := dk_182_ (show cX8_round.data.toList[42]? = some 0xb6 from (LBX8_roundr_2 10).trans (by decide +kernel)) (show cX8_round.data.toList[43]? = some 0x00 from (LBX8_roundr_2 11).trans (by decide +kernel)) (show cX8_round.data.toList[44]? = some 0x50 from (LBX8_roundr_2 12).trans (by decide +kernel)) (by decide)
theorem dX8_round_45 : decode cX8_round 45 = .ok (.ireturn, 1) := dk_172_ (show cX8_round.data.toList[45]? = some 0xac from (LBX8_roundr_2 13).trans (by decide +kernel))
theorem dX8_round_46 : decode cX8_round 46 = .ok (.aload_n 0, 1) := dk_42_ (show cX8_round.data.toList[46]? = some 0x2a from (LBX8_roundr_2 14).trans (by decide +kernel))
theorem dX8_round_47 : decode cX8_round 47 = .ok (.getfield 12, 3) := dk_180_ (show cX8_round.data.toList[47]? = some 0xb4 from (LBX8_roundr_2 15).trans (by decide +kernel)) (show cX8_round.data.toList[48]? = some 0x00 from (LBX8_roundr_3 0).trans (by decide +kernel)) (show cX8_round.data.toList[49]? = some 0x0c from (LBX8_roundr_3 1).trans (by decide +kernel)) (by decide)
theorem dX8_round_50 : decode cX8_round 50 = .ok (.iload_n 1, 1) := dk_27_ (show cX8_round.data.toList[50]? = some 0x1b from (LBX8_roundr_3 2).trans (by decide +kernel))
theorem dX8_round_51 : decode cX8_round 51 = .ok (.iload_n 2, 1) := dk_28_ (show cX8_round.data.toList[51]? = some 0x1c from (LBX8_roundr_3 3).trans (by decide +kernel))
theorem dX8_round_52 : decode cX8_round 52 = .ok (.invokevirtual 168, 3) := dk_182_ (show cX8_round.data.toList[52]? = some 0xb6 from (LBX8_roundr_3 4).trans (by decide +kernel)) (show cX8_round.data.toList[53]? = some 0x00 from (LBX8_roundr_3 5).trans (by decide +kernel)) (show cX8_round.data.toList[54]? = some 0xa8 from (LBX8_roundr_3 6).trans (by decide +kernel)) (by decide)
theorem dX8_round_55 : decode cX8_round 55 = .ok (.ireturn, 1) := dk_172_ (show cX8_round.data.toList[55]? = some 0xac from (LBX8_roundr_3 7).trans (by decide +kernel))
def LRX8_over_5 : List UInt8 := []
def LBX8_over_4 : List UInt8 := [0x00, 0xb1, 0xac]
def LRX8_over_4 : List UInt8 := LBX8_over_4 ++ LRX8_over_5
def LBX8_over_3 : List UInt8 := [0x12, 0x4f, 0xb6, 0x00, 0x50, 0xac, 0x2a, 0xb4, 0x00, 0x0c, 0xb4, 0x00, 0x9f, 0x1b, 0x1c, 0xb6]
def LRX8_over_3 : List UInt8 := LBX8_over_3 ++ LRX8_over_4
def LBX8_over_2 : List UInt8 := [0xac, 0x2a, 0xb4, 0x00, 0x0c, 0xb4, 0x00, 0x9f, 0x1b, 0xb6, 0x00, 0xae, 0x99, 0x00, 0x0a, 0x2a]
def LRX8_over_2 : List UInt8 := LBX8_over_2 ++ LRX8_over_3
def LBX8_over_1 : List UInt8 := [0x00, 0x0c, 0x1c, 0x85, 0xb6, 0x00, 0x57, 0x9a, 0x00, 0x0a, 0x2a, 0x12, 0x5f, 0xb6, 0x00, 0x50]
def LRX8_over_1 : List UInt8 := LBX8_over_1 ++ LRX8_over_2
def LBX8_over_0 : List UInt8 := [0x2a, 0xb4, 0x00, 0x0c, 0xb4, 0x00, 0x9f, 0x1b, 0xb6, 0x00, 0xab, 0x99, 0x00, 0x0f, 0x2a, 0xb4]
def LRX8_over_0 : List UInt8 := LBX8_over_0 ++ LRX8_over_1
set_option maxRecDepth 100000 in
theorem LBX8_over_eq : cX8_over.data.toList = LRX8_over_0 := by decide +kernel
theorem LBX8_overr_0 (k : Nat) : cX8_over.data.toList[0 + k]? = LRX8_over_0[k]? := by rw [LBX8_over_eq, Nat.zero_add]
theorem LBX8_overr_1 (k : Nat) : cX8_over.data.toList[16 + k]? = LRX8_over_1[k]? := by
  have h := LBX8_overr_0 (16 + k)
  rw [show 0 + (16 + k) = 16 + k by omega] at h
  rw [h]
  exact (List.getElem?_append_right (l₁ := LBX8_over_0) (l₂ := LRX8_over_1) (show 16 ≤ 16 + k by omega)).trans (congrArg (fun i => LRX8_over_1[i]?) (show 16 + k - 16 = k by omega))
theorem LBX8_overr_2 (k : Nat) : cX8_over.data.toList[32 + k]? = LRX8_over_2[k]? := by
  have h := LBX8_overr_1 (16 + k)
  rw [show 16 + (16 + k) = 32 + k by omega] at h
  rw [h]
  exact (List.getElem?_append_right (l₁ := LBX8_over_1) (l₂ := LRX8_over_2) (show 16 ≤ 16 + k by omega)).trans (congrArg (fun i => LRX8_over_2[i]?) (show 16 + k - 16 = k by omega))
theorem LBX8_overr_3 (k : Nat) : cX8_over.data.toList[48 + k]? = LRX8_over_3[k]? := by
  have h := LBX8_overr_2 (16 + k)
  rw [show 32 + (16 + k) = 48 + k by omega] at h
  rw [h]
  exact (List.getElem?_append_right (l₁ := LBX8_over_2) (l₂ := LRX8_over_3) (show 16 ≤ 16 + k by omega)).trans (congrArg (fun i => LRX8_over_3[i]?) (show 16 + k - 16 = k by omega))
theorem LBX8_overr_4 (k : Nat) : cX8_over.data.toList[64 + k]? = LRX8_over_4[k]? := by
  have h := LBX8_overr_3 (16 + k)
  rw [show 48 + (16 + k) = 64 + k by omega] at h
  rw [h]
  exact (List.getElem?_append_right (l₁ := LBX8_over_3) (l₂ := LRX8_over_4) (show 16 ≤ 16 + k by omega)).trans (congrArg (fun i => LRX8_over_4[i]?) (show 16 + k - 16 = k by omega))
theorem dX8_over_0 : decode cX8_over 0 = .ok (.aload_n 0, 1) := dk_42_ (show cX8_over.data.toList[0]? = some 0x2a from (LBX8_overr_0 0).trans (by decide +kernel))
theorem dX8_over_1 : decode cX8_over 1 = .ok (.getfield 12, 3) := dk_180_ (show cX8_over.data.toList[1]? = some 0xb4 from (LBX8_overr_0 1).trans (by decide +kernel)) (show cX8_over.data.toList[2]? = some 0x00 from (LBX8_overr_0 2).trans (by decide +kernel)) (show cX8_over.data.toList[3]? = some 0x0c from (LBX8_overr_0 3).trans (by decide +kernel)) (by decide)
theorem dX8_over_4 : decode cX8_over 4 = .ok (.getfield 159, 3) := dk_180_ (show cX8_over.data.toList[4]? = some 0xb4 from (LBX8_overr_0 4).trans (by decide +kernel)) (show cX8_over.data.toList[5]? = some 0x00 from (LBX8_overr_0 5).trans (by decide +kernel)) (show cX8_over.data.toList[6]? = some 0x9f from (LBX8_overr_0 6).trans (by decide +kernel)) (by decide)
theorem dX8_over_7 : decode cX8_over 7 = .ok (.iload_n 1, 1) := dk_27_ (show cX8_over.data.toList[7]? = some 0x1b from (LBX8_overr_0 7).trans (by decide +kernel))
theorem dX8_over_8 : decode cX8_over 8 = .ok (.invokevirtual 171, 3) := dk_182_ (show cX8_over.data.toList[8]? = some 0xb6 from (LBX8_overr_0 8).trans (by decide +kernel)) (show cX8_over.data.toList[9]? = some 0x00 from (LBX8_overr_0 9).trans (by decide +kernel)) (show cX8_over.data.toList[10]? = some 0xab from (LBX8_overr_0 10).trans (by decide +kernel)) (by decide)
theorem dX8_over_11 : decode cX8_over 11 = .ok (.ifCond .eq 15, 3) := dk_153_ (show cX8_over.data.toList[11]? = some 0x99 from (LBX8_overr_0 11).trans (by decide +kernel)) (show cX8_over.data.toList[12]? = some 0x00 from (LBX8_overr_0 12).trans (by decide +kernel)) (show cX8_over.data.toList[13]? = some 0x0f from (LBX8_overr_0 13).trans (by decide +kernel)) (by decide)
theorem dX8_over_14 : decode cX8_over 14 = .ok (.aload_n 0, 1) := dk_42_ (show cX8_over.data.toList[14]? = some 0x2a from (LBX8_overr_0 14).trans (by decide +kernel))
theorem dX8_over_15 : decode cX8_over 15 = .ok (.getfield 12, 3) := dk_180_ (show cX8_over.data.toList[15]? = some 0xb4 from (LBX8_overr_0 15).trans (by decide +kernel)) (show cX8_over.data.toList[16]? = some 0x00 from (LBX8_overr_1 0).trans (by decide +kernel)) (show cX8_over.data.toList[17]? = some 0x0c from (LBX8_overr_1 1).trans (by decide +kernel)) (by decide)
theorem dX8_over_18 : decode cX8_over 18 = .ok (.iload_n 2, 1) := dk_28_ (show cX8_over.data.toList[18]? = some 0x1c from (LBX8_overr_1 2).trans (by decide +kernel))
theorem dX8_over_19 : decode cX8_over 19 = .ok (.i2l, 1) := dk_133_ (show cX8_over.data.toList[19]? = some 0x85 from (LBX8_overr_1 3).trans (by decide +kernel))
theorem dX8_over_20 : decode cX8_over 20 = .ok (.invokevirtual 87, 3) := dk_182_ (show cX8_over.data.toList[20]? = some 0xb6 from (LBX8_overr_1 4).trans (by decide +kernel)) (show cX8_over.data.toList[21]? = some 0x00 from (LBX8_overr_1 5).trans (by decide +kernel)) (show cX8_over.data.toList[22]? = some 0x57 from (LBX8_overr_1 6).trans (by decide +kernel)) (by decide)
theorem dX8_over_23 : decode cX8_over 23 = .ok (.ifCond .ne 10, 3) := dk_154_ (show cX8_over.data.toList[23]? = some 0x9a from (LBX8_overr_1 7).trans (by decide +kernel)) (show cX8_over.data.toList[24]? = some 0x00 from (LBX8_overr_1 8).trans (by decide +kernel)) (show cX8_over.data.toList[25]? = some 0x0a from (LBX8_overr_1 9).trans (by decide +kernel)) (by decide)
theorem dX8_over_26 : decode cX8_over 26 = .ok (.aload_n 0, 1) := dk_42_ (show cX8_over.data.toList[26]? = some 0x2a from (LBX8_overr_1 10).trans (by decide +kernel))
theorem dX8_over_27 : decode cX8_over 27 = .ok (.ldc 95, 2) := dk_18_ (show cX8_over.data.toList[27]? = some 0x12 from (LBX8_overr_1 11).trans (by decide +kernel)) (show cX8_over.data.toList[28]? = some 0x5f from (LBX8_overr_1 12).trans (by decide +kernel)) (by decide)
theorem dX8_over_29 : decode cX8_over 29 = .ok (.invokevirtual 80, 3) := dk_182_ (show cX8_over.data.toList[29]? = some 0xb6 from (LBX8_overr_1 13).trans (by decide +kernel)) (show cX8_over.data.toList[30]? = some 0x00 from (LBX8_overr_1 14).trans (by decide +kernel)) (show cX8_over.data.toList[31]? = some 0x50 from (LBX8_overr_1 15).trans (by decide +kernel)) (by decide)
theorem dX8_over_32 : decode cX8_over 32 = .ok (.ireturn, 1) := dk_172_ (show cX8_over.data.toList[32]? = some 0xac from (LBX8_overr_2 0).trans (by decide +kernel))
theorem dX8_over_33 : decode cX8_over 33 = .ok (.aload_n 0, 1) := dk_42_ (show cX8_over.data.toList[33]? = some 0x2a from (LBX8_overr_2 1).trans (by decide +kernel))
theorem dX8_over_34 : decode cX8_over 34 = .ok (.getfield 12, 3) := dk_180_ (show cX8_over.data.toList[34]? = some 0xb4 from (LBX8_overr_2 2).trans (by decide +kernel)) (show cX8_over.data.toList[35]? = some 0x00 from (LBX8_overr_2 3).trans (by decide +kernel)) (show cX8_over.data.toList[36]? = some 0x0c from (LBX8_overr_2 4).trans (by decide +kernel)) (by decide)
theorem dX8_over_37 : decode cX8_over 37 = .ok (.getfield 159, 3) := dk_180_ (show cX8_over.data.toList[37]? = some 0xb4 from (LBX8_overr_2 5).trans (by decide +kernel)) (show cX8_over.data.toList[38]? = some 0x00 from (LBX8_overr_2 6).trans (by decide +kernel)) (show cX8_over.data.toList[39]? = some 0x9f from (LBX8_overr_2 7).trans (by decide +kernel)) (by decide)
theorem dX8_over_40 : decode cX8_over 40 = .ok (.iload_n 1, 1) := dk_27_ (show cX8_over.data.toList[40]? = some 0x1b from (LBX8_overr_2 8).trans (by decide +kernel))
theorem dX8_over_41 : decode cX8_over 41 = .ok (.invokevirtual 174, 3) := dk_182_ (show cX8_over.data.toList[41]? = some 0xb6 from (LBX8_overr_2 9).trans (by decide +kernel)) (show cX8_over.data.toList[42]? = some 0x00 from (LBX8_overr_2 10).trans (by decide +kernel)) (show cX8_over.data.toList[43]? = some 0xae from (LBX8_overr_2 11).trans (by decide +kernel)) (by decide)
theorem dX8_over_44 : decode cX8_over 44 = .ok (.ifCond .eq 10, 3) := dk_153_ (show cX8_over.data.toList[44]? = some 0x99 from (LBX8_overr_2 12).trans (by decide +kernel)) (show cX8_over.data.toList[45]? = some 0x00 from (LBX8_overr_2 13).trans (by decide +kernel)) (show cX8_over.data.toList[46]? = some 0x0a from (LBX8_overr_2 14).trans (by decide +kernel)) (by decide)
theorem dX8_over_47 : decode cX8_over 47 = .ok (.aload_n 0, 1) := dk_42_ (show cX8_over.data.toList[47]? = some 0x2a from (LBX8_overr_2 15).trans (by decide +kernel))
theorem dX8_over_48 : decode cX8_over 48 = .ok (.ldc 79, 2) := dk_18_ (show cX8_over.data.toList[48]? = some 0x12 from (LBX8_overr_3 0).trans (by decide +kernel)) (show cX8_over.data.toList[49]? = some 0x4f from (LBX8_overr_3 1).trans (by decide +kernel)) (by decide)
theorem dX8_over_50 : decode cX8_over 50 = .ok (.invokevirtual 80, 3) := dk_182_ (show cX8_over.data.toList[50]? = some 0xb6 from (LBX8_overr_3 2).trans (by decide +kernel)) (show cX8_over.data.toList[51]? = some 0x00 from (LBX8_overr_3 3).trans (by decide +kernel)) (show cX8_over.data.toList[52]? = some 0x50 from (LBX8_overr_3 4).trans (by decide +kernel)) (by decide)
theorem dX8_over_53 : decode cX8_over 53 = .ok (.ireturn, 1) := dk_172_ (show cX8_over.data.toList[53]? = some 0xac from (LBX8_overr_3 5).trans (by decide +kernel))
theorem dX8_over_54 : decode cX8_over 54 = .ok (.aload_n 0, 1) := dk_42_ (show cX8_over.data.toList[54]? = some 0x2a from (LBX8_overr_3 6).trans (by decide +kernel))
theorem dX8_over_55 : decode cX8_over 55 = .ok (.getfield 12, 3) := dk_180_ (show cX8_over.data.toList[55]? = some 0xb4 from (LBX8_overr_3 7).trans (by decide +kernel)) (show cX8_over.data.toList[56]? = some 0x00 from (LBX8_overr_3 8).trans (by decide +kernel)) (show cX8_over.data.toList[57]? = some 0x0c from (LBX8_overr_3 9).trans (by decide +kernel)) (by decide)
theorem dX8_over_58 : decode cX8_over 58 = .ok (.getfield 159, 3) := dk_180_ (show cX8_over.data.toList[58]? = some 0xb4 from (LBX8_overr_3 10).trans (by decide +kernel)) (show cX8_over.data.toList[59]? = some 0x00 from (LBX8_overr_3 11).trans (by decide +kernel)) (show cX8_over.data.toList[60]? = some 0x9f from (LBX8_overr_3 12).trans (by decide +kernel)) (by decide)
theorem dX8_over_61 : decode cX8_over 61 = .ok (.iload_n 1, 1) := dk_27_ (show cX8_over.data.toList[61]? = some 0x1b from (LBX8_overr_3 13).trans (by decide +kernel))
theorem dX8_over_62 : decode cX8_over 62 = .ok (.iload_n 2, 1) := dk_28_ (show cX8_over.data.toList[62]? = some 0x1c from (LBX8_overr_3 14).trans (by decide +kernel))
theorem dX8_over_63 : decode cX8_over 63 = .ok (.invokevirtual 177, 3) := dk_182_ (show cX8_over.data.toList[63]? = some 0xb6 from (LBX8_overr_3 15).trans (by decide +kernel)) (show cX8_over.data.toList[64]? = some 0x00 from (LBX8_overr_4 0).trans (by decide +kernel)) (show cX8_over.data.toList[65]? = some 0xb1 from (LBX8_overr_4 1).trans (by decide +kernel)) (by decide)
theorem dX8_over_66 : decode cX8_over 66 = .ok (.ireturn, 1) := dk_172_ (show cX8_over.data.toList[66]? = some 0xac from (LBX8_overr_4 2).trans (by decide +kernel))
def LRX8_sum_4 : List UInt8 := []
def LBX8_sum_3 : List UInt8 := [0x1b, 0xb6, 0x00, 0xb4, 0xb6, 0x00, 0x88, 0xac]
def LRX8_sum_3 : List UInt8 := LBX8_sum_3 ++ LRX8_sum_4
def LBX8_sum_2 : List UInt8 := [0x00, 0x50, 0xac, 0x2a, 0x2a, 0xb4, 0x00, 0x27, 0x2a, 0xb4, 0x00, 0x0c, 0x2a, 0xb4, 0x00, 0x1d]
def LRX8_sum_2 : List UInt8 := LBX8_sum_2 ++ LRX8_sum_3
def LBX8_sum_1 : List UInt8 := [0x5f, 0xb6, 0x00, 0x50, 0xac, 0x2a, 0xb6, 0x00, 0x80, 0x99, 0x00, 0x0a, 0x2a, 0x12, 0x84, 0xb6]
def LRX8_sum_1 : List UInt8 := LBX8_sum_1 ++ LRX8_sum_2
def LBX8_sum_0 : List UInt8 := [0x2a, 0xb4, 0x00, 0x0c, 0xb4, 0x00, 0x9f, 0x1b, 0xb6, 0x00, 0xab, 0x9a, 0x00, 0x0a, 0x2a, 0x12]
def LRX8_sum_0 : List UInt8 := LBX8_sum_0 ++ LRX8_sum_1
set_option maxRecDepth 100000 in
theorem LBX8_sum_eq : cX8_sum.data.toList = LRX8_sum_0 := by decide +kernel
theorem LBX8_sumr_0 (k : Nat) : cX8_sum.data.toList[0 + k]? = LRX8_sum_0[k]? := by rw [LBX8_sum_eq, Nat.zero_add]
theorem LBX8_sumr_1 (k : Nat) : cX8_sum.data.toList[16 + k]? = LRX8_sum_1[k]? := by
  have h := LBX8_sumr_0 (16 + k)
  rw [show 0 + (16 + k) = 16 + k by omega] at h
  rw [h]
  exact (List.getElem?_append_right (l₁ := LBX8_sum_0) (l₂ := LRX8_sum_1) (show 16 ≤ 16 + k by omega)).trans (congrArg (fun i => LRX8_sum_1[i]?) (show 16 + k - 16 = k by omega))
theorem LBX8_sumr_2 (k : Nat) : cX8_sum.data.toList[32 + k]? = LRX8_sum_2[k]? := by
  have h := LBX8_sumr_1 (16 + k)
  rw [show 16 + (16 + k) = 32 + k by omega] at h
  rw [h]
  exact (List.getElem?_append_right (l₁ := LBX8_sum_1) (l₂ := LRX8_sum_2) (show 16 ≤ 16 + k by omega)).trans (congrArg (fun i => LRX8_sum_2[i]?) (show 16 + k - 16 = k by omega))
theorem LBX8_sumr_3 (k : Nat) : cX8_sum.data.toList[48 + k]? = LRX8_sum_3[k]? := by
  have h := LBX8_sumr_2 (16 + k)
  rw [show 32 + (16 + k) = 48 + k by omega] at h
  rw [h]
  exact (List.getElem?_append_right (l₁ := LBX8_sum_2) (l₂ := LRX8_sum_3) (show 16 ≤ 16 + k by omega)).trans (congrArg (fun i => LRX8_sum_3[i]?) (show 16 + k - 16 = k by omega))
theorem dX8_sum_0 : decode cX8_sum 0 = .ok (.aload_n 0, 1) := dk_42_ (show cX8_sum.data.toList[0]? = some 0x2a from (LBX8_sumr_0 0).trans (by decide +kernel))
theorem dX8_sum_1 : decode cX8_sum 1 = .ok (.getfield 12, 3) := dk_180_ (show cX8_sum.data.toList[1]? = some 0xb4 from (LBX8_sumr_0 1).trans (by decide +kernel)) (show cX8_sum.data.toList[2]? = some 0x00 from (LBX8_sumr_0 2).trans (by decide +kernel)) (show cX8_sum.data.toList[3]? = some 0x0c from (LBX8_sumr_0 3).trans (by decide +kernel)) (by decide)
theorem dX8_sum_4 : decode cX8_sum 4 = .ok (.getfield 159, 3) := dk_180_ (show cX8_sum.data.toList[4]? = some 0xb4 from (LBX8_sumr_0 4).trans (by decide +kernel)) (show cX8_sum.data.toList[5]? = some 0x00 from (LBX8_sumr_0 5).trans (by decide +kernel)) (show cX8_sum.data.toList[6]? = some 0x9f from (LBX8_sumr_0 6).trans (by decide +kernel)) (by decide)
theorem dX8_sum_7 : decode cX8_sum 7 = .ok (.iload_n 1, 1) := dk_27_ (show cX8_sum.data.toList[7]? = some 0x1b from (LBX8_sumr_0 7).trans (by decide +kernel))
theorem dX8_sum_8 : decode cX8_sum 8 = .ok (.invokevirtual 171, 3) := dk_182_ (show cX8_sum.data.toList[8]? = some 0xb6 from (LBX8_sumr_0 8).trans (by decide +kernel)) (show cX8_sum.data.toList[9]? = some 0x00 from (LBX8_sumr_0 9).trans (by decide +kernel)) (show cX8_sum.data.toList[10]? = some 0xab from (LBX8_sumr_0 10).trans (by decide +kernel)) (by decide)
theorem dX8_sum_11 : decode cX8_sum 11 = .ok (.ifCond .ne 10, 3) := dk_154_ (show cX8_sum.data.toList[11]? = some 0x9a from (LBX8_sumr_0 11).trans (by decide +kernel)) (show cX8_sum.data.toList[12]? = some 0x00 from (LBX8_sumr_0 12).trans (by decide +kernel)) (show cX8_sum.data.toList[13]? = some 0x0a from (LBX8_sumr_0 13).trans (by decide +kernel)) (by decide)
theorem dX8_sum_14 : decode cX8_sum 14 = .ok (.aload_n 0, 1) := dk_42_ (show cX8_sum.data.toList[14]? = some 0x2a from (LBX8_sumr_0 14).trans (by decide +kernel))
theorem dX8_sum_15 : decode cX8_sum 15 = .ok (.ldc 95, 2) := dk_18_ (show cX8_sum.data.toList[15]? = some 0x12 from (LBX8_sumr_0 15).trans (by decide +kernel)) (show cX8_sum.data.toList[16]? = some 0x5f from (LBX8_sumr_1 0).trans (by decide +kernel)) (by decide)
theorem dX8_sum_17 : decode cX8_sum 17 = .ok (.invokevirtual 80, 3) := dk_182_ (show cX8_sum.data.toList[17]? = some 0xb6 from (LBX8_sumr_1 1).trans (by decide +kernel)) (show cX8_sum.data.toList[18]? = some 0x00 from (LBX8_sumr_1 2).trans (by decide +kernel)) (show cX8_sum.data.toList[19]? = some 0x50 from (LBX8_sumr_1 3).trans (by decide +kernel)) (by decide)
theorem dX8_sum_20 : decode cX8_sum 20 = .ok (.ireturn, 1) := dk_172_ (show cX8_sum.data.toList[20]? = some 0xac from (LBX8_sumr_1 4).trans (by decide +kernel))
theorem dX8_sum_21 : decode cX8_sum 21 = .ok (.aload_n 0, 1) := dk_42_ (show cX8_sum.data.toList[21]? = some 0x2a from (LBX8_sumr_1 5).trans (by decide +kernel))
theorem dX8_sum_22 : decode cX8_sum 22 = .ok (.invokevirtual 128, 3) := dk_182_ (show cX8_sum.data.toList[22]? = some 0xb6 from (LBX8_sumr_1 6).trans (by decide +kernel)) (show cX8_sum.data.toList[23]? = some 0x00 from (LBX8_sumr_1 7).trans (by decide +kernel)) (show cX8_sum.data.toList[24]? = some 0x80 from (LBX8_sumr_1 8).trans (by decide +kernel)) (by decide)
theorem dX8_sum_25 : decode cX8_sum 25 = .ok (.ifCond .eq 10, 3) := dk_153_ (show cX8_sum.data.toList[25]? = some 0x99 from (LBX8_sumr_1 9).trans (by decide +kernel)) (show cX8_sum.data.toList[26]? = some 0x00 from (LBX8_sumr_1 10).trans (by decide +kernel)) (show cX8_sum.data.toList[27]? = some 0x0a from (LBX8_sumr_1 11).trans (by decide +kernel)) (by decide)
theorem dX8_sum_28 : decode cX8_sum 28 = .ok (.aload_n 0, 1) := dk_42_ (show cX8_sum.data.toList[28]? = some 0x2a from (LBX8_sumr_1 12).trans (by decide +kernel))
theorem dX8_sum_29 : decode cX8_sum 29 = .ok (.ldc 132, 2) := dk_18_ (show cX8_sum.data.toList[29]? = some 0x12 from (LBX8_sumr_1 13).trans (by decide +kernel)) (show cX8_sum.data.toList[30]? = some 0x84 from (LBX8_sumr_1 14).trans (by decide +kernel)) (by decide)
theorem dX8_sum_31 : decode cX8_sum 31 = .ok (.invokevirtual 80, 3) := dk_182_ (show cX8_sum.data.toList[31]? = some 0xb6 from (LBX8_sumr_1 15).trans (by decide +kernel)) (show cX8_sum.data.toList[32]? = some 0x00 from (LBX8_sumr_2 0).trans (by decide +kernel)) (show cX8_sum.data.toList[33]? = some 0x50 from (LBX8_sumr_2 1).trans (by decide +kernel)) (by decide)
theorem dX8_sum_34 : decode cX8_sum 34 = .ok (.ireturn, 1) := dk_172_ (show cX8_sum.data.toList[34]? = some 0xac from (LBX8_sumr_2 2).trans (by decide +kernel))
theorem dX8_sum_35 : decode cX8_sum 35 = .ok (.aload_n 0, 1) := dk_42_ (show cX8_sum.data.toList[35]? = some 0x2a from (LBX8_sumr_2 3).trans (by decide +kernel))
theorem dX8_sum_36 : decode cX8_sum 36 = .ok (.aload_n 0, 1) := dk_42_ (show cX8_sum.data.toList[36]? = some 0x2a from (LBX8_sumr_2 4).trans (by decide +kernel))
theorem dX8_sum_37 : decode cX8_sum 37 = .ok (.getfield 39, 3) := dk_180_ (show cX8_sum.data.toList[37]? = some 0xb4 from (LBX8_sumr_2 5).trans (by decide +kernel)) (show cX8_sum.data.toList[38]? = some 0x00 from (LBX8_sumr_2 6).trans (by decide +kernel)) (show cX8_sum.data.toList[39]? = some 0x27 from (LBX8_sumr_2 7).trans (by decide +kernel)) (by decide)
theorem dX8_sum_40 : decode cX8_sum 40 = .ok (.aload_n 0, 1) := dk_42_ (show cX8_sum.data.toList[40]? = some 0x2a from (LBX8_sumr_2 8).trans (by decide +kernel))
theorem dX8_sum_41 : decode cX8_sum 41 = .ok (.getfield 12, 3) := dk_180_ (show cX8_sum.data.toList[41]? = some 0xb4 from (LBX8_sumr_2 9).trans (by decide +kernel)) (show cX8_sum.data.toList[42]? = some 0x00 from (LBX8_sumr_2 10).trans (by decide +kernel)) (show cX8_sum.data.toList[43]? = some 0x0c from (LBX8_sumr_2 11).trans (by decide +kernel)) (by decide)
theorem dX8_sum_44 : decode cX8_sum 44 = .ok (.aload_n 0, 1) := dk_42_ (show cX8_sum.data.toList[44]? = some 0x2a from (LBX8_sumr_2 12).trans (by decide +kernel))
theorem dX8_sum_45 : decode cX8_sum 45 = .ok (.getfield 29, 3) := dk_180_ (show cX8_sum.data.toList[45]? = some 0xb4 from (LBX8_sumr_2 13).trans (by decide +kernel)) (show cX8_sum.data.toList[46]? = some 0x00 from (LBX8_sumr_2 14).trans (by decide +kernel)) (show cX8_sum.data.toList[47]? = some 0x1d from (LBX8_sumr_2 15).trans (by decide +kernel)) (by decide)
theorem dX8_sum_48 : decode cX8_sum 48 = .ok (.iload_n 1, 1) := dk_27_ (show cX8_sum.data.toList[48]? = some 0x1b from (LBX8_sumr_3 0).trans (by decide +kernel))
theorem dX8_sum_49 : decode cX8_sum 49 = .ok (.invokevirtual 180, 3) := dk_182_ (show cX8_sum.data.toList[49]? = some 0xb6 from (LBX8_sumr_3 1).trans (by decide +kernel)) (show cX8_sum.data.toList[50]? = some 0x00 from (LBX8_sumr_3 2).trans (by decide +kernel)) (show cX8_sum.data.toList[51]? = some 0xb4 from (LBX8_sumr_3 3).trans (by decide +kernel)) (by decide)
theorem dX8_sum_52 : decode cX8_sum 52 = .ok (.invokevirtual 136, 3) := dk_182_ (show cX8_sum.data.toList[52]? = some 0xb6 from (LBX8_sumr_3 4).trans (by decide +kernel)) (show cX8_sum.data.toList[53]? = some 0x00 from (LBX8_sumr_3 5).trans (by decide +kernel)) (show cX8_sum.data.toList[54]? = some 0x88 from (LBX8_sumr_3 6).trans (by decide +kernel)) (by decide)
theorem dX8_sum_55 : decode cX8_sum 55 = .ok (.ireturn, 1) := dk_172_ (show cX8_sum.data.toList[55]? = some 0xac from (LBX8_sumr_3 7).trans (by decide +kernel))
def LRX8_roundOf_6 : List UInt8 := []
def LBX8_roundOf_5 : List UInt8 := [0x1c, 0xb6, 0x00, 0xbe, 0xa7, 0x00, 0x09, 0x2a, 0x12, 0x71, 0xb6, 0x00, 0x50, 0xac]
def LRX8_roundOf_5 : List UInt8 := LBX8_roundOf_5 ++ LRX8_roundOf_6
def LBX8_roundOf_4 : List UInt8 := [0x05, 0x1d, 0xac, 0x1c, 0x1d, 0xa2, 0x00, 0x12, 0x2a, 0xb4, 0x00, 0x0c, 0xb4, 0x00, 0x9f, 0x1b]
def LRX8_roundOf_4 : List UInt8 := LBX8_roundOf_4 ++ LRX8_roundOf_5
def LBX8_roundOf_3 : List UInt8 := [0x00, 0x0c, 0xb4, 0x00, 0x9f, 0xb4, 0x00, 0xbb, 0x1b, 0x2e, 0x3e, 0x1c, 0x10, 0xfe, 0xa0, 0x00]
def LRX8_roundOf_3 : List UInt8 := LBX8_roundOf_3 ++ LRX8_roundOf_4
def LBX8_roundOf_2 : List UInt8 := [0x02, 0xa0, 0x00, 0x0d, 0x2a, 0xb4, 0x00, 0x0c, 0xb4, 0x00, 0xb8, 0x1b, 0x2e, 0xac, 0x2a, 0xb4]
def LRX8_roundOf_2 : List UInt8 := LBX8_roundOf_2 ++ LRX8_roundOf_3
def LBX8_roundOf_1 : List UInt8 := [0xfe, 0x08, 0xb8, 0x00, 0x5b, 0x9a, 0x00, 0x0a, 0x2a, 0x12, 0x5f, 0xb6, 0x00, 0x50, 0xac, 0x1c]
def LRX8_roundOf_1 : List UInt8 := LBX8_roundOf_1 ++ LRX8_roundOf_2
def LBX8_roundOf_0 : List UInt8 := [0x2a, 0xb4, 0x00, 0x0c, 0xb4, 0x00, 0x9f, 0x1b, 0xb6, 0x00, 0xab, 0x99, 0x00, 0x0d, 0x1c, 0x10]
def LRX8_roundOf_0 : List UInt8 := LBX8_roundOf_0 ++ LRX8_roundOf_1
set_option maxRecDepth 100000 in
theorem LBX8_roundOf_eq : cX8_roundOf.data.toList = LRX8_roundOf_0 := by decide +kernel
theorem LBX8_roundOfr_0 (k : Nat) : cX8_roundOf.data.toList[0 + k]? = LRX8_roundOf_0[k]? := by rw [LBX8_roundOf_eq, Nat.zero_add]
theorem LBX8_roundOfr_1 (k : Nat) : cX8_roundOf.data.toList[16 + k]? = LRX8_roundOf_1[k]? := by
  have h := LBX8_roundOfr_0 (16 + k)
  rw [show 0 + (16 + k) = 16 + k by omega] at h
  rw [h]
  exact (List.getElem?_append_right (l₁ := LBX8_roundOf_0) (l₂ := LRX8_roundOf_1) (show 16 ≤ 16 + k by omega)).trans (congrArg (fun i => LRX8_roundOf_1[i]?) (show 16 + k - 16 = k by omega))
theorem LBX8_roundOfr_2 (k : Nat) : cX8_roundOf.data.toList[32 + k]? = LRX8_roundOf_2[k]? := by
  have h := LBX8_roundOfr_1 (16 + k)
  rw [show 16 + (16 + k) = 32 + k by omega] at h
  rw [h]
  exact (List.getElem?_append_right (l₁ := LBX8_roundOf_1) (l₂ := LRX8_roundOf_2) (show 16 ≤ 16 + k by omega)).trans (congrArg (fun i => LRX8_roundOf_2[i]?) (show 16 + k - 16 = k by omega))
theorem LBX8_roundOfr_3 (k : Nat) : cX8_roundOf.data.toList[48 + k]? = LRX8_roundOf_3[k]? := by
  have h := LBX8_roundOfr_2 (16 + k)
  rw [show 32 + (16 + k) = 48 + k by omega] at h
  rw [h]
  exact (List.getElem?_append_right (l₁ := LBX8_roundOf_2) (l₂ := LRX8_roundOf_3) (show 16 ≤ 16 + k by omega)).trans (congrArg (fun i => LRX8_roundOf_3[i]?) (show 16 + k - 16 = k by omega))
theorem LBX8_roundOfr_4 (k : Nat) : cX8_roundOf.data.toList[64 + k]? = LRX8_roundOf_4[k]? := by
  have h := LBX8_roundOfr_3 (16 + k)
  rw [show 48 + (16 + k) = 64 + k by omega] at h
  rw [h]
  exact (List.getElem?_append_right (l₁ := LBX8_roundOf_3) (l₂ := LRX8_roundOf_4) (show 16 ≤ 16 + k by omega)).trans (congrArg (fun i => LRX8_roundOf_4[i]?) (show 16 + k - 16 = k by omega))
theorem LBX8_roundOfr_5 (k : Nat) : cX8_roundOf.data.toList[80 + k]? = LRX8_roundOf_5[k]? := by
  have h := LBX8_roundOfr_4 (16 + k)
  rw [show 64 + (16 + k) = 80 + k by omega] at h
  rw [h]
  exact (List.getElem?_append_right (l₁ := LBX8_roundOf_4) (l₂ := LRX8_roundOf_5) (show 16 ≤ 16 + k by omega)).trans (congrArg (fun i => LRX8_roundOf_5[i]?) (show 16 + k - 16 = k by omega))
theorem dX8_roundOf_0 : decode cX8_roundOf 0 = .ok (.aload_n 0, 1) := dk_42_ (show cX8_roundOf.data.toList[0]? = some 0x2a from (LBX8_roundOfr_0 0).trans (by decide +kernel))
theorem dX8_roundOf_1 : decode cX8_roundOf 1 = .ok (.getfield 12, 3) := dk_180_ (show cX8_roundOf.data.toList[1]? = some 0xb4 from (LBX8_roundOfr_0 1).trans (by decide +kernel)) (show cX8_roundOf.data.toList[2]? = some 0x00 from (LBX8_roundOfr_0 2).trans (by decide +kernel)) (show cX8_roundOf.data.toList[3]? = some 0x0c from (LBX8_roundOfr_0 3).trans (by decide +kernel)) (by decide)
theorem dX8_roundOf_4 : decode cX8_roundOf 4 = .ok (.getfield 159, 3) := dk_180_ (show cX8_roundOf.data.toList[4]? = some 0xb4 from (LBX8_roundOfr_0 4).trans (by decide +kernel)) (show cX8_roundOf.data.toList[5]? = some 0x00 from (LBX8_roundOfr_0 5).trans (by decide +kernel)) (show cX8_roundOf.data.toList[6]? = some 0x9f from (LBX8_roundOfr_0 6).trans (by decide +kernel)) (by decide)
theorem dX8_roundOf_7 : decode cX8_roundOf 7 = .ok (.iload_n 1, 1) := dk_27_ (show cX8_roundOf.data.toList[7]? = some 0x1b from (LBX8_roundOfr_0 7).trans (by decide +kernel))
theorem dX8_roundOf_8 : decode cX8_roundOf 8 = .ok (.invokevirtual 171, 3) := dk_182_ (show cX8_roundOf.data.toList[8]? = some 0xb6 from (LBX8_roundOfr_0 8).trans (by decide +kernel)) (show cX8_roundOf.data.toList[9]? = some 0x00 from (LBX8_roundOfr_0 9).trans (by decide +kernel)) (show cX8_roundOf.data.toList[10]? = some 0xab from (LBX8_roundOfr_0 10).trans (by decide +kernel)) (by decide)
theorem dX8_roundOf_11 : decode cX8_roundOf 11 = .ok (.ifCond .eq 13, 3) := dk_153_ (show cX8_roundOf.data.toList[11]? = some 0x99 from (LBX8_roundOfr_0 11).trans (by decide +kernel)) (show cX8_roundOf.data.toList[12]? = some 0x00 from (LBX8_roundOfr_0 12).trans (by decide +kernel)) (show cX8_roundOf.data.toList[13]? = some 0x0d from (LBX8_roundOfr_0 13).trans (by decide +kernel)) (by decide)
theorem dX8_roundOf_14 : decode cX8_roundOf 14 = .ok (.iload_n 2, 1) := dk_28_ (show cX8_roundOf.data.toList[14]? = some 0x1c from (LBX8_roundOfr_0 14).trans (by decide +kernel))
theorem dX8_roundOf_15 : decode cX8_roundOf 15 = .ok (.bipush (-2), 2) := dk_16_ (show cX8_roundOf.data.toList[15]? = some 0x10 from (LBX8_roundOfr_0 15).trans (by decide +kernel)) (show cX8_roundOf.data.toList[16]? = some 0xfe from (LBX8_roundOfr_1 0).trans (by decide +kernel)) (by decide)
theorem dX8_roundOf_17 : decode cX8_roundOf 17 = .ok (.iconst 5, 1) := dk_8_ (show cX8_roundOf.data.toList[17]? = some 0x08 from (LBX8_roundOfr_1 1).trans (by decide +kernel))
theorem dX8_roundOf_18 : decode cX8_roundOf 18 = .ok (.invokestatic 91, 3) := dk_184_ (show cX8_roundOf.data.toList[18]? = some 0xb8 from (LBX8_roundOfr_1 2).trans (by decide +kernel)) (show cX8_roundOf.data.toList[19]? = some 0x00 from (LBX8_roundOfr_1 3).trans (by decide +kernel)) (show cX8_roundOf.data.toList[20]? = some 0x5b from (LBX8_roundOfr_1 4).trans (by decide +kernel)) (by decide)
theorem dX8_roundOf_21 : decode cX8_roundOf 21 = .ok (.ifCond .ne 10, 3) := dk_154_ (show cX8_roundOf.data.toList[21]? = some 0x9a from (LBX8_roundOfr_1 5).trans (by decide +kernel)) (show cX8_roundOf.data.toList[22]? = some 0x00 from (LBX8_roundOfr_1 6).trans (by decide +kernel)) (show cX8_roundOf.data.toList[23]? = some 0x0a from (LBX8_roundOfr_1 7).trans (by decide +kernel)) (by decide)
theorem dX8_roundOf_24 : decode cX8_roundOf 24 = .ok (.aload_n 0, 1) := dk_42_ (show cX8_roundOf.data.toList[24]? = some 0x2a from (LBX8_roundOfr_1 8).trans (by decide +kernel))
theorem dX8_roundOf_25 : decode cX8_roundOf 25 = .ok (.ldc 95, 2) := dk_18_ (show cX8_roundOf.data.toList[25]? = some 0x12 from (LBX8_roundOfr_1 9).trans (by decide +kernel)) (show cX8_roundOf.data.toList[26]? = some 0x5f from (LBX8_roundOfr_1 10).trans (by decide +kernel)) (by decide)
theorem dX8_roundOf_27 : decode cX8_roundOf 27 = .ok (.invokevirtual 80, 3) := dk_182_ (show cX8_roundOf.data.toList[27]? = some 0xb6 from (LBX8_roundOfr_1 11).trans (by decide +kernel)) (show cX8_roundOf.data.toList[28]? = some 0x00 from (LBX8_roundOfr_1 12).trans (by decide +kernel)) (show cX8_roundOf.data.toList[29]? = some 0x50 from (LBX8_roundOfr_1 13).trans (by decide +kernel)) (by decide)
theorem dX8_roundOf_30 : decode cX8_roundOf 30 = .ok (.ireturn, 1) := dk_172_ (show cX8_roundOf.data.toList[30]? = some 0xac from (LBX8_roundOfr_1 14).trans (by decide +kernel))
theorem dX8_roundOf_31 : decode cX8_roundOf 31 = .ok (.iload_n 2, 1) := dk_28_ (show cX8_roundOf.data.toList[31]? = some 0x1c from (LBX8_roundOfr_1 15).trans (by decide +kernel))
theorem dX8_roundOf_32 : decode cX8_roundOf 32 = .ok (.iconst (-1), 1) := dk_2_ (show cX8_roundOf.data.toList[32]? = some 0x02 from (LBX8_roundOfr_2 0).trans (by decide +kernel))
theorem dX8_roundOf_33 : decode cX8_roundOf 33 = .ok (.if_icmp .ne 13, 3) := dk_160_ (show cX8_roundOf.data.toList[33]? = some 0xa0 from (LBX8_roundOfr_2 1).trans (by decide +kernel)) (show cX8_roundOf.data.toList[34]? = some 0x00 from (LBX8_roundOfr_2 2).trans (by decide +kernel)) (show cX8_roundOf.data.toList[35]? = some 0x0d from (LBX8_roundOfr_2 3).trans (by decide +kernel)) (by decide)
theorem dX8_roundOf_36 : decode cX8_roundOf 36 = .ok (.aload_n 0, 1) := dk_42_ (show cX8_roundOf.data.toList[36]? = some 0x2a from (LBX8_roundOfr_2 4).trans (by decide +kernel))
theorem dX8_roundOf_37 : decode cX8_roundOf 37 = .ok (.getfield 12, 3) := dk_180_ (show cX8_roundOf.data.toList[37]? = some 0xb4 from (LBX8_roundOfr_2 5).trans (by decide +kernel)) (show cX8_roundOf.data.toList[38]? = some 0x00 from (LBX8_roundOfr_2 6).trans (by decide +kernel)) (show cX8_roundOf.data.toList[39]? = some 0x0c from (LBX8_roundOfr_2 7).trans (by decide +kernel)) (by decide)
theorem dX8_roundOf_40 : decode cX8_roundOf 40 = .ok (.getfield 184, 3) := dk_180_ (show cX8_roundOf.data.toList[40]? = some 0xb4 from (LBX8_roundOfr_2 8).trans (by decide +kernel)) (show cX8_roundOf.data.toList[41]? = some 0x00 from (LBX8_roundOfr_2 9).trans (by decide +kernel)) (show cX8_roundOf.data.toList[42]? = some 0xb8 from (LBX8_roundOfr_2 10).trans (by decide +kernel)) (by decide)
theorem dX8_roundOf_43 : decode cX8_roundOf 43 = .ok (.iload_n 1, 1) := dk_27_ (show cX8_roundOf.data.toList[43]? = some 0x1b from (LBX8_roundOfr_2 11).trans (by decide +kernel))
theorem dX8_roundOf_44 : decode cX8_roundOf 44 = .ok (.iaload, 1) := dk_46_ (show cX8_roundOf.data.toList[44]? = some 0x2e from (LBX8_roundOfr_2 12).trans (by decide +kernel))
theorem dX8_roundOf_45 : decode cX8_roundOf 45 = .ok (.ireturn, 1) := dk_172_ (show cX8_roundOf.data.toList[45]? = some 0xac from (LBX8_roundOfr_2 13).trans (by decide +kernel))
theorem dX8_roundOf_46 : decode cX8_roundOf 46 = .ok (.aload_n 0, 1) := dk_42_ (show cX8_roundOf.data.toList[46]? = some 0x2a from (LBX8_roundOfr_2 14).trans (by decide +kernel))
theorem dX8_roundOf_47 : decode cX8_roundOf 47 = .ok (.getfield 12, 3) := dk_180_ (show cX8_roundOf.data.toList[47]? = some 0xb4 from (LBX8_roundOfr_2 15).trans (by decide +kernel)) (show cX8_roundOf.data.toList[48]? = some 0x00 from (LBX8_roundOfr_3 0).trans (by decide +kernel)) (show cX8_roundOf.data.toList[49]? = some 0x0c from (LBX8_roundOfr_3 1).trans (by decide +kernel)) (by decide)
theorem dX8_roundOf_50 : decode cX8_roundOf 50 = .ok (.getfield 159, 3) := dk_180_ (show cX8_roundOf.data.toList[50]? = some 0xb4 from (LBX8_roundOfr_3 2).trans (by decide +kernel)) (show cX8_roundOf.data.toList[51]? = some 0x00 from (LBX8_roundOfr_3 3).trans (by decide +kernel)) (show cX8_roundOf.data.toList[52]? = some 0x9f from (LBX8_roundOfr_3 4).trans (by decide +kernel)) (by decide)
theorem dX8_roundOf_53 : decode cX8_roundOf 53 = .ok (.getfield 187, 3) := dk_180_ (show cX8_roundOf.data.toList[53]? = some 0xb4 from (LBX8_roundOfr_3 5).trans (by decide +kernel)) (show cX8_roundOf.data.toList[54]? = some 0x00 from (LBX8_roundOfr_3 6).trans (by decide +kernel)) (show cX8_roundOf.data.toList[55]? = some 0xbb from (LBX8_roundOfr_3 7).trans (by decide +kernel)) (by decide)
theorem dX8_roundOf_56 : decode cX8_roundOf 56 = .ok (.iload_n 1, 1) := dk_27_ (show cX8_roundOf.data.toList[56]? = some 0x1b from (LBX8_roundOfr_3 8).trans (by decide +kernel))
theorem dX8_roundOf_57 : decode cX8_roundOf 57 = .ok (.iaload, 1) := dk_46_ (show cX8_roundOf.data.toList[57]? = some 0x2e from (LBX8_roundOfr_3 9).trans (by decide +kernel))
theorem dX8_roundOf_58 : decode cX8_roundOf 58 = .ok (.istore_n 3, 1) := dk_62_ (show cX8_roundOf.data.toList[58]? = some 0x3e from (LBX8_roundOfr_3 10).trans (by decide +kernel))
theorem dX8_roundOf_59 : decode cX8_roundOf 59 = .ok (.iload_n 2, 1) := dk_28_ (show cX8_roundOf.data.toList[59]? = some 0x1c from (LBX8_roundOfr_3 11).trans (by decide +kernel))
theorem dX8_roundOf_60 : decode cX8_roundOf 60 = .ok (.bipush (-2), 2) := dk_16_ (show cX8_roundOf.data.toList[60]? = some 0x10 from (LBX8_roundOfr_3 12).trans (by decide +kernel)) (show cX8_roundOf.data.toList[61]? = some 0xfe from (LBX8_roundOfr_3 13).trans (by decide +kernel)) (by decide)
theorem dX8_roundOf_62 : decode cX8_roundOf 62 = .ok (.if_icmp .ne 5, 3) := dk_160_ (show cX8_roundOf.data.toList[62]? = some 0xa0 from (LBX8_roundOfr_3 14).trans (by decide +kernel)) (show cX8_roundOf.data.toList[63]? = some 0x00 from (LBX8_roundOfr_3 15).trans (by decide +kernel)) (show cX8_roundOf.data.toList[64]? = some 0x05 from (LBX8_roundOfr_4 0).trans (by decide +kernel)) (by decide)
theorem dX8_roundOf_65 : decode cX8_roundOf 65 = .ok (.iload_n 3, 1) := dk_29_ (show cX8_roundOf.data.toList[65]? = some 0x1d from (LBX8_roundOfr_4 1).trans (by decide +kernel))
theorem dX8_roundOf_66 : decode cX8_roundOf 66 = .ok (.ireturn, 1) := dk_172_ (show cX8_roundOf.data.toList[66]? = some 0xac from (LBX8_roundOfr_4 2).trans (by decide +kernel))
theorem dX8_roundOf_67 : decode cX8_roundOf 67 = .ok (.iload_n 2, 1) := dk_28_ (show cX8_roundOf.data.toList[67]? = some 0x1c from (LBX8_roundOfr_4 3).trans (by decide +kernel))
theorem dX8_roundOf_68 : decode cX8_roundOf 68 = .ok (.iload_n 3, 1) := dk_29_ (show cX8_roundOf.data.toList[68]? = some 0x1d from (LBX8_roundOfr_4 4).trans (by decide +kernel))
theorem dX8_roundOf_69 : decode cX8_roundOf 69 = .ok (.if_icmp .ge 18, 3) := dk_162_ (show cX8_roundOf.data.toList[69]? = some 0xa2 from (LBX8_roundOfr_4 5).trans (by decide +kernel)) (show cX8_roundOf.data.toList[70]? = some 0x00 from (LBX8_roundOfr_4 6).trans (by decide +kernel)) (show cX8_roundOf.data.toList[71]? = some 0x12 from (LBX8_roundOfr_4 7).trans (by decide +kernel)) (by decide)
theorem dX8_roundOf_72 : decode cX8_roundOf 72 = .ok (.aload_n 0, 1) := dk_42_ (show cX8_roundOf.data.toList[72]? = some 0x2a from (LBX8_roundOfr_4 8).trans (by decide +kernel))
theorem dX8_roundOf_73 : decode cX8_roundOf 73 = .ok (.getfield 12, 3) := dk_180_ (show cX8_roundOf.data.toList[73]? = some 0xb4 from (LBX8_roundOfr_4 9).trans (by decide +kernel)) (show cX8_roundOf.data.toList[74]? = some 0x00 from (LBX8_roundOfr_4 10).trans (by decide +kernel)) (show cX8_roundOf.data.toList[75]? = some 0x0c from (LBX8_roundOfr_4 11).trans (by decide +kernel)) (by decide)
theorem dX8_roundOf_76 : decode cX8_roundOf 76 = .ok (.getfield 159, 3) := dk_180_ (show cX8_roundOf.data.toList[76]? = some 0xb4 from (LBX8_roundOfr_4 12).trans (by decide +kernel)) (show cX8_roundOf.data.toList[77]? = some 0x00 from (LBX8_roundOfr_4 13).trans (by decide +kernel)) (show cX8_roundOf.data.toList[78]? = some 0x9f from (LBX8_roundOfr_4 14).trans (by decide +kernel)) (by decide)
theorem dX8_roundOf_79 : decode cX8_roundOf 79 = .ok (.iload_n 1, 1) := dk_27_ (show cX8_roundOf.data.toList[79]? = some 0x1b from (LBX8_roundOfr_4 15).trans (by decide +kernel))
theorem dX8_roundOf_80 : decode cX8_roundOf 80 = .ok (.iload_n 2, 1) := dk_28_ (show cX8_roundOf.data.toList[80]? = some 0x1c from (LBX8_roundOfr_5 0).trans (by decide +kernel))
theorem dX8_roundOf_81 : decode cX8_roundOf 81 = .ok (.invokevirtual 190, 3) := dk_182_ (show cX8_roundOf.data.toList[81]? = some 0xb6 from (LBX8_roundOfr_5 1).trans (by decide +kernel)) (show cX8_roundOf.data.toList[82]? = some 0x00 from (LBX8_roundOfr_5 2).trans (by decide +kernel)) (show cX8_roundOf.data.toList[83]? = some 0xbe from (LBX8_roundOfr_5 3).trans (by decide +kernel)) (by decide)
theorem dX8_roundOf_84 : decode cX8_roundOf 84 = .ok (.goto 9, 3) := dk_167_ (show cX8_roundOf.data.toList[84]? = some 0xa7 from (LBX8_roundOfr_5 4).trans (by decide +kernel)) (show cX8_roundOf.data.toList[85]? = some 0x00 from (LBX8_roundOfr_5 5).trans (by decide +kernel)) (show cX8_roundOf.data.toList[86]? = some 0x09 from (LBX8_roundOfr_5 6).trans (by decide +kernel)) (by decide)
theorem dX8_roundOf_87 : decode cX8_roundOf 87 = .ok (.aload_n 0, 1) := dk_42_ (show cX8_roundOf.data.toList[87]? = some 0x2a from (LBX8_roundOfr_5 7).trans (by decide +kernel))
theorem dX8_roundOf_88 : decode cX8_roundOf 88 = .ok (.ldc 113, 2) := dk_18_ (show cX8_roundOf.data.toList[88]? = some 0x12 from (LBX8_roundOfr_5 8).trans (by decide +kernel)) (show cX8_roundOf.data.toList[89]? = some 0x71 from (LBX8_roundOfr_5 9).trans (by decide +kernel)) (by decide)
theorem dX8_roundOf_90 : decode cX8_roundOf 90 = .ok (.invokevirtual 80, 3) := dk_182_ (show cX8_roundOf.data.toList[90]? = some 0xb6 from (LBX8_roundOfr_5 10).trans (by decide +kernel)) (show cX8_roundOf.data.toList[91]? = some 0x00 from (LBX8_roundOfr_5 11).trans (by decide +kernel)) (show cX8_roundOf.data.toList[92]? = some 0x50 from (LBX8_roundOfr_5 12).trans (by decide +kernel)) (by decide)
theorem dX8_roundOf_93 : decode cX8_roundOf 93 = .ok (.ireturn, 1) := dk_172_ (show cX8_roundOf.data.toList[93]? = some 0xac from (LBX8_roundOfr_5 13).trans (by decide +kernel))
def LRX8_as_4 : List UInt8 := []
def LBX8_as_3 : List UInt8 := [0x00, 0x50, 0xac, 0x2a, 0xb4, 0x00, 0x0c, 0xb4, 0x00, 0x9f, 0xb4, 0x00, 0xbb, 0x1b, 0x2e, 0xac]
def LRX8_as_3 : List UInt8 := LBX8_as_3 ++ LRX8_as_4
def LBX8_as_2 : List UInt8 := [0xb4, 0x00, 0xb8, 0x1b, 0x2e, 0x1c, 0xb8, 0x00, 0xc1, 0x9a, 0x00, 0x0a, 0x2a, 0x12, 0xc4, 0xb6]
def LRX8_as_2 : List UInt8 := LBX8_as_2 ++ LRX8_as_3
def LBX8_as_1 : List UInt8 := [0x00, 0x9b, 0x9a, 0x00, 0x0a, 0x2a, 0x12, 0x5f, 0xb6, 0x00, 0x50, 0xac, 0x2a, 0xb4, 0x00, 0x0c]
def LRX8_as_1 : List UInt8 := LBX8_as_1 ++ LRX8_as_2
def LBX8_as_0 : List UInt8 := [0x2a, 0xb4, 0x00, 0x0c, 0xb4, 0x00, 0x9f, 0x1b, 0xb6, 0x00, 0xab, 0x99, 0x00, 0x0a, 0x1c, 0xb8]
def LRX8_as_0 : List UInt8 := LBX8_as_0 ++ LRX8_as_1
set_option maxRecDepth 100000 in
theorem LBX8_as_eq : cX8_as.data.toList = LRX8_as_0 := by decide +kernel
theorem LBX8_asr_0 (k : Nat) : cX8_as.data.toList[0 + k]? = LRX8_as_0[k]? := by rw [LBX8_as_eq, Nat.zero_add]
theorem LBX8_asr_1 (k : Nat) : cX8_as.data.toList[16 + k]? = LRX8_as_1[k]? := by
  have h := LBX8_asr_0 (16 + k)
  rw [show 0 + (16 + k) = 16 + k by omega] at h
  rw [h]
  exact (List.getElem?_append_right (l₁ := LBX8_as_0) (l₂ := LRX8_as_1) (show 16 ≤ 16 + k by omega)).trans (congrArg (fun i => LRX8_as_1[i]?) (show 16 + k - 16 = k by omega))
theorem LBX8_asr_2 (k : Nat) : cX8_as.data.toList[32 + k]? = LRX8_as_2[k]? := by
  have h := LBX8_asr_1 (16 + k)
  rw [show 16 + (16 + k) = 32 + k by omega] at h
  rw [h]
  exact (List.getElem?_append_right (l₁ := LBX8_as_1) (l₂ := LRX8_as_2) (show 16 ≤ 16 + k by omega)).trans (congrArg (fun i => LRX8_as_2[i]?) (show 16 + k - 16 = k by omega))
theorem LBX8_asr_3 (k : Nat) : cX8_as.data.toList[48 + k]? = LRX8_as_3[k]? := by
  have h := LBX8_asr_2 (16 + k)
  rw [show 32 + (16 + k) = 48 + k by omega] at h
  rw [h]
  exact (List.getElem?_append_right (l₁ := LBX8_as_2) (l₂ := LRX8_as_3) (show 16 ≤ 16 + k by omega)).trans (congrArg (fun i => LRX8_as_3[i]?) (show 16 + k - 16 = k by omega))
theorem dX8_as_0 : decode cX8_as 0 = .ok (.aload_n 0, 1) := dk_42_ (show cX8_as.data.toList[0]? = some 0x2a from (LBX8_asr_0 0).trans (by decide +kernel))
theorem dX8_as_1 : decode cX8_as 1 = .ok (.getfield 12, 3) := dk_180_ (show cX8_as.data.toList[1]? = some 0xb4 from (LBX8_asr_0 1).trans (by decide +kernel)) (show cX8_as.data.toList[2]? = some 0x00 from (LBX8_asr_0 2).trans (by decide +kernel)) (show cX8_as.data.toList[3]? = some 0x0c from (LBX8_asr_0 3).trans (by decide +kernel)) (by decide)
theorem dX8_as_4 : decode cX8_as 4 = .ok (.getfield 159, 3) := dk_180_ (show cX8_as.data.toList[4]? = some 0xb4 from (LBX8_asr_0 4).trans (by decide +kernel)) (show cX8_as.data.toList[5]? = some 0x00 from (LBX8_asr_0 5).trans (by decide +kernel)) (show cX8_as.data.toList[6]? = some 0x9f from (LBX8_asr_0 6).trans (by decide +kernel)) (by decide)
theorem dX8_as_7 : decode cX8_as 7 = .ok (.iload_n 1, 1) := dk_27_ (show cX8_as.data.toList[7]? = some 0x1b from (LBX8_asr_0 7).trans (by decide +kernel))
theorem dX8_as_8 : decode cX8_as 8 = .ok (.invokevirtual 171, 3) := dk_182_ (show cX8_as.data.toList[8]? = some 0xb6 from (LBX8_asr_0 8).trans (by decide +kernel)) (show cX8_as.data.toList[9]? = some 0x00 from (LBX8_asr_0 9).trans (by decide +kernel)) (show cX8_as.data.toList[10]? = some 0xab from (LBX8_asr_0 10).trans (by decide +kernel)) (by decide)
theorem dX8_as_11 : decode cX8_as 11 = .ok (.ifCond .eq 10, 3) := dk_153_ (show cX8_as.data.toList[11]? = some 0x99 from (LBX8_asr_0 11).trans (by decide +kernel)) (show cX8_as.data.toList[12]? = some 0x00 from (LBX8_asr_0 12).trans (by decide +kernel)) (show cX8_as.data.toList[13]? = some 0x0a from (LBX8_asr_0 13).trans (by decide +kernel)) (by decide)
theorem dX8_as_14 : decode cX8_as 14 = .ok (.iload_n 2, 1) := dk_28_ (show cX8_as.data.toList[14]? = some 0x1c from (LBX8_asr_0 14).trans (by decide +kernel))
theorem dX8_as_15 : decode cX8_as 15 = .ok (.invokestatic 155, 3) := dk_184_ (show cX8_as.data.toList[15]? = some 0xb8 from (LBX8_asr_0 15).trans (by decide +kernel)) (show cX8_as.data.toList[16]? = some 0x00 from (LBX8_asr_1 0).trans (by decide +kernel)) (show cX8_as.data.toList[17]? = some 0x9b from (LBX8_asr_1 1).trans (by decide +kernel)) (by decide)
theorem dX8_as_18 : decode cX8_as 18 = .ok (.ifCond .ne 10, 3) := dk_154_ (show cX8_as.data.toList[18]? = some 0x9a from (LBX8_asr_1 2).trans (by decide +kernel)) (show cX8_as.data.toList[19]? = some 0x00 from (LBX8_asr_1 3).trans (by decide +kernel)) (show cX8_as.data.toList[20]? = some 0x0a from (LBX8_asr_1 4).trans (by decide +kernel)) (by decide)
theorem dX8_as_21 : decode cX8_as 21 = .ok (.aload_n 0, 1) := dk_42_ (show cX8_as.data.toList[21]? = some 0x2a from (LBX8_asr_1 5).trans (by decide +kernel))
theorem dX8_as_22 : decode cX8_as 22 = .ok (.ldc 95, 2) := dk_18_ (show cX8_as.data.toList[22]? = some 0x12 from (LBX8_asr_1 6).trans (by decide +kernel)) (show cX8_as.data.toList[23]? = some 0x5f from (LBX8_asr_1 7).trans (by decide +kernel)) (by decide)
theorem dX8_as_24 : decode cX8_as 24 = .ok (.invokevirtual 80, 3) := dk_182_ (show cX8_as.data.toList[24]? = some 0xb6 from (LBX8_asr_1 8).trans (by decide +kernel)) (show cX8_as.data.toList[25]? = some 0x00 from (LBX8_asr_1 9).trans (by decide +kernel)) (show cX8_as.data.toList[26]? = some 0x50 from (LBX8_asr_1 10).trans (by decide +kernel)) (by decide)
theorem dX8_as_27 : decode cX8_as 27 = .ok (.ireturn, 1) := dk_172_ (show cX8_as.data.toList[27]? = some 0xac from (LBX8_asr_1 11).trans (by decide +kernel))
theorem dX8_as_28 : decode cX8_as 28 = .ok (.aload_n 0, 1) := dk_42_ (show cX8_as.data.toList[28]? = some 0x2a from (LBX8_asr_1 12).trans (by decide +kernel))
theorem dX8_as_29 : decode cX8_as 29 = .ok (.getfield 12, 3) := dk_180_ (show cX8_as.data.toList[29]? = some 0xb4 from (LBX8_asr_1 13).trans (by decide +kernel)) (show cX8_as.data.toList[30]? = some 0x00 from (LBX8_asr_1 14).trans (by decide +kernel)) (show cX8_as.data.toList[31]? = some 0x0c from (LBX8_asr_1 15).trans (by decide +kernel)) (by decide)
theorem dX8_as_32 : decode cX8_as 32 = .ok (.getfield 184, 3) := dk_180_ (show cX8_as.data.toList[32]? = some 0xb4 from (LBX8_asr_2 0).trans (by decide +kernel)) (show cX8_as.data.toList[33]? = some 0x00 from (LBX8_asr_2 1).trans (by decide +kernel)) (show cX8_as.data.toList[34]? = some 0xb8 from (LBX8_asr_2 2).trans (by decide +kernel)) (by decide)
theorem dX8_as_35 : decode cX8_as 35 = .ok (.iload_n 1, 1) := dk_27_ (show cX8_as.data.toList[35]? = some 0x1b from (LBX8_asr_2 3).trans (by decide +kernel))
theorem dX8_as_36 : decode cX8_as 36 = .ok (.iaload, 1) := dk_46_ (show cX8_as.data.toList[36]? = some 0x2e from (LBX8_asr_2 4).trans (by decide +kernel))
theorem dX8_as_37 : decode cX8_as 37 = .ok (.iload_n 2, 1) := dk_28_ (show cX8_as.data.toList[37]? = some 0x1c from (LBX8_asr_2 5).trans (by decide +kernel))
theorem dX8_as_38 : decode cX8_as 38 = .ok (.invokestatic 193, 3) := dk_184_ (show cX8_as.data.toList[38]? = some 0xb8 from (LBX8_asr_2 6).trans (by decide +kernel)) (show cX8_as.data.toList[39]? = some 0x00 from (LBX8_asr_2 7).trans (by decide +kernel)) (show cX8_as.data.toList[40]? = some 0xc1 from (LBX8_asr_2 8).trans (by decide +kernel)) (by decide)
theorem dX8_as_41 : decode cX8_as 41 = .ok (.ifCond .ne 10, 3) := dk_154_ (show cX8_as.data.toList[41]? = some 0x9a from (LBX8_asr_2 9).trans (by decide +kernel)) (show cX8_as.data.toList[42]? = some 0x00 from (LBX8_asr_2 10).trans (by decide +kernel)) (show cX8_as.data.toList[43]? = some 0x0a from (LBX8_asr_2 11).trans (by decide +kernel)) (by decide)
theorem dX8_as_44 : decode cX8_as 44 = .ok (.aload_n 0, 1) := dk_42_ (show cX8_as.data.toList[44]? = some 0x2a from (LBX8_asr_2 12).trans (by decide +kernel))
theorem dX8_as_45 : decode cX8_as 45 = .ok (.ldc 196, 2) := dk_18_ (show cX8_as.data.toList[45]? = some 0x12 from (LBX8_asr_2 13).trans (by decide +kernel)) (show cX8_as.data.toList[46]? = some 0xc4 from (LBX8_asr_2 14).trans (by decide +kernel)) (by decide)
theorem dX8_as_47 : decode cX8_as 47 = .ok (.invokevirtual 80, 3) := dk_182_ (show cX8_as.data.toList[47]? = some 0xb6 from (LBX8_asr_2 15).trans (by decide +kernel)) (show cX8_as.data.toList[48]? = some 0x00 from (LBX8_asr_3 0).trans (by decide +kernel)) (show cX8_as.data.toList[49]? = some 0x50 from (LBX8_asr_3 1).trans (by decide +kernel)) (by decide)
theorem dX8_as_50 : decode cX8_as 50 = .ok (.ireturn, 1) := dk_172_ (show cX8_as.data.toList[50]? = some 0xac from (LBX8_asr_3 2).trans (by decide +kernel))
theorem dX8_as_51 : decode cX8_as 51 = .ok (.aload_n 0, 1) := dk_42_ (show cX8_as.data.toList[51]? = some 0x2a from (LBX8_asr_3 3).trans (by decide +kernel))
theorem dX8_as_52 : decode cX8_as 52 = .ok (.getfield 12, 3) := dk_180_ (show cX8_as.data.toList[52]? = some 0xb4 from (LBX8_asr_3 4).trans (by decide +kernel)) (show cX8_as.data.toList[53]? = some 0x00 from (LBX8_asr_3 5).trans (by decide +kernel)) (show cX8_as.data.toList[54]? = some 0x0c from (LBX8_asr_3 6).trans (by decide +kernel)) (by decide)
theorem dX8_as_55 : decode cX8_as 55 = .ok (.getfield 159, 3) := dk_180_ (show cX8_as.data.toList[55]? = some 0xb4 from (LBX8_asr_3 7).trans (by decide +kernel)) (show cX8_as.data.toList[56]? = some 0x00 from (LBX8_asr_3 8).trans (by decide +kernel)) (show cX8_as.data.toList[57]? = some 0x9f from (LBX8_asr_3 9).trans (by decide +kernel)) (by decide)
theorem dX8_as_58 : decode cX8_as 58 = .ok (.getfield 187, 3) := dk_180_ (show cX8_as.data.toList[58]? = some 0xb4 from (LBX8_asr_3 10).trans (by decide +kernel)) (show cX8_as.data.toList[59]? = some 0x00 from (LBX8_asr_3 11).trans (by decide +kernel)) (show cX8_as.data.toList[60]? = some 0xbb from (LBX8_asr_3 12).trans (by decide +kernel)) (by decide)
theorem dX8_as_61 : decode cX8_as 61 = .ok (.iload_n 1, 1) := dk_27_ (show cX8_as.data.toList[61]? = some 0x1b from (LBX8_asr_3 13).trans (by decide +kernel))
theorem dX8_as_62 : decode cX8_as 62 = .ok (.iaload, 1) := dk_46_ (show cX8_as.data.toList[62]? = some 0x2e from (LBX8_asr_3 14).trans (by decide +kernel))
theorem dX8_as_63 : decode cX8_as 63 = .ok (.ireturn, 1) := dk_172_ (show cX8_as.data.toList[63]? = some 0xac from (LBX8_asr_3 15).trans (by decide +kernel))
def LRX8_fit_2 : List UInt8 := []
def LBX8_fit_1 : List UInt8 := [0xb4, 0x00, 0x0c, 0xb6, 0x00, 0xd4, 0x99, 0x00, 0x07, 0x04, 0xa7, 0x00, 0x04, 0x03, 0xac]
def LRX8_fit_1 : List UInt8 := LBX8_fit_1 ++ LRX8_fit_2
def LBX8_fit_0 : List UInt8 := [0x2a, 0xb4, 0x00, 0x2e, 0x2a, 0xb4, 0x00, 0x0c, 0xb6, 0x00, 0xd1, 0x2a, 0xb4, 0x00, 0x2e, 0x2a]
def LRX8_fit_0 : List UInt8 := LBX8_fit_0 ++ LRX8_fit_1
set_option maxRecDepth 100000 in
theorem LBX8_fit_eq : cX8_fit.data.toList = LRX8_fit_0 := by decide +kernel
theorem LBX8_fitr_0 (k : Nat) : cX8_fit.data.toList[0 + k]? = LRX8_fit_0[k]? := by rw [LBX8_fit_eq, Nat.zero_add]
theorem LBX8_fitr_1 (k : Nat) : cX8_fit.data.toList[16 + k]? = LRX8_fit_1[k]? := by
  have h := LBX8_fitr_0 (16 + k)
  rw [show 0 + (16 + k) = 16 + k by omega] at h
  rw [h]
  exact (List.getElem?_append_right (l₁ := LBX8_fit_0) (l₂ := LRX8_fit_1) (show 16 ≤ 16 + k by omega)).trans (congrArg (fun i => LRX8_fit_1[i]?) (show 16 + k - 16 = k by omega))
theorem dX8_fit_0 : decode cX8_fit 0 = .ok (.aload_n 0, 1) := dk_42_ (show cX8_fit.data.toList[0]? = some 0x2a from (LBX8_fitr_0 0).trans (by decide +kernel))
theorem dX8_fit_1 : decode cX8_fit 1 = .ok (.getfield 46, 3) := dk_180_ (show cX8_fit.data.toList[1]? = some 0xb4 from (LBX8_fitr_0 1).trans (by decide +kernel)) (show cX8_fit.data.toList[2]? = some 0x00 from (LBX8_fitr_0 2).trans (by decide +kernel)) (show cX8_fit.data.toList[3]? = some 0x2e from (LBX8_fitr_0 3).trans (by decide +kernel)) (by decide)
theorem dX8_fit_4 : decode cX8_fit 4 = .ok (.aload_n 0, 1) := dk_42_ (show cX8_fit.data.toList[4]? = some 0x2a from (LBX8_fitr_0 4).trans (by decide +kernel))
theorem dX8_fit_5 : decode cX8_fit 5 = .ok (.getfield 12, 3) := dk_180_ (show cX8_fit.data.toList[5]? = some 0xb4 from (LBX8_fitr_0 5).trans (by decide +kernel)) (show cX8_fit.data.toList[6]? = some 0x00 from (LBX8_fitr_0 6).trans (by decide +kernel)) (show cX8_fit.data.toList[7]? = some 0x0c from (LBX8_fitr_0 7).trans (by decide +kernel)) (by decide)
theorem dX8_fit_8 : decode cX8_fit 8 = .ok (.invokevirtual 209, 3) := dk_182_ (show cX8_fit.data.toList[8]? = some 0xb6 from (LBX8_fitr_0 8).trans (by decide +kernel)) (show cX8_fit.data.toList[9]? = some 0x00 from (LBX8_fitr_0 9).trans (by decide +kernel)) (show cX8_fit.data.toList[10]? = some 0xd1 from (LBX8_fitr_0 10).trans (by decide +kernel)) (by decide)
theorem dX8_fit_11 : decode cX8_fit 11 = .ok (.aload_n 0, 1) := dk_42_ (show cX8_fit.data.toList[11]? = some 0x2a from (LBX8_fitr_0 11).trans (by decide +kernel))
theorem dX8_fit_12 : decode cX8_fit 12 = .ok (.getfield 46, 3) := dk_180_ (show cX8_fit.data.toList[12]? = some 0xb4 from (LBX8_fitr_0 12).trans (by decide +kernel)) (show cX8_fit.data.toList[13]? = some 0x00 from (LBX8_fitr_0 13).trans (by decide +kernel)) (show cX8_fit.data.toList[14]? = some 0x2e from (LBX8_fitr_0 14).trans (by decide +kernel)) (by decide)
theorem dX8_fit_15 : decode cX8_fit 15 = .ok (.aload_n 0, 1) := dk_42_ (show cX8_fit.data.toList[15]? = some 0x2a from (LBX8_fitr_0 15).trans (by decide +kernel))
theorem dX8_fit_16 : decode cX8_fit 16 = .ok (.getfield 12, 3) := dk_180_ (show cX8_fit.data.toList[16]? = some 0xb4 from (LBX8_fitr_1 0).trans (by decide +kernel)) (show cX8_fit.data.toList[17]? = some 0x00 from (LBX8_fitr_1 1).trans (by decide +kernel)) (show cX8_fit.data.toList[18]? = some 0x0c from (LBX8_fitr_1 2).trans (by decide +kernel)) (by decide)
theorem dX8_fit_19 : decode cX8_fit 19 = .ok (.invokevirtual 212, 3) := dk_182_ (show cX8_fit.data.toList[19]? = some 0xb6 from (LBX8_fitr_1 3).trans (by decide +kernel)) (show cX8_fit.data.toList[20]? = some 0x00 from (LBX8_fitr_1 4).trans (by decide +kernel)) (show cX8_fit.data.toList[21]? = some 0xd4 from (LBX8_fitr_1 5).trans (by decide +kernel)) (by decide)
theorem dX8_fit_22 : decode cX8_fit 22 = .ok (.ifCond .eq 7, 3) := dk_153_ (show cX8_fit.data.toList[22]? = some 0x99 from (LBX8_fitr_1 6).trans (by decide +kernel)) (show cX8_fit.data.toList[23]? = some 0x00 from (LBX8_fitr_1 7).trans (by decide +kernel)) (show cX8_fit.data.toList[24]? = some 0x07 from (LBX8_fitr_1 8).trans (by decide +kernel)) (by decide)
theorem dX8_fit_25 : decode cX8_fit 25 = .ok (.iconst 1, 1) := dk_4_ (show cX8_fit.data.toList[25]? = some 0x04 from (LBX8_fitr_1 9).trans (by decide +kernel))
theorem dX8_fit_26 : decode cX8_fit 26 = .ok (.goto 4, 3) := dk_167_ (show cX8_fit.data.toList[26]? = some 0xa7 from (LBX8_fitr_1 10).trans (by decide +kernel)) (show cX8_fit.data.toList[27]? = some 0x00 from (LBX8_fitr_1 11).trans (by decide +kernel)) (show cX8_fit.data.toList[28]? = some 0x04 from (LBX8_fitr_1 12).trans (by decide +kernel)) (by decide)
theorem dX8_fit_29 : decode cX8_fit 29 = .ok (.iconst 0, 1) := dk_3_ (show cX8_fit.data.toList[29]? = some 0x03 from (LBX8_fitr_1 13).trans (by decide +kernel))
theorem dX8_fit_30 : decode cX8_fit 30 = .ok (.ireturn, 1) := dk_172_ (show cX8_fit.data.toList[30]? = some 0xac from (LBX8_fitr_1 14).trans (by decide +kernel))
def LRX8_height_4 : List UInt8 := []
def LBX8_height_3 : List UInt8 := [0x00, 0x50, 0xac, 0x2a, 0xb4, 0x00, 0x2e, 0xb4, 0x00, 0xd8, 0x1b, 0x2e, 0xac]
def LRX8_height_3 : List UInt8 := LBX8_height_3 ++ LRX8_height_4
def LBX8_height_2 : List UInt8 := [0x00, 0x2e, 0x2a, 0xb4, 0x00, 0x0c, 0xb6, 0x00, 0xd4, 0x9a, 0x00, 0x0a, 0x2a, 0x12, 0x84, 0xb6]
def LRX8_height_2 : List UInt8 := LBX8_height_2 ++ LRX8_height_3
def LBX8_height_1 : List UInt8 := [0x00, 0x50, 0xac, 0x2a, 0xb4, 0x00, 0x2e, 0x2a, 0xb4, 0x00, 0x0c, 0xb6, 0x00, 0xd1, 0x2a, 0xb4]
def LRX8_height_1 : List UInt8 := LBX8_height_1 ++ LRX8_height_2
def LBX8_height_0 : List UInt8 := [0x2a, 0xb4, 0x00, 0x0c, 0x1b, 0x85, 0xb6, 0x00, 0x57, 0x9a, 0x00, 0x0a, 0x2a, 0x12, 0x5f, 0xb6]
def LRX8_height_0 : List UInt8 := LBX8_height_0 ++ LRX8_height_1
set_option maxRecDepth 100000 in
theorem LBX8_height_eq : cX8_height.data.toList = LRX8_height_0 := by decide +kernel
theorem LBX8_heightr_0 (k : Nat) : cX8_height.data.toList[0 + k]? = LRX8_height_0[k]? := by rw [LBX8_height_eq, Nat.zero_add]
theorem LBX8_heightr_1 (k : Nat) : cX8_height.data.toList[16 + k]? = LRX8_height_1[k]? := by
  have h := LBX8_heightr_0 (16 + k)
  rw [show 0 + (16 + k) = 16 + k by omega] at h
  rw [h]
  exact (List.getElem?_append_right (l₁ := LBX8_height_0) (l₂ := LRX8_height_1) (show 16 ≤ 16 + k by omega)).trans (congrArg (fun i => LRX8_height_1[i]?) (show 16 + k - 16 = k by omega))
theorem LBX8_heightr_2 (k : Nat) : cX8_height.data.toList[32 + k]? = LRX8_height_2[k]? := by
  have h := LBX8_heightr_1 (16 + k)
  rw [show 16 + (16 + k) = 32 + k by omega] at h
  rw [h]
  exact (List.getElem?_append_right (l₁ := LBX8_height_1) (l₂ := LRX8_height_2) (show 16 ≤ 16 + k by omega)).trans (congrArg (fun i => LRX8_height_2[i]?) (show 16 + k - 16 = k by omega))
theorem LBX8_heightr_3 (k : Nat) : cX8_height.data.toList[48 + k]? = LRX8_height_3[k]? := by
  have h := LBX8_heightr_2 (16 + k)
  rw [show 32 + (16 + k) = 48 + k by omega] at h
  rw [h]
  exact (List.getElem?_append_right (l₁ := LBX8_height_2) (l₂ := LRX8_height_3) (show 16 ≤ 16 + k by omega)).trans (congrArg (fun i => LRX8_height_3[i]?) (show 16 + k - 16 = k by omega))
theorem dX8_height_0 : decode cX8_height 0 = .ok (.aload_n 0, 1) := dk_42_ (show cX8_height.data.toList[0]? = some 0x2a from (LBX8_heightr_0 0).trans (by decide +kernel))
theorem dX8_height_1 : decode cX8_height 1 = .ok (.getfield 12, 3) := dk_180_ (show cX8_height.data.toList[1]? = some 0xb4 from (LBX8_heightr_0 1).trans (by decide +kernel)) (show cX8_height.data.toList[2]? = some 0x00 from (LBX8_heightr_0 2).trans (by decide +kernel)) (show cX8_height.data.toList[3]? = some 0x0c from (LBX8_heightr_0 3).trans (by decide +kernel)) (by decide)
theorem dX8_height_4 : decode cX8_height 4 = .ok (.iload_n 1, 1) := dk_27_ (show cX8_height.data.toList[4]? = some 0x1b from (LBX8_heightr_0 4).trans (by decide +kernel))
theorem dX8_height_5 : decode cX8_height 5 = .ok (.i2l, 1) := dk_133_ (show cX8_height.data.toList[5]? = some 0x85 from (LBX8_heightr_0 5).trans (by decide +kernel))
theorem dX8_height_6 : decode cX8_height 6 = .ok (.invokevirtual 87, 3) := dk_182_ (show cX8_height.data.toList[6]? = some 0xb6 from (LBX8_heightr_0 6).trans (by decide +kernel)) (show cX8_height.data.toList[7]? = some 0x00 from (LBX8_heightr_0 7).trans (by decide +kernel)) (show cX8_height.data.toList[8]? = some 0x57 from (LBX8_heightr_0 8).trans (by decide +kernel)) (by decide)
theorem dX8_height_9 : decode cX8_height 9 = .ok (.ifCond .ne 10, 3) := dk_154_ (show cX8_height.data.toList[9]? = some 0x9a from (LBX8_heightr_0 9).trans (by decide +kernel)) (show cX8_height.data.toList[10]? = some 0x00 from (LBX8_heightr_0 10).trans (by decide +kernel)) (show cX8_height.data.toList[11]? = some 0x0a from (LBX8_heightr_0 11).trans (by decide +kernel)) (by decide)
theorem dX8_height_12 : decode cX8_height 12 = .ok (.aload_n 0, 1) := dk_42_ (show cX8_height.data.toList[12]? = some 0x2a from (LBX8_heightr_0 12).trans (by decide +kernel))
theorem dX8_height_13 : decode cX8_height 13 = .ok (.ldc 95, 2) := dk_18_ (show cX8_height.data.toList[13]? = some 0x12 from (LBX8_heightr_0 13).trans (by decide +kernel)) (show cX8_height.data.toList[14]? = some 0x5f from (LBX8_heightr_0 14).trans (by decide +kernel)) (by decide)
theorem dX8_height_15 : decode cX8_height 15 = .ok (.invokevirtual 80, 3) := dk_182_ (show cX8_height.data.toList[15]? = some 0xb6 from (LBX8_heightr_0 15).trans (by decide +kernel)) (show cX8_height.data.toList[16]? = some 0x00 from (LBX8_heightr_1 0).trans (by decide +kernel)) (show cX8_height.data.toList[17]? = some 0x50 from (LBX8_heightr_1 1).trans (by decide +kernel)) (by decide)
theorem dX8_height_18 : decode cX8_height 18 = .ok (.ireturn, 1) := dk_172_ (show cX8_height.data.toList[18]? = some 0xac from (LBX8_heightr_1 2).trans (by decide +kernel))
theorem dX8_height_19 : decode cX8_height 19 = .ok (.aload_n 0, 1) := dk_42_ (show cX8_height.data.toList[19]? = some 0x2a from (LBX8_heightr_1 3).trans (by decide +kernel))
theorem dX8_height_20 : decode cX8_height 20 = .ok (.getfield 46, 3) := dk_180_ (show cX8_height.data.toList[20]? = some 0xb4 from (LBX8_heightr_1 4).trans (by decide +kernel)) (show cX8_height.data.toList[21]? = some 0x00 from (LBX8_heightr_1 5).trans (by decide +kernel)) (show cX8_height.data.toList[22]? = some 0x2e from (LBX8_heightr_1 6).trans (by decide +kernel)) (by decide)
theorem dX8_height_23 : decode cX8_height 23 = .ok (.aload_n 0, 1) := dk_42_ (show cX8_height.data.toList[23]? = some 0x2a from (LBX8_heightr_1 7).trans (by decide +kernel))
theorem dX8_height_24 : decode cX8_height 24 = .ok (.getfield 12, 3) := dk_180_ (show cX8_height.data.toList[24]? = some 0xb4 from (LBX8_heightr_1 8).trans (by decide +kernel)) (show cX8_height.data.toList[25]? = some 0x00 from (LBX8_heightr_1 9).trans (by decide +kernel)) (show cX8_height.data.toList[26]? = some 0x0c from (LBX8_heightr_1 10).trans (by decide +kernel)) (by decide)
theorem dX8_height_27 : decode cX8_height 27 = .ok (.invokevirtual 209, 3) := dk_182_ (show cX8_height.data.toList[27]? = some 0xb6 from (LBX8_heightr_1 11).trans (by decide +kernel)) (show cX8_height.data.toList[28]? = some 0x00 from (LBX8_heightr_1 12).trans (by decide +kernel)) (show cX8_height.data.toList[29]? = some 0xd1 from (LBX8_heightr_1 13).trans (by decide +kernel)) (by decide)
theorem dX8_height_30 : decode cX8_height 30 = .ok (.aload_n 0, 1) := dk_42_ (show cX8_height.data.toList[30]? = some 0x2a from (LBX8_heightr_1 14).trans (by decide +kernel))
theorem dX8_height_31 : decode cX8_height 31 = .ok (.getfield 46, 3) := dk_180_ (show cX8_height.data.toList[31]? = some 0xb4 from (LBX8_heightr_1 15).trans (by decide +kernel)) (show cX8_height.data.toList[32]? = some 0x00 from (LBX8_heightr_2 0).trans (by decide +kernel)) (show cX8_height.data.toList[33]? = some 0x2e from (LBX8_heightr_2 1).trans (by decide +kernel)) (by decide)
theorem dX8_height_34 : decode cX8_height 34 = .ok (.aload_n 0, 1) := dk_42_ (show cX8_height.data.toList[34]? = some 0x2a from (LBX8_heightr_2 2).trans (by decide +kernel))
theorem dX8_height_35 : decode cX8_height 35 = .ok (.getfield 12, 3) := dk_180_ (show cX8_height.data.toList[35]? = some 0xb4 from (LBX8_heightr_2 3).trans (by decide +kernel)) (show cX8_height.data.toList[36]? = some 0x00 from (LBX8_heightr_2 4).trans (by decide +kernel)) (show cX8_height.data.toList[37]? = some 0x0c from (LBX8_heightr_2 5).trans (by decide +kernel)) (by decide)
theorem dX8_height_38 : decode cX8_height 38 = .ok (.invokevirtual 212, 3) := dk_182_ (show cX8_height.data.toList[38]? = some 0xb6 from (LBX8_heightr_2 6).trans (by decide +kernel)) (show cX8_height.data.toList[39]? = some 0x00 from (LBX8_heightr_2 7).trans (by decide +kernel)) (show cX8_height.data.toList[40]? = some 0xd4 from (LBX8_heightr_2 8).trans (by decide +kernel)) (by decide)
theorem dX8_height_41 : decode cX8_height 41 = .ok (.ifCond .ne 10, 3) := dk_154_ (show cX8_height.data.toList[41]? = some 0x9a from (LBX8_heightr_2 9).trans (by decide +kernel)) (show cX8_height.data.toList[42]? = some 0x00 from (LBX8_heightr_2 10).trans (by decide +kernel)) (show cX8_height.data.toList[43]? = some 0x0a from (LBX8_heightr_2 11).trans (by decide +kernel)) (by decide)
theorem dX8_height_44 : decode cX8_height 44 = .ok (.aload_n 0, 1) := dk_42_ (show cX8_height.data.toList[44]? = some 0x2a from (LBX8_heightr_2 12).trans (by decide +kernel))
theorem dX8_height_45 : decode cX8_height 45 = .ok (.ldc 132, 2) := dk_18_ (show cX8_height.data.toList[45]? = some 0x12 from (LBX8_heightr_2 13).trans (by decide +kernel)) (show cX8_height.data.toList[46]? = some 0x84 from (LBX8_heightr_2 14).trans (by decide +kernel)) (by decide)
theorem dX8_height_47 : decode cX8_height 47 = .ok (.invokevirtual 80, 3) := dk_182_ (show cX8_height.data.toList[47]? = some 0xb6 from (LBX8_heightr_2 15).trans (by decide +kernel)) (show cX8_height.data.toList[48]? = some 0x00 from (LBX8_heightr_3 0).trans (by decide +kernel)) (show cX8_height.data.toList[49]? = some 0x50 from (LBX8_heightr_3 1).trans (by decide +kernel)) (by decide)
theorem dX8_height_50 : decode cX8_height 50 = .ok (.ireturn, 1) := dk_172_ (show cX8_height.data.toList[50]? = some 0xac from (LBX8_heightr_3 2).trans (by decide +kernel))
theorem dX8_height_51 : decode cX8_height 51 = .ok (.aload_n 0, 1) := dk_42_ (show cX8_height.data.toList[51]? = some 0x2a from (LBX8_heightr_3 3).trans (by decide +kernel))
theorem dX8_height_52 : decode cX8_height 52 = .ok (.getfield 46, 3) := dk_180_ (show cX8_height.data.toList[52]? = some 0xb4 from (LBX8_heightr_3 4).trans (by decide +kernel)) (show cX8_height.data.toList[53]? = some 0x00 from (LBX8_heightr_3 5).trans (by decide +kernel)) (show cX8_height.data.toList[54]? = some 0x2e from (LBX8_heightr_3 6).trans (by decide +kernel)) (by decide)
theorem dX8_height_55 : decode cX8_height 55 = .ok (.getfield 216, 3) := dk_180_ (show cX8_height.data.toList[55]? = some 0xb4 from (LBX8_heightr_3 7).trans (by decide +kernel)) (show cX8_height.data.toList[56]? = some 0x00 from (LBX8_heightr_3 8).trans (by decide +kernel)) (show cX8_height.data.toList[57]? = some 0xd8 from (LBX8_heightr_3 9).trans (by decide +kernel)) (by decide)
theorem dX8_height_58 : decode cX8_height 58 = .ok (.iload_n 1, 1) := dk_27_ (show cX8_height.data.toList[58]? = some 0x1b from (LBX8_heightr_3 10).trans (by decide +kernel))
theorem dX8_height_59 : decode cX8_height 59 = .ok (.iaload, 1) := dk_46_ (show cX8_height.data.toList[59]? = some 0x2e from (LBX8_heightr_3 11).trans (by decide +kernel))
theorem dX8_height_60 : decode cX8_height 60 = .ok (.ireturn, 1) := dk_172_ (show cX8_height.data.toList[60]? = some 0xac from (LBX8_heightr_3 12).trans (by decide +kernel))
def LRX8_paper_3 : List UInt8 := []
def LBX8_paper_2 : List UInt8 := [0x12, 0x71, 0xb6, 0x00, 0x50, 0xac, 0x2a, 0xb4, 0x00, 0x0c, 0x1b, 0x1c, 0xb8, 0x00, 0xde, 0xac]
def LRX8_paper_2 : List UInt8 := LBX8_paper_2 ++ LRX8_paper_3
def LBX8_paper_1 : List UInt8 := [0x00, 0x50, 0xac, 0x2a, 0xb4, 0x00, 0x0c, 0x1b, 0x1c, 0xb6, 0x00, 0xdb, 0x9a, 0x00, 0x0a, 0x2a]
def LRX8_paper_1 : List UInt8 := LBX8_paper_1 ++ LRX8_paper_2
def LBX8_paper_0 : List UInt8 := [0x2a, 0xb4, 0x00, 0x0c, 0x1b, 0x1c, 0xb6, 0x00, 0x63, 0x9a, 0x00, 0x0a, 0x2a, 0x12, 0x5f, 0xb6]
def LRX8_paper_0 : List UInt8 := LBX8_paper_0 ++ LRX8_paper_1
set_option maxRecDepth 100000 in
theorem LBX8_paper_eq : cX8_paper.data.toList = LRX8_paper_0 := by decide +kernel
theorem LBX8_paperr_0 (k : Nat) : cX8_paper.data.toList[0 + k]? = LRX8_paper_0[k]? := by rw [LBX8_paper_eq, Nat.zero_add]
theorem LBX8_paperr_1 (k : Nat) : cX8_paper.data.toList[16 + k]? = LRX8_paper_1[k]? := by
  have h := LBX8_paperr_0 (16 + k)
  rw [show 0 + (16 + k) = 16 + k by omega] at h
  rw [h]
  exact (List.getElem?_append_right (l₁ := LBX8_paper_0) (l₂ := LRX8_paper_1) (show 16 ≤ 16 + k by omega)).trans (congrArg (fun i => LRX8_paper_1[i]?) (show 16 + k - 16 = k by omega))
theorem LBX8_paperr_2 (k : Nat) : cX8_paper.data.toList[32 + k]? = LRX8_paper_2[k]? := by
  have h := LBX8_paperr_1 (16 + k)
  rw [show 16 + (16 + k) = 32 + k by omega] at h
  rw [h]
  exact (List.getElem?_append_right (l₁ := LBX8_paper_1) (l₂ := LRX8_paper_2) (show 16 ≤ 16 + k by omega)).trans (congrArg (fun i => LRX8_paper_2[i]?) (show 16 + k - 16 = k by omega))
theorem dX8_paper_0 : decode cX8_paper 0 = .ok (.aload_n 0, 1) := dk_42_ (show cX8_paper.data.toList[0]? = some 0x2a from (LBX8_paperr_0 0).trans (by decide +kernel))
theorem dX8_paper_1 : decode cX8_paper 1 = .ok (.getfield 12, 3) := dk_180_ (show cX8_paper.data.toList[1]? = some 0xb4 from (LBX8_paperr_0 1).trans (by decide +kernel)) (show cX8_paper.data.toList[2]? = some 0x00 from (LBX8_paperr_0 2).trans (by decide +kernel)) (show cX8_paper.data.toList[3]? = some 0x0c from (LBX8_paperr_0 3).trans (by decide +kernel)) (by decide)
theorem dX8_paper_4 : decode cX8_paper 4 = .ok (.iload_n 1, 1) := dk_27_ (show cX8_paper.data.toList[4]? = some 0x1b from (LBX8_paperr_0 4).trans (by decide +kernel))
theorem dX8_paper_5 : decode cX8_paper 5 = .ok (.iload_n 2, 1) := dk_28_ (show cX8_paper.data.toList[5]? = some 0x1c from (LBX8_paperr_0 5).trans (by decide +kernel))
theorem dX8_paper_6 : decode cX8_paper 6 = .ok (.invokevirtual 99, 3) := dk_182_ (show cX8_paper.data.toList[6]? = some 0xb6 from (LBX8_paperr_0 6).trans (by decide +kernel)) (show cX8_paper.data.toList[7]? = some 0x00 from (LBX8_paperr_0 7).trans (by decide +kernel)) (show cX8_paper.data.toList[8]? = some 0x63 from (LBX8_paperr_0 8).trans (by decide +kernel)) (by decide)
theorem dX8_paper_9 : decode cX8_paper 9 = .ok (.ifCond .ne 10, 3) := dk_154_ (show cX8_paper.data.toList[9]? = some 0x9a from (LBX8_paperr_0 9).trans (by decide +kernel)) (show cX8_paper.data.toList[10]? = some 0x00 from (LBX8_paperr_0 10).trans (by decide +kernel)) (show cX8_paper.data.toList[11]? = some 0x0a from (LBX8_paperr_0 11).trans (by decide +kernel)) (by decide)
theorem dX8_paper_12 : decode cX8_paper 12 = .ok (.aload_n 0, 1) := dk_42_ (show cX8_paper.data.toList[12]? = some 0x2a from (LBX8_paperr_0 12).trans (by decide +kernel))
theorem dX8_paper_13 : decode cX8_paper 13 = .ok (.ldc 95, 2) := dk_18_ (show cX8_paper.data.toList[13]? = some 0x12 from (LBX8_paperr_0 13).trans (by decide +kernel)) (show cX8_paper.data.toList[14]? = some 0x5f from (LBX8_paperr_0 14).trans (by decide +kernel)) (by decide)
theorem dX8_paper_15 : decode cX8_paper 15 = .ok (.invokevirtual 80, 3) := dk_182_ (show cX8_paper.data.toList[15]? = some 0xb6 from (LBX8_paperr_0 15).trans (by decide +kernel)) (show cX8_paper.data.toList[16]? = some 0x00 from (LBX8_paperr_1 0).trans (by decide +kernel)) (show cX8_paper.data.toList[17]? = some 0x50 from (LBX8_paperr_1 1).trans (by decide +kernel)) (by decide)
theorem dX8_paper_18 : decode cX8_paper 18 = .ok (.ireturn, 1) := dk_172_ (show cX8_paper.data.toList[18]? = some 0xac from (LBX8_paperr_1 2).trans (by decide +kernel))
theorem dX8_paper_19 : decode cX8_paper 19 = .ok (.aload_n 0, 1) := dk_42_ (show cX8_paper.data.toList[19]? = some 0x2a from (LBX8_paperr_1 3).trans (by decide +kernel))
theorem dX8_paper_20 : decode cX8_paper 20 = .ok (.getfield 12, 3) := dk_180_ (show cX8_paper.data.toList[20]? = some 0xb4 from (LBX8_paperr_1 4).trans (by decide +kernel)) (show cX8_paper.data.toList[21]? = some 0x00 from (LBX8_paperr_1 5).trans (by decide +kernel)) (show cX8_paper.data.toList[22]? = some 0x0c from (LBX8_paperr_1 6).trans (by decide +kernel)) (by decide)
theorem dX8_paper_23 : decode cX8_paper 23 = .ok (.iload_n 1, 1) := dk_27_ (show cX8_paper.data.toList[23]? = some 0x1b from (LBX8_paperr_1 7).trans (by decide +kernel))
theorem dX8_paper_24 : decode cX8_paper 24 = .ok (.iload_n 2, 1) := dk_28_ (show cX8_paper.data.toList[24]? = some 0x1c from (LBX8_paperr_1 8).trans (by decide +kernel))
theorem dX8_paper_25 : decode cX8_paper 25 = .ok (.invokevirtual 219, 3) := dk_182_ (show cX8_paper.data.toList[25]? = some 0xb6 from (LBX8_paperr_1 9).trans (by decide +kernel)) (show cX8_paper.data.toList[26]? = some 0x00 from (LBX8_paperr_1 10).trans (by decide +kernel)) (show cX8_paper.data.toList[27]? = some 0xdb from (LBX8_paperr_1 11).trans (by decide +kernel)) (by decide)
theorem dX8_paper_28 : decode cX8_paper 28 = .ok (.ifCond .ne 10, 3) := dk_154_ (show cX8_paper.data.toList[28]? = some 0x9a from (LBX8_paperr_1 12).trans (by decide +kernel)) (show cX8_paper.data.toList[29]? = some 0x00 from (LBX8_paperr_1 13).trans (by decide +kernel)) (show cX8_paper.data.toList[30]? = some 0x0a from (LBX8_paperr_1 14).trans (by decide +kernel)) (by decide)
theorem dX8_paper_31 : decode cX8_paper 31 = .ok (.aload_n 0, 1) := dk_42_ (show cX8_paper.data.toList[31]? = some 0x2a from (LBX8_paperr_1 15).trans (by decide +kernel))
theorem dX8_paper_32 : decode cX8_paper 32 = .ok (.ldc 113, 2) := dk_18_ (show cX8_paper.data.toList[32]? = some 0x12 from (LBX8_paperr_2 0).trans (by decide +kernel)) (show cX8_paper.data.toList[33]? = some 0x71 from (LBX8_paperr_2 1).trans (by decide +kernel)) (by decide)
theorem dX8_paper_34 : decode cX8_paper 34 = .ok (.invokevirtual 80, 3) := dk_182_ (show cX8_paper.data.toList[34]? = some 0xb6 from (LBX8_paperr_2 2).trans (by decide +kernel)) (show cX8_paper.data.toList[35]? = some 0x00 from (LBX8_paperr_2 3).trans (by decide +kernel)) (show cX8_paper.data.toList[36]? = some 0x50 from (LBX8_paperr_2 4).trans (by decide +kernel)) (by decide)
theorem dX8_paper_37 : decode cX8_paper 37 = .ok (.ireturn, 1) := dk_172_ (show cX8_paper.data.toList[37]? = some 0xac from (LBX8_paperr_2 5).trans (by decide +kernel))
theorem dX8_paper_38 : decode cX8_paper 38 = .ok (.aload_n 0, 1) := dk_42_ (show cX8_paper.data.toList[38]? = some 0x2a from (LBX8_paperr_2 6).trans (by decide +kernel))
theorem dX8_paper_39 : decode cX8_paper 39 = .ok (.getfield 12, 3) := dk_180_ (show cX8_paper.data.toList[39]? = some 0xb4 from (LBX8_paperr_2 7).trans (by decide +kernel)) (show cX8_paper.data.toList[40]? = some 0x00 from (LBX8_paperr_2 8).trans (by decide +kernel)) (show cX8_paper.data.toList[41]? = some 0x0c from (LBX8_paperr_2 9).trans (by decide +kernel)) (by decide)
theorem dX8_paper_42 : decode cX8_paper 42 = .ok (.iload_n 1, 1) := dk_27_ (show cX8_paper.data.toList[42]? = some 0x1b from (LBX8_paperr_2 10).trans (by decide +kernel))
theorem dX8_paper_43 : decode cX8_paper 43 = .ok (.iload_n 2, 1) := dk_28_ (show cX8_paper.data.toList[43]? = some 0x1c from (LBX8_paperr_2 11).trans (by decide +kernel))
theorem dX8_paper_44 : decode cX8_paper 44 = .ok (.invokestatic 222, 3) := dk_184_ (show cX8_paper.data.toList[44]? = some 0xb8 from (LBX8_paperr_2 12).trans (by decide +kernel)) (show cX8_paper.data.toList[45]? = some 0x00 from (LBX8_paperr_2 13).trans (by decide +kernel)) (show cX8_paper.data.toList[46]? = some 0xde from (LBX8_paperr_2 14).trans (by decide +kernel)) (by decide)
theorem dX8_paper_47 : decode cX8_paper 47 = .ok (.ireturn, 1) := dk_172_ (show cX8_paper.data.toList[47]? = some 0xac from (LBX8_paperr_2 15).trans (by decide +kernel))
def LRX8_worst_2 : List UInt8 := []
def LBX8_worst_1 : List UInt8 := [0x00, 0x50, 0xa7, 0x00, 0x04, 0x1b, 0xac]
def LRX8_worst_1 : List UInt8 := LBX8_worst_1 ++ LRX8_worst_2
def LBX8_worst_0 : List UInt8 := [0x2a, 0xb4, 0x00, 0x0c, 0xb8, 0x00, 0xe2, 0x3c, 0x1b, 0x9c, 0x00, 0x0c, 0x2a, 0x12, 0x71, 0xb6]
def LRX8_worst_0 : List UInt8 := LBX8_worst_0 ++ LRX8_worst_1
set_option maxRecDepth 100000 in
theorem LBX8_worst_eq : cX8_worst.data.toList = LRX8_worst_0 := by decide +kernel
theorem LBX8_worstr_0 (k : Nat) : cX8_worst.data.toList[0 + k]? = LRX8_worst_0[k]? := by rw [LBX8_worst_eq, Nat.zero_add]
theorem LBX8_worstr_1 (k : Nat) : cX8_worst.data.toList[16 + k]? = LRX8_worst_1[k]? := by
  have h := LBX8_worstr_0 (16 + k)
  rw [show 0 + (16 + k) = 16 + k by omega] at h
  rw [h]
  exact (List.getElem?_append_right (l₁ := LBX8_worst_0) (l₂ := LRX8_worst_1) (show 16 ≤ 16 + k by omega)).trans (congrArg (fun i => LRX8_worst_1[i]?) (show 16 + k - 16 = k by omega))
theorem dX8_worst_0 : decode cX8_worst 0 = .ok (.aload_n 0, 1) := dk_42_ (show cX8_worst.data.toList[0]? = some 0x2a from (LBX8_worstr_0 0).trans (by decide +kernel))
theorem dX8_worst_1 : decode cX8_worst 1 = .ok (.getfield 12, 3) := dk_180_ (show cX8_worst.data.toList[1]? = some 0xb4 from (LBX8_worstr_0 1).trans (by decide +kernel)) (show cX8_worst.data.toList[2]? = some 0x00 from (LBX8_worstr_0 2).trans (by decide +kernel)) (show cX8_worst.data.toList[3]? = some 0x0c from (LBX8_worstr_0 3).trans (by decide +kernel)) (by decide)
theorem dX8_worst_4 : decode cX8_worst 4 = .ok (.invokestatic 226, 3) := dk_184_ (show cX8_worst.data.toList[4]? = some 0xb8 from (LBX8_worstr_0 4).trans (by decide +kernel)) (show cX8_worst.data.toList[5]? = some 0x00 from (LBX8_worstr_0 5).trans (by decide +kernel)) (show cX8_worst.data.toList[6]? = some 0xe2 from (LBX8_worstr_0 6).trans (by decide +kernel)) (by decide)
theorem dX8_worst_7 : decode cX8_worst 7 = .ok (.istore_n 1, 1) := dk_60_ (show cX8_worst.data.toList[7]? = some 0x3c from (LBX8_worstr_0 7).trans (by decide +kernel))
theorem dX8_worst_8 : decode cX8_worst 8 = .ok (.iload_n 1, 1) := dk_27_ (show cX8_worst.data.toList[8]? = some 0x1b from (LBX8_worstr_0 8).trans (by decide +kernel))
theorem dX8_worst_9 : decode cX8_worst 9 = .ok (.ifCond .ge 12, 3) := dk_156_ (show cX8_worst.data.toList[9]? = some 0x9c from (LBX8_worstr_0 9).trans (by decide +kernel)) (show cX8_worst.data.toList[10]? = some 0x00 from (LBX8_worstr_0 10).trans (by decide +kernel)) (show cX8_worst.data.toList[11]? = some 0x0c from (LBX8_worstr_0 11).trans (by decide +kernel)) (by decide)
theorem dX8_worst_12 : decode cX8_worst 12 = .ok (.aload_n 0, 1) := dk_42_ (show cX8_worst.data.toList[12]? = some 0x2a from (LBX8_worstr_0 12).trans (by decide +kernel))
theorem dX8_worst_13 : decode cX8_worst 13 = .ok (.ldc 113, 2) := dk_18_ (show cX8_worst.data.toList[13]? = some 0x12 from (LBX8_worstr_0 13).trans (by decide +kernel)) (show cX8_worst.data.toList[14]? = some 0x71 from (LBX8_worstr_0 14).trans (by decide +kernel)) (by decide)
theorem dX8_worst_15 : decode cX8_worst 15 = .ok (.invokevirtual 80, 3) := dk_182_ (show cX8_worst.data.toList[15]? = some 0xb6 from (LBX8_worstr_0 15).trans (by decide +kernel)) (show cX8_worst.data.toList[16]? = some 0x00 from (LBX8_worstr_1 0).trans (by decide +kernel)) (show cX8_worst.data.toList[17]? = some 0x50 from (LBX8_worstr_1 1).trans (by decide +kernel)) (by decide)
theorem dX8_worst_18 : decode cX8_worst 18 = .ok (.goto 4, 3) := dk_167_ (show cX8_worst.data.toList[18]? = some 0xa7 from (LBX8_worstr_1 2).trans (by decide +kernel)) (show cX8_worst.data.toList[19]? = some 0x00 from (LBX8_worstr_1 3).trans (by decide +kernel)) (show cX8_worst.data.toList[20]? = some 0x04 from (LBX8_worstr_1 4).trans (by decide +kernel)) (by decide)
theorem dX8_worst_21 : decode cX8_worst 21 = .ok (.iload_n 1, 1) := dk_27_ (show cX8_worst.data.toList[21]? = some 0x1b from (LBX8_worstr_1 5).trans (by decide +kernel))
theorem dX8_worst_22 : decode cX8_worst 22 = .ok (.ireturn, 1) := dk_172_ (show cX8_worst.data.toList[22]? = some 0xac from (LBX8_worstr_1 6).trans (by decide +kernel))
def LRX8_walk_6 : List UInt8 := []
def LBX8_walk_5 : List UInt8 := [0xb4, 0x00, 0xe5, 0x15, 0x05, 0x1c, 0xb6, 0x00, 0xb1, 0x57, 0x15, 0x05, 0xac]
def LRX8_walk_5 : List UInt8 := LBX8_walk_5 ++ LRX8_walk_6
def LBX8_walk_4 : List UInt8 := [0xb4, 0x00, 0x0c, 0x1b, 0x1d, 0x15, 0x04, 0xb6, 0x00, 0xe8, 0x36, 0x05, 0x2a, 0xb4, 0x00, 0x0c]
def LRX8_walk_4 : List UInt8 := LBX8_walk_4 ++ LRX8_walk_5
def LBX8_walk_3 : List UInt8 := [0x00, 0xe5, 0xb6, 0x00, 0xa3, 0x99, 0x00, 0x0a, 0x2a, 0x12, 0x4f, 0xb6, 0x00, 0x50, 0xac, 0x2a]
def LRX8_walk_3 : List UInt8 := LBX8_walk_3 ++ LRX8_walk_4
def LBX8_walk_2 : List UInt8 := [0x5b, 0x9a, 0x00, 0x0a, 0x2a, 0x12, 0x5f, 0xb6, 0x00, 0x50, 0xac, 0x2a, 0xb4, 0x00, 0x0c, 0xb4]
def LRX8_walk_2 : List UInt8 := LBX8_walk_2 ++ LRX8_walk_3
def LBX8_walk_1 : List UInt8 := [0x11, 0x27, 0x0f, 0xb8, 0x00, 0x5b, 0x99, 0x00, 0x0e, 0x15, 0x04, 0x03, 0x10, 0x63, 0xb8, 0x00]
def LRX8_walk_1 : List UInt8 := LBX8_walk_1 ++ LRX8_walk_2
def LBX8_walk_0 : List UInt8 := [0x2a, 0xb4, 0x00, 0x0c, 0x1b, 0x1c, 0xb6, 0x00, 0x63, 0x99, 0x00, 0x1b, 0x1d, 0x11, 0xd8, 0xf1]
def LRX8_walk_0 : List UInt8 := LBX8_walk_0 ++ LRX8_walk_1
set_option maxRecDepth 100000 in
theorem LBX8_walk_eq : cX8_walk.data.toList = LRX8_walk_0 := by decide +kernel
theorem LBX8_walkr_0 (k : Nat) : cX8_walk.data.toList[0 + k]? = LRX8_walk_0[k]? := by rw [LBX8_walk_eq, Nat.zero_add]
theorem LBX8_walkr_1 (k : Nat) : cX8_walk.data.toList[16 + k]? = LRX8_walk_1[k]? := by
  have h := LBX8_walkr_0 (16 + k)
  rw [show 0 + (16 + k) = 16 + k by omega] at h
  rw [h]
  exact (List.getElem?_append_right (l₁ := LBX8_walk_0) (l₂ := LRX8_walk_1) (show 16 ≤ 16 + k by omega)).trans (congrArg (fun i => LRX8_walk_1[i]?) (show 16 + k - 16 = k by omega))
theorem LBX8_walkr_2 (k : Nat) : cX8_walk.data.toList[32 + k]? = LRX8_walk_2[k]? := by
  have h := LBX8_walkr_1 (16 + k)
  rw [show 16 + (16 + k) = 32 + k by omega] at h
  rw [h]
  exact (List.getElem?_append_right (l₁ := LBX8_walk_1) (l₂ := LRX8_walk_2) (show 16 ≤ 16 + k by omega)).trans (congrArg (fun i => LRX8_walk_2[i]?) (show 16 + k - 16 = k by omega))
theorem LBX8_walkr_3 (k : Nat) : cX8_walk.data.toList[48 + k]? = LRX8_walk_3[k]? := by
  have h := LBX8_walkr_2 (16 + k)
  rw [show 32 + (16 + k) = 48 + k by omega] at h
  rw [h]
  exact (List.getElem?_append_right (l₁ := LBX8_walk_2) (l₂ := LRX8_walk_3) (show 16 ≤ 16 + k by omega)).trans (congrArg (fun i => LRX8_walk_3[i]?) (show 16 + k - 16 = k by omega))
theorem LBX8_walkr_4 (k : Nat) : cX8_walk.data.toList[64 + k]? = LRX8_walk_4[k]? := by
  have h := LBX8_walkr_3 (16 + k)
  rw [show 48 + (16 + k) = 64 + k by omega] at h
  rw [h]
  exact (List.getElem?_append_right (l₁ := LBX8_walk_3) (l₂ := LRX8_walk_4) (show 16 ≤ 16 + k by omega)).trans (congrArg (fun i => LRX8_walk_4[i]?) (show 16 + k - 16 = k by omega))
theorem LBX8_walkr_5 (k : Nat) : cX8_walk.data.toList[80 + k]? = LRX8_walk_5[k]? := by
  have h := LBX8_walkr_4 (16 + k)
  rw [show 64 + (16 + k) = 80 + k by omega] at h
  rw [h]
  exact (List.getElem?_append_right (l₁ := LBX8_walk_4) (l₂ := LRX8_walk_5) (show 16 ≤ 16 + k by omega)).trans (congrArg (fun i => LRX8_walk_5[i]?) (show 16 + k - 16 = k by omega))
theorem dX8_walk_0 : decode cX8_walk 0 = .ok (.aload_n 0, 1) := dk_42_ (show cX8_walk.data.toList[0]? = some 0x2a from (LBX8_walkr_0 0).trans (by decide +kernel))
theorem dX8_walk_1 : decode cX8_walk 1 = .ok (.getfield 12, 3) := dk_180_ (show cX8_walk.data.toList[1]? = some 0xb4 from (LBX8_walkr_0 1).trans (by decide +kernel)) (show cX8_walk.data.toList[2]? = some 0x00 from (LBX8_walkr_0 2).trans (by decide +kernel)) (show cX8_walk.data.toList[3]? = some 0x0c from (LBX8_walkr_0 3).trans (by decide +kernel)) (by decide)
theorem dX8_walk_4 : decode cX8_walk 4 = .ok (.iload_n 1, 1) := dk_27_ (show cX8_walk.data.toList[4]? = some 0x1b from (LBX8_walkr_0 4).trans (by decide +kernel))
theorem dX8_walk_5 : decode cX8_walk 5 = .ok (.iload_n 2, 1) := dk_28_ (show cX8_walk.data.toList[5]? = some 0x1c from (LBX8_walkr_0 5).trans (by decide +kernel))
theorem dX8_walk_6 : decode cX8_walk 6 = .ok (.invokevirtual 99, 3) := dk_182_ (show cX8_walk.data.toList[6]? = some 0xb6 from (LBX8_walkr_0 6).trans (by decide +kernel)) (show cX8_walk.data.toList[7]? = some 0x00 from (LBX8_walkr_0 7).trans (by decide +kernel)) (show cX8_walk.data.toList[8]? = some 0x63 from (LBX8_walkr_0 8).trans (by decide +kernel)) (by decide)
theorem dX8_walk_9 : decode cX8_walk 9 = .ok (.ifCond .eq 27, 3) := dk_153_ (show cX8_walk.data.toList[9]? = some 0x99 from (LBX8_walkr_0 9).trans (by decide +kernel)) (show cX8_walk.data.toList[10]? = some 0x00 from (LBX8_walkr_0 10).trans (by decide +kernel)) (show cX8_walk.data.toList[11]? = some 0x1b from (LBX8_walkr_0 11).trans (by decide +kernel)) (by decide)
theorem dX8_walk_12 : decode cX8_walk 12 = .ok (.iload_n 3, 1) := dk_29_ (show cX8_walk.data.toList[12]? = some 0x1d from (LBX8_walkr_0 12).trans (by decide +kernel))
theorem dX8_walk_13 : decode cX8_walk 13 = .ok (.sipush (-9999), 3) := dk_17_ (show cX8_walk.data.toList[13]? = some 0x11 from (LBX8_walkr_0 13).trans (by decide +kernel)) (show cX8_walk.data.toList[14]? = some 0xd8 from (LBX8_walkr_0 14).trans (by decide +kernel)) (show cX8_walk.data.toList[15]? = some 0xf1 from (LBX8_walkr_0 15).trans (by decide +kernel)) (by decide)
theorem dX8_walk_16 : decode cX8_walk 16 = .ok (.sipush 9999, 3) := dk_17_ (show cX8_walk.data.toList[16]? = some 0x11 from (LBX8_walkr_1 0).trans (by decide +kernel)) (show cX8_walk.data.toList[17]? = some 0x27 from (LBX8_walkr_1 1).trans (by decide +kernel)) (show cX8_walk.data.toList[18]? = some 0x0f from (LBX8_walkr_1 2).trans (by decide +kernel)) (by decide)
theorem dX8_walk_19 : decode cX8_walk 19 = .ok (.invokestatic 91, 3) := dk_184_ (show cX8_walk.data.toList[19]? = some 0xb8 from (LBX8_walkr_1 3).trans (by decide +kernel)) (show cX8_walk.data.toList[20]? = some 0x00 from (LBX8_walkr_1 4).trans (by decide +kernel)) (show cX8_walk.data.toList[21]? = some 0x5b from (LBX8_walkr_1 5).trans (by decide +kernel)) (by decide)
theorem dX8_walk_22 : decode cX8_walk 22 = .ok (.ifCond .eq 14, 3) := dk_153_ (show cX8_walk.data.toList[22]? = some 0x99 from (LBX8_walkr_1 6).trans (by decide +kernel)) (show cX8_walk.data.toList[23]? = some 0x00 from (LBX8_walkr_1 7).trans (by decide +kernel)) (show cX8_walk.data.toList[24]? = some 0x0e from (LBX8_walkr_1 8).trans (by decide +kernel)) (by decide)
theorem dX8_walk_25 : decode cX8_walk 25 = .ok (.iload 4, 2) := dk_21_ (show cX8_walk.data.toList[25]? = some 0x15 from (LBX8_walkr_1 9).trans (by decide +kernel)) (show cX8_walk.data.toList[26]? = some 0x04 from (LBX8_walkr_1 10).trans (by decide +kernel)) (by decide)
theorem dX8_walk_27 : decode cX8_walk 27 = .ok (.iconst 0, 1) := dk_3_ (show cX8_walk.data.toList[27]? = some 0x03 from (LBX8_walkr_1 11).trans (by decide +kernel))
theorem dX8_walk_28 : decode cX8_walk 28 = .ok (.bipush 99, 2) := dk_16_ (show cX8_walk.data.toList[28]? = some 0x10 from (LBX8_walkr_1 12).trans (by decide +kernel)) (show cX8_walk.data.toList[29]? = some 0x63 from (LBX8_walkr_1 13).trans (by decide +kernel)) (by decide)
theorem dX8_walk_30 : decode cX8_walk 30 = .ok (.invokestatic 91, 3) := dk_184_ (show cX8_walk.data.toList[30]? = some 0xb8 from (LBX8_walkr_1 14).trans (by decide +kernel)) (show cX8_walk.data.toList[31]? = some 0x00 from (LBX8_walkr_1 15).trans (by decide +kernel)) (show cX8_walk.data.toList[32]? = some 0x5b from (LBX8_walkr_2 0).trans (by decide +kernel)) (by decide)
theorem dX8_walk_33 : decode cX8_walk 33 = .ok (.ifCond .ne 10, 3) := dk_154_ (show cX8_walk.data.toList[33]? = some 0x9a from (LBX8_walkr_2 1).trans (by decide +kernel)) (show cX8_walk.data.toList[34]? = some 0x00 from (LBX8_walkr_2 2).trans (by decide +kernel)) (show cX8_walk.data.toList[35]? = some 0x0a from (LBX8_walkr_2 3).trans (by decide +kernel)) (by decide)
theorem dX8_walk_36 : decode cX8_walk 36 = .ok (.aload_n 0, 1) := dk_42_ (show cX8_walk.data.toList[36]? = some 0x2a from (LBX8_walkr_2 4).trans (by decide +kernel))
theorem dX8_walk_37 : decode cX8_walk 37 = .ok (.ldc 95, 2) := dk_18_ (show cX8_walk.data.toList[37]? = some 0x12 from (LBX8_walkr_2 5).trans (by decide +kernel)) (show cX8_walk.data.toList[38]? = some 0x5f from (LBX8_walkr_2 6).trans (by decide +kernel)) (by decide)
theorem dX8_walk_39 : decode cX8_walk 39 = .ok (.invokevirtual 80, 3) := dk_182_ (show cX8_walk.data.toList[39]? = some 0xb6 from (LBX8_walkr_2 7).trans (by decide +kernel)) (show cX8_walk.data.toList[40]? = some 0x00 from (LBX8_walkr_2 8).trans (by decide +kernel)) (show cX8_walk.data.toList[41]? = some 0x50 from (LBX8_walkr_2 9).trans (by decide +kernel)) (by decide)
theorem dX8_walk_42 : decode cX8_walk 42 = .ok (.ireturn, 1) := dk_172_ (show cX8_walk.data.toList[42]? = some 0xac from (LBX8_walkr_2 10).trans (by decide +kernel))
theorem dX8_walk_43 : decode cX8_walk 43 = .ok (.aload_n 0, 1) := dk_42_ (show cX8_walk.data.toList[43]? = some 0x2a from (LBX8_walkr_2 11).trans (by decide +kernel))
theorem dX8_walk_44 : decode cX8_walk 44 = .ok (.getfield 12, 3) := dk_180_ (show cX8_walk.data.toList[44]? = some 0xb4 from (LBX8_walkr_2 12).trans (by decide +kernel)) (show cX8_walk.data.toList[45]? = some 0x00 from (LBX8_walkr_2 13).trans (by decide +kernel)) (show cX8_walk.data.toList[46]? = some 0x0c from (LBX8_walkr_2 14).trans (by decide +kernel)) (by decide)
theorem dX8_walk_47 : decode cX8_walk 47 = .ok (.getfield 229, 3) := dk_180_ (show cX8_walk.data.toList[47]? = some 0xb4 from (LBX8_walkr_2 15).trans (by decide +kernel)) (show cX8_walk.data.toList[48]? = some 0x00 from (LBX8_walkr_3 0).trans (by decide +kernel)) (show cX8_walk.data.toList[49]? = some 0xe5 from (LBX8_walkr_3 1).trans (by decide +kernel)) (by decide)
theorem dX8_walk_50 : decode cX8_walk 50 = .ok (.invokevirtual 163, 3) := dk_182_ (show cX8_walk.data.toList[50]? = some 0xb6 from (LBX8_walkr_3 2).trans (by decide +kernel)) (show cX8_walk.data.toList[51]? = some 0x00 from (LBX8_walkr_3 3).trans (by decide +kernel)) (show cX8_walk.data.toList[52]? = some 0xa3 from (LBX8_walkr_3 4).trans (by decide +kernel)) (by decide)
theorem dX8_walk_53 : decode cX8_walk 53 = .ok (.ifCond .eq 10, 3) := dk_153_ (show cX8_walk.data.toList[53]? = some 0x99 from (LBX8_walkr_3 5).trans (by decide +kernel)) (show cX8_walk.data.toList[54]? = some 0x00 from (LBX8_walkr_3 6).trans (by decide +kernel)) (show cX8_walk.data.toList[55]? = some 0x0a from (LBX8_walkr_3 7).trans (by decide +kernel)) (by decide)
theorem dX8_walk_56 : decode cX8_walk 56 = .ok (.aload_n 0, 1) := dk_42_ (show cX8_walk.data.toList[56]? = some 0x2a from (LBX8_walkr_3 8).trans (by decide +kernel))
theorem dX8_walk_57 : decode cX8_walk 57 = .ok (.ldc 79, 2) := dk_18_ (show cX8_walk.data.toList[57]? = some 0x12 from (LBX8_walkr_3 9).trans (by decide +kernel)) (show cX8_walk.data.toList[58]? = some 0x4f from (LBX8_walkr_3 10).trans (by decide +kernel)) (by decide)
theorem dX8_walk_59 : decode cX8_walk 59 = .ok (.invokevirtual 80, 3) := dk_182_ (show cX8_walk.data.toList[59]? = some 0xb6 from (LBX8_walkr_3 11).trans (by decide +kernel)) (show cX8_walk.data.toList[60]? = some 0x00 from (LBX8_walkr_3 12).trans (by decide +kernel)) (show cX8_walk.data.toList[61]? = some 0x50 from (LBX8_walkr_3 13).trans (by decide +kernel)) (by decide)
theorem dX8_walk_62 : decode cX8_walk 62 = .ok (.ireturn, 1) := dk_172_ (show cX8_walk.data.toList[62]? = some 0xac from (LBX8_walkr_3 14).trans (by decide +kernel))
theorem dX8_walk_63 : decode cX8_walk 63 = .ok (.aload_n 0, 1) := dk_42_ (show cX8_walk.data.toList[63]? = some 0x2a from (LBX8_walkr_3 15).trans (by decide +kernel))
theorem dX8_walk_64 : decode cX8_walk 64 = .ok (.getfield 12, 3) := dk_180_ (show cX8_walk.data.toList[64]? = some 0xb4 from (LBX8_walkr_4 0).trans (by decide +kernel)) (show cX8_walk.data.toList[65]? = some 0x00 from (LBX8_walkr_4 1).trans (by decide +kernel)) (show cX8_walk.data.toList[66]? = some 0x0c from (LBX8_walkr_4 2).trans (by decide +kernel)) (by decide)
theorem dX8_walk_67 : decode cX8_walk 67 = .ok (.iload_n 1, 1) := dk_27_ (show cX8_walk.data.toList[67]? = some 0x1b from (LBX8_walkr_4 3).trans (by decide +kernel))
theorem dX8_walk_68 : decode cX8_walk 68 = .ok (.iload_n 3, 1) := dk_29_ (show cX8_walk.data.toList[68]? = some 0x1d from (LBX8_walkr_4 4).trans (by decide +kernel))
theorem dX8_walk_69 : decode cX8_walk 69 = .ok (.iload 4, 2) := dk_21_ (show cX8_walk.data.toList[69]? = some 0x15 from (LBX8_walkr_4 5).trans (by decide +kernel)) (show cX8_walk.data.toList[70]? = some 0x04 from (LBX8_walkr_4 6).trans (by decide +kernel)) (by decide)
theorem dX8_walk_71 : decode cX8_walk 71 = .ok (.invokevirtual 232, 3) := dk_182_ (show cX8_walk.data.toList[71]? = some 0xb6 from (LBX8_walkr_4 7).trans (by decide +kernel)) (show cX8_walk.data.toList[72]? = some 0x00 from (LBX8_walkr_4 8).trans (by decide +kernel)) (show cX8_walk.data.toList[73]? = some 0xe8 from (LBX8_walkr_4 9).trans (by decide +kernel)) (by decide)
theorem dX8_walk_74 : decode cX8_walk 74 = .ok (.istore 5, 2) := dk_54_ (show cX8_walk.data.toList[74]? = some 0x36 from (LBX8_walkr_4 10).trans (by decide +kernel)) (show cX8_walk.data.toList[75]? = some 0x05 from (LBX8_walkr_4 11).trans (by decide +kernel)) (by decide)
theorem dX8_walk_76 : decode cX8_walk 76 = .ok (.aload_n 0, 1) := dk_42_ (show cX8_walk.data.toList[76]? = some 0x2a from (LBX8_walkr_4 12).trans (by decide +kernel))
theorem dX8_walk_77 : decode cX8_walk 77 = .ok (.getfield 12, 3) := dk_180_ (show cX8_walk.data.toList[77]? = some 0xb4 from (LBX8_walkr_4 13).trans (by decide +kernel)) (show cX8_walk.data.toList[78]? = some 0x00 from (LBX8_walkr_4 14).trans (by decide +kernel)) (show cX8_walk.data.toList[79]? = some 0x0c from (LBX8_walkr_4 15).trans (by decide +kernel)) (by decide)
theorem dX8_walk_80 : decode cX8_walk 80 = .ok (.getfield 229, 3) := dk_180_ (show cX8_walk.data.toList[80]? = some 0xb4 from (LBX8_walkr_5 0).trans (by decide +kernel)) (show cX8_walk.data.toList[81]? = some 0x00 from (LBX8_walkr_5 1).trans (by decide +kernel)) (show cX8_walk.data.toList[82]? = some 0xe5 from (LBX8_walkr_5 2).trans (by decide +kernel)) (by decide)
theorem dX8_walk_83 : decode cX8_walk 83 = .ok (.iload 5, 2) := dk_21_ (show cX8_walk.data.toList[83]? = some 0x15 from (LBX8_walkr_5 3).trans (by decide +kernel)) (show cX8_walk.data.toList[84]? = some 0x05 from (LBX8_walkr_5 4).trans (by decide +kernel)) (by decide)
theorem dX8_walk_85 : decode cX8_walk 85 = .ok (.iload_n 2, 1) := dk_28_ (show cX8_walk.data.toList[85]? = some 0x1c from (LBX8_walkr_5 5).trans (by decide +kernel))
theorem dX8_walk_86 : decode cX8_walk 86 = .ok (.invokevirtual 177, 3) := dk_182_ (show cX8_walk.data.toList[86]? = some 0xb6 from (LBX8_walkr_5 6).trans (by decide +kernel)) (show cX8_walk.data.toList[87]? = some 0x00 from (LBX8_walkr_5 7).trans (by decide +kernel)) (show cX8_walk.data.toList[88]? = some 0xb1 from (LBX8_walkr_5 8).trans (by decide +kernel)) (by decide)
theorem dX8_walk_89 : decode cX8_walk 89 = .ok (.pop, 1) := dk_87_ (show cX8_walk.data.toList[89]? = some 0x57 from (LBX8_walkr_5 9).trans (by decide +kernel))
theorem dX8_walk_90 : decode cX8_walk 90 = .ok (.iload 5, 2) := dk_21_ (show cX8_walk.data.toList[90]? = some 0x15 from (LBX8_walkr_5 10).trans (by decide +kernel)) (show cX8_walk.data.toList[91]? = some 0x05 from (LBX8_walkr_5 11).trans (by decide +kernel)) (by decide)
theorem dX8_walk_92 : decode cX8_walk 92 = .ok (.ireturn, 1) := dk_172_ (show cX8_walk.data.toList[92]? = some 0xac from (LBX8_walkr_5 12).trans (by decide +kernel))
def LRX8_on_6 : List UInt8 := []
def LBX8_on_5 : List UInt8 := [0xb1, 0xac]
def LRX8_on_5 : List UInt8 := LBX8_on_5 ++ LRX8_on_6
def LBX8_on_4 : List UInt8 := [0x4f, 0xb6, 0x00, 0x50, 0xac, 0x2a, 0xb4, 0x00, 0x0c, 0xb4, 0x00, 0xe5, 0x1b, 0x1c, 0xb6, 0x00]
def LRX8_on_4 : List UInt8 := LBX8_on_4 ++ LRX8_on_5
def LBX8_on_3 : List UInt8 := [0x2a, 0xb4, 0x00, 0x0c, 0xb4, 0x00, 0xe5, 0x1b, 0xb6, 0x00, 0xae, 0x99, 0x00, 0x0a, 0x2a, 0x12]
def LRX8_on_3 : List UInt8 := LBX8_on_3 ++ LRX8_on_4
def LBX8_on_2 : List UInt8 := [0xe5, 0x1b, 0xb6, 0x00, 0xeb, 0x1c, 0xa0, 0x00, 0x0a, 0x2a, 0x12, 0x5f, 0xb6, 0x00, 0x50, 0xac]
def LRX8_on_2 : List UInt8 := LBX8_on_2 ++ LRX8_on_3
def LBX8_on_1 : List UInt8 := [0x00, 0x0c, 0x1c, 0x85, 0xb6, 0x00, 0x57, 0x99, 0x00, 0x12, 0x2a, 0xb4, 0x00, 0x0c, 0xb4, 0x00]
def LRX8_on_1 : List UInt8 := LBX8_on_1 ++ LRX8_on_2
def LBX8_on_0 : List UInt8 := [0x2a, 0xb4, 0x00, 0x0c, 0xb4, 0x00, 0xe5, 0x1b, 0xb6, 0x00, 0xab, 0x99, 0x00, 0x1e, 0x2a, 0xb4]
def LRX8_on_0 : List UInt8 := LBX8_on_0 ++ LRX8_on_1
set_option maxRecDepth 100000 in
theorem LBX8_on_eq : cX8_on.data.toList = LRX8_on_0 := by decide +kernel
theorem LBX8_onr_0 (k : Nat) : cX8_on.data.toList[0 + k]? = LRX8_on_0[k]? := by rw [LBX8_on_eq, Nat.zero_add]
theorem LBX8_onr_1 (k : Nat) : cX8_on.data.toList[16 + k]? = LRX8_on_1[k]? := by
  have h := LBX8_onr_0 (16 + k)
  rw [show 0 + (16 + k) = 16 + k by omega] at h
  rw [h]
  exact (List.getElem?_append_right (l₁ := LBX8_on_0) (l₂ := LRX8_on_1) (show 16 ≤ 16 + k by omega)).trans (congrArg (fun i => LRX8_on_1[i]?) (show 16 + k - 16 = k by omega))
theorem LBX8_onr_2 (k : Nat) : cX8_on.data.toList[32 + k]? = LRX8_on_2[k]? := by
  have h := LBX8_onr_1 (16 + k)
  rw [show 16 + (16 + k) = 32 + k by omega] at h
  rw [h]
  exact (List.getElem?_append_right (l₁ := LBX8_on_1) (l₂ := LRX8_on_2) (show 16 ≤ 16 + k by omega)).trans (congrArg (fun i => LRX8_on_2[i]?) (show 16 + k - 16 = k by omega))
theorem LBX8_onr_3 (k : Nat) : cX8_on.data.toList[48 + k]? = LRX8_on_3[k]? := by
  have h := LBX8_onr_2 (16 + k)
  rw [show 32 + (16 + k) = 48 + k by omega] at h
  rw [h]
  exact (List.getElem?_append_right (l₁ := LBX8_on_2) (l₂ := LRX8_on_3) (show 16 ≤ 16 + k by omega)).trans (congrArg (fun i => LRX8_on_3[i]?) (show 16 + k - 16 = k by omega))
theorem LBX8_onr_4 (k : Nat) : cX8_on.data.toList[64 + k]? = LRX8_on_4[k]? := by
  have h := LBX8_onr_3 (16 + k)
  rw [show 48 + (16 + k) = 64 + k by omega] at h
  rw [h]
  exact (List.getElem?_append_right (l₁ := LBX8_on_3) (l₂ := LRX8_on_4) (show 16 ≤ 16 + k by omega)).trans (congrArg (fun i => LRX8_on_4[i]?) (show 16 + k - 16 = k by omega))
theorem LBX8_onr_5 (k : Nat) : cX8_on.data.toList[80 + k]? = LRX8_on_5[k]? := by
  have h := LBX8_onr_4 (16 + k)
  rw [show 64 + (16 + k) = 80 + k by omega] at h
  rw [h]
  exact (List.getElem?_append_right (l₁ := LBX8_on_4) (l₂ := LRX8_on_5) (show 16 ≤ 16 + k by omega)).trans (congrArg (fun i => LRX8_on_5[i]?) (show 16 + k - 16 = k by omega))
theorem dX8_on_0 : decode cX8_on 0 = .ok (.aload_n 0, 1) := dk_42_ (show cX8_on.data.toList[0]? = some 0x2a from (LBX8_onr_0 0).trans (by decide +kernel))
theorem dX8_on_1 : decode cX8_on 1 = .ok (.getfield 12, 3) := dk_180_ (show cX8_on.data.toList[1]? = some 0xb4 from (LBX8_onr_0 1).trans (by decide +kernel)) (show cX8_on.data.toList[2]? = some 0x00 from (LBX8_onr_0 2).trans (by decide +kernel)) (show cX8_on.data.toList[3]? = some 0x0c from (LBX8_onr_0 3).trans (by decide +kernel)) (by decide)
theorem dX8_on_4 : decode cX8_on 4 = .ok (.getfield 229, 3) := dk_180_ (show cX8_on.data.toList[4]? = some 0xb4 from (LBX8_onr_0 4).trans (by decide +kernel)) (show cX8_on.data.toList[5]? = some 0x00 from (LBX8_onr_0 5).trans (by decide +kernel)) (show cX8_on.data.toList[6]? = some 0xe5 from (LBX8_onr_0 6).trans (by decide +kernel)) (by decide)
theorem dX8_on_7 : decode cX8_on 7 = .ok (.iload_n 1, 1) := dk_27_ (show cX8_on.data.toList[7]? = some 0x1b from (LBX8_onr_0 7).trans (by decide +kernel))
theorem dX8_on_8 : decode cX8_on 8 = .ok (.invokevirtual 171, 3) := dk_182_ (show cX8_on.data.toList[8]? = some 0xb6 from (LBX8_onr_0 8).trans (by decide +kernel)) (show cX8_on.data.toList[9]? = some 0x00 from (LBX8_onr_0 9).trans (by decide +kernel)) (show cX8_on.data.toList[10]? = some 0xab from (LBX8_onr_0 10).trans (by decide +kernel)) (by decide)
theorem dX8_on_11 : decode cX8_on 11 = .ok (.ifCond .eq 30, 3) := dk_153_ (show cX8_on.data.toList[11]? = some 0x99 from (LBX8_onr_0 11).trans (by decide +kernel)) (show cX8_on.data.toList[12]? = some 0x00 from (LBX8_onr_0 12).trans (by decide +kernel)) (show cX8_on.data.toList[13]? = some 0x1e from (LBX8_onr_0 13).trans (by decide +kernel)) (by decide)
theorem dX8_on_14 : decode cX8_on 14 = .ok (.aload_n 0, 1) := dk_42_ (show cX8_on.data.toList[14]? = some 0x2a from (LBX8_onr_0 14).trans (by decide +kernel))
theorem dX8_on_15 : decode cX8_on 15 = .ok (.getfield 12, 3) := dk_180_ (show cX8_on.data.toList[15]? = some 0xb4 from (LBX8_onr_0 15).trans (by decide +kernel)) (show cX8_on.data.toList[16]? = some 0x00 from (LBX8_onr_1 0).trans (by decide +kernel)) (show cX8_on.data.toList[17]? = some 0x0c from (LBX8_onr_1 1).trans (by decide +kernel)) (by decide)
theorem dX8_on_18 : decode cX8_on 18 = .ok (.iload_n 2, 1) := dk_28_ (show cX8_on.data.toList[18]? = some 0x1c from (LBX8_onr_1 2).trans (by decide +kernel))
theorem dX8_on_19 : decode cX8_on 19 = .ok (.i2l, 1) := dk_133_ (show cX8_on.data.toList[19]? = some 0x85 from (LBX8_onr_1 3).trans (by decide +kernel))
theorem dX8_on_20 : decode cX8_on 20 = .ok (.invokevirtual 87, 3) := dk_182_ (show cX8_on.data.toList[20]? = some 0xb6 from (LBX8_onr_1 4).trans (by decide +kernel)) (show cX8_on.data.toList[21]? = some 0x00 from (LBX8_onr_1 5).trans (by decide +kernel)) (show cX8_on.data.toList[22]? = some 0x57 from (LBX8_onr_1 6).trans (by decide +kernel)) (by decide)
theorem dX8_on_23 : decode cX8_on 23 = .ok (.ifCond .eq 18, 3) := dk_153_ (show cX8_on.data.toList[23]? = some 0x99 from (LBX8_onr_1 7).trans (by decide +kernel)) (show cX8_on.data.toList[24]? = some 0x00 from (LBX8_onr_1 8).trans (by decide +kernel)) (show cX8_on.data.toList[25]? = some 0x12 from (LBX8_onr_1 9).trans (by decide +kernel)) (by decide)
theorem dX8_on_26 : decode cX8_on 26 = .ok (.aload_n 0, 1) := dk_42_ (show cX8_on.data.toList[26]? = some 0x2a from (LBX8_onr_1 10).trans (by decide +kernel))
theorem dX8_on_27 : decode cX8_on 27 = .ok (.getfield 12, 3) := dk_180_ (show cX8_on.data.toList[27]? = some 0xb4 from (LBX8_onr_1 11).trans (by decide +kernel)) (show cX8_on.data.toList[28]? = some 0x00 from (LBX8_onr_1 12).trans (by decide +kernel)) (show cX8_on.data.toList[29]? = some 0x0c from (LBX8_onr_1 13).trans (by decide +kernel)) (by decide)
theorem dX8_on_30 : decode cX8_on 30 = .ok (.getfield 229, 3) := dk_180_ (show cX8_on.data.toList[30]? = some 0xb4 from (LBX8_onr_1 14).trans (by decide +kernel)) (show cX8_on.data.toList[31]? = some 0x00 from (LBX8_onr_1 15).trans (by decide +kernel)) (show cX8_on.data.toList[32]? = some 0xe5 from (LBX8_onr_2 0).trans (by decide +kernel)) (by decide)
theorem dX8_on_33 : decode cX8_on 33 = .ok (.iload_n 1, 1) := dk_27_ (show cX8_on.data.toList[33]? = some 0x1b from (LBX8_onr_2 1).trans (by decide +kernel))
theorem dX8_on_34 : decode cX8_on 34 = .ok (.invokevirtual 235, 3) := dk_182_ (show cX8_on.data.toList[34]? = some 0xb6 from (LBX8_onr_2 2).trans (by decide +kernel)) (show cX8_on.data.toList[35]? = some 0x00 from (LBX8_onr_2 3).trans (by decide +kernel)) (show cX8_on.data.toList[36]? = some 0xeb from (LBX8_onr_2 4).trans (by decide +kernel)) (by decide)
theorem dX8_on_37 : decode cX8_on 37 = .ok (.iload_n 2, 1) := dk_28_ (show cX8_on.data.toList[37]? = some 0x1c from (LBX8_onr_2 5).trans (by decide +kernel))
theorem dX8_on_38 : decode cX8_on 38 = .ok (.if_icmp .ne 10, 3) := dk_160_ (show cX8_on.data.toList[38]? = some 0xa0 from (LBX8_onr_2 6).trans (by decide +kernel)) (show cX8_on.data.toList[39]? = some 0x00 from (LBX8_onr_2 7).trans (by decide +kernel)) (show cX8_on.data.toList[40]? = some 0x0a from (LBX8_onr_2 8).trans (by decide +kernel)) (by decide)
theorem dX8_on_41 : decode cX8_on 41 = .ok (.aload_n 0, 1) := dk_42_ (show cX8_on.data.toList[41]? = some 0x2a from (LBX8_onr_2 9).trans (by decide +kernel))
theorem dX8_on_42 : decode cX8_on 42 = .ok (.ldc 95, 2) := dk_18_ (show cX8_on.data.toList[42]? = some 0x12 from (LBX8_onr_2 10).trans (by decide +kernel)) (show cX8_on.data.toList[43]? = some 0x5f from (LBX8_onr_2 11).trans (by decide +kernel)) (by decide)
theorem dX8_on_44 : decode cX8_on 44 = .ok (.invokevirtual 80, 3) := dk_182_ (show cX8_on.data.toList[44]? = some 0xb6 from (LBX8_onr_2 12).trans (by decide +kernel)) (show cX8_on.data.toList[45]? = some 0x00 from (LBX8_onr_2 13).trans (by decide +kernel)) (show cX8_on.data.toList[46]? = some 0x50 from (LBX8_onr_2 14).trans (by decide +kernel)) (by decide)
theorem dX8_on_47 : decode cX8_on 47 = .ok (.ireturn, 1) := dk_172_ (show cX8_on.data.toList[47]? = some 0xac from (LBX8_onr_2 15).trans (by decide +kernel))
theorem dX8_on_48 : decode cX8_on 48 = .ok (.aload_n 0, 1) := dk_42_ (show cX8_on.data.toList[48]? = some 0x2a from (LBX8_onr_3 0).trans (by decide +kernel))
theorem dX8_on_49 : decode cX8_on 49 = .ok (.getfield 12, 3) := dk_180_ (show cX8_on.data.toList[49]? = some 0xb4 from (LBX8_onr_3 1).trans (by decide +kernel)) (show cX8_on.data.toList[50]? = some 0x00 from (LBX8_onr_3 2).trans (by decide +kernel)) (show cX8_on.data.toList[51]? = some 0x0c from (LBX8_onr_3 3).trans (by decide +kernel)) (by decide)
theorem dX8_on_52 : decode cX8_on 52 = .ok (.getfield 229, 3) := dk_180_ (show cX8_on.data.toList[52]? = some 0xb4 from (LBX8_onr_3 4).trans (by decide +kernel)) (show cX8_on.data.toList[53]? = some 0x00 from (LBX8_onr_3 5).trans (by decide +kernel)) (show cX8_on.data.toList[54]? = some 0xe5 from (LBX8_onr_3 6).trans (by decide +kernel)) (by decide)
theorem dX8_on_55 : decode cX8_on 55 = .ok (.iload_n 1, 1) := dk_27_ (show cX8_on.data.toList[55]? = some 0x1b from (LBX8_onr_3 7).trans (by decide +kernel))
theorem dX8_on_56 : decode cX8_on 56 = .ok (.invokevirtual 174, 3) := dk_182_ (show cX8_on.data.toList[56]? = some 0xb6 from (LBX8_onr_3 8).trans (by decide +kernel)) (show cX8_on.data.toList[57]? = some 0x00 from (LBX8_onr_3 9).trans (by decide +kernel)) (show cX8_on.data.toList[58]? = some 0xae from (LBX8_onr_3 10).trans (by decide +kernel)) (by decide)
theorem dX8_on_59 : decode cX8_on 59 = .ok (.ifCond .eq 10, 3) := dk_153_ (show cX8_on.data.toList[59]? = some 0x99 from (LBX8_onr_3 11).trans (by decide +kernel)) (show cX8_on.data.toList[60]? = some 0x00 from (LBX8_onr_3 12).trans (by decide +kernel)) (show cX8_on.data.toList[61]? = some 0x0a from (LBX8_onr_3 13).trans (by decide +kernel)) (by decide)
theorem dX8_on_62 : decode cX8_on 62 = .ok (.aload_n 0, 1) := dk_42_ (show cX8_on.data.toList[62]? = some 0x2a from (LBX8_onr_3 14).trans (by decide +kernel))
theorem dX8_on_63 : decode cX8_on 63 = .ok (.ldc 79, 2) := dk_18_ (show cX8_on.data.toList[63]? = some 0x12 from (LBX8_onr_3 15).trans (by decide +kernel)) (show cX8_on.data.toList[64]? = some 0x4f from (LBX8_onr_4 0).trans (by decide +kernel)) (by decide)
theorem dX8_on_65 : decode cX8_on 65 = .ok (.invokevirtual 80, 3) := dk_182_ (show cX8_on.data.toList[65]? = some 0xb6 from (LBX8_onr_4 1).trans (by decide +kernel)) (show cX8_on.data.toList[66]? = some 0x00 from (LBX8_onr_4 2).trans (by decide +kernel)) (show cX8_on.data.toList[67]? = some 0x50 from (LBX8_onr_4 3).trans (by decide +kernel)) (by decide)
theorem dX8_on_68 : decode cX8_on 68 = .ok (.ireturn, 1) := dk_172_ (show cX8_on.data.toList[68]? = some 0xac from (LBX8_onr_4 4).trans (by decide +kernel))
theorem dX8_on_69 : decode cX8_on 69 = .ok (.aload_n 0, 1) := dk_42_ (show cX8_on.data.toList[69]? = some 0x2a from (LBX8_onr_4 5).trans (by decide +kernel))
theorem dX8_on_70 : decode cX8_on 70 = .ok (.getfield 12, 3) := dk_180_ (show cX8_on.data.toList[70]? = some 0xb4 from (LBX8_onr_4 6).trans (by decide +kernel)) (show cX8_on.data.toList[71]? = some 0x00 from (LBX8_onr_4 7).trans (by decide +kernel)) (show cX8_on.data.toList[72]? = some 0x0c from (LBX8_onr_4 8).trans (by decide +kernel)) (by decide)
theorem dX8_on_73 : decode cX8_on 73 = .ok (.getfield 229, 3) := dk_180_ (show cX8_on.data.toList[73]? = some 0xb4 from (LBX8_onr_4 9).trans (by decide +kernel)) (show cX8_on.data.toList[74]? = some 0x00 from (LBX8_onr_4 10).trans (by decide +kernel)) (show cX8_on.data.toList[75]? = some 0xe5 from (LBX8_onr_4 11).trans (by decide +kernel)) (by decide)
theorem dX8_on_76 : decode cX8_on 76 = .ok (.iload_n 1, 1) := dk_27_ (show cX8_on.data.toList[76]? = some 0x1b from (LBX8_onr_4 12).trans (by decide +kernel))
theorem dX8_on_77 : decode cX8_on 77 = .ok (.iload_n 2, 1) := dk_28_ (show cX8_on.data.toList[77]? = some 0x1c from (LBX8_onr_4 13).trans (by decide +kernel))
theorem dX8_on_78 : decode cX8_on 78 = .ok (.invokevirtual 177, 3) := dk_182_ (show cX8_on.data.toList[78]? = some 0xb6 from (LBX8_onr_4 14).trans (by decide +kernel)) (show cX8_on.data.toList[79]? = some 0x00 from (LBX8_onr_4 15).trans (by decide +kernel)) (show cX8_on.data.toList[80]? = some 0xb1 from (LBX8_onr_5 0).trans (by decide +kernel)) (by decide)
theorem dX8_on_81 : decode cX8_on 81 = .ok (.ireturn, 1) := dk_172_ (show cX8_on.data.toList[81]? = some 0xac from (LBX8_onr_5 1).trans (by decide +kernel))
theorem dX8_learn_0 : decode cX8_learn 0 = .ok (.aload_n 0, 1) := dk_42_ (show cX8_learn.data.toList[0]? = some 0x2a from by decide +kernel)
theorem dX8_learn_1 : decode cX8_learn 1 = .ok (.getfield 53, 3) := dk_180_ (show cX8_learn.data.toList[1]? = some 0xb4 from by decide +kernel) (show cX8_learn.data.toList[2]? = some 0x00 from by decide +kernel) (show cX8_learn.data.toList[3]? = some 0x35 from by decide +kernel) (by decide)
theorem dX8_learn_4 : decode cX8_learn 4 = .ok (.aload_n 0, 1) := dk_42_ (show cX8_learn.data.toList[4]? = some 0x2a from by decide +kernel)
theorem dX8_learn_5 : decode cX8_learn 5 = .ok (.getfield 12, 3) := dk_180_ (show cX8_learn.data.toList[5]? = some 0xb4 from by decide +kernel) (show cX8_learn.data.toList[6]? = some 0x00 from by decide +kernel) (show cX8_learn.data.toList[7]? = some 0x0c from by decide +kernel) (by decide)
theorem dX8_learn_8 : decode cX8_learn 8 = .ok (.invokevirtual 238, 3) := dk_182_ (show cX8_learn.data.toList[8]? = some 0xb6 from by decide +kernel) (show cX8_learn.data.toList[9]? = some 0x00 from by decide +kernel) (show cX8_learn.data.toList[10]? = some 0xee from by decide +kernel) (by decide)
theorem dX8_learn_11 : decode cX8_learn 11 = .ok (.ireturn, 1) := dk_172_ (show cX8_learn.data.toList[11]? = some 0xac from by decide +kernel)
theorem uw396 : Cond.constant RX8 95 (-1000000001) ∈ wsU := ut2 (List.mem_of_getElem? (i := 15) rfl) rfl
theorem uw397 : Cond.fieldLink RX8 70 "LongerBack" "found" "[I" ∈ wsU := ut1 (List.mem_of_getElem? (i := 220) rfl) rfl
theorem uw398 : Cond.laysFinal RX8 "LongerBack" "here" "LLongerBack$Land;" ∈ wsU := ut1 (List.mem_of_getElem? (i := 221) rfl) rfl
theorem uw399 : Cond.laysFinal RX8 "LongerBack" "kept" "LLongerBack$Land;" ∈ wsU := ut1 (List.mem_of_getElem? (i := 223) rfl) rfl
theorem uw400 : Cond.laysFinal RX8 "LongerBack" "draft" "LLongerBack$Land;" ∈ wsU := ut1 (List.mem_of_getElem? (i := 225) rfl) rfl
theorem uw401 : Cond.lays RX8 "LongerBack" "isKept" "Z" ∈ wsU := ut1 (List.mem_of_getElem? (i := 227) rfl) rfl
theorem uw402 : Cond.laysFinal RX8 "LongerBack" "atlas" "LLongerBack$Atlas;" ∈ wsU := ut1 (List.mem_of_getElem? (i := 229) rfl) rfl
theorem uw403 : Cond.laysFinal RX8 "LongerBack" "mended" "LLongerBack$Atlas;" ∈ wsU := ut1 (List.mem_of_getElem? (i := 231) rfl) rfl
theorem uw404 : Cond.laysFinal RX8 "LongerBack" "sums" "LLongerBack$Sums;" ∈ wsU := ut1 (List.mem_of_getElem? (i := 233) rfl) rfl
theorem uw405 : Cond.laysFinal RX8 "LongerBack" "slopes" "LLongerBack$Slopes;" ∈ wsU := ut1 (List.mem_of_getElem? (i := 235) rfl) rfl
theorem uw406 : Cond.laysFinal RX8 "LongerBack" "learner" "LLongerBack$Learner;" ∈ wsU := ut1 (List.mem_of_getElem? (i := 237) rfl) rfl
theorem uw407 : Cond.laysFinal RX8 "LongerBack" "text" "LLongerBack$Text;" ∈ wsU := ut1 (List.mem_of_getElem? (i := 239) rfl) rfl
theorem uw408 : Cond.laysFinal RX8 "LongerBack" "sheets" "[LLongerBack$Sheet;" ∈ wsU := ut2 (List.mem_of_getElem? (i := 1) rfl) rfl
theorem uw409 : Cond.laysFinal RX8 "LongerBack" "found" "[I" ∈ wsU := ut2 (List.mem_of_getElem? (i := 3) rfl) rfl
theorem uw410 : Cond.constant RX8 113 (-1000000004) ∈ wsU := ut2 (List.mem_of_getElem? (i := 58) rfl) rfl
theorem uw411 : Cond.methodLink RX8 80 yX8_finding ∈ wsU := ut2 (List.mem_of_getElem? (i := 11) rfl) rfl
theorem uw412 : Cond.instanceMethod yX8_finding ∈ wsU := ut2 (List.mem_of_getElem? (i := 13) rfl) rfl
theorem uw413 : Cond.selects RX8 yX8_finding yX8_finding ∈ wsU := us_sel (q := (yX8_finding, 12)) (List.mem_of_getElem? (i := 0) (by decide +kernel)) rfl
theorem uw414 : Cond.initialized RX8 ∈ wsU := ut1 (List.mem_of_getElem? (i := 1) rfl) rfl
theorem uw415 : Cond.code yX8_finding cX8_finding 3 (some .int) ∈ wsU := ut2 (List.mem_of_getElem? (i := 14) rfl) rfl
theorem uw416 : Cond.fieldLink RX8 12 "LongerBack" "here" "LLongerBack$Land;" ∈ wsU := ut1 (List.mem_of_getElem? (i := 209) rfl) rfl
theorem uw417 : Cond.fieldLink RX8 75 "LongerBack$Land" "places" "I" ∈ wsU := ut1 (List.mem_of_getElem? (i := 56) rfl) rfl
theorem uw418 : Cond.methodLink RX8 84 yX1_addPlace ∈ wsU := ut2 (List.mem_of_getElem? (i := 16) rfl) rfl
theorem uw419 : Cond.constant RX8 79 (-1000000002) ∈ wsU := ut2 (List.mem_of_getElem? (i := 10) rfl) rfl
theorem uw420 : Cond.methodLink RX8 87 yX1_isPlace ∈ wsU := ut2 (List.mem_of_getElem? (i := 24) rfl) rfl
theorem uw421 : Cond.fieldLink RX8 96 "LongerBack$Land" "errands" "[I" ∈ wsU := ut1 (List.mem_of_getElem? (i := 60) rfl) rfl
theorem uw422 : Cond.methodLink RX8 99 yX1_areTwo ∈ wsU := ut2 (List.mem_of_getElem? (i := 35) rfl) rfl
theorem uw423 : Cond.instanceMethod yX1_areTwo ∈ wsU := ut2 (List.mem_of_getElem? (i := 36) rfl) rfl
theorem uw424 : Cond.selects RX1 yX1_areTwo yX1_areTwo ∈ wsU := ut2 (List.mem_of_getElem? (i := 37) rfl) rfl
theorem uw425 : Cond.code yX1_areTwo cX1_areTwo 3 (some .boolean) ∈ wsU := ut2 (List.mem_of_getElem? (i := 38) rfl) rfl
theorem uw426 : Cond.methodLink RX8 103 yX8_areEnds ∈ wsU := ut2 (List.mem_of_getElem? (i := 40) rfl) rfl
theorem uw427 : Cond.methodLink RX8 106 yX1_isThere ∈ wsU := ut2 (List.mem_of_getElem? (i := 43) rfl) rfl
theorem uw428 : Cond.methodLink RX8 109 yX1_setWay ∈ wsU := ut2 (List.mem_of_getElem? (i := 50) rfl) rfl
theorem uw429 : Cond.methodLink RX8 121 yX1_isOpen ∈ wsU := ut2 (List.mem_of_getElem? (i := 67) rfl) rfl
theorem uw430 : Cond.methodLink RX8 118 yX1_highOf ∈ wsU := ut2 (List.mem_of_getElem? (i := 63) rfl) rfl
theorem uw431 : Cond.instanceMethod yX1_highOf ∈ wsU := ut2 (List.mem_of_getElem? (i := 64) rfl) rfl
theorem uw432 : Cond.selects RX1 yX1_highOf yX1_highOf ∈ wsU := ut2 (List.mem_of_getElem? (i := 65) rfl) rfl
theorem uw433 : Cond.code yX1_highOf cX1_highOf 3 (some .int) ∈ wsU := ut2 (List.mem_of_getElem? (i := 66) rfl) rfl
theorem uw434 : Cond.methodLink RX8 114 yX1_lowOf ∈ wsU := ut2 (List.mem_of_getElem? (i := 59) rfl) rfl
theorem uw435 : Cond.methodLink RX8 124 yX1_setShut ∈ wsU := ut2 (List.mem_of_getElem? (i := 75) rfl) rfl
theorem uw436 : Cond.instanceMethod yX1_setShut ∈ wsU := ut2 (List.mem_of_getElem? (i := 76) rfl) rfl
theorem uw437 : Cond.selects RX1 yX1_setShut yX1_setShut ∈ wsU := ut2 (List.mem_of_getElem? (i := 77) rfl) rfl
theorem uw438 : Cond.code yX1_setShut cX1_setShut 4 none ∈ wsU := ut2 (List.mem_of_getElem? (i := 78) rfl) rfl
theorem uw439 : Cond.fieldLink RX8 29 "LongerBack" "atlas" "LLongerBack$Atlas;" ∈ wsU := ut1 (List.mem_of_getElem? (i := 213) rfl) rfl
theorem uw440 : Cond.methodLink RX8 146 yX0_measure ∈ wsU := ut2 (List.mem_of_getElem? (i := 87) rfl) rfl
theorem uw441 : Cond.instanceMethod yX0_measure ∈ wsU := ut2 (List.mem_of_getElem? (i := 88) rfl) rfl
theorem uw442 : Cond.selects RX0 yX0_measure yX0_measure ∈ wsU := ut2 (List.mem_of_getElem? (i := 89) rfl) rfl
theorem uw443 : Cond.code yX0_measure cX0_measure 4 none ∈ wsU := ut2 (List.mem_of_getElem? (i := 90) rfl) rfl
theorem uw444 : Cond.methodLink RX8 332 yX0_hasLoop ∈ wsU := ut2 (List.mem_of_getElem? (i := 113) rfl) rfl
theorem uw445 : Cond.instanceMethod yX0_hasLoop ∈ wsU := ut2 (List.mem_of_getElem? (i := 114) rfl) rfl
theorem uw446 : Cond.selects RX0 yX0_hasLoop yX0_hasLoop ∈ wsU := ut2 (List.mem_of_getElem? (i := 115) rfl) rfl
theorem uw447 : Cond.code yX0_hasLoop cX0_hasLoop 2 (some .boolean) ∈ wsU := ut2 (List.mem_of_getElem? (i := 116) rfl) rfl
theorem uw448 : Cond.methodLink RX8 128 yX8_isLooped ∈ wsU := ut2 (List.mem_of_getElem? (i := 83) rfl) rfl
theorem uw449 : Cond.instanceMethod yX8_isLooped ∈ wsU := ut2 (List.mem_of_getElem? (i := 85) rfl) rfl
theorem uw450 : Cond.selects RX8 yX8_isLooped yX8_isLooped ∈ wsU := us_sel (q := (yX8_isLooped, 12)) (List.mem_of_getElem? (i := 1) (by decide +kernel)) rfl
theorem uw451 : Cond.code yX8_isLooped cX8_isLooped 1 (some .boolean) ∈ wsU := ut2 (List.mem_of_getElem? (i := 86) rfl) rfl
theorem uw452 : Cond.constant RX8 132 (-1000000005) ∈ wsU := ut2 (List.mem_of_getElem? (i := 117) rfl) rfl
theorem uw453 : Cond.methodLink RX8 133 yX0_farOf ∈ wsU := ut2 (List.mem_of_getElem? (i := 118) rfl) rfl
theorem uw454 : Cond.methodLink RX8 136 yX8_lengthOrNone ∈ wsU := ut2 (List.mem_of_getElem? (i := 125) rfl) rfl
theorem uw455 : Cond.instanceMethod yX8_lengthOrNone ∈ wsU := ut2 (List.mem_of_getElem? (i := 127) rfl) rfl
theorem uw456 : Cond.selects RX8 yX8_lengthOrNone yX8_lengthOrNone ∈ wsU := us_sel (q := (yX8_lengthOrNone, 12)) (List.mem_of_getElem? (i := 4) (by decide +kernel)) rfl
theorem uw457 : Cond.code yX8_lengthOrNone cX8_lengthOrNone 2 (some .int) ∈ wsU := ut2 (List.mem_of_getElem? (i := 128) rfl) rfl
theorem uw458 : Cond.methodLink RX8 139 yX0_waysOf ∈ wsU := ut2 (List.mem_of_getElem? (i := 133) rfl) rfl
theorem uw459 : Cond.instanceMethod yX0_waysOf ∈ wsU := ut2 (List.mem_of_getElem? (i := 134) rfl) rfl
theorem uw460 : Cond.selects RX0 yX0_waysOf yX0_waysOf ∈ wsU := ut2 (List.mem_of_getElem? (i := 135) rfl) rfl
theorem uw461 : Cond.code yX0_waysOf cX0_waysOf 4 (some .int) ∈ wsU := ut2 (List.mem_of_getElem? (i := 136) rfl) rfl
theorem uw462 : Cond.methodLink RX8 142 yX0_stopOf ∈ wsU := ut2 (List.mem_of_getElem? (i := 140) rfl) rfl
theorem uw463 : Cond.instanceMethod yX0_stopOf ∈ wsU := ut2 (List.mem_of_getElem? (i := 141) rfl) rfl
theorem uw464 : Cond.selects RX0 yX0_stopOf yX0_stopOf ∈ wsU := ut2 (List.mem_of_getElem? (i := 142) rfl) rfl
theorem uw465 : Cond.code yX0_stopOf cX0_stopOf 7 (some .int) ∈ wsU := ut2 (List.mem_of_getElem? (i := 143) rfl) rfl
theorem uw466 : Cond.methodLink RX8 150 yX0_loopSet ∈ wsU := ut2 (List.mem_of_getElem? (i := 152) rfl) rfl
theorem uw467 : Cond.instanceMethod yX0_loopSet ∈ wsU := ut2 (List.mem_of_getElem? (i := 153) rfl) rfl
theorem uw468 : Cond.selects RX0 yX0_loopSet yX0_loopSet ∈ wsU := ut2 (List.mem_of_getElem? (i := 154) rfl) rfl
theorem uw469 : Cond.code yX0_loopSet cX0_loopSet 4 (some .int) ∈ wsU := ut2 (List.mem_of_getElem? (i := 155) rfl) rfl
theorem uw470 : Cond.methodLink RX8 201 yX0_tripOf ∈ wsU := ut3 (List.mem_of_getElem? (i := 56) rfl) rfl
theorem uw471 : Cond.methodLink RX8 197 yX0_homeOf ∈ wsU := ut3 (List.mem_of_getElem? (i := 44) rfl) rfl
theorem uw472 : Cond.methodLink RX8 205 yX0_meetingOf ∈ wsU := ut3 (List.mem_of_getElem? (i := 61) rfl) rfl
theorem uw473 : Cond.fieldLink RX8 159 "LongerBack$Land" "rounds" "LLongerBack$Rows;" ∈ wsU := ut1 (List.mem_of_getElem? (i := 69) rfl) rfl
theorem uw474 : Cond.methodLink RX8 163 yX3_isFull ∈ wsU := ut2 (List.mem_of_getElem? (i := 171) rfl) rfl
theorem uw475 : Cond.methodLink RX8 168 yX1_addRound ∈ wsU := ut2 (List.mem_of_getElem? (i := 175) rfl) rfl
theorem uw476 : Cond.instanceMethod yX1_addRound ∈ wsU := ut2 (List.mem_of_getElem? (i := 176) rfl) rfl
theorem uw477 : Cond.selects RX1 yX1_addRound yX1_addRound ∈ wsU := ut2 (List.mem_of_getElem? (i := 177) rfl) rfl
theorem uw478 : Cond.code yX1_addRound cX1_addRound 4 (some .int) ∈ wsU := ut2 (List.mem_of_getElem? (i := 178) rfl) rfl
theorem uw479 : Cond.methodLink RX8 171 yX3_has ∈ wsU := ut2 (List.mem_of_getElem? (i := 191) rfl) rfl
theorem uw480 : Cond.instanceMethod yX3_has ∈ wsU := ut2 (List.mem_of_getElem? (i := 192) rfl) rfl
theorem uw481 : Cond.selects RX3 yX3_has yX3_has ∈ wsU := ut2 (List.mem_of_getElem? (i := 193) rfl) rfl
theorem uw482 : Cond.code yX3_has cX3_has 2 (some .boolean) ∈ wsU := ut2 (List.mem_of_getElem? (i := 194) rfl) rfl
theorem uw483 : Cond.methodLink RX8 174 yX3_isFullRow ∈ wsU := ut2 (List.mem_of_getElem? (i := 195) rfl) rfl
theorem uw484 : Cond.instanceMethod yX3_isFullRow ∈ wsU := ut2 (List.mem_of_getElem? (i := 196) rfl) rfl
theorem uw485 : Cond.selects RX3 yX3_isFullRow yX3_isFullRow ∈ wsU := ut2 (List.mem_of_getElem? (i := 197) rfl) rfl
theorem uw486 : Cond.code yX3_isFullRow cX3_isFullRow 2 (some .boolean) ∈ wsU := ut2 (List.mem_of_getElem? (i := 198) rfl) rfl
theorem uw487 : Cond.methodLink RX8 177 yX3_append ∈ wsU := ut2 (List.mem_of_getElem? (i := 199) rfl) rfl
theorem uw488 : Cond.fieldLink RX8 39 "LongerBack" "sums" "LLongerBack$Sums;" ∈ wsU := ut1 (List.mem_of_getElem? (i := 215) rfl) rfl
theorem uw489 : Cond.methodLink RX8 180 yX6_sumOf ∈ wsU := ut2 (List.mem_of_getElem? (i := 204) rfl) rfl
theorem uw490 : Cond.instanceMethod yX6_sumOf ∈ wsU := ut2 (List.mem_of_getElem? (i := 205) rfl) rfl
theorem uw491 : Cond.selects RX6 yX6_sumOf yX6_sumOf ∈ wsU := ut2 (List.mem_of_getElem? (i := 206) rfl) rfl
theorem uw492 : Cond.code yX6_sumOf cX6_sumOf 4 (some .int) ∈ wsU := ut2 (List.mem_of_getElem? (i := 207) rfl) rfl
theorem uw493 : Cond.fieldLink RX8 187 "LongerBack$Rows" "lengths" "[I" ∈ wsU := ut1 (List.mem_of_getElem? (i := 44) rfl) rfl
theorem uw494 : Cond.methodLink RX8 190 yX3_stop ∈ wsU := ut3 (List.mem_of_getElem? (i := 29) rfl) rfl
theorem uw495 : Cond.fieldLink RX8 184 "LongerBack$Land" "kinds" "[I" ∈ wsU := ut1 (List.mem_of_getElem? (i := 72) rfl) rfl
theorem uw496 : Cond.methodLink RX8 193 yX8_isUnder ∈ wsU := ut3 (List.mem_of_getElem? (i := 34) rfl) rfl
theorem uw497 : Cond.static yX8_isUnder ∈ wsU := ut3 (List.mem_of_getElem? (i := 35) rfl) rfl
theorem uw498 : Cond.initialized yX8_isUnder.cls ∈ wsU := ut1 (List.mem_of_getElem? (i := 1) rfl) rfl
theorem uw499 : Cond.code yX8_isUnder cX8_isUnder 4 (some .boolean) ∈ wsU := ut3 (List.mem_of_getElem? (i := 36) rfl) rfl
theorem uw500 : Cond.constant RX8 196 (-1000000003) ∈ wsU := ut3 (List.mem_of_getElem? (i := 39) rfl) rfl
theorem uw501 : Cond.fieldLink RX8 46 "LongerBack" "slopes" "LLongerBack$Slopes;" ∈ wsU := ut1 (List.mem_of_getElem? (i := 216) rfl) rfl
theorem uw502 : Cond.methodLink RX8 209 yX5_climb ∈ wsU := ut3 (List.mem_of_getElem? (i := 66) rfl) rfl
theorem uw503 : Cond.instanceMethod yX5_climb ∈ wsU := ut3 (List.mem_of_getElem? (i := 67) rfl) rfl
theorem uw504 : Cond.selects RX5 yX5_climb yX5_climb ∈ wsU := ut3 (List.mem_of_getElem? (i := 68) rfl) rfl
theorem uw505 : Cond.code yX5_climb cX5_climb 3 none ∈ wsU := ut3 (List.mem_of_getElem? (i := 69) rfl) rfl
theorem uw506 : Cond.methodLink RX8 212 yX5_doFit ∈ wsU := ut3 (List.mem_of_getElem? (i := 83) rfl) rfl
theorem uw507 : Cond.instanceMethod yX5_doFit ∈ wsU := ut3 (List.mem_of_getElem? (i := 84) rfl) rfl
theorem uw508 : Cond.selects RX5 yX5_doFit yX5_doFit ∈ wsU := ut3 (List.mem_of_getElem? (i := 85) rfl) rfl
theorem uw509 : Cond.code yX5_doFit cX5_doFit 4 (some .boolean) ∈ wsU := ut3 (List.mem_of_getElem? (i := 86) rfl) rfl
theorem uw510 : Cond.fieldLink RX8 216 "LongerBack$Slopes" "heights" "[I" ∈ wsU := ut1 (List.mem_of_getElem? (i := 134) rfl) rfl
theorem uw511 : Cond.methodLink RX8 219 yX1_areBothWays ∈ wsU := ut3 (List.mem_of_getElem? (i := 95) rfl) rfl
theorem uw512 : Cond.methodLink RX8 222 yX5_paperOf ∈ wsU := ut3 (List.mem_of_getElem? (i := 96) rfl) rfl
theorem uw513 : Cond.methodLink RX8 226 yX5_mostOffPaper ∈ wsU := ut3 (List.mem_of_getElem? (i := 103) rfl) rfl
theorem uw514 : Cond.static yX5_mostOffPaper ∈ wsU := ut3 (List.mem_of_getElem? (i := 104) rfl) rfl
theorem uw515 : Cond.initialized yX5_mostOffPaper.cls ∈ wsU := ut1 (List.mem_of_getElem? (i := 6) rfl) rfl
theorem uw516 : Cond.code yX5_mostOffPaper cX5_mostOffPaper 4 (some .int) ∈ wsU := ut3 (List.mem_of_getElem? (i := 105) rfl) rfl
theorem uw517 : Cond.fieldLink RX8 229 "LongerBack$Land" "walks" "LLongerBack$Rows;" ∈ wsU := ut1 (List.mem_of_getElem? (i := 76) rfl) rfl
theorem uw518 : Cond.methodLink RX8 232 yX1_addWalk ∈ wsU := ut3 (List.mem_of_getElem? (i := 115) rfl) rfl
theorem uw519 : Cond.methodLink RX8 235 yX3_lastStop ∈ wsU := ut3 (List.mem_of_getElem? (i := 123) rfl) rfl
theorem uw520 : Cond.fieldLink RX8 53 "LongerBack" "learner" "LLongerBack$Learner;" ∈ wsU := ut1 (List.mem_of_getElem? (i := 217) rfl) rfl
theorem uw521 : Cond.methodLink RX8 238 yX2_learnIn ∈ wsU := ut3 (List.mem_of_getElem? (i := 128) rfl) rfl
theorem uw522 : Cond.instanceMethod yX2_learnIn ∈ wsU := ut3 (List.mem_of_getElem? (i := 129) rfl) rfl
theorem uw523 : Cond.selects RX2 yX2_learnIn yX2_learnIn ∈ wsU := ut3 (List.mem_of_getElem? (i := 130) rfl) rfl
theorem uw524 : Cond.code yX2_learnIn cX2_learnIn 5 (some .int) ∈ wsU := ut3 (List.mem_of_getElem? (i := 131) rfl) rfl
theorem inUX8 : ∀ w ∈ u_ws RX8 TX8 12, w ∈ wsU := List.forall_mem_cons.mpr ⟨uw398, List.forall_mem_cons.mpr ⟨uw399, List.forall_mem_cons.mpr ⟨uw400, List.forall_mem_cons.mpr ⟨uw401, List.forall_mem_cons.mpr ⟨uw402, List.forall_mem_cons.mpr ⟨uw403, List.forall_mem_cons.mpr ⟨uw404, List.forall_mem_cons.mpr ⟨uw405, List.forall_mem_cons.mpr ⟨uw406, List.forall_mem_cons.mpr ⟨uw407, List.forall_mem_cons.mpr ⟨uw408, List.forall_mem_cons.mpr ⟨uw409, fun _ h => absurd h List.not_mem_nil⟩⟩⟩⟩⟩⟩⟩⟩⟩⟩⟩⟩
theorem kf_X8_70 : xWF RX8 70 8 11 RX8 TX8 12 := ⟨inUX8, rfl, by decide, uw397⟩
theorem kv_X8_80 : xWV RX8 80 RX8 yX8_finding cX8_finding 3 (some .int) 1 := ⟨⟨uw411, uw412, uw413, uw414, uw415⟩, by decide +kernel⟩
theorem kf_X8_12 : xWF RX8 12 8 0 RX8 TX8 12 := ⟨inUX8, rfl, by decide, uw416⟩
theorem kf_X8_75 : xWF RX8 75 1 0 RX1 TX1 10 := ⟨inUX1, rfl, by decide, uw417⟩
theorem kv_X8_84 : xWV RX8 84 RX1 yX1_addPlace cX1_addPlace 3 (some .int) 1 := ⟨⟨uw418, uw331, uw332, uw19, uw333⟩, by decide +kernel⟩
theorem kv_X8_87 : xWV RX8 87 RX1 yX1_isPlace cX1_isPlace 3 (some .boolean) 1 := ⟨⟨uw420, uw17, uw18, uw19, uw20⟩, by decide +kernel⟩
theorem kf_X8_96 : xWF RX8 96 1 1 RX1 TX1 10 := ⟨inUX1, rfl, by decide, uw421⟩
theorem kv_X8_99 : xWV RX8 99 RX1 yX1_areTwo cX1_areTwo 3 (some .boolean) 2 := ⟨⟨uw422, uw423, uw424, uw19, uw425⟩, by decide +kernel⟩
theorem ks_X8_103 : xWS RX8 103 yX8_areEnds cX8_areEnds 2 (some .boolean) 2 := ⟨⟨uw426, uw239, uw240, uw241⟩, by decide +kernel⟩
theorem kv_X8_106 : xWV RX8 106 RX1 yX1_isThere cX1_isThere 3 (some .boolean) 2 := ⟨⟨uw427, uw251, uw252, uw19, uw253⟩, by decide +kernel⟩
theorem kv_X8_109 : xWV RX8 109 RX1 yX1_setWay cX1_setWay 6 none 4 := ⟨⟨uw428, uw339, uw340, uw19, uw341⟩, by decide +kernel⟩
theorem kv_X8_121 : xWV RX8 121 RX1 yX1_isOpen cX1_isOpen 3 (some .boolean) 2 := ⟨⟨uw429, uw29, uw30, uw19, uw31⟩, by decide +kernel⟩
theorem kv_X8_118 : xWV RX8 118 RX1 yX1_highOf cX1_highOf 3 (some .int) 2 := ⟨⟨uw430, uw431, uw432, uw19, uw433⟩, by decide +kernel⟩
theorem kv_X8_114 : xWV RX8 114 RX1 yX1_lowOf cX1_lowOf 3 (some .int) 2 := ⟨⟨uw434, uw54, uw55, uw19, uw56⟩, by decide +kernel⟩
theorem kv_X8_124 : xWV RX8 124 RX1 yX1_setShut cX1_setShut 4 none 3 := ⟨⟨uw435, uw436, uw437, uw19, uw438⟩, by decide +kernel⟩
theorem kf_X8_29 : xWF RX8 29 8 4 RX8 TX8 12 := ⟨inUX8, rfl, by decide, uw439⟩
theorem kv_X8_146 : xWV RX8 146 RX0 yX0_measure cX0_measure 4 none 1 := ⟨⟨uw440, uw441, uw442, uw84, uw443⟩, by decide +kernel⟩
theorem kv_X8_332 : xWV RX8 332 RX0 yX0_hasLoop cX0_hasLoop 2 (some .boolean) 0 := ⟨⟨uw444, uw445, uw446, uw84, uw447⟩, by decide +kernel⟩
theorem kv_X8_128 : xWV RX8 128 RX8 yX8_isLooped cX8_isLooped 1 (some .boolean) 0 := ⟨⟨uw448, uw449, uw450, uw414, uw451⟩, by decide +kernel⟩
theorem kv_X8_133 : xWV RX8 133 RX0 yX0_farOf cX0_farOf 4 (some .int) 2 := ⟨⟨uw453, uw121, uw122, uw84, uw123⟩, by decide +kernel⟩
theorem kv_X8_136 : xWV RX8 136 RX8 yX8_lengthOrNone cX8_lengthOrNone 2 (some .int) 1 := ⟨⟨uw454, uw455, uw456, uw414, uw457⟩, by decide +kernel⟩
theorem kv_X8_139 : xWV RX8 139 RX0 yX0_waysOf cX0_waysOf 4 (some .int) 2 := ⟨⟨uw458, uw459, uw460, uw84, uw461⟩, by decide +kernel⟩
theorem kv_X8_142 : xWV RX8 142 RX0 yX0_stopOf cX0_stopOf 7 (some .int) 4 := ⟨⟨uw462, uw463, uw464, uw84, uw465⟩, by decide +kernel⟩
theorem kv_X8_150 : xWV RX8 150 RX0 yX0_loopSet cX0_loopSet 4 (some .int) 0 := ⟨⟨uw466, uw467, uw468, uw84, uw469⟩, by decide +kernel⟩
theorem kv_X8_201 : xWV RX8 201 RX0 yX0_tripOf cX0_tripOf 6 (some .int) 2 := ⟨⟨uw470, uw125, uw126, uw84, uw127⟩, by decide +kernel⟩
theorem kv_X8_197 : xWV RX8 197 RX0 yX0_homeOf cX0_homeOf 6 (some .int) 1 := ⟨⟨uw471, uw129, uw130, uw84, uw131⟩, by decide +kernel⟩
theorem kv_X8_205 : xWV RX8 205 RX0 yX0_meetingOf cX0_meetingOf 8 (some .int) 3 := ⟨⟨uw472, uw159, uw160, uw84, uw161⟩, by decide +kernel⟩
theorem kf_X8_159 : xWF RX8 159 1 5 RX1 TX1 10 := ⟨inUX1, rfl, by decide, uw473⟩
theorem kv_X8_163 : xWV RX8 163 RX3 yX3_isFull cX3_isFull 1 (some .boolean) 0 := ⟨⟨uw474, uw349, uw350, uw42, uw351⟩, by decide +kernel⟩
theorem kv_X8_168 : xWV RX8 168 RX1 yX1_addRound cX1_addRound 4 (some .int) 2 := ⟨⟨uw475, uw476, uw477, uw19, uw478⟩, by decide +kernel⟩
theorem kv_X8_171 : xWV RX8 171 RX3 yX3_has cX3_has 2 (some .boolean) 1 := ⟨⟨uw479, uw480, uw481, uw42, uw482⟩, by decide +kernel⟩
theorem kv_X8_174 : xWV RX8 174 RX3 yX3_isFullRow cX3_isFullRow 2 (some .boolean) 1 := ⟨⟨uw483, uw484, uw485, uw42, uw486⟩, by decide +kernel⟩
theorem kv_X8_177 : xWV RX8 177 RX3 yX3_append cX3_append 3 (some .int) 2 := ⟨⟨uw487, uw40, uw41, uw42, uw43⟩, by decide +kernel⟩
theorem kf_X8_39 : xWF RX8 39 8 6 RX8 TX8 12 := ⟨inUX8, rfl, by decide, uw488⟩
theorem kv_X8_180 : xWV RX8 180 RX6 yX6_sumOf cX6_sumOf 4 (some .int) 3 := ⟨⟨uw489, uw490, uw491, uw169, uw492⟩, by decide +kernel⟩
theorem kf_X8_187 : xWF RX8 187 3 1 RX3 TX3 3 := ⟨inUX3, rfl, by decide, uw493⟩
theorem kv_X8_190 : xWV RX8 190 RX3 yX3_stop cX3_stop 3 (some .int) 2 := ⟨⟨uw494, uw45, uw46, uw42, uw47⟩, by decide +kernel⟩
theorem kf_X8_184 : xWF RX8 184 1 6 RX1 TX1 10 := ⟨inUX1, rfl, by decide, uw495⟩
theorem ks_X8_193 : xWS RX8 193 yX8_isUnder cX8_isUnder 4 (some .boolean) 2 := ⟨⟨uw496, uw497, uw498, uw499⟩, by decide +kernel⟩
theorem kf_X8_46 : xWF RX8 46 8 7 RX8 TX8 12 := ⟨inUX8, rfl, by decide, uw501⟩
theorem kv_X8_209 : xWV RX8 209 RX5 yX5_climb cX5_climb 3 none 1 := ⟨⟨uw502, uw503, uw504, uw223, uw505⟩, by decide +kernel⟩
theorem kv_X8_212 : xWV RX8 212 RX5 yX5_doFit cX5_doFit 4 (some .boolean) 1 := ⟨⟨uw506, uw507, uw508, uw223, uw509⟩, by decide +kernel⟩
theorem kf_X8_216 : xWF RX8 216 5 0 RX5 TX5 3 := ⟨inUX5, rfl, by decide, uw510⟩
theorem kv_X8_219 : xWV RX8 219 RX1 yX1_areBothWays cX1_areBothWays 3 (some .boolean) 2 := ⟨⟨uw511, uw199, uw200, uw19, uw201⟩, by decide +kernel⟩
theorem ks_X8_222 : xWS RX8 222 yX5_paperOf cX5_paperOf 3 (some .int) 3 := ⟨⟨uw512, uw203, uw204, uw205⟩, by decide +kernel⟩
theorem ks_X8_226 : xWS RX8 226 yX5_mostOffPaper cX5_mostOffPaper 4 (some .int) 1 := ⟨⟨uw513, uw514, uw515, uw516⟩, by decide +kernel⟩
theorem kf_X8_229 : xWF RX8 229 1 7 RX1 TX1 10 := ⟨inUX1, rfl, by decide, uw517⟩
theorem kv_X8_232 : xWV RX8 232 RX1 yX1_addWalk cX1_addWalk 5 (some .int) 3 := ⟨⟨uw518, uw353, uw354, uw19, uw355⟩, by decide +kernel⟩
theorem kv_X8_235 : xWV RX8 235 RX3 yX3_lastStop cX3_lastStop 2 (some .int) 1 := ⟨⟨uw519, uw155, uw156, uw42, uw157⟩, by decide +kernel⟩
theorem kf_X8_53 : xWF RX8 53 8 8 RX8 TX8 12 := ⟨inUX8, rfl, by decide, uw520⟩
theorem kv_X8_238 : xWV RX8 238 RX2 yX2_learnIn cX2_learnIn 5 (some .int) 1 := ⟨⟨uw521, uw522, uw523, uw248, uw524⟩, by decide +kernel⟩
set_option maxHeartbeats 4000000 in
set_option maxRecDepth 100000 in
theorem c_X8_finding_B (l : Launch) (D : va_G) (cI cJ cZ cS : ClassId) (ta : Nat) (sa sv : Nat → Nat) (sz : Nat) (h0 : Nat) (qh : Nat) (qk : Nat) (qd : Nat) (b0 : Int32) (qa : Nat) (qm : Nat) (qs : Nat) (qp : Nat) (ql : Nat) (qt : Nat) (qz : Nat) (qf : Nat) (ff : Nat → Int32) : Met l yX8_finding (Cond.code yX8_finding cX8_finding 3 (some .int) :: wsU) ({ frames := 0, cells := 0, slots := 0, locals := 0 }) (va_Pc [.ref h0, .int (-1000000001)] (XW D (xT cI cJ cZ cS) ta sa sv [(h0, .inr (8, [.ref qh, .ref qk, .ref qd, .int b0, .ref qa, .ref qm, .ref qs, .ref qp, .ref ql, .ref qt, .ref qz, .ref qf])), (qf, .inl (cI, 7, .inl ff))] sz)) (XQi (fun (r : Int32) (f2 : (Nat → Int32)) => ((r = (-1000000001)))) D (fun (f2 : Nat → Int32) => [(h0, .inr (8, [.ref qh, .ref qk, .ref qd, .int b0, .ref qa, .ref qm, .ref qs, .ref qp, .ref ql, .ref qt, .ref qz, .ref qf])), (qf, .inl (cI, 7, .inl f2))]) (va_A [(h0, .inr (8, [.ref qh, .ref qk, .ref qd, .int b0, .ref qa, .ref qm, .ref qs, .ref qp, .ref ql, .ref qt, .ref qz, .ref qf])), (qf, .inl (cI, 7, .inl ff))] sz)) 0 0 (va_A [(h0, .inr (8, [.ref qh, .ref qk, .ref qd, .int b0, .ref qa, .ref qm, .ref qs, .ref qp, .ref ql, .ref qt, .ref qz, .ref qf])), (qf, .inl (cI, 7, .inl ff))] sz) := by
  refine xh (QA := fun A => XQi (fun (r : Int32) (f2 : (Nat → Int32)) => ((r = (-1000000001)))) D (fun (f2 : Nat → Int32) => [(h0, .inr (8, [.ref qh, .ref qk, .ref qd, .int b0, .ref qa, .ref qm, .ref qs, .ref qp, .ref ql, .ref qt, .ref qz, .ref qf])), (qf, .inl (cI, 7, .inl f2))]) A) (fr := fun A => A) (by decide) (Nat.le_of_ble_eq_true rfl) ?_
  intro p e s m below meth c ls A hF hr hlk hin hsz hP hK hD hN hZ hA hS hl
  have hF : CallFix p m c cX8_finding 3 s _ _ RX8 := hF
  have hx := hF.1
  have hb := hF.2.1
  have hml := hF.2.2.1
  have hown := hF.2.2.2.1
  have hu : ∀ w ∈ wsU, w.before _ s = true := fun w h => hF.2.2.2.2 w (List.mem_cons_of_mem _ h)
  have hl : lv_has ls 3 [(0, .ref h0), (1, .int (-1000000001))] := hl
  refine lv_ldc (v := (-1000000001)) hx hb hown (hu _ uw396) dX8_finding_0 ?_
  refine lv_iload_n hx hb dX8_finding_2 rfl (lv_at hl 1 rfl) ?_
  refine lv_isub hx hb dX8_finding_3 ?_
  refine xl_i (y := 0) (by decide) ?_
  refine lv_istore_n (lv' := [(2, .int 0), (0, .ref h0), (1, .int (-1000000001))]) hx hb dX8_finding_4 rfl hl (by decide) rfl (fun ls hl => ?_)
  refine lv_iload_n hx hb dX8_finding_5 rfl (lv_at hl 0 rfl) ?_
  refine lv_if_lt (tgt := 25) hx hb dX8_finding_6 (by decide) (fun c_1 => absurd c_1 (by decide)) (fun c_1 => ?_)
  refine lv_iload_n hx hb dX8_finding_9 rfl (lv_at hl 0 rfl) ?_
  refine lv_bipush (v := 7) hx hb dX8_finding_10 (by decide) ?_
  refine lv_icmp_ge (tgt := 25) hx hb dX8_finding_12 (by decide) (fun c_2 => absurd c_2 (by decide)) (fun c_2 => ?_)
  refine lv_aload_n hx hb dX8_finding_15 rfl (lv_at hl 1 rfl) ?_
  refine xg hF kf_X8_70 hK hP 0 rfl rfl dX8_finding_16 ?_
  refine lv_iload_n hx hb dX8_finding_19 rfl (lv_at hl 0 rfl) ?_
  refine lv_dup2_11 hx hb dX8_finding_20 rfl rfl ?_
  refine va_iald hx hb hK hP 1 0 rfl rfl (xin 0 7 (by decide) (by decide)) dX8_finding_21 ?_
  refine xl_i (y := ff 0) (congrArg ff rfl) ?_
  refine lv_iconst (v := 1) hx hb dX8_finding_22 (by decide) ?_
  refine lv_iadd hx hb dX8_finding_23 ?_
  refine lv_topi (fun x_3 ex_3 => ?_)
  refine va_iast hx hb hK hP hD hS 1 0 rfl rfl (xin 0 7 (by decide) (by decide)) dX8_finding_24 (fun H locs hP hD hS => ?_)
  obtain ⟨f_4, ef_4⟩ : ∃ g, g = upd ff 0 x_3 := ⟨_, rfl⟩
  have hP : va_P D vwCl [(h0, .inr (8, [.ref qh, .ref qk, .ref qd, .int b0, .ref qa, .ref qm, .ref qs, .ref qp, .ref ql, .ref qt, .ref qz, .ref qf])), (qf, .inl (cI, 7, .inl (upd ff 0 x_3)))] H := hP
  have hD : va_D A [(h0, .inr (8, [.ref qh, .ref qk, .ref qd, .int b0, .ref qa, .ref qm, .ref qs, .ref qp, .ref ql, .ref qt, .ref qz, .ref qf])), (qf, .inl (cI, 7, .inl (upd ff 0 x_3)))] := hD
  rw [← ef_4] at hP hD
  have hP : va_P D vwCl [(h0, .inr (8, [.ref qh, .ref qk, .ref qd, .int b0, .ref qa, .ref qm, .ref qs, .ref qp, .ref ql, .ref qt, .ref qz, .ref qf])), (qf, .inl (cI, 7, .inl f_4))] H := hP
  have hD : va_D A [(h0, .inr (8, [.ref qh, .ref qk, .ref qd, .int b0, .ref qa, .ref qm, .ref qs, .ref qp, .ref ql, .ref qt, .ref qz, .ref qf])), (qf, .inl (cI, 7, .inl f_4))] := hD
  refine lv_iload_n hx hb dX8_finding_25 rfl (lv_at hl 2 rfl) ?_
  exact W.iret (v := (-1000000001)) hx hb hr (fun t ht hW => ⟨⟨(-1000000001), f_4, rfl, (by first | exact rfl), by rw [ht]; exact hP.sub [0, 1] rfl, hD.sub [0, 1] (by decide) rfl⟩, hS.F ht⟩) hS.2.2 dX8_finding_26 hlk
set_option maxHeartbeats 4000000 in
set_option maxRecDepth 100000 in
theorem c_X8_finding_F (l : Launch) (D : va_G) (cI cJ cZ cS : ClassId) (ta : Nat) (sa sv : Nat → Nat) (sz : Nat) (h0 : Nat) (qh : Nat) (qk : Nat) (qd : Nat) (b0 : Int32) (qa : Nat) (qm : Nat) (qs : Nat) (qp : Nat) (ql : Nat) (qt : Nat) (qz : Nat) (qf : Nat) (ff : Nat → Int32) : Met l yX8_finding (Cond.code yX8_finding cX8_finding 3 (some .int) :: wsU) ({ frames := 0, cells := 0, slots := 0, locals := 0 }) (va_Pc [.ref h0, .int (-1000000002)] (XW D (xT cI cJ cZ cS) ta sa sv [(h0, .inr (8, [.ref qh, .ref qk, .ref qd, .int b0, .ref qa, .ref qm, .ref qs, .ref qp, .ref ql, .ref qt, .ref qz, .ref qf])), (qf, .inl (cI, 7, .inl ff))] sz)) (XQi (fun (r : Int32) (f2 : (Nat → Int32)) => ((r = (-1000000002)))) D (fun (f2 : Nat → Int32) => [(h0, .inr (8, [.ref qh, .ref qk, .ref qd, .int b0, .ref qa, .ref qm, .ref qs, .ref qp, .ref ql, .ref qt, .ref qz, .ref qf])), (qf, .inl (cI, 7, .inl f2))]) (va_A [(h0, .inr (8, [.ref qh, .ref qk, .ref qd, .int b0, .ref qa, .ref qm, .ref qs, .ref qp, .ref ql, .ref qt, .ref qz, .ref qf])), (qf, .inl (cI, 7, .inl ff))] sz)) 0 0 (va_A [(h0, .inr (8, [.ref qh, .ref qk, .ref qd, .int b0, .ref qa, .ref qm, .ref qs, .ref qp, .ref ql, .ref qt, .ref qz, .ref qf])), (qf, .inl (cI, 7, .inl ff))] sz) := by
  refine xh (QA := fun A => XQi (fun (r : Int32) (f2 : (Nat → Int32)) => ((r = (-1000000002)))) D (fun (f2 : Nat → Int32) => [(h0, .inr (8, [.ref qh, .ref qk, .ref qd, .int b0, .ref qa, .ref qm, .ref qs, .ref qp, .ref ql, .ref qt, .ref qz, .ref qf])), (qf, .inl (cI, 7, .inl f2))]) A) (fr := fun A => A) (by decide) (Nat.le_of_ble_eq_true rfl) ?_
  intro p e s m below meth c ls A hF hr hlk hin hsz hP hK hD hN hZ hA hS hl
  have hF : CallFix p m c cX8_finding 3 s _ _ RX8 := hF
  have hx := hF.1
  have hb := hF.2.1
  have hml := hF.2.2.1
  have hown := hF.2.2.2.1
  have hu : ∀ w ∈ wsU, w.before _ s = true := fun w h => hF.2.2.2.2 w (List.mem_cons_of_mem _ h)
  have hl : lv_has ls 3 [(0, .ref h0), (1, .int (-1000000002))] := hl
  refine lv_ldc (v := (-1000000001)) hx hb hown (hu _ uw396) dX8_finding_0 ?_
  refine lv_iload_n hx hb dX8_finding_2 rfl (lv_at hl 1 rfl) ?_
  refine lv_isub hx hb dX8_finding_3 ?_
  refine xl_i (y := 1) (by decide) ?_
  refine lv_istore_n (lv' := [(2, .int 1), (0, .ref h0), (1, .int (-1000000002))]) hx hb dX8_finding_4 rfl hl (by decide) rfl (fun ls hl => ?_)
  refine lv_iload_n hx hb dX8_finding_5 rfl (lv_at hl 0 rfl) ?_
  refine lv_if_lt (tgt := 25) hx hb dX8_finding_6 (by decide) (fun c_1 => absurd c_1 (by decide)) (fun c_1 => ?_)
  refine lv_iload_n hx hb dX8_finding_9 rfl (lv_at hl 0 rfl) ?_
  refine lv_bipush (v := 7) hx hb dX8_finding_10 (by decide) ?_
  refine lv_icmp_ge (tgt := 25) hx hb dX8_finding_12 (by decide) (fun c_2 => absurd c_2 (by decide)) (fun c_2 => ?_)
  refine lv_aload_n hx hb dX8_finding_15 rfl (lv_at hl 1 rfl) ?_
  refine xg hF kf_X8_70 hK hP 0 rfl rfl dX8_finding_16 ?_
  refine lv_iload_n hx hb dX8_finding_19 rfl (lv_at hl 0 rfl) ?_
  refine lv_dup2_11 hx hb dX8_finding_20 rfl rfl ?_
  refine va_iald hx hb hK hP 1 0 rfl rfl (xin 1 7 (by decide) (by decide)) dX8_finding_21 ?_
  refine xl_i (y := ff 1) (congrArg ff rfl) ?_
  refine lv_iconst (v := 1) hx hb dX8_finding_22 (by decide) ?_
  refine lv_iadd hx hb dX8_finding_23 ?_
  refine lv_topi (fun x_3 ex_3 => ?_)
  refine va_iast hx hb hK hP hD hS 1 0 rfl rfl (xin 1 7 (by decide) (by decide)) dX8_finding_24 (fun H locs hP hD hS => ?_)
  obtain ⟨f_4, ef_4⟩ : ∃ g, g = upd ff 1 x_3 := ⟨_, rfl⟩
  have hP : va_P D vwCl [(h0, .inr (8, [.ref qh, .ref qk, .ref qd, .int b0, .ref qa, .ref qm, .ref qs, .ref qp, .ref ql, .ref qt, .ref qz, .ref qf])), (qf, .inl (cI, 7, .inl (upd ff 1 x_3)))] H := hP
  have hD : va_D A [(h0, .inr (8, [.ref qh, .ref qk, .ref qd, .int b0, .ref qa, .ref qm, .ref qs, .ref qp, .ref ql, .ref qt, .ref qz, .ref qf])), (qf, .inl (cI, 7, .inl (upd ff 1 x_3)))] := hD
  rw [← ef_4] at hP hD
  have hP : va_P D vwCl [(h0, .inr (8, [.ref qh, .ref qk, .ref qd, .int b0, .ref qa, .ref qm, .ref qs, .ref qp, .ref ql, .ref qt, .ref qz, .ref qf])), (qf, .inl (cI, 7, .inl f_4))] H := hP
  have hD : va_D A [(h0, .inr (8, [.ref qh, .ref qk, .ref qd, .int b0, .ref qa, .ref qm, .ref qs, .ref qp, .ref ql, .ref qt, .ref qz, .ref qf])), (qf, .inl (cI, 7, .inl f_4))] := hD
  refine lv_iload_n hx hb dX8_finding_25 rfl (lv_at hl 2 rfl) ?_
  exact W.iret (v := (-1000000002)) hx hb hr (fun t ht hW => ⟨⟨(-1000000002), f_4, rfl, (by first | exact rfl), by rw [ht]; exact hP.sub [0, 1] rfl, hD.sub [0, 1] (by decide) rfl⟩, hS.F ht⟩) hS.2.2 dX8_finding_26 hlk
set_option maxHeartbeats 4000000 in
set_option maxRecDepth 100000 in
theorem c_X8_finding_K (l : Launch) (D : va_G) (cI cJ cZ cS : ClassId) (ta : Nat) (sa sv : Nat → Nat) (sz : Nat) (h0 : Nat) (qh : Nat) (qk : Nat) (qd : Nat) (b0 : Int32) (qa : Nat) (qm : Nat) (qs : Nat) (qp : Nat) (ql : Nat) (qt : Nat) (qz : Nat) (qf : Nat) (ff : Nat → Int32) : Met l yX8_finding (Cond.code yX8_finding cX8_finding 3 (some .int) :: wsU) ({ frames := 0, cells := 0, slots := 0, locals := 0 }) (va_Pc [.ref h0, .int (-1000000003)] (XW D (xT cI cJ cZ cS) ta sa sv [(h0, .inr (8, [.ref qh, .ref qk, .ref qd, .int b0, .ref qa, .ref qm, .ref qs, .ref qp, .ref ql, .ref qt, .ref qz, .ref qf])), (qf, .inl (cI, 7, .inl ff))] sz)) (XQi (fun (r : Int32) (f2 : (Nat → Int32)) => ((r = (-1000000003)))) D (fun (f2 : Nat → Int32) => [(h0, .inr (8, [.ref qh, .ref qk, .ref qd, .int b0, .ref qa, .ref qm, .ref qs, .ref qp, .ref ql, .ref qt, .ref qz, .ref qf])), (qf, .inl (cI, 7, .inl f2))]) (va_A [(h0, .inr (8, [.ref qh, .ref qk, .ref qd, .int b0, .ref qa, .ref qm, .ref qs, .ref qp, .ref ql, .ref qt, .ref qz, .ref qf])), (qf, .inl (cI, 7, .inl ff))] sz)) 0 0 (va_A [(h0, .inr (8, [.ref qh, .ref qk, .ref qd, .int b0, .ref qa, .ref qm, .ref qs, .ref qp, .ref ql, .ref qt, .ref qz, .ref qf])), (qf, .inl (cI, 7, .inl ff))] sz) := by
  refine xh (QA := fun A => XQi (fun (r : Int32) (f2 : (Nat → Int32)) => ((r = (-1000000003)))) D (fun (f2 : Nat → Int32) => [(h0, .inr (8, [.ref qh, .ref qk, .ref qd, .int b0, .ref qa, .ref qm, .ref qs, .ref qp, .ref ql, .ref qt, .ref qz, .ref qf])), (qf, .inl (cI, 7, .inl f2))]) A) (fr := fun A => A) (by decide) (Nat.le_of_ble_eq_true rfl) ?_
  intro p e s m below meth c ls A hF hr hlk hin hsz hP hK hD hN hZ hA hS hl
  have hF : CallFix p m c cX8_finding 3 s _ _ RX8 := hF
  have hx := hF.1
  have hb := hF.2.1
  have hml := hF.2.2.1
  have hown := hF.2.2.2.1
  have hu : ∀ w ∈ wsU, w.before _ s = true := fun w h => hF.2.2.2.2 w (List.mem_cons_of_mem _ h)
  have hl : lv_has ls 3 [(0, .ref h0), (1, .int (-1000000003))] := hl
  refine lv_ldc (v := (-1000000001)) hx hb hown (hu _ uw396) dX8_finding_0 ?_
  refine lv_iload_n hx hb dX8_finding_2 rfl (lv_at hl 1 rfl) ?_
  refine lv_isub hx hb dX8_finding_3 ?_
  refine xl_i (y := 2) (by decide) ?_
  refine lv_istore_n (lv' := [(2, .int 2), (0, .ref h0), (1, .int (-1000000003))]) hx hb dX8_finding_4 rfl hl (by decide) rfl (fun ls hl => ?_)
  refine lv_iload_n hx hb dX8_finding_5 rfl (lv_at hl 0 rfl) ?_
  refine lv_if_lt (tgt := 25) hx hb dX8_finding_6 (by decide) (fun c_1 => absurd c_1 (by decide)) (fun c_1 => ?_)
  refine lv_iload_n hx hb dX8_finding_9 rfl (lv_at hl 0 rfl) ?_
  refine lv_bipush (v := 7) hx hb dX8_finding_10 (by decide) ?_
  refine lv_icmp_ge (tgt := 25) hx hb dX8_finding_12 (by decide) (fun c_2 => absurd c_2 (by decide)) (fun c_2 => ?_)
  refine lv_aload_n hx hb dX8_finding_15 rfl (lv_at hl 1 rfl) ?_
  refine xg hF kf_X8_70 hK hP 0 rfl rfl dX8_finding_16 ?_
  refine lv_iload_n hx hb dX8_finding_19 rfl (lv_at hl 0 rfl) ?_
  refine lv_dup2_11 hx hb dX8_finding_20 rfl rfl ?_
  refine va_iald hx hb hK hP 1 0 rfl rfl (xin 2 7 (by decide) (by decide)) dX8_finding_21 ?_
  refine xl_i (y := ff 2) (congrArg ff rfl) ?_
  refine lv_iconst (v := 1) hx hb dX8_finding_22 (by decide) ?_
  refine lv_iadd hx hb dX8_finding_23 ?_
  refine lv_topi (fun x_3 ex_3 => ?_)
  refine va_iast hx hb hK hP hD hS 1 0 rfl rfl (xin 2 7 (by decide) (by decide)) dX8_finding_24 (fun H locs hP hD hS => ?_)
  obtain ⟨f_4, ef_4⟩ : ∃ g, g = upd ff 2 x_3 := ⟨_, rfl⟩
  have hP : va_P D vwCl [(h0, .inr (8, [.ref qh, .ref qk, .ref qd, .int b0, .ref qa, .ref qm, .ref qs, .ref qp, .ref ql, .ref qt, .ref qz, .ref qf])), (qf, .inl (cI, 7, .inl (upd ff 2 x_3)))] H := hP
  have hD : va_D A [(h0, .inr (8, [.ref qh, .ref qk, .ref qd, .int b0, .ref qa, .ref qm, .ref qs, .ref qp, .ref ql, .ref qt, .ref qz, .ref qf])), (qf, .inl (cI, 7, .inl (upd ff 2 x_3)))] := hD
  rw [← ef_4] at hP hD
  have hP : va_P D vwCl [(h0, .inr (8, [.ref qh, .ref qk, .ref qd, .int b0, .ref qa, .ref qm, .ref qs, .ref qp, .ref ql, .ref qt, .ref qz, .ref qf])), (qf, .inl (cI, 7, .inl f_4))] H := hP
  have hD : va_D A [(h0, .inr (8, [.ref qh, .ref qk, .ref qd, .int b0, .ref qa, .ref qm, .ref qs, .ref qp, .ref ql, .ref qt, .ref qz, .ref qf])), (qf, .inl (cI, 7, .inl f_4))] := hD
  refine lv_iload_n hx hb dX8_finding_25 rfl (lv_at hl 2 rfl) ?_
  exact W.iret (v := (-1000000003)) hx hb hr (fun t ht hW => ⟨⟨(-1000000003), f_4, rfl, (by first | exact rfl), by rw [ht]; exact hP.sub [0, 1] rfl, hD.sub [0, 1] (by decide) rfl⟩, hS.F ht⟩) hS.2.2 dX8_finding_26 hlk
set_option maxHeartbeats 4000000 in
set_option maxRecDepth 100000 in
theorem c_X8_finding_N (l : Launch) (D : va_G) (cI cJ cZ cS : ClassId) (ta : Nat) (sa sv : Nat → Nat) (sz : Nat) (h0 : Nat) (qh : Nat) (qk : Nat) (qd : Nat) (b0 : Int32) (qa : Nat) (qm : Nat) (qs : Nat) (qp : Nat) (ql : Nat) (qt : Nat) (qz : Nat) (qf : Nat) (ff : Nat → Int32) : Met l yX8_finding (Cond.code yX8_finding cX8_finding 3 (some .int) :: wsU) ({ frames := 0, cells := 0, slots := 0, locals := 0 }) (va_Pc [.ref h0, .int (-1000000004)] (XW D (xT cI cJ cZ cS) ta sa sv [(h0, .inr (8, [.ref qh, .ref qk, .ref qd, .int b0, .ref qa, .ref qm, .ref qs, .ref qp, .ref ql, .ref qt, .ref qz, .ref qf])), (qf, .inl (cI, 7, .inl ff))] sz)) (XQi (fun (r : Int32) (f2 : (Nat → Int32)) => ((r = (-1000000004)))) D (fun (f2 : Nat → Int32) => [(h0, .inr (8, [.ref qh, .ref qk, .ref qd, .int b0, .ref qa, .ref qm, .ref qs, .ref qp, .ref ql, .ref qt, .ref qz, .ref qf])), (qf, .inl (cI, 7, .inl f2))]) (va_A [(h0, .inr (8, [.ref qh, .ref qk, .ref qd, .int b0, .ref qa, .ref qm, .ref qs, .ref qp, .ref ql, .ref qt, .ref qz, .ref qf])), (qf, .inl (cI, 7, .inl ff))] sz)) 0 0 (va_A [(h0, .inr (8, [.ref qh, .ref qk, .ref qd, .int b0, .ref qa, .ref qm, .ref qs, .ref qp, .ref ql, .ref qt, .ref qz, .ref qf])), (qf, .inl (cI, 7, .inl ff))] sz) := by
  refine xh (QA := fun A => XQi (fun (r : Int32) (f2 : (Nat → Int32)) => ((r = (-1000000004)))) D (fun (f2 : Nat → Int32) => [(h0, .inr (8, [.ref qh, .ref qk, .ref qd, .int b0, .ref qa, .ref qm, .ref qs, .ref qp, .ref ql, .ref qt, .ref qz, .ref qf])), (qf, .inl (cI, 7, .inl f2))]) A) (fr := fun A => A) (by decide) (Nat.le_of_ble_eq_true rfl) ?_
  intro p e s m below meth c ls A hF hr hlk hin hsz hP hK hD hN hZ hA hS hl
  have hF : CallFix p m c cX8_finding 3 s _ _ RX8 := hF
  have hx := hF.1
  have hb := hF.2.1
  have hml := hF.2.2.1
  have hown := hF.2.2.2.1
  have hu : ∀ w ∈ wsU, w.before _ s = true := fun w h => hF.2.2.2.2 w (List.mem_cons_of_mem _ h)
  have hl : lv_has ls 3 [(0, .ref h0), (1, .int (-1000000004))] := hl
  refine lv_ldc (v := (-1000000001)) hx hb hown (hu _ uw396) dX8_finding_0 ?_
  refine lv_iload_n hx hb dX8_finding_2 rfl (lv_at hl 1 rfl) ?_
  refine lv_isub hx hb dX8_finding_3 ?_
  refine xl_i (y := 3) (by decide) ?_
  refine lv_istore_n (lv' := [(2, .int 3), (0, .ref h0), (1, .int (-1000000004))]) hx hb dX8_finding_4 rfl hl (by decide) rfl (fun ls hl => ?_)
  refine lv_iload_n hx hb dX8_finding_5 rfl (lv_at hl 0 rfl) ?_
  refine lv_if_lt (tgt := 25) hx hb dX8_finding_6 (by decide) (fun c_1 => absurd c_1 (by decide)) (fun c_1 => ?_)
  refine lv_iload_n hx hb dX8_finding_9 rfl (lv_at hl 0 rfl) ?_
  refine lv_bipush (v := 7) hx hb dX8_finding_10 (by decide) ?_
  refine lv_icmp_ge (tgt := 25) hx hb dX8_finding_12 (by decide) (fun c_2 => absurd c_2 (by decide)) (fun c_2 => ?_)
  refine lv_aload_n hx hb dX8_finding_15 rfl (lv_at hl 1 rfl) ?_
  refine xg hF kf_X8_70 hK hP 0 rfl rfl dX8_finding_16 ?_
  refine lv_iload_n hx hb dX8_finding_19 rfl (lv_at hl 0 rfl) ?_
  refine lv_dup2_11 hx hb dX8_finding_20 rfl rfl ?_
  refine va_iald hx hb hK hP 1 0 rfl rfl (xin 3 7 (by decide) (by decide)) dX8_finding_21 ?_
  refine xl_i (y := ff 3) (congrArg ff rfl) ?_
  refine lv_iconst (v := 1) hx hb dX8_finding_22 (by decide) ?_
  refine lv_iadd hx hb dX8_finding_23 ?_
  refine lv_topi (fun x_3 ex_3 => ?_)
  refine va_iast hx hb hK hP hD hS 1 0 rfl rfl (xin 3 7 (by decide) (by decide)) dX8_finding_24 (fun H locs hP hD hS => ?_)
  obtain ⟨f_4, ef_4⟩ : ∃ g, g = upd ff 3 x_3 := ⟨_, rfl⟩
  have hP : va_P D vwCl [(h0, .inr (8, [.ref qh, .ref qk, .ref qd, .int b0, .ref qa, .ref qm, .ref qs, .ref qp, .ref ql, .ref qt, .ref qz, .ref qf])), (qf, .inl (cI, 7, .inl (upd ff 3 x_3)))] H := hP
  have hD : va_D A [(h0, .inr (8, [.ref qh, .ref qk, .ref qd, .int b0, .ref qa, .ref qm, .ref qs, .ref qp, .ref ql, .ref qt, .ref qz, .ref qf])), (qf, .inl (cI, 7, .inl (upd ff 3 x_3)))] := hD
  rw [← ef_4] at hP hD
  have hP : va_P D vwCl [(h0, .inr (8, [.ref qh, .ref qk, .ref qd, .int b0, .ref qa, .ref qm, .ref qs, .ref qp, .ref ql, .ref qt, .ref qz, .ref qf])), (qf, .inl (cI, 7, .inl f_4))] H := hP
  have hD : va_D A [(h0, .inr (8, [.ref qh, .ref qk, .ref qd, .int b0, .ref qa, .ref qm, .ref qs, .ref qp, .ref ql, .ref qt, .ref qz, .ref qf])), (qf, .inl (cI, 7, .inl f_4))] := hD
  refine lv_iload_n hx hb dX8_finding_25 rfl (lv_at hl 2 rfl) ?_
  exact W.iret (v := (-1000000004)) hx hb hr (fun t ht hW => ⟨⟨(-1000000004), f_4, rfl, (by first | exact rfl), by rw [ht]; exact hP.sub [0, 1] rfl, hD.sub [0, 1] (by decide) rfl⟩, hS.F ht⟩) hS.2.2 dX8_finding_26 hlk
set_option maxHeartbeats 4000000 in
set_option maxRecDepth 100000 in
theorem c_X8_finding_T (l : Launch) (D : va_G) (cI cJ cZ cS : ClassId) (ta : Nat) (sa sv : Nat → Nat) (sz : Nat) (h0 : Nat) (qh : Nat) (qk : Nat) (qd : Nat) (b0 : Int32) (qa : Nat) (qm : Nat) (qs : Nat) (qp : Nat) (ql : Nat) (qt : Nat) (qz : Nat) (qf : Nat) (ff : Nat → Int32) : Met l yX8_finding (Cond.code yX8_finding cX8_finding 3 (some .int) :: wsU) ({ frames := 0, cells := 0, slots := 0, locals := 0 }) (va_Pc [.ref h0, .int (-1000000005)] (XW D (xT cI cJ cZ cS) ta sa sv [(h0, .inr (8, [.ref qh, .ref qk, .ref qd, .int b0, .ref qa, .ref qm, .ref qs, .ref qp, .ref ql, .ref qt, .ref qz, .ref qf])), (qf, .inl (cI, 7, .inl ff))] sz)) (XQi (fun (r : Int32) (f2 : (Nat → Int32)) => ((r = (-1000000005)))) D (fun (f2 : Nat → Int32) => [(h0, .inr (8, [.ref qh, .ref qk, .ref qd, .int b0, .ref qa, .ref qm, .ref qs, .ref qp, .ref ql, .ref qt, .ref qz, .ref qf])), (qf, .inl (cI, 7, .inl f2))]) (va_A [(h0, .inr (8, [.ref qh, .ref qk, .ref qd, .int b0, .ref qa, .ref qm, .ref qs, .ref qp, .ref ql, .ref qt, .ref qz, .ref qf])), (qf, .inl (cI, 7, .inl ff))] sz)) 0 0 (va_A [(h0, .inr (8, [.ref qh, .ref qk, .ref qd, .int b0, .ref qa, .ref qm, .ref qs, .ref qp, .ref ql, .ref qt, .ref qz, .ref qf])), (qf, .inl (cI, 7, .inl ff))] sz) := by
  refine xh (QA := fun A => XQi (fun (r : Int32) (f2 : (Nat → Int32)) => ((r = (-1000000005)))) D (fun (f2 : Nat → Int32) => [(h0, .inr (8, [.ref qh, .ref qk, .ref qd, .int b0, .ref qa, .ref qm, .ref qs, .ref qp, .ref ql, .ref qt, .ref qz, .ref qf])), (qf, .inl (cI, 7, .inl f2))]) A) (fr := fun A => A) (by decide) (Nat.le_of_ble_eq_true rfl) ?_
  intro p e s m below meth c ls A hF hr hlk hin hsz hP hK hD hN hZ hA hS hl
  have hF : CallFix p m c cX8_finding 3 s _ _ RX8 := hF
  have hx := hF.1
  have hb := hF.2.1
  have hml := hF.2.2.1
  have hown := hF.2.2.2.1
  have hu : ∀ w ∈ wsU, w.before _ s = true := fun w h => hF.2.2.2.2 w (List.mem_cons_of_mem _ h)
  have hl : lv_has ls 3 [(0, .ref h0), (1, .int (-1000000005))] := hl
  refine lv_ldc (v := (-1000000001)) hx hb hown (hu _ uw396) dX8_finding_0 ?_
  refine lv_iload_n hx hb dX8_finding_2 rfl (lv_at hl 1 rfl) ?_
  refine lv_isub hx hb dX8_finding_3 ?_
  refine xl_i (y := 4) (by decide) ?_
  refine lv_istore_n (lv' := [(2, .int 4), (0, .ref h0), (1, .int (-1000000005))]) hx hb dX8_finding_4 rfl hl (by decide) rfl (fun ls hl => ?_)
  refine lv_iload_n hx hb dX8_finding_5 rfl (lv_at hl 0 rfl) ?_
  refine lv_if_lt (tgt := 25) hx hb dX8_finding_6 (by decide) (fun c_1 => absurd c_1 (by decide)) (fun c_1 => ?_)
  refine lv_iload_n hx hb dX8_finding_9 rfl (lv_at hl 0 rfl) ?_
  refine lv_bipush (v := 7) hx hb dX8_finding_10 (by decide) ?_
  refine lv_icmp_ge (tgt := 25) hx hb dX8_finding_12 (by decide) (fun c_2 => absurd c_2 (by decide)) (fun c_2 => ?_)
  refine lv_aload_n hx hb dX8_finding_15 rfl (lv_at hl 1 rfl) ?_
  refine xg hF kf_X8_70 hK hP 0 rfl rfl dX8_finding_16 ?_
  refine lv_iload_n hx hb dX8_finding_19 rfl (lv_at hl 0 rfl) ?_
  refine lv_dup2_11 hx hb dX8_finding_20 rfl rfl ?_
  refine va_iald hx hb hK hP 1 0 rfl rfl (xin 4 7 (by decide) (by decide)) dX8_finding_21 ?_
  refine xl_i (y := ff 4) (congrArg ff rfl) ?_
  refine lv_iconst (v := 1) hx hb dX8_finding_22 (by decide) ?_
  refine lv_iadd hx hb dX8_finding_23 ?_
  refine lv_topi (fun x_3 ex_3 => ?_)
  refine va_iast hx hb hK hP hD hS 1 0 rfl rfl (xin 4 7 (by decide) (by decide)) dX8_finding_24 (fun H locs hP hD hS => ?_)
  obtain ⟨f_4, ef_4⟩ : ∃ g, g = upd ff 4 x_3 := ⟨_, rfl⟩
  have hP : va_P D vwCl [(h0, .inr (8, [.ref qh, .ref qk, .ref qd, .int b0, .ref qa, .ref qm, .ref qs, .ref qp, .ref ql, .ref qt, .ref qz, .ref qf])), (qf, .inl (cI, 7, .inl (upd ff 4 x_3)))] H := hP
  have hD : va_D A [(h0, .inr (8, [.ref qh, .ref qk, .ref qd, .int b0, .ref qa, .ref qm, .ref qs, .ref qp, .ref ql, .ref qt, .ref qz, .ref qf])), (qf, .inl (cI, 7, .inl (upd ff 4 x_3)))] := hD
  rw [← ef_4] at hP hD
  have hP : va_P D vwCl [(h0, .inr (8, [.ref qh, .ref qk, .ref qd, .int b0, .ref qa, .ref qm, .ref qs, .ref qp, .ref ql, .ref qt, .ref qz, .ref qf])), (qf, .inl (cI, 7, .inl f_4))] H := hP
  have hD : va_D A [(h0, .inr (8, [.ref qh, .ref qk, .ref qd, .int b0, .ref qa, .ref qm, .ref qs, .ref qp, .ref ql, .ref qt, .ref qz, .ref qf])), (qf, .inl (cI, 7, .inl f_4))] := hD
  refine lv_iload_n hx hb dX8_finding_25 rfl (lv_at hl 2 rfl) ?_
  exact W.iret (v := (-1000000005)) hx hb hr (fun t ht hW => ⟨⟨(-1000000005), f_4, rfl, (by first | exact rfl), by rw [ht]; exact hP.sub [0, 1] rfl, hD.sub [0, 1] (by decide) rfl⟩, hS.F ht⟩) hS.2.2 dX8_finding_26 hlk
set_option maxHeartbeats 4000000 in
set_option maxRecDepth 100000 in
theorem c_X8_finding_M (l : Launch) (D : va_G) (cI cJ cZ cS : ClassId) (ta : Nat) (sa sv : Nat → Nat) (sz : Nat) (h0 : Nat) (qh : Nat) (qk : Nat) (qd : Nat) (b0 : Int32) (qa : Nat) (qm : Nat) (qs : Nat) (qp : Nat) (ql : Nat) (qt : Nat) (qz : Nat) (qf : Nat) (ff : Nat → Int32) : Met l yX8_finding (Cond.code yX8_finding cX8_finding 3 (some .int) :: wsU) ({ frames := 0, cells := 0, slots := 0, locals := 0 }) (va_Pc [.ref h0, .int (-1000000006)] (XW D (xT cI cJ cZ cS) ta sa sv [(h0, .inr (8, [.ref qh, .ref qk, .ref qd, .int b0, .ref qa, .ref qm, .ref qs, .ref qp, .ref ql, .ref qt, .ref qz, .ref qf])), (qf, .inl (cI, 7, .inl ff))] sz)) (XQi (fun (r : Int32) (f2 : (Nat → Int32)) => ((r = (-1000000006)))) D (fun (f2 : Nat → Int32) => [(h0, .inr (8, [.ref qh, .ref qk, .ref qd, .int b0, .ref qa, .ref qm, .ref qs, .ref qp, .ref ql, .ref qt, .ref qz, .ref qf])), (qf, .inl (cI, 7, .inl f2))]) (va_A [(h0, .inr (8, [.ref qh, .ref qk, .ref qd, .int b0, .ref qa, .ref qm, .ref qs, .ref qp, .ref ql, .ref qt, .ref qz, .ref qf])), (qf, .inl (cI, 7, .inl ff))] sz)) 0 0 (va_A [(h0, .inr (8, [.ref qh, .ref qk, .ref qd, .int b0, .ref qa, .ref qm, .ref qs, .ref qp, .ref ql, .ref qt, .ref qz, .ref qf])), (qf, .inl (cI, 7, .inl ff))] sz) := by
  refine xh (QA := fun A => XQi (fun (r : Int32) (f2 : (Nat → Int32)) => ((r = (-1000000006)))) D (fun (f2 : Nat → Int32) => [(h0, .inr (8, [.ref qh, .ref qk, .ref qd, .int b0, .ref qa, .ref qm, .ref qs, .ref qp, .ref ql, .ref qt, .ref qz, .ref qf])), (qf, .inl (cI, 7, .inl f2))]) A) (fr := fun A => A) (by decide) (Nat.le_of_ble_eq_true rfl) ?_
  intro p e s m below meth c ls A hF hr hlk hin hsz hP hK hD hN hZ hA hS hl
  have hF : CallFix p m c cX8_finding 3 s _ _ RX8 := hF
  have hx := hF.1
  have hb := hF.2.1
  have hml := hF.2.2.1
  have hown := hF.2.2.2.1
  have hu : ∀ w ∈ wsU, w.before _ s = true := fun w h => hF.2.2.2.2 w (List.mem_cons_of_mem _ h)
  have hl : lv_has ls 3 [(0, .ref h0), (1, .int (-1000000006))] := hl
  refine lv_ldc (v := (-1000000001)) hx hb hown (hu _ uw396) dX8_finding_0 ?_
  refine lv_iload_n hx hb dX8_finding_2 rfl (lv_at hl 1 rfl) ?_
  refine lv_isub hx hb dX8_finding_3 ?_
  refine xl_i (y := 5) (by decide) ?_
  refine lv_istore_n (lv' := [(2, .int 5), (0, .ref h0), (1, .int (-1000000006))]) hx hb dX8_finding_4 rfl hl (by decide) rfl (fun ls hl => ?_)
  refine lv_iload_n hx hb dX8_finding_5 rfl (lv_at hl 0 rfl) ?_
  refine lv_if_lt (tgt := 25) hx hb dX8_finding_6 (by decide) (fun c_1 => absurd c_1 (by decide)) (fun c_1 => ?_)
  refine lv_iload_n hx hb dX8_finding_9 rfl (lv_at hl 0 rfl) ?_
  refine lv_bipush (v := 7) hx hb dX8_finding_10 (by decide) ?_
  refine lv_icmp_ge (tgt := 25) hx hb dX8_finding_12 (by decide) (fun c_2 => absurd c_2 (by decide)) (fun c_2 => ?_)
  refine lv_aload_n hx hb dX8_finding_15 rfl (lv_at hl 1 rfl) ?_
  refine xg hF kf_X8_70 hK hP 0 rfl rfl dX8_finding_16 ?_
  refine lv_iload_n hx hb dX8_finding_19 rfl (lv_at hl 0 rfl) ?_
  refine lv_dup2_11 hx hb dX8_finding_20 rfl rfl ?_
  refine va_iald hx hb hK hP 1 0 rfl rfl (xin 5 7 (by decide) (by decide)) dX8_finding_21 ?_
  refine xl_i (y := ff 5) (congrArg ff rfl) ?_
  refine lv_iconst (v := 1) hx hb dX8_finding_22 (by decide) ?_
  refine lv_iadd hx hb dX8_finding_23 ?_
  refine lv_topi (fun x_3 ex_3 => ?_)
  refine va_iast hx hb hK hP hD hS 1 0 rfl rfl (xin 5 7 (by decide) (by decide)) dX8_finding_24 (fun H locs hP hD hS => ?_)
  obtain ⟨f_4, ef_4⟩ : ∃ g, g = upd ff 5 x_3 := ⟨_, rfl⟩
  have hP : va_P D vwCl [(h0, .inr (8, [.ref qh, .ref qk, .ref qd, .int b0, .ref qa, .ref qm, .ref qs, .ref qp, .ref ql, .ref qt, .ref qz, .ref qf])), (qf, .inl (cI, 7, .inl (upd ff 5 x_3)))] H := hP
  have hD : va_D A [(h0, .inr (8, [.ref qh, .ref qk, .ref qd, .int b0, .ref qa, .ref qm, .ref qs, .ref qp, .ref ql, .ref qt, .ref qz, .ref qf])), (qf, .inl (cI, 7, .inl (upd ff 5 x_3)))] := hD
  rw [← ef_4] at hP hD
  have hP : va_P D vwCl [(h0, .inr (8, [.ref qh, .ref qk, .ref qd, .int b0, .ref qa, .ref qm, .ref qs, .ref qp, .ref ql, .ref qt, .ref qz, .ref qf])), (qf, .inl (cI, 7, .inl f_4))] H := hP
  have hD : va_D A [(h0, .inr (8, [.ref qh, .ref qk, .ref qd, .int b0, .ref qa, .ref qm, .ref qs, .ref qp, .ref ql, .ref qt, .ref qz, .ref qf])), (qf, .inl (cI, 7, .inl f_4))] := hD
  refine lv_iload_n hx hb dX8_finding_25 rfl (lv_at hl 2 rfl) ?_
  exact W.iret (v := (-1000000006)) hx hb hr (fun t ht hW => ⟨⟨(-1000000006), f_4, rfl, (by first | exact rfl), by rw [ht]; exact hP.sub [0, 1] rfl, hD.sub [0, 1] (by decide) rfl⟩, hS.F ht⟩) hS.2.2 dX8_finding_26 hlk
set_option maxHeartbeats 4000000 in
set_option maxRecDepth 100000 in
theorem c_X8_finding_S (l : Launch) (D : va_G) (cI cJ cZ cS : ClassId) (ta : Nat) (sa sv : Nat → Nat) (sz : Nat) (h0 : Nat) (qh : Nat) (qk : Nat) (qd : Nat) (b0 : Int32) (qa : Nat) (qm : Nat) (qs : Nat) (qp : Nat) (ql : Nat) (qt : Nat) (qz : Nat) (qf : Nat) (ff : Nat → Int32) : Met l yX8_finding (Cond.code yX8_finding cX8_finding 3 (some .int) :: wsU) ({ frames := 0, cells := 0, slots := 0, locals := 0 }) (va_Pc [.ref h0, .int (-1000000007)] (XW D (xT cI cJ cZ cS) ta sa sv [(h0, .inr (8, [.ref qh, .ref qk, .ref qd, .int b0, .ref qa, .ref qm, .ref qs, .ref qp, .ref ql, .ref qt, .ref qz, .ref qf])), (qf, .inl (cI, 7, .inl ff))] sz)) (XQi (fun (r : Int32) (f2 : (Nat → Int32)) => ((r = (-1000000007)))) D (fun (f2 : Nat → Int32) => [(h0, .inr (8, [.ref qh, .ref qk, .ref qd, .int b0, .ref qa, .ref qm, .ref qs, .ref qp, .ref ql, .ref qt, .ref qz, .ref qf])), (qf, .inl (cI, 7, .inl f2))]) (va_A [(h0, .inr (8, [.ref qh, .ref qk, .ref qd, .int b0, .ref qa, .ref qm, .ref qs, .ref qp, .ref ql, .ref qt, .ref qz, .ref qf])), (qf, .inl (cI, 7, .inl ff))] sz)) 0 0 (va_A [(h0, .inr (8, [.ref qh, .ref qk, .ref qd, .int b0, .ref qa, .ref qm, .ref qs, .ref qp, .ref ql, .ref qt, .ref qz, .ref qf])), (qf, .inl (cI, 7, .inl ff))] sz) := by
  refine xh (QA := fun A => XQi (fun (r : Int32) (f2 : (Nat → Int32)) => ((r = (-1000000007)))) D (fun (f2 : Nat → Int32) => [(h0, .inr (8, [.ref qh, .ref qk, .ref qd, .int b0, .ref qa, .ref qm, .ref qs, .ref qp, .ref ql, .ref qt, .ref qz, .ref qf])), (qf, .inl (cI, 7, .inl f2))]) A) (fr := fun A => A) (by decide) (Nat.le_of_ble_eq_true rfl) ?_
  intro p e s m below meth c ls A hF hr hlk hin hsz hP hK hD hN hZ hA hS hl
  have hF : CallFix p m c cX8_finding 3 s _ _ RX8 := hF
  have hx := hF.1
  have hb := hF.2.1
  have hml := hF.2.2.1
  have hown := hF.2.2.2.1
  have hu : ∀ w ∈ wsU, w.before _ s = true := fun w h => hF.2.2.2.2 w (List.mem_cons_of_mem _ h)
  have hl : lv_has ls 3 [(0, .ref h0), (1, .int (-1000000007))] := hl
  refine lv_ldc (v := (-1000000001)) hx hb hown (hu _ uw396) dX8_finding_0 ?_
  refine lv_iload_n hx hb dX8_finding_2 rfl (lv_at hl 1 rfl) ?_
  refine lv_isub hx hb dX8_finding_3 ?_
  refine xl_i (y := 6) (by decide) ?_
  refine lv_istore_n (lv' := [(2, .int 6), (0, .ref h0), (1, .int (-1000000007))]) hx hb dX8_finding_4 rfl hl (by decide) rfl (fun ls hl => ?_)
  refine lv_iload_n hx hb dX8_finding_5 rfl (lv_at hl 0 rfl) ?_
  refine lv_if_lt (tgt := 25) hx hb dX8_finding_6 (by decide) (fun c_1 => absurd c_1 (by decide)) (fun c_1 => ?_)
  refine lv_iload_n hx hb dX8_finding_9 rfl (lv_at hl 0 rfl) ?_
  refine lv_bipush (v := 7) hx hb dX8_finding_10 (by decide) ?_
  refine lv_icmp_ge (tgt := 25) hx hb dX8_finding_12 (by decide) (fun c_2 => absurd c_2 (by decide)) (fun c_2 => ?_)
  refine lv_aload_n hx hb dX8_finding_15 rfl (lv_at hl 1 rfl) ?_
  refine xg hF kf_X8_70 hK hP 0 rfl rfl dX8_finding_16 ?_
  refine lv_iload_n hx hb dX8_finding_19 rfl (lv_at hl 0 rfl) ?_
  refine lv_dup2_11 hx hb dX8_finding_20 rfl rfl ?_
  refine va_iald hx hb hK hP 1 0 rfl rfl (xin 6 7 (by decide) (by decide)) dX8_finding_21 ?_
  refine xl_i (y := ff 6) (congrArg ff rfl) ?_
  refine lv_iconst (v := 1) hx hb dX8_finding_22 (by decide) ?_
  refine lv_iadd hx hb dX8_finding_23 ?_
  refine lv_topi (fun x_3 ex_3 => ?_)
  refine va_iast hx hb hK hP hD hS 1 0 rfl rfl (xin 6 7 (by decide) (by decide)) dX8_finding_24 (fun H locs hP hD hS => ?_)
  obtain ⟨f_4, ef_4⟩ : ∃ g, g = upd ff 6 x_3 := ⟨_, rfl⟩
  have hP : va_P D vwCl [(h0, .inr (8, [.ref qh, .ref qk, .ref qd, .int b0, .ref qa, .ref qm, .ref qs, .ref qp, .ref ql, .ref qt, .ref qz, .ref qf])), (qf, .inl (cI, 7, .inl (upd ff 6 x_3)))] H := hP
  have hD : va_D A [(h0, .inr (8, [.ref qh, .ref qk, .ref qd, .int b0, .ref qa, .ref qm, .ref qs, .ref qp, .ref ql, .ref qt, .ref qz, .ref qf])), (qf, .inl (cI, 7, .inl (upd ff 6 x_3)))] := hD
  rw [← ef_4] at hP hD
  have hP : va_P D vwCl [(h0, .inr (8, [.ref qh, .ref qk, .ref qd, .int b0, .ref qa, .ref qm, .ref qs, .ref qp, .ref ql, .ref qt, .ref qz, .ref qf])), (qf, .inl (cI, 7, .inl f_4))] H := hP
  have hD : va_D A [(h0, .inr (8, [.ref qh, .ref qk, .ref qd, .int b0, .ref qa, .ref qm, .ref qs, .ref qp, .ref ql, .ref qt, .ref qz, .ref qf])), (qf, .inl (cI, 7, .inl f_4))] := hD
  refine lv_iload_n hx hb dX8_finding_25 rfl (lv_at hl 2 rfl) ?_
  exact W.iret (v := (-1000000007)) hx hb hr (fun t ht hW => ⟨⟨(-1000000007), f_4, rfl, (by first | exact rfl), by rw [ht]; exact hP.sub [0, 1] rfl, hD.sub [0, 1] (by decide) rfl⟩, hS.F ht⟩) hS.2.2 dX8_finding_26 hlk
set_option maxHeartbeats 4000000 in
set_option maxRecDepth 100000 in
theorem c_X8_lengthOrNone (l : Launch) (D : va_G) (cI cJ cZ cS : ClassId) (ta : Nat) (sa sv : Nat → Nat) (sz : Nat) (h0 : Nat) (qh : Nat) (qk : Nat) (qd : Nat) (b0 : Int32) (qa : Nat) (qm : Nat) (qs : Nat) (qp : Nat) (ql : Nat) (qt : Nat) (qz : Nat) (qf : Nat) (ff : Nat → Int32) (p0 : Int32) : Met l yX8_lengthOrNone (Cond.code yX8_lengthOrNone cX8_lengthOrNone 2 (some .int) :: wsU) ({ frames := 1, cells := 0, slots := 0, locals := 22 }) (va_Pc [.ref h0, .int p0] (XW D (xT cI cJ cZ cS) ta sa sv [(h0, .inr (8, [.ref qh, .ref qk, .ref qd, .int b0, .ref qa, .ref qm, .ref qs, .ref qp, .ref ql, .ref qt, .ref qz, .ref qf])), (qf, .inl (cI, 7, .inl ff))] sz)) (XQi (fun (r : Int32) (f2 : (Nat → Int32)) => (True)) D (fun (f2 : Nat → Int32) => [(h0, .inr (8, [.ref qh, .ref qk, .ref qd, .int b0, .ref qa, .ref qm, .ref qs, .ref qp, .ref ql, .ref qt, .ref qz, .ref qf])), (qf, .inl (cI, 7, .inl f2))]) (va_A [(h0, .inr (8, [.ref qh, .ref qk, .ref qd, .int b0, .ref qa, .ref qm, .ref qs, .ref qp, .ref ql, .ref qt, .ref qz, .ref qf])), (qf, .inl (cI, 7, .inl ff))] sz)) 0 0 (va_A [(h0, .inr (8, [.ref qh, .ref qk, .ref qd, .int b0, .ref qa, .ref qm, .ref qs, .ref qp, .ref ql, .ref qt, .ref qz, .ref qf])), (qf, .inl (cI, 7, .inl ff))] sz) := by
  refine xh (QA := fun A => XQi (fun (r : Int32) (f2 : (Nat → Int32)) => (True)) D (fun (f2 : Nat → Int32) => [(h0, .inr (8, [.ref qh, .ref qk, .ref qd, .int b0, .ref qa, .ref qm, .ref qs, .ref qp, .ref ql, .ref qt, .ref qz, .ref qf])), (qf, .inl (cI, 7, .inl f2))]) A) (fr := fun A => A) (by decide) (Nat.le_of_ble_eq_true rfl) ?_
  intro p e s m below meth c ls A hF hr hlk hin hsz hP hK hD hN hZ hA hS hl
  have hF : CallFix p m c cX8_lengthOrNone 2 s _ _ RX8 := hF
  have hx := hF.1
  have hb := hF.2.1
  have hml := hF.2.2.1
  have hown := hF.2.2.2.1
  have hu : ∀ w ∈ wsU, w.before _ s = true := fun w h => hF.2.2.2.2 w (List.mem_cons_of_mem _ h)
  have hl : lv_has ls 2 [(0, .ref h0), (1, .int p0)] := hl
  refine lv_iload_n hx hb dX8_lengthOrNone_0 rfl (lv_at hl 1 rfl) ?_
  refine lv_ldc (v := 1000000000) hx hb hown (hu _ uw4) dX8_lengthOrNone_1 ?_
  refine lv_icmp_ne (tgt := 15) hx hb dX8_lengthOrNone_3 (by decide) (fun c_1 => ?_) (fun c_1 => ?_)
  · skip
    refine lv_iload_n hx hb dX8_lengthOrNone_15 rfl (lv_at hl 1 rfl) ?_
    exact W.iret (v := p0) hx hb hr (fun t ht hW => ⟨⟨p0, ff, rfl, trivial, by rw [ht]; exact hP.sub [0, 1] rfl, hD.sub [0, 1] (by decide) rfl⟩, hS.F ht⟩) hS.2.2 dX8_lengthOrNone_16 hlk
  · skip
    refine lv_aload_n hx hb dX8_lengthOrNone_6 rfl (lv_at hl 0 rfl) ?_
    refine lv_ldc (v := (-1000000004)) hx hb hown (hu _ uw410) dX8_lengthOrNone_7 ?_
    refine xc_Vi (wr := []) hF (c_X8_finding_N l D cI cJ cZ cS ta sa sv s.heap.size h0 qh qk qd b0 qa qm qs qp ql qt qz qf ff ) kv_X8_80 ⟨rfl, rfl, Nat.le_of_ble_eq_true rfl, Nat.le_of_ble_eq_true rfl⟩ ⟨Nat.le_of_ble_eq_true rfl, Nat.le_of_ble_eq_true rfl⟩ hK hN hZ hP hD hS hA [0, 1] [] rfl rfl rfl rfl (by decide) 0 rfl rfl rfl rfl hl.1 rfl (Nat.le_of_ble_eq_true rfl) dX8_lengthOrNone_9 (fun r_2 u_r_2 H locs hw_r_2 hP hD hS => ?_)
    obtain ⟨f2_3, rfl⟩ : ∃ z, z = u_r_2 := ⟨_, rfl⟩
    try dsimp only at hw_r_2
    have hP : va_P D vwCl [(h0, .inr (8, [.ref qh, .ref qk, .ref qd, .int b0, .ref qa, .ref qm, .ref qs, .ref qp, .ref ql, .ref qt, .ref qz, .ref qf])), (qf, .inl (cI, 7, .inl f2_3))] H := hP
    have hD : va_D A [(h0, .inr (8, [.ref qh, .ref qk, .ref qd, .int b0, .ref qa, .ref qm, .ref qs, .ref qp, .ref ql, .ref qt, .ref qz, .ref qf])), (qf, .inl (cI, 7, .inl f2_3))] := hD
    subst hw_r_2
    refine lv_goto (tgt := 16) hx hb dX8_lengthOrNone_12 (by decide) ?_
    exact W.iret (v := (-1000000004)) hx hb hr (fun t ht hW => ⟨⟨(-1000000004), f2_3, rfl, trivial, by rw [ht]; exact hP.sub [0, 1] rfl, hD.sub [0, 1] (by decide) rfl⟩, hS.F ht⟩) hS.2.2 dX8_lengthOrNone_16 hlk
set_option maxHeartbeats 4000000 in
set_option maxRecDepth 100000 in
theorem c_X8_place (l : Launch) (D : va_G) (cI cJ cZ cS : ClassId) (ta : Nat) (sa sv : Nat → Nat) (sz : Nat) (h0 : Nat) (qh : Nat) (qk : Nat) (qd : Nat) (b0 : Int32) (qa : Nat) (qm : Nat) (qs : Nat) (qp : Nat) (ql : Nat) (qt : Nat) (qz : Nat) (qf : Nat) (Pa : Nat) (ae : Nat) (al : Nat) (au : Nat) (ao : Nat) (ar : Nat) (ak : Nat) (aw : Nat) (att : Nat) (ass : Nat) (fae : Nat → Int32) (ff : Nat → Int32) (hP0 : Pa ≤ 10) : Met l yX8_place (Cond.code yX8_place cX8_place 1 (some .int) :: wsU) ({ frames := 1, cells := 0, slots := 0, locals := 22 }) (va_Pc [.ref h0] (XW D (xT cI cJ cZ cS) ta sa sv [(h0, .inr (8, [.ref qh, .ref qk, .ref qd, .int b0, .ref qa, .ref qm, .ref qs, .ref qp, .ref ql, .ref qt, .ref qz, .ref qf])), (qh, .inr (1, [.int (nI (Pa)), .ref ae, .ref al, .ref au, .ref ao, .ref ar, .ref ak, .ref aw, .ref att, .ref ass])), (ae, .inl (cI, 10, .inl fae)), (qf, .inl (cI, 7, .inl ff))] sz)) (XQi (fun (r : Int32) (u : Nat × (Nat → Int32) × (Nat → Int32)) => match u with | (P2, e2, f2) => ((r = sp_plr Pa)) ∧ (P2 = sp_pl Pa) ∧ (e2 = plE Pa fae) ∧ (P2 ≤ 10)) D (fun (u : Nat × (Nat → Int32) × (Nat → Int32)) => match u with | (P2, e2, f2) => [(h0, .inr (8, [.ref qh, .ref qk, .ref qd, .int b0, .ref qa, .ref qm, .ref qs, .ref qp, .ref ql, .ref qt, .ref qz, .ref qf])), (qh, .inr (1, [.int (nI (P2)), .ref ae, .ref al, .ref au, .ref ao, .ref ar, .ref ak, .ref aw, .ref att, .ref ass])), (ae, .inl (cI, 10, .inl e2)), (qf, .inl (cI, 7, .inl f2))]) (va_A [(h0, .inr (8, [.ref qh, .ref qk, .ref qd, .int b0, .ref qa, .ref qm, .ref qs, .ref qp, .ref ql, .ref qt, .ref qz, .ref qf])), (qh, .inr (1, [.int (nI (Pa)), .ref ae, .ref al, .ref au, .ref ao, .ref ar, .ref ak, .ref aw, .ref att, .ref ass])), (ae, .inl (cI, 10, .inl fae)), (qf, .inl (cI, 7, .inl ff))] sz)) 0 0 (va_A [(h0, .inr (8, [.ref qh, .ref qk, .ref qd, .int b0, .ref qa, .ref qm, .ref qs, .ref qp, .ref ql, .ref qt, .ref qz, .ref qf])), (qh, .inr (1, [.int (nI (Pa)), .ref ae, .ref al, .ref au, .ref ao, .ref ar, .ref ak, .ref aw, .ref att, .ref ass])), (ae, .inl (cI, 10, .inl fae)), (qf, .inl (cI, 7, .inl ff))] sz) := by
  refine xh (QA := fun A => XQi (fun (r : Int32) (u : Nat × (Nat → Int32) × (Nat → Int32)) => match u with | (P2, e2, f2) => ((r = sp_plr Pa)) ∧ (P2 = sp_pl Pa) ∧ (e2 = plE Pa fae) ∧ (P2 ≤ 10)) D (fun (u : Nat × (Nat → Int32) × (Nat → Int32)) => match u with | (P2, e2, f2) => [(h0, .inr (8, [.ref qh, .ref qk, .ref qd, .int b0, .ref qa, .ref qm, .ref qs, .ref qp, .ref ql, .ref qt, .ref qz, .ref qf])), (qh, .inr (1, [.int (nI (P2)), .ref ae, .ref al, .ref au, .ref ao, .ref ar, .ref ak, .ref aw, .ref att, .ref ass])), (ae, .inl (cI, 10, .inl e2)), (qf, .inl (cI, 7, .inl f2))]) A) (fr := fun A => A) (by decide) (Nat.le_of_ble_eq_true rfl) ?_
  intro p e s m below meth c ls A hF hr hlk hin hsz hP hK hD hN hZ hA hS hl
  have hF : CallFix p m c cX8_place 1 s _ _ RX8 := hF
  have hx := hF.1
  have hb := hF.2.1
  have hml := hF.2.2.1
  have hown := hF.2.2.2.1
  have hu : ∀ w ∈ wsU, w.before _ s = true := fun w h => hF.2.2.2.2 w (List.mem_cons_of_mem _ h)
  have hl : lv_has ls 1 [(0, .ref h0)] := hl
  refine lv_aload_n hx hb dX8_place_0 rfl (lv_at hl 0 rfl) ?_
  refine xg hF kf_X8_12 hK hP 0 rfl rfl dX8_place_1 ?_
  refine xg hF kf_X8_75 hK hP 1 rfl rfl dX8_place_4 ?_
  refine lv_bipush (v := 10) hx hb dX8_place_7 (by decide) ?_
  refine lv_icmp_lt (tgt := 19) hx hb dX8_place_9 (by decide) (fun c_1 => ?_) (fun c_1 => ?_)
  · skip
    have nc_1 : Pa < 10 := xn_lt (a := Pa) (b := 10) (by omega) (by omega) c_1
    refine lv_aload_n hx hb dX8_place_19 rfl (lv_at hl 0 rfl) ?_
    refine xg hF kf_X8_12 hK hP 0 rfl rfl dX8_place_20 ?_
    refine lv_iconst (v := 0) hx hb dX8_place_23 (by decide) ?_
    refine xc_Vi (wr := [(h0, .inr (8, [.ref qh, .ref qk, .ref qd, .int b0, .ref qa, .ref qm, .ref qs, .ref qp, .ref ql, .ref qt, .ref qz, .ref qf])), (qf, .inl (cI, 7, .inl ff))]) hF (c_X1_addPlace l D cI cJ cZ cS ta sa sv s.heap.size qh ae al au ao ar ak aw att ass Pa fae 0 (by omega)) kv_X8_84 ⟨rfl, rfl, Nat.le_of_ble_eq_true rfl, Nat.le_of_ble_eq_true rfl⟩ ⟨Nat.le_of_ble_eq_true rfl, Nat.le_of_ble_eq_true rfl⟩ hK hN hZ hP hD hS hA [1, 2] [0, 3] rfl rfl rfl rfl (by decide) 0 rfl rfl rfl rfl hl.1 rfl (Nat.le_of_ble_eq_true rfl) dX8_place_24 (fun r_2 u_r_2 H locs hw_r_2 hP hD hS => ?_)
    obtain ⟨e2_3, rfl⟩ : ∃ z, z = u_r_2 := ⟨_, rfl⟩
    try dsimp only at hw_r_2
    obtain ⟨hw_r_2, i_4⟩ := hw_r_2
    have hP : va_P D vwCl [(h0, .inr (8, [.ref qh, .ref qk, .ref qd, .int b0, .ref qa, .ref qm, .ref qs, .ref qp, .ref ql, .ref qt, .ref qz, .ref qf])), (qf, .inl (cI, 7, .inl ff)), (qh, .inr (1, [.int (nI (Pa + 1)), .ref ae, .ref al, .ref au, .ref ao, .ref ar, .ref ak, .ref aw, .ref att, .ref ass])), (ae, .inl (cI, 10, .inl e2_3))] H := hP
    have hD : va_D A [(h0, .inr (8, [.ref qh, .ref qk, .ref qd, .int b0, .ref qa, .ref qm, .ref qs, .ref qp, .ref ql, .ref qt, .ref qz, .ref qf])), (qf, .inl (cI, 7, .inl ff)), (qh, .inr (1, [.int (nI (Pa + 1)), .ref ae, .ref al, .ref au, .ref ao, .ref ar, .ref ak, .ref aw, .ref att, .ref ass])), (ae, .inl (cI, 10, .inl e2_3))] := hD
    subst hw_r_2
    exact W.iret (v := nI (Pa)) hx hb hr (fun t ht hW => ⟨⟨nI (Pa), (Pa + 1, e2_3, ff), rfl, ⟨(sp_pl1 (P := Pa) (by omega)).2, (sp_pl1 (P := Pa) (by omega)).1, (i_4.trans (if_pos (show Pa < 10 by omega)).symm), (by first | assumption | omega)⟩, by rw [ht]; exact hP.sub [0, 2, 3, 1] rfl, hD.sub [0, 2, 3, 1] (by decide) rfl⟩, hS.F ht⟩) hS.2.2 dX8_place_27 hlk
  · skip
    have nc_1 : 10 ≤ Pa := xn_nlt (a := Pa) (b := 10) (by omega) (by omega) c_1
    refine lv_aload_n hx hb dX8_place_12 rfl (lv_at hl 0 rfl) ?_
    refine lv_ldc (v := (-1000000002)) hx hb hown (hu _ uw419) dX8_place_13 ?_
    refine xc_Vi (wr := [(qh, .inr (1, [.int (nI (Pa)), .ref ae, .ref al, .ref au, .ref ao, .ref ar, .ref ak, .ref aw, .ref att, .ref ass])), (ae, .inl (cI, 10, .inl fae))]) hF (c_X8_finding_F l D cI cJ cZ cS ta sa sv s.heap.size h0 qh qk qd b0 qa qm qs qp ql qt qz qf ff ) kv_X8_80 ⟨rfl, rfl, Nat.le_of_ble_eq_true rfl, Nat.le_of_ble_eq_true rfl⟩ ⟨Nat.le_of_ble_eq_true rfl, Nat.le_of_ble_eq_true rfl⟩ hK hN hZ hP hD hS hA [0, 3] [1, 2] rfl rfl rfl rfl (by decide) 0 rfl rfl rfl rfl hl.1 rfl (Nat.le_of_ble_eq_true rfl) dX8_place_15 (fun r_5 u_r_5 H locs hw_r_5 hP hD hS => ?_)
    obtain ⟨f2_6, rfl⟩ : ∃ z, z = u_r_5 := ⟨_, rfl⟩
    try dsimp only at hw_r_5
    have hP : va_P D vwCl [(qh, .inr (1, [.int (nI (Pa)), .ref ae, .ref al, .ref au, .ref ao, .ref ar, .ref ak, .ref aw, .ref att, .ref ass])), (ae, .inl (cI, 10, .inl fae)), (h0, .inr (8, [.ref qh, .ref qk, .ref qd, .int b0, .ref qa, .ref qm, .ref qs, .ref qp, .ref ql, .ref qt, .ref qz, .ref qf])), (qf, .inl (cI, 7, .inl f2_6))] H := hP
    have hD : va_D A [(qh, .inr (1, [.int (nI (Pa)), .ref ae, .ref al, .ref au, .ref ao, .ref ar, .ref ak, .ref aw, .ref att, .ref ass])), (ae, .inl (cI, 10, .inl fae)), (h0, .inr (8, [.ref qh, .ref qk, .ref qd, .int b0, .ref qa, .ref qm, .ref qs, .ref qp, .ref ql, .ref qt, .ref qz, .ref qf])), (qf, .inl (cI, 7, .inl f2_6))] := hD
    subst hw_r_5
    exact W.iret (v := (-1000000002)) hx hb hr (fun t ht hW => ⟨⟨(-1000000002), (Pa, fae, f2_6), rfl, ⟨(sp_pl2 (P := Pa) (by omega)).2, (sp_pl2 (P := Pa) (by omega)).1, (if_neg (show ¬ Pa < 10 by omega)).symm, (by first | assumption | omega)⟩, by rw [ht]; exact hP.sub [2, 0, 1, 3] rfl, hD.sub [2, 0, 1, 3] (by decide) rfl⟩, hS.F ht⟩) hS.2.2 dX8_place_18 hlk
set_option maxHeartbeats 4000000 in
set_option maxRecDepth 100000 in
theorem c_X8_errands (l : Launch) (D : va_G) (cI cJ cZ cS : ClassId) (ta : Nat) (sa sv : Nat → Nat) (sz : Nat) (h0 : Nat) (qh : Nat) (qk : Nat) (qd : Nat) (b0 : Int32) (qa : Nat) (qm : Nat) (qs : Nat) (qp : Nat) (ql : Nat) (qt : Nat) (qz : Nat) (qf : Nat) (Pa : Nat) (ae : Nat) (al : Nat) (au : Nat) (ao : Nat) (ar : Nat) (ak : Nat) (aw : Nat) (att : Nat) (ass : Nat) (fae : Nat → Int32) (ff : Nat → Int32) (p0 : Int32) (p1 : Int32) (hP0 : Pa ≤ 10) : Met l yX8_errands (Cond.code yX8_errands cX8_errands 4 (some .int) :: wsU) ({ frames := 1, cells := 0, slots := 0, locals := 22 }) (va_Pc [.ref h0, .int p0, .int p1] (XW D (xT cI cJ cZ cS) ta sa sv [(h0, .inr (8, [.ref qh, .ref qk, .ref qd, .int b0, .ref qa, .ref qm, .ref qs, .ref qp, .ref ql, .ref qt, .ref qz, .ref qf])), (qh, .inr (1, [.int (nI (Pa)), .ref ae, .ref al, .ref au, .ref ao, .ref ar, .ref ak, .ref aw, .ref att, .ref ass])), (ae, .inl (cI, 10, .inl fae)), (qf, .inl (cI, 7, .inl ff))] sz)) (XQi (fun (r : Int32) (u : (Nat → Int32) × (Nat → Int32)) => match u with | (e2, f2) => ((r = erR Pa fae p0 p1)) ∧ (e2 = erE Pa fae p0 p1)) D (fun (u : (Nat → Int32) × (Nat → Int32)) => match u with | (e2, f2) => [(h0, .inr (8, [.ref qh, .ref qk, .ref qd, .int b0, .ref qa, .ref qm, .ref qs, .ref qp, .ref ql, .ref qt, .ref qz, .ref qf])), (qh, .inr (1, [.int (nI (Pa)), .ref ae, .ref al, .ref au, .ref ao, .ref ar, .ref ak, .ref aw, .ref att, .ref ass])), (ae, .inl (cI, 10, .inl e2)), (qf, .inl (cI, 7, .inl f2))]) (va_A [(h0, .inr (8, [.ref qh, .ref qk, .ref qd, .int b0, .ref qa, .ref qm, .ref qs, .ref qp, .ref ql, .ref qt, .ref qz, .ref qf])), (qh, .inr (1, [.int (nI (Pa)), .ref ae, .ref al, .ref au, .ref ao, .ref ar, .ref ak, .ref aw, .ref att, .ref ass])), (ae, .inl (cI, 10, .inl fae)), (qf, .inl (cI, 7, .inl ff))] sz)) 0 0 (va_A [(h0, .inr (8, [.ref qh, .ref qk, .ref qd, .int b0, .ref qa, .ref qm, .ref qs, .ref qp, .ref ql, .ref qt, .ref qz, .ref qf])), (qh, .inr (1, [.int (nI (Pa)), .ref ae, .ref al, .ref au, .ref ao, .ref ar, .ref ak, .ref aw, .ref att, .ref ass])), (ae, .inl (cI, 10, .inl fae)), (qf, .inl (cI, 7, .inl ff))] sz) := by
  refine xh (QA := fun A => XQi (fun (r : Int32) (u : (Nat → Int32) × (Nat → Int32)) => match u with | (e2, f2) => ((r = erR Pa fae p0 p1)) ∧ (e2 = erE Pa fae p0 p1)) D (fun (u : (Nat → Int32) × (Nat → Int32)) => match u with | (e2, f2) => [(h0, .inr (8, [.ref qh, .ref qk, .ref qd, .int b0, .ref qa, .ref qm, .ref qs, .ref qp, .ref ql, .ref qt, .ref qz, .ref qf])), (qh, .inr (1, [.int (nI (Pa)), .ref ae, .ref al, .ref au, .ref ao, .ref ar, .ref ak, .ref aw, .ref att, .ref ass])), (ae, .inl (cI, 10, .inl e2)), (qf, .inl (cI, 7, .inl f2))]) A) (fr := fun A => A) (by decide) (Nat.le_of_ble_eq_true rfl) ?_
  intro p e s m below meth c ls A hF hr hlk hin hsz hP hK hD hN hZ hA hS hl
  have hF : CallFix p m c cX8_errands 4 s _ _ RX8 := hF
  have hx := hF.1
  have hb := hF.2.1
  have hml := hF.2.2.1
  have hown := hF.2.2.2.1
  have hu : ∀ w ∈ wsU, w.before _ s = true := fun w h => hF.2.2.2.2 w (List.mem_cons_of_mem _ h)
  have hl : lv_has ls 4 [(0, .ref h0), (1, .int p0), (2, .int p1)] := hl
  refine lv_aload_n hx hb dX8_errands_0 rfl (lv_at hl 0 rfl) ?_
  refine xg hF kf_X8_12 hK hP 0 rfl rfl dX8_errands_1 ?_
  refine lv_iload_n hx hb dX8_errands_4 rfl (lv_at hl 1 rfl) ?_
  refine lv_i2l (v := p0.toInt64) hx hb dX8_errands_5 rfl ?_
  refine xc_Vr hF (c_X1_isPlace l D cI cJ cZ cS ta sa sv s.heap.size qh ae al au ao ar ak aw att ass Pa p0 (by omega)) kv_X8_87 ⟨rfl, rfl, Nat.le_of_ble_eq_true rfl, Nat.le_of_ble_eq_true rfl⟩ ⟨Nat.le_of_ble_eq_true rfl, Nat.le_of_ble_eq_true rfl⟩ hK hN hZ hP hD hS hA [1] rfl rfl 0 rfl rfl rfl rfl hl.1 rfl (Nat.le_of_ble_eq_true rfl) dX8_errands_6 (fun r_1 hw_r_1 => ?_)
  rcases hw_r_1 with ⟨k_2, rfl, rfl, h_4⟩ | ⟨rfl, h_5⟩
  · skip
    refine lv_if_eq (tgt := 22) hx hb dX8_errands_9 (by decide) (fun c_6 => absurd c_6 (by decide)) (fun c_6 => ?_)
    refine lv_iload_n hx hb dX8_errands_12 rfl (lv_at hl 2 rfl) ?_
    refine lv_iconst (v := 0) hx hb dX8_errands_13 (by decide) ?_
    refine lv_bipush (v := 99) hx hb dX8_errands_14 (by decide) ?_
    refine xc_Sr hF (c_X8_isWithin l D cI cJ cZ cS ta sa sv s.heap.size p1 0 99 ) ks_X8_91 ⟨rfl, rfl, Nat.le_of_ble_eq_true rfl, Nat.le_of_ble_eq_true rfl⟩ ⟨Nat.le_of_ble_eq_true rfl, Nat.le_of_ble_eq_true rfl⟩ hK hN hZ hP hD hS hA [] rfl rfl rfl hl.1 rfl (Nat.le_of_ble_eq_true rfl) dX8_errands_16 (fun r_7 hw_r_7 => ?_)
    rcases hw_r_7 with ⟨rfl, h_8, h_9⟩ | ⟨rfl, h_10⟩
    · skip
      refine lv_if_ne (tgt := 29) hx hb dX8_errands_19 (by decide) (fun c_11 => ?_) (fun c_11 => absurd c_11 (by decide))
      refine lv_aload_n hx hb dX8_errands_29 rfl (lv_at hl 0 rfl) ?_
      refine xg hF kf_X8_12 hK hP 0 rfl rfl dX8_errands_30 ?_
      refine xg hF kf_X8_96 hK hP 1 rfl rfl dX8_errands_33 ?_
      refine lv_iload_n hx hb dX8_errands_36 rfl (lv_at hl 1 rfl) ?_
      refine va_iald hx hb hK hP 2 0 rfl rfl (vp_in_nI (show k_2 < 10 by omega) (by decide)) dX8_errands_37 ?_
      refine xl_i (y := fae k_2) (congrArg fae (nI_clamp (show k_2 < 2 ^ 31 by omega))) ?_
      refine lv_istore_n (lv' := [(3, .int (fae k_2)), (0, .ref h0), (1, .int (nI (k_2))), (2, .int p1)]) hx hb dX8_errands_38 rfl hl (by decide) rfl (fun ls hl => ?_)
      refine lv_aload_n hx hb dX8_errands_39 rfl (lv_at hl 1 rfl) ?_
      refine xg hF kf_X8_12 hK hP 0 rfl rfl dX8_errands_40 ?_
      refine xg hF kf_X8_96 hK hP 1 rfl rfl dX8_errands_43 ?_
      refine lv_iload_n hx hb dX8_errands_46 rfl (lv_at hl 2 rfl) ?_
      refine lv_iload_n hx hb dX8_errands_47 rfl (lv_at hl 3 rfl) ?_
      refine va_iast hx hb hK hP hD hS 2 0 rfl rfl (vp_in_nI (show k_2 < 10 by omega) (by decide)) dX8_errands_48 (fun H locs hP hD hS => ?_)
      rw [nI_clamp (show k_2 < 2 ^ 31 by omega)] at hP hD
      obtain ⟨f_12, ef_12⟩ : ∃ g, g = upd fae k_2 p1 := ⟨_, rfl⟩
      rw [← ef_12] at hP hD
      have hP : va_P D vwCl [(h0, .inr (8, [.ref qh, .ref qk, .ref qd, .int b0, .ref qa, .ref qm, .ref qs, .ref qp, .ref ql, .ref qt, .ref qz, .ref qf])), (qh, .inr (1, [.int (nI (Pa)), .ref ae, .ref al, .ref au, .ref ao, .ref ar, .ref ak, .ref aw, .ref att, .ref ass])), (ae, .inl (cI, 10, .inl f_12)), (qf, .inl (cI, 7, .inl ff))] H := hP
      have hD : va_D A [(h0, .inr (8, [.ref qh, .ref qk, .ref qd, .int b0, .ref qa, .ref qm, .ref qs, .ref qp, .ref ql, .ref qt, .ref qz, .ref qf])), (qh, .inr (1, [.int (nI (Pa)), .ref ae, .ref al, .ref au, .ref ao, .ref ar, .ref ak, .ref aw, .ref att, .ref ass])), (ae, .inl (cI, 10, .inl f_12)), (qf, .inl (cI, 7, .inl ff))] := hD
      refine lv_iload_n hx hb dX8_errands_49 rfl (lv_at hl 0 rfl) ?_
      exact W.iret (v := fae k_2) hx hb hr (fun t ht hW => ⟨⟨fae k_2, (f_12, ff), rfl, ⟨(er_yes (P := Pa) (by omega) (by omega) ⟨h_8, h_9⟩).1 _, (ef_12.trans ((er_yes (P := Pa) (by omega) (by omega) ⟨h_8, h_9⟩).2.1 _))⟩, by rw [ht]; exact hP.sub [0, 1, 2, 3] rfl, hD.sub [0, 1, 2, 3] (by decide) rfl⟩, hS.F ht⟩) hS.2.2 dX8_errands_50 hlk
    · skip
      refine lv_if_ne (tgt := 29) hx hb dX8_errands_19 (by decide) (fun c_13 => absurd (by decide) c_13) (fun c_13 => ?_)
      refine lv_aload_n hx hb dX8_errands_22 rfl (lv_at hl 0 rfl) ?_
      refine lv_ldc (v := (-1000000001)) hx hb hown (hu _ uw396) dX8_errands_23 ?_
      refine xc_Vi (wr := [(qh, .inr (1, [.int (nI (Pa)), .ref ae, .ref al, .ref au, .ref ao, .ref ar, .ref ak, .ref aw, .ref att, .ref ass])), (ae, .inl (cI, 10, .inl fae))]) hF (c_X8_finding_B l D cI cJ cZ cS ta sa sv s.heap.size h0 qh qk qd b0 qa qm qs qp ql qt qz qf ff ) kv_X8_80 ⟨rfl, rfl, Nat.le_of_ble_eq_true rfl, Nat.le_of_ble_eq_true rfl⟩ ⟨Nat.le_of_ble_eq_true rfl, Nat.le_of_ble_eq_true rfl⟩ hK hN hZ hP hD hS hA [0, 3] [1, 2] rfl rfl rfl rfl (by decide) 0 rfl rfl rfl rfl hl.1 rfl (Nat.le_of_ble_eq_true rfl) dX8_errands_25 (fun r_14 u_r_14 H locs hw_r_14 hP hD hS => ?_)
      obtain ⟨f2_15, rfl⟩ : ∃ z, z = u_r_14 := ⟨_, rfl⟩
      try dsimp only at hw_r_14
      have hP : va_P D vwCl [(qh, .inr (1, [.int (nI (Pa)), .ref ae, .ref al, .ref au, .ref ao, .ref ar, .ref ak, .ref aw, .ref att, .ref ass])), (ae, .inl (cI, 10, .inl fae)), (h0, .inr (8, [.ref qh, .ref qk, .ref qd, .int b0, .ref qa, .ref qm, .ref qs, .ref qp, .ref ql, .ref qt, .ref qz, .ref qf])), (qf, .inl (cI, 7, .inl f2_15))] H := hP
      have hD : va_D A [(qh, .inr (1, [.int (nI (Pa)), .ref ae, .ref al, .ref au, .ref ao, .ref ar, .ref ak, .ref aw, .ref att, .ref ass])), (ae, .inl (cI, 10, .inl fae)), (h0, .inr (8, [.ref qh, .ref qk, .ref qd, .int b0, .ref qa, .ref qm, .ref qs, .ref qp, .ref ql, .ref qt, .ref qz, .ref qf])), (qf, .inl (cI, 7, .inl f2_15))] := hD
      subst hw_r_14
      exact W.iret (v := (-1000000001)) hx hb hr (fun t ht hW => ⟨⟨(-1000000001), (fae, f2_15), rfl, ⟨(er_no (P := Pa) (fun h => h_10.elim h.2.1 h.2.2)).1 _, ((er_no (P := Pa) (fun h => h_10.elim h.2.1 h.2.2)).2.1 _)⟩, by rw [ht]; exact hP.sub [2, 0, 1, 3] rfl, hD.sub [2, 0, 1, 3] (by decide) rfl⟩, hS.F ht⟩) hS.2.2 dX8_errands_28 hlk
  · skip
    refine lv_if_eq (tgt := 22) hx hb dX8_errands_9 (by decide) (fun c_16 => ?_) (fun c_16 => absurd (by decide) c_16)
    refine lv_aload_n hx hb dX8_errands_22 rfl (lv_at hl 0 rfl) ?_
    refine lv_ldc (v := (-1000000001)) hx hb hown (hu _ uw396) dX8_errands_23 ?_
    refine xc_Vi (wr := [(qh, .inr (1, [.int (nI (Pa)), .ref ae, .ref al, .ref au, .ref ao, .ref ar, .ref ak, .ref aw, .ref att, .ref ass])), (ae, .inl (cI, 10, .inl fae))]) hF (c_X8_finding_B l D cI cJ cZ cS ta sa sv s.heap.size h0 qh qk qd b0 qa qm qs qp ql qt qz qf ff ) kv_X8_80 ⟨rfl, rfl, Nat.le_of_ble_eq_true rfl, Nat.le_of_ble_eq_true rfl⟩ ⟨Nat.le_of_ble_eq_true rfl, Nat.le_of_ble_eq_true rfl⟩ hK hN hZ hP hD hS hA [0, 3] [1, 2] rfl rfl rfl rfl (by decide) 0 rfl rfl rfl rfl hl.1 rfl (Nat.le_of_ble_eq_true rfl) dX8_errands_25 (fun r_17 u_r_17 H locs hw_r_17 hP hD hS => ?_)
    obtain ⟨f2_18, rfl⟩ : ∃ z, z = u_r_17 := ⟨_, rfl⟩
    try dsimp only at hw_r_17
    have hP : va_P D vwCl [(qh, .inr (1, [.int (nI (Pa)), .ref ae, .ref al, .ref au, .ref ao, .ref ar, .ref ak, .ref aw, .ref att, .ref ass])), (ae, .inl (cI, 10, .inl fae)), (h0, .inr (8, [.ref qh, .ref qk, .ref qd, .int b0, .ref qa, .ref qm, .ref qs, .ref qp, .ref ql, .ref qt, .ref qz, .ref qf])), (qf, .inl (cI, 7, .inl f2_18))] H := hP
    have hD : va_D A [(qh, .inr (1, [.int (nI (Pa)), .ref ae, .ref al, .ref au, .ref ao, .ref ar, .ref ak, .ref aw, .ref att, .ref ass])), (ae, .inl (cI, 10, .inl fae)), (h0, .inr (8, [.ref qh, .ref qk, .ref qd, .int b0, .ref qa, .ref qm, .ref qs, .ref qp, .ref ql, .ref qt, .ref qz, .ref qf])), (qf, .inl (cI, 7, .inl f2_18))] := hD
    subst hw_r_17
    exact W.iret (v := (-1000000001)) hx hb hr (fun t ht hW => ⟨⟨(-1000000001), (fae, f2_18), rfl, ⟨(er_no (P := Pa) (v := p1) (fun h => h_5 h.1)).1 _, ((er_no (P := Pa) (v := p1) (fun h => h_5 h.1)).2.1 _)⟩, by rw [ht]; exact hP.sub [2, 0, 1, 3] rfl, hD.sub [2, 0, 1, 3] (by decide) rfl⟩, hS.F ht⟩) hS.2.2 dX8_errands_28 hlk
set_option maxHeartbeats 4000000 in
set_option maxRecDepth 100000 in
theorem c_X8_way (l : Launch) (D : va_G) (cI cJ cZ cS : ClassId) (ta : Nat) (sa sv : Nat → Nat) (sz : Nat) (h0 : Nat) (qh : Nat) (qk : Nat) (qd : Nat) (b0 : Int32) (qa : Nat) (qm : Nat) (qs : Nat) (qp : Nat) (ql : Nat) (qt : Nat) (qz : Nat) (qf : Nat) (Pa : Nat) (ae : Nat) (al : Nat) (au : Nat) (ao : Nat) (ar : Nat) (ak : Nat) (aw : Nat) (att : Nat) (ass : Nat) (fal : Nat → Int32) (fau : Nat → Int32) (fao : Nat → Int32) (ff : Nat → Int32) (p0 : Int32) (p1 : Int32) (p2 : Int32) (p3 : Int32) (hP0 : Pa ≤ 10) : Met l yX8_way (Cond.code yX8_way cX8_way 6 (some .int) :: wsU) ({ frames := 2, cells := 0, slots := 0, locals := 46 }) (va_Pc [.ref h0, .int p0, .int p1, .int p2, .int p3] (XW D (xT cI cJ cZ cS) ta sa sv [(h0, .inr (8, [.ref qh, .ref qk, .ref qd, .int b0, .ref qa, .ref qm, .ref qs, .ref qp, .ref ql, .ref qt, .ref qz, .ref qf])), (qh, .inr (1, [.int (nI (Pa)), .ref ae, .ref al, .ref au, .ref ao, .ref ar, .ref ak, .ref aw, .ref att, .ref ass])), (al, .inl (cI, 100, .inl fal)), (au, .inl (cI, 100, .inl fau)), (ao, .inl (cI, 100, .inl fao)), (qf, .inl (cI, 7, .inl ff))] sz)) (XQi (fun (r : Int32) (u : (Nat → Int32) × (Nat → Int32) × (Nat → Int32) × (Nat → Int32)) => match u with | (l2, u2, d2, f2) => ((r = wyR Pa p0 p1 p2 p3 fao)) ∧ (l2 = wyF Pa p0 p1 p2 p3 p2 fal) ∧ (u2 = wyF Pa p0 p1 p2 p3 p3 fau) ∧ (d2 = wyF Pa p0 p1 p2 p3 1 fao)) D (fun (u : (Nat → Int32) × (Nat → Int32) × (Nat → Int32) × (Nat → Int32)) => match u with | (l2, u2, d2, f2) => [(h0, .inr (8, [.ref qh, .ref qk, .ref qd, .int b0, .ref qa, .ref qm, .ref qs, .ref qp, .ref ql, .ref qt, .ref qz, .ref qf])), (qh, .inr (1, [.int (nI (Pa)), .ref ae, .ref al, .ref au, .ref ao, .ref ar, .ref ak, .ref aw, .ref att, .ref ass])), (al, .inl (cI, 100, .inl l2)), (au, .inl (cI, 100, .inl u2)), (ao, .inl (cI, 100, .inl d2)), (qf, .inl (cI, 7, .inl f2))]) (va_A [(h0, .inr (8, [.ref qh, .ref qk, .ref qd, .int b0, .ref qa, .ref qm, .ref qs, .ref qp, .ref ql, .ref qt, .ref qz, .ref qf])), (qh, .inr (1, [.int (nI (Pa)), .ref ae, .ref al, .ref au, .ref ao, .ref ar, .ref ak, .ref aw, .ref att, .ref ass])), (al, .inl (cI, 100, .inl fal)), (au, .inl (cI, 100, .inl fau)), (ao, .inl (cI, 100, .inl fao)), (qf, .inl (cI, 7, .inl ff))] sz)) 0 0 (va_A [(h0, .inr (8, [.ref qh, .ref qk, .ref qd, .int b0, .ref qa, .ref qm, .ref qs, .ref qp, .ref ql, .ref qt, .ref qz, .ref qf])), (qh, .inr (1, [.int (nI (Pa)), .ref ae, .ref al, .ref au, .ref ao, .ref ar, .ref ak, .ref aw, .ref att, .ref ass])), (al, .inl (cI, 100, .inl fal)), (au, .inl (cI, 100, .inl fau)), (ao, .inl (cI, 100, .inl fao)), (qf, .inl (cI, 7, .inl ff))] sz) := by
  refine xh (QA := fun A => XQi (fun (r : Int32) (u : (Nat → Int32) × (Nat → Int32) × (Nat → Int32) × (Nat → Int32)) => match u with | (l2, u2, d2, f2) => ((r = wyR Pa p0 p1 p2 p3 fao)) ∧ (l2 = wyF Pa p0 p1 p2 p3 p2 fal) ∧ (u2 = wyF Pa p0 p1 p2 p3 p3 fau) ∧ (d2 = wyF Pa p0 p1 p2 p3 1 fao)) D (fun (u : (Nat → Int32) × (Nat → Int32) × (Nat → Int32) × (Nat → Int32)) => match u with | (l2, u2, d2, f2) => [(h0, .inr (8, [.ref qh, .ref qk, .ref qd, .int b0, .ref qa, .ref qm, .ref qs, .ref qp, .ref ql, .ref qt, .ref qz, .ref qf])), (qh, .inr (1, [.int (nI (Pa)), .ref ae, .ref al, .ref au, .ref ao, .ref ar, .ref ak, .ref aw, .ref att, .ref ass])), (al, .inl (cI, 100, .inl l2)), (au, .inl (cI, 100, .inl u2)), (ao, .inl (cI, 100, .inl d2)), (qf, .inl (cI, 7, .inl f2))]) A) (fr := fun A => A) (by decide) (Nat.le_of_ble_eq_true rfl) ?_
  intro p e s m below meth c ls A hF hr hlk hin hsz hP hK hD hN hZ hA hS hl
  have hF : CallFix p m c cX8_way 6 s _ _ RX8 := hF
  have hx := hF.1
  have hb := hF.2.1
  have hml := hF.2.2.1
  have hown := hF.2.2.2.1
  have hu : ∀ w ∈ wsU, w.before _ s = true := fun w h => hF.2.2.2.2 w (List.mem_cons_of_mem _ h)
  have hl : lv_has ls 6 [(0, .ref h0), (1, .int p0), (2, .int p1), (3, .int p2), (4, .int p3)] := hl
  refine lv_aload_n hx hb dX8_way_0 rfl (lv_at hl 0 rfl) ?_
  refine xg hF kf_X8_12 hK hP 0 rfl rfl dX8_way_1 ?_
  refine lv_iload_n hx hb dX8_way_4 rfl (lv_at hl 1 rfl) ?_
  refine lv_iload_n hx hb dX8_way_5 rfl (lv_at hl 2 rfl) ?_
  refine xc_Vr hF (c_X1_areTwo l D cI cJ cZ cS ta sa sv s.heap.size qh ae al au ao ar ak aw att ass Pa p0 p1 (by omega)) kv_X8_99 ⟨rfl, rfl, Nat.le_of_ble_eq_true rfl, Nat.le_of_ble_eq_true rfl⟩ ⟨Nat.le_of_ble_eq_true rfl, Nat.le_of_ble_eq_true rfl⟩ hK hN hZ hP hD hS hA [1] rfl rfl 0 rfl rfl rfl rfl hl.1 rfl (Nat.le_of_ble_eq_true rfl) dX8_way_6 (fun r_1 hw_r_1 => ?_)
  rcases hw_r_1 with ⟨j_2, k_3, rfl, rfl, rfl, h_6, h_7, h_8⟩ | ⟨rfl, h_9⟩
  · skip
    refine lv_if_eq (tgt := 21) hx hb dX8_way_9 (by decide) (fun c_10 => absurd c_10 (by decide)) (fun c_10 => ?_)
    refine lv_iload_n hx hb dX8_way_12 rfl (lv_at hl 3 rfl) ?_
    refine lv_iload hx hb dX8_way_13 (lv_at hl 4 rfl) ?_
    refine xc_Sr hF (c_X8_areEnds l D cI cJ cZ cS ta sa sv s.heap.size p2 p3 ) ks_X8_103 ⟨rfl, rfl, Nat.le_of_ble_eq_true rfl, Nat.le_of_ble_eq_true rfl⟩ ⟨Nat.le_of_ble_eq_true rfl, Nat.le_of_ble_eq_true rfl⟩ hK hN hZ hP hD hS hA [] rfl rfl rfl hl.1 rfl (Nat.le_of_ble_eq_true rfl) dX8_way_15 (fun r_11 hw_r_11 => ?_)
    rcases hw_r_11 with ⟨rfl, h_12⟩ | ⟨rfl, h_13⟩
    · skip
      refine lv_if_ne (tgt := 28) hx hb dX8_way_18 (by decide) (fun c_14 => ?_) (fun c_14 => absurd c_14 (by decide))
      refine lv_aload_n hx hb dX8_way_28 rfl (lv_at hl 0 rfl) ?_
      refine xg hF kf_X8_12 hK hP 0 rfl rfl dX8_way_29 ?_
      refine lv_iload_n hx hb dX8_way_32 rfl (lv_at hl 1 rfl) ?_
      refine lv_iload_n hx hb dX8_way_33 rfl (lv_at hl 2 rfl) ?_
      refine xc_Vr hF (c_X1_isThere l D cI cJ cZ cS ta sa sv s.heap.size qh ae al au ao ar ak aw att ass Pa j_2 k_3 fao (by omega) (by omega)) kv_X8_106 ⟨rfl, rfl, Nat.le_of_ble_eq_true rfl, Nat.le_of_ble_eq_true rfl⟩ ⟨Nat.le_of_ble_eq_true rfl, Nat.le_of_ble_eq_true rfl⟩ hK hN hZ hP hD hS hA [1, 4] rfl rfl 0 rfl rfl rfl rfl hl.1 rfl (Nat.le_of_ble_eq_true rfl) dX8_way_34 (fun r_15 hw_r_15 => ?_)
      rcases hw_r_15 with ⟨rfl, h_16⟩ | ⟨rfl, h_17⟩
      · skip
        refine lv_istore (lv' := [(5, .int 1), (0, .ref h0), (1, .int (nI (j_2))), (2, .int (nI (k_3))), (3, .int p2), (4, .int p3)]) hx hb dX8_way_37 hl (by decide) rfl (fun ls hl => ?_)
        refine lv_aload_n hx hb dX8_way_39 rfl (lv_at hl 1 rfl) ?_
        refine xg hF kf_X8_12 hK hP 0 rfl rfl dX8_way_40 ?_
        refine lv_iload_n hx hb dX8_way_43 rfl (lv_at hl 2 rfl) ?_
        refine lv_iload_n hx hb dX8_way_44 rfl (lv_at hl 3 rfl) ?_
        refine lv_iload_n hx hb dX8_way_45 rfl (lv_at hl 4 rfl) ?_
        refine lv_iload hx hb dX8_way_46 (lv_at hl 5 rfl) ?_
        refine xc_Vv (wr := [(h0, .inr (8, [.ref qh, .ref qk, .ref qd, .int b0, .ref qa, .ref qm, .ref qs, .ref qp, .ref ql, .ref qt, .ref qz, .ref qf])), (qf, .inl (cI, 7, .inl ff))]) hF (c_X1_setWay l D cI cJ cZ cS ta sa sv s.heap.size qh ae al au ao ar ak aw att ass Pa j_2 k_3 p2 p3 fal fau fao (by omega) (by omega)) kv_X8_109 ⟨rfl, rfl, Nat.le_of_ble_eq_true rfl, Nat.le_of_ble_eq_true rfl⟩ ⟨Nat.le_of_ble_eq_true rfl, Nat.le_of_ble_eq_true rfl⟩ hK hN hZ hP hD hS hA [1, 2, 3, 4] [0, 5] rfl rfl rfl rfl (by decide) 0 rfl rfl rfl rfl hl.1 rfl (Nat.le_of_ble_eq_true rfl) dX8_way_48 (fun u_r_18 H locs hw_r_18 hP hD hS => ?_)
        obtain ⟨l2_19, u2_20, d2_21⟩ := u_r_18
        try dsimp only at hw_r_18
        obtain ⟨i_22, i_23, i_24⟩ := hw_r_18
        have hP : va_P D vwCl [(h0, .inr (8, [.ref qh, .ref qk, .ref qd, .int b0, .ref qa, .ref qm, .ref qs, .ref qp, .ref ql, .ref qt, .ref qz, .ref qf])), (qf, .inl (cI, 7, .inl ff)), (qh, .inr (1, [.int (nI (Pa)), .ref ae, .ref al, .ref au, .ref ao, .ref ar, .ref ak, .ref aw, .ref att, .ref ass])), (al, .inl (cI, 100, .inl l2_19)), (au, .inl (cI, 100, .inl u2_20)), (ao, .inl (cI, 100, .inl d2_21))] H := hP
        have hD : va_D A [(h0, .inr (8, [.ref qh, .ref qk, .ref qd, .int b0, .ref qa, .ref qm, .ref qs, .ref qp, .ref ql, .ref qt, .ref qz, .ref qf])), (qf, .inl (cI, 7, .inl ff)), (qh, .inr (1, [.int (nI (Pa)), .ref ae, .ref al, .ref au, .ref ao, .ref ar, .ref ak, .ref aw, .ref att, .ref ass])), (al, .inl (cI, 100, .inl l2_19)), (au, .inl (cI, 100, .inl u2_20)), (ao, .inl (cI, 100, .inl d2_21))] := hD
        refine lv_iload hx hb dX8_way_51 (lv_at hl 0 rfl) ?_
        refine lv_if_eq (tgt := 60) hx hb dX8_way_53 (by decide) (fun c_25 => absurd c_25 (by decide)) (fun c_25 => ?_)
        refine lv_iconst (v := 0) hx hb dX8_way_56 (by decide) ?_
        refine lv_goto (tgt := 61) hx hb dX8_way_57 (by decide) ?_
        exact W.iret (v := 0) hx hb hr (fun t ht hW => ⟨⟨0, (l2_19, u2_20, d2_21, ff), rfl, ⟨((wy_yes (P := Pa) (j := j_2) (k := k_3) (by omega) (by omega) (by omega) (by omega) h_12).2.2 _ h_16), (i_22.trans ((wy_yes (P := Pa) (j := j_2) (k := k_3) (by omega) (by omega) (by omega) (by omega) h_12).1 _ _)), (i_23.trans ((wy_yes (P := Pa) (j := j_2) (k := k_3) (by omega) (by omega) (by omega) (by omega) h_12).1 _ _)), (i_24.trans ((wy_yes (P := Pa) (j := j_2) (k := k_3) (by omega) (by omega) (by omega) (by omega) h_12).1 _ _))⟩, by rw [ht]; exact hP.sub [0, 2, 3, 4, 5, 1] rfl, hD.sub [0, 2, 3, 4, 5, 1] (by decide +kernel) rfl⟩, hS.F ht⟩) hS.2.2 dX8_way_61 hlk
      · skip
        refine lv_istore (lv' := [(5, .int 0), (0, .ref h0), (1, .int (nI (j_2))), (2, .int (nI (k_3))), (3, .int p2), (4, .int p3)]) hx hb dX8_way_37 hl (by decide) rfl (fun ls hl => ?_)
        refine lv_aload_n hx hb dX8_way_39 rfl (lv_at hl 1 rfl) ?_
        refine xg hF kf_X8_12 hK hP 0 rfl rfl dX8_way_40 ?_
        refine lv_iload_n hx hb dX8_way_43 rfl (lv_at hl 2 rfl) ?_
        refine lv_iload_n hx hb dX8_way_44 rfl (lv_at hl 3 rfl) ?_
        refine lv_iload_n hx hb dX8_way_45 rfl (lv_at hl 4 rfl) ?_
        refine lv_iload hx hb dX8_way_46 (lv_at hl 5 rfl) ?_
        refine xc_Vv (wr := [(h0, .inr (8, [.ref qh, .ref qk, .ref qd, .int b0, .ref qa, .ref qm, .ref qs, .ref qp, .ref ql, .ref qt, .ref qz, .ref qf])), (qf, .inl (cI, 7, .inl ff))]) hF (c_X1_setWay l D cI cJ cZ cS ta sa sv s.heap.size qh ae al au ao ar ak aw att ass Pa j_2 k_3 p2 p3 fal fau fao (by omega) (by omega)) kv_X8_109 ⟨rfl, rfl, Nat.le_of_ble_eq_true rfl, Nat.le_of_ble_eq_true rfl⟩ ⟨Nat.le_of_ble_eq_true rfl, Nat.le_of_ble_eq_true rfl⟩ hK hN hZ hP hD hS hA [1, 2, 3, 4] [0, 5] rfl rfl rfl rfl (by decide) 0 rfl rfl rfl rfl hl.1 rfl (Nat.le_of_ble_eq_true rfl) dX8_way_48 (fun u_r_26 H locs hw_r_26 hP hD hS => ?_)
        obtain ⟨l2_27, u2_28, d2_29⟩ := u_r_26
        try dsimp only at hw_r_26
        obtain ⟨i_30, i_31, i_32⟩ := hw_r_26
        have hP : va_P D vwCl [(h0, .inr (8, [.ref qh, .ref qk, .ref qd, .int b0, .ref qa, .ref qm, .ref qs, .ref qp, .ref ql, .ref qt, .ref qz, .ref qf])), (qf, .inl (cI, 7, .inl ff)), (qh, .inr (1, [.int (nI (Pa)), .ref ae, .ref al, .ref au, .ref ao, .ref ar, .ref ak, .ref aw, .ref att, .ref ass])), (al, .inl (cI, 100, .inl l2_27)), (au, .inl (cI, 100, .inl u2_28)), (ao, .inl (cI, 100, .inl d2_29))] H := hP
        have hD : va_D A [(h0, .inr (8, [.ref qh, .ref qk, .ref qd, .int b0, .ref qa, .ref qm, .ref qs, .ref qp, .ref ql, .ref qt, .ref qz, .ref qf])), (qf, .inl (cI, 7, .inl ff)), (qh, .inr (1, [.int (nI (Pa)), .ref ae, .ref al, .ref au, .ref ao, .ref ar, .ref ak, .ref aw, .ref att, .ref ass])), (al, .inl (cI, 100, .inl l2_27)), (au, .inl (cI, 100, .inl u2_28)), (ao, .inl (cI, 100, .inl d2_29))] := hD
        refine lv_iload hx hb dX8_way_51 (lv_at hl 0 rfl) ?_
        refine lv_if_eq (tgt := 60) hx hb dX8_way_53 (by decide) (fun c_33 => ?_) (fun c_33 => absurd (by decide) c_33)
        refine lv_iconst (v := 1) hx hb dX8_way_60 (by decide) ?_
        exact W.iret (v := 1) hx hb hr (fun t ht hW => ⟨⟨1, (l2_27, u2_28, d2_29, ff), rfl, ⟨((wy_yes (P := Pa) (j := j_2) (k := k_3) (by omega) (by omega) (by omega) (by omega) h_12).2.1 _ h_17), (i_30.trans ((wy_yes (P := Pa) (j := j_2) (k := k_3) (by omega) (by omega) (by omega) (by omega) h_12).1 _ _)), (i_31.trans ((wy_yes (P := Pa) (j := j_2) (k := k_3) (by omega) (by omega) (by omega) (by omega) h_12).1 _ _)), (i_32.trans ((wy_yes (P := Pa) (j := j_2) (k := k_3) (by omega) (by omega) (by omega) (by omega) h_12).1 _ _))⟩, by rw [ht]; exact hP.sub [0, 2, 3, 4, 5, 1] rfl, hD.sub [0, 2, 3, 4, 5, 1] (by decide +kernel) rfl⟩, hS.F ht⟩) hS.2.2 dX8_way_61 hlk
    · skip
      refine lv_if_ne (tgt := 28) hx hb dX8_way_18 (by decide) (fun c_34 => absurd (by decide) c_34) (fun c_34 => ?_)
      refine lv_aload_n hx hb dX8_way_21 rfl (lv_at hl 0 rfl) ?_
      refine lv_ldc (v := (-1000000001)) hx hb hown (hu _ uw396) dX8_way_22 ?_
      refine xc_Vi (wr := [(qh, .inr (1, [.int (nI (Pa)), .ref ae, .ref al, .ref au, .ref ao, .ref ar, .ref ak, .ref aw, .ref att, .ref ass])), (al, .inl (cI, 100, .inl fal)), (au, .inl (cI, 100, .inl fau)), (ao, .inl (cI, 100, .inl fao))]) hF (c_X8_finding_B l D cI cJ cZ cS ta sa sv s.heap.size h0 qh qk qd b0 qa qm qs qp ql qt qz qf ff ) kv_X8_80 ⟨rfl, rfl, Nat.le_of_ble_eq_true rfl, Nat.le_of_ble_eq_true rfl⟩ ⟨Nat.le_of_ble_eq_true rfl, Nat.le_of_ble_eq_true rfl⟩ hK hN hZ hP hD hS hA [0, 5] [1, 2, 3, 4] rfl rfl rfl rfl (by decide) 0 rfl rfl rfl rfl hl.1 rfl (Nat.le_of_ble_eq_true rfl) dX8_way_24 (fun r_35 u_r_35 H locs hw_r_35 hP hD hS => ?_)
      obtain ⟨f2_36, rfl⟩ : ∃ z, z = u_r_35 := ⟨_, rfl⟩
      try dsimp only at hw_r_35
      have hP : va_P D vwCl [(qh, .inr (1, [.int (nI (Pa)), .ref ae, .ref al, .ref au, .ref ao, .ref ar, .ref ak, .ref aw, .ref att, .ref ass])), (al, .inl (cI, 100, .inl fal)), (au, .inl (cI, 100, .inl fau)), (ao, .inl (cI, 100, .inl fao)), (h0, .inr (8, [.ref qh, .ref qk, .ref qd, .int b0, .ref qa, .ref qm, .ref qs, .ref qp, .ref ql, .ref qt, .ref qz, .ref qf])), (qf, .inl (cI, 7, .inl f2_36))] H := hP
      have hD : va_D A [(qh, .inr (1, [.int (nI (Pa)), .ref ae, .ref al, .ref au, .ref ao, .ref ar, .ref ak, .ref aw, .ref att, .ref ass])), (al, .inl (cI, 100, .inl fal)), (au, .inl (cI, 100, .inl fau)), (ao, .inl (cI, 100, .inl fao)), (h0, .inr (8, [.ref qh, .ref qk, .ref qd, .int b0, .ref qa, .ref qm, .ref qs, .ref qp, .ref ql, .ref qt, .ref qz, .ref qf])), (qf, .inl (cI, 7, .inl f2_36))] := hD
      subst hw_r_35
      exact W.iret (v := (-1000000001)) hx hb hr (fun t ht hW => ⟨⟨(-1000000001), (fal, fau, fao, f2_36), rfl, ⟨((wy_no (P := Pa) (fun h => h_13 h.2)).1 _), ((wy_no (P := Pa) (fun h => h_13 h.2)).2 _ _), ((wy_no (P := Pa) (fun h => h_13 h.2)).2 _ _), ((wy_no (P := Pa) (fun h => h_13 h.2)).2 _ _)⟩, by rw [ht]; exact hP.sub [4, 0, 1, 2, 3, 5] rfl, hD.sub [4, 0, 1, 2, 3, 5] (by decide +kernel) rfl⟩, hS.F ht⟩) hS.2.2 dX8_way_27 hlk
  · skip
    refine lv_if_eq (tgt := 21) hx hb dX8_way_9 (by decide) (fun c_37 => ?_) (fun c_37 => absurd (by decide) c_37)
    refine lv_aload_n hx hb dX8_way_21 rfl (lv_at hl 0 rfl) ?_
    refine lv_ldc (v := (-1000000001)) hx hb hown (hu _ uw396) dX8_way_22 ?_
    refine xc_Vi (wr := [(qh, .inr (1, [.int (nI (Pa)), .ref ae, .ref al, .ref au, .ref ao, .ref ar, .ref ak, .ref aw, .ref att, .ref ass])), (al, .inl (cI, 100, .inl fal)), (au, .inl (cI, 100, .inl fau)), (ao, .inl (cI, 100, .inl fao))]) hF (c_X8_finding_B l D cI cJ cZ cS ta sa sv s.heap.size h0 qh qk qd b0 qa qm qs qp ql qt qz qf ff ) kv_X8_80 ⟨rfl, rfl, Nat.le_of_ble_eq_true rfl, Nat.le_of_ble_eq_true rfl⟩ ⟨Nat.le_of_ble_eq_true rfl, Nat.le_of_ble_eq_true rfl⟩ hK hN hZ hP hD hS hA [0, 5] [1, 2, 3, 4] rfl rfl rfl rfl (by decide) 0 rfl rfl rfl rfl hl.1 rfl (Nat.le_of_ble_eq_true rfl) dX8_way_24 (fun r_38 u_r_38 H locs hw_r_38 hP hD hS => ?_)
    obtain ⟨f2_39, rfl⟩ : ∃ z, z = u_r_38 := ⟨_, rfl⟩
    try dsimp only at hw_r_38
    have hP : va_P D vwCl [(qh, .inr (1, [.int (nI (Pa)), .ref ae, .ref al, .ref au, .ref ao, .ref ar, .ref ak, .ref aw, .ref att, .ref ass])), (al, .inl (cI, 100, .inl fal)), (au, .inl (cI, 100, .inl fau)), (ao, .inl (cI, 100, .inl fao)), (h0, .inr (8, [.ref qh, .ref qk, .ref qd, .int b0, .ref qa, .ref qm, .ref qs, .ref qp, .ref ql, .ref qt, .ref qz, .ref qf])), (qf, .inl (cI, 7, .inl f2_39))] H := hP
    have hD : va_D A [(qh, .inr (1, [.int (nI (Pa)), .ref ae, .ref al, .ref au, .ref ao, .ref ar, .ref ak, .ref aw, .ref att, .ref ass])), (al, .inl (cI, 100, .inl fal)), (au, .inl (cI, 100, .inl fau)), (ao, .inl (cI, 100, .inl fao)), (h0, .inr (8, [.ref qh, .ref qk, .ref qd, .int b0, .ref qa, .ref qm, .ref qs, .ref qp, .ref ql, .ref qt, .ref qz, .ref qf])), (qf, .inl (cI, 7, .inl f2_39))] := hD
    subst hw_r_38
    exact W.iret (v := (-1000000001)) hx hb hr (fun t ht hW => ⟨⟨(-1000000001), (fal, fau, fao, f2_39), rfl, ⟨((wy_no (P := Pa) (fun h => h_9 h.1)).1 _), ((wy_no (P := Pa) (fun h => h_9 h.1)).2 _ _), ((wy_no (P := Pa) (fun h => h_9 h.1)).2 _ _), ((wy_no (P := Pa) (fun h => h_9 h.1)).2 _ _)⟩, by rw [ht]; exact hP.sub [4, 0, 1, 2, 3, 5] rfl, hD.sub [4, 0, 1, 2, 3, 5] (by decide +kernel) rfl⟩, hS.F ht⟩) hS.2.2 dX8_way_27 hlk
set_option maxHeartbeats 4000000 in
set_option maxRecDepth 100000 in
theorem c_X8_wayOf (l : Launch) (D : va_G) (cI cJ cZ cS : ClassId) (ta : Nat) (sa sv : Nat → Nat) (sz : Nat) (h0 : Nat) (qh : Nat) (qk : Nat) (qd : Nat) (b0 : Int32) (qa : Nat) (qm : Nat) (qs : Nat) (qp : Nat) (ql : Nat) (qt : Nat) (qz : Nat) (qf : Nat) (Pa : Nat) (ae : Nat) (al : Nat) (au : Nat) (ao : Nat) (ar : Nat) (ak : Nat) (aw : Nat) (att : Nat) (ass : Nat) (fal : Nat → Int32) (fau : Nat → Int32) (fao : Nat → Int32) (ff : Nat → Int32) (p0 : Int32) (p1 : Int32) (p2 : Int32) (hP0 : Pa ≤ 10) : Met l yX8_wayOf (Cond.code yX8_wayOf cX8_wayOf 4 (some .int) :: wsU) ({ frames := 2, cells := 0, slots := 0, locals := 44 }) (va_Pc [.ref h0, .int p0, .int p1, .int p2] (XW D (xT cI cJ cZ cS) ta sa sv [(h0, .inr (8, [.ref qh, .ref qk, .ref qd, .int b0, .ref qa, .ref qm, .ref qs, .ref qp, .ref ql, .ref qt, .ref qz, .ref qf])), (qh, .inr (1, [.int (nI (Pa)), .ref ae, .ref al, .ref au, .ref ao, .ref ar, .ref ak, .ref aw, .ref att, .ref ass])), (al, .inl (cI, 100, .inl fal)), (au, .inl (cI, 100, .inl fau)), (ao, .inl (cI, 100, .inl fao)), (qf, .inl (cI, 7, .inl ff))] sz)) (XQi (fun (r : Int32) (f2 : (Nat → Int32)) => ((r = woR Pa p0 p1 p2 fal fau fao))) D (fun (f2 : Nat → Int32) => [(h0, .inr (8, [.ref qh, .ref qk, .ref qd, .int b0, .ref qa, .ref qm, .ref qs, .ref qp, .ref ql, .ref qt, .ref qz, .ref qf])), (qh, .inr (1, [.int (nI (Pa)), .ref ae, .ref al, .ref au, .ref ao, .ref ar, .ref ak, .ref aw, .ref att, .ref ass])), (al, .inl (cI, 100, .inl fal)), (au, .inl (cI, 100, .inl fau)), (ao, .inl (cI, 100, .inl fao)), (qf, .inl (cI, 7, .inl f2))]) (va_A [(h0, .inr (8, [.ref qh, .ref qk, .ref qd, .int b0, .ref qa, .ref qm, .ref qs, .ref qp, .ref ql, .ref qt, .ref qz, .ref qf])), (qh, .inr (1, [.int (nI (Pa)), .ref ae, .ref al, .ref au, .ref ao, .ref ar, .ref ak, .ref aw, .ref att, .ref ass])), (al, .inl (cI, 100, .inl fal)), (au, .inl (cI, 100, .inl fau)), (ao, .inl (cI, 100, .inl fao)), (qf, .inl (cI, 7, .inl ff))] sz)) 0 0 (va_A [(h0, .inr (8, [.ref qh, .ref qk, .ref qd, .int b0, .ref qa, .ref qm, .ref qs, .ref qp, .ref ql, .ref qt, .ref qz, .ref qf])), (qh, .inr (1, [.int (nI (Pa)), .ref ae, .ref al, .ref au, .ref ao, .ref ar, .ref ak, .ref aw, .ref att, .ref ass])), (al, .inl (cI, 100, .inl fal)), (au, .inl (cI, 100, .inl fau)), (ao, .inl (cI, 100, .inl fao)), (qf, .inl (cI, 7, .inl ff))] sz) := by
  refine xh (QA := fun A => XQi (fun (r : Int32) (f2 : (Nat → Int32)) => ((r = woR Pa p0 p1 p2 fal fau fao))) D (fun (f2 : Nat → Int32) => [(h0, .inr (8, [.ref qh, .ref qk, .ref qd, .int b0, .ref qa, .ref qm, .ref qs, .ref qp, .ref ql, .ref qt, .ref qz, .ref qf])), (qh, .inr (1, [.int (nI (Pa)), .ref ae, .ref al, .ref au, .ref ao, .ref ar, .ref ak, .ref aw, .ref att, .ref ass])), (al, .inl (cI, 100, .inl fal)), (au, .inl (cI, 100, .inl fau)), (ao, .inl (cI, 100, .inl fao)), (qf, .inl (cI, 7, .inl f2))]) A) (fr := fun A => A) (by decide) (Nat.le_of_ble_eq_true rfl) ?_
  intro p e s m below meth c ls A hF hr hlk hin hsz hP hK hD hN hZ hA hS hl
  have hF : CallFix p m c cX8_wayOf 4 s _ _ RX8 := hF
  have hx := hF.1
  have hb := hF.2.1
  have hml := hF.2.2.1
  have hown := hF.2.2.2.1
  have hu : ∀ w ∈ wsU, w.before _ s = true := fun w h => hF.2.2.2.2 w (List.mem_cons_of_mem _ h)
  have hl : lv_has ls 4 [(0, .ref h0), (1, .int p0), (2, .int p1), (3, .int p2)] := hl
  refine lv_aload_n hx hb dX8_wayOf_0 rfl (lv_at hl 0 rfl) ?_
  refine xg hF kf_X8_12 hK hP 0 rfl rfl dX8_wayOf_1 ?_
  refine lv_iload_n hx hb dX8_wayOf_4 rfl (lv_at hl 1 rfl) ?_
  refine lv_iload_n hx hb dX8_wayOf_5 rfl (lv_at hl 2 rfl) ?_
  refine xc_Vr hF (c_X1_areTwo l D cI cJ cZ cS ta sa sv s.heap.size qh ae al au ao ar ak aw att ass Pa p0 p1 (by omega)) kv_X8_99 ⟨rfl, rfl, Nat.le_of_ble_eq_true rfl, Nat.le_of_ble_eq_true rfl⟩ ⟨Nat.le_of_ble_eq_true rfl, Nat.le_of_ble_eq_true rfl⟩ hK hN hZ hP hD hS hA [1] rfl rfl 0 rfl rfl rfl rfl hl.1 rfl (Nat.le_of_ble_eq_true rfl) dX8_wayOf_6 (fun r_1 hw_r_1 => ?_)
  rcases hw_r_1 with ⟨j_2, k_3, rfl, rfl, rfl, h_6, h_7, h_8⟩ | ⟨rfl, h_9⟩
  · skip
    refine lv_if_eq (tgt := 21) hx hb dX8_wayOf_9 (by decide) (fun c_10 => absurd c_10 (by decide)) (fun c_10 => ?_)
    refine lv_iload_n hx hb dX8_wayOf_12 rfl (lv_at hl 3 rfl) ?_
    refine lv_iconst (v := 0) hx hb dX8_wayOf_13 (by decide) ?_
    refine lv_iconst (v := 2) hx hb dX8_wayOf_14 (by decide) ?_
    refine xc_Sr hF (c_X8_isWithin l D cI cJ cZ cS ta sa sv s.heap.size p2 0 2 ) ks_X8_91 ⟨rfl, rfl, Nat.le_of_ble_eq_true rfl, Nat.le_of_ble_eq_true rfl⟩ ⟨Nat.le_of_ble_eq_true rfl, Nat.le_of_ble_eq_true rfl⟩ hK hN hZ hP hD hS hA [] rfl rfl rfl hl.1 rfl (Nat.le_of_ble_eq_true rfl) dX8_wayOf_15 (fun r_11 hw_r_11 => ?_)
    rcases hw_r_11 with ⟨rfl, h_12, h_13⟩ | ⟨rfl, h_14⟩
    · skip
      refine lv_if_ne (tgt := 28) hx hb dX8_wayOf_18 (by decide) (fun c_15 => ?_) (fun c_15 => absurd c_15 (by decide))
      refine lv_aload_n hx hb dX8_wayOf_28 rfl (lv_at hl 0 rfl) ?_
      refine xg hF kf_X8_12 hK hP 0 rfl rfl dX8_wayOf_29 ?_
      refine lv_iload_n hx hb dX8_wayOf_32 rfl (lv_at hl 1 rfl) ?_
      refine lv_iload_n hx hb dX8_wayOf_33 rfl (lv_at hl 2 rfl) ?_
      refine xc_Vr hF (c_X1_isThere l D cI cJ cZ cS ta sa sv s.heap.size qh ae al au ao ar ak aw att ass Pa j_2 k_3 fao (by omega) (by omega)) kv_X8_106 ⟨rfl, rfl, Nat.le_of_ble_eq_true rfl, Nat.le_of_ble_eq_true rfl⟩ ⟨Nat.le_of_ble_eq_true rfl, Nat.le_of_ble_eq_true rfl⟩ hK hN hZ hP hD hS hA [1, 4] rfl rfl 0 rfl rfl rfl rfl hl.1 rfl (Nat.le_of_ble_eq_true rfl) dX8_wayOf_34 (fun r_16 hw_r_16 => ?_)
      rcases hw_r_16 with ⟨rfl, h_17⟩ | ⟨rfl, h_18⟩
      · skip
        refine lv_if_ne (tgt := 47) hx hb dX8_wayOf_37 (by decide) (fun c_19 => ?_) (fun c_19 => absurd c_19 (by decide))
        refine lv_iload_n hx hb dX8_wayOf_47 rfl (lv_at hl 3 rfl) ?_
        refine lv_if_ne (tgt := 61) hx hb dX8_wayOf_48 (by decide) (fun c_20 => ?_) (fun c_20 => ?_)
        · skip
          refine lv_iload_n hx hb dX8_wayOf_61 rfl (lv_at hl 3 rfl) ?_
          refine lv_iconst (v := 1) hx hb dX8_wayOf_62 (by decide) ?_
          refine lv_icmp_ne (tgt := 76) hx hb dX8_wayOf_63 (by decide) (fun c_21 => ?_) (fun c_21 => ?_)
          · skip
            refine lv_aload_n hx hb dX8_wayOf_76 rfl (lv_at hl 0 rfl) ?_
            refine xg hF kf_X8_12 hK hP 0 rfl rfl dX8_wayOf_77 ?_
            refine lv_iload_n hx hb dX8_wayOf_80 rfl (lv_at hl 1 rfl) ?_
            refine lv_iload_n hx hb dX8_wayOf_81 rfl (lv_at hl 2 rfl) ?_
            refine xc_Vr hF (c_X1_isOpen l D cI cJ cZ cS ta sa sv s.heap.size qh ae al au ao ar ak aw att ass Pa j_2 k_3 fao (by omega) (by omega)) kv_X8_121 ⟨rfl, rfl, Nat.le_of_ble_eq_true rfl, Nat.le_of_ble_eq_true rfl⟩ ⟨Nat.le_of_ble_eq_true rfl, Nat.le_of_ble_eq_true rfl⟩ hK hN hZ hP hD hS hA [1, 4] rfl rfl 0 rfl rfl rfl rfl hl.1 rfl (Nat.le_of_ble_eq_true rfl) dX8_wayOf_82 (fun r_22 hw_r_22 => ?_)
            rcases hw_r_22 with ⟨rfl, h_23⟩ | ⟨rfl, h_24⟩
            · skip
              refine lv_if_eq (tgt := 92) hx hb dX8_wayOf_85 (by decide) (fun c_25 => absurd c_25 (by decide)) (fun c_25 => ?_)
              refine lv_iconst (v := 0) hx hb dX8_wayOf_88 (by decide) ?_
              refine lv_goto (tgt := 93) hx hb dX8_wayOf_89 (by decide) ?_
              exact W.iret (v := 0) hx hb hr (fun t ht hW => ⟨⟨0, ff, rfl, ((wo_y (P := Pa) (l := fal) (u := fau) (o := fao) (j := j_2) (k := k_3) (by omega) (by omega) (by omega) (by omega) ⟨h_12, h_13⟩).trans ((if_neg h_17).trans ((if_neg c_20).trans ((if_neg c_21).trans (if_pos h_23))))).symm, by rw [ht]; exact hP.sub [0, 1, 2, 3, 4, 5] rfl, hD.sub [0, 1, 2, 3, 4, 5] (by decide +kernel) rfl⟩, hS.F ht⟩) hS.2.2 dX8_wayOf_93 hlk
            · skip
              refine lv_if_eq (tgt := 92) hx hb dX8_wayOf_85 (by decide) (fun c_26 => ?_) (fun c_26 => absurd (by decide) c_26)
              refine lv_iconst (v := 1) hx hb dX8_wayOf_92 (by decide) ?_
              exact W.iret (v := 1) hx hb hr (fun t ht hW => ⟨⟨1, ff, rfl, ((wo_y (P := Pa) (l := fal) (u := fau) (o := fao) (j := j_2) (k := k_3) (by omega) (by omega) (by omega) (by omega) ⟨h_12, h_13⟩).trans ((if_neg h_17).trans ((if_neg c_20).trans ((if_neg c_21).trans (if_neg h_24))))).symm, by rw [ht]; exact hP.sub [0, 1, 2, 3, 4, 5] rfl, hD.sub [0, 1, 2, 3, 4, 5] (by decide +kernel) rfl⟩, hS.F ht⟩) hS.2.2 dX8_wayOf_93 hlk
          · skip
            refine lv_aload_n hx hb dX8_wayOf_66 rfl (lv_at hl 0 rfl) ?_
            refine xg hF kf_X8_12 hK hP 0 rfl rfl dX8_wayOf_67 ?_
            refine lv_iload_n hx hb dX8_wayOf_70 rfl (lv_at hl 1 rfl) ?_
            refine lv_iload_n hx hb dX8_wayOf_71 rfl (lv_at hl 2 rfl) ?_
            refine xc_Vr hF (c_X1_highOf l D cI cJ cZ cS ta sa sv s.heap.size qh ae al au ao ar ak aw att ass Pa j_2 k_3 fau (by omega) (by omega)) kv_X8_118 ⟨rfl, rfl, Nat.le_of_ble_eq_true rfl, Nat.le_of_ble_eq_true rfl⟩ ⟨Nat.le_of_ble_eq_true rfl, Nat.le_of_ble_eq_true rfl⟩ hK hN hZ hP hD hS hA [1, 3] rfl rfl 0 rfl rfl rfl rfl hl.1 rfl (Nat.le_of_ble_eq_true rfl) dX8_wayOf_72 (fun r_27 hw_r_27 => ?_)
            subst hw_r_27
            exact W.iret (v := fau (10 * j_2 + k_3)) hx hb hr (fun t ht hW => ⟨⟨fau (10 * j_2 + k_3), ff, rfl, ((wo_y (P := Pa) (l := fal) (u := fau) (o := fao) (j := j_2) (k := k_3) (by omega) (by omega) (by omega) (by omega) ⟨h_12, h_13⟩).trans ((if_neg h_17).trans ((if_neg c_20).trans (if_pos c_21)))).symm, by rw [ht]; exact hP.sub [0, 1, 2, 3, 4, 5] rfl, hD.sub [0, 1, 2, 3, 4, 5] (by decide +kernel) rfl⟩, hS.F ht⟩) hS.2.2 dX8_wayOf_75 hlk
        · skip
          refine lv_aload_n hx hb dX8_wayOf_51 rfl (lv_at hl 0 rfl) ?_
          refine xg hF kf_X8_12 hK hP 0 rfl rfl dX8_wayOf_52 ?_
          refine lv_iload_n hx hb dX8_wayOf_55 rfl (lv_at hl 1 rfl) ?_
          refine lv_iload_n hx hb dX8_wayOf_56 rfl (lv_at hl 2 rfl) ?_
          refine xc_Vr hF (c_X1_lowOf l D cI cJ cZ cS ta sa sv s.heap.size qh ae al au ao ar ak aw att ass Pa j_2 k_3 fal (by omega) (by omega)) kv_X8_114 ⟨rfl, rfl, Nat.le_of_ble_eq_true rfl, Nat.le_of_ble_eq_true rfl⟩ ⟨Nat.le_of_ble_eq_true rfl, Nat.le_of_ble_eq_true rfl⟩ hK hN hZ hP hD hS hA [1, 2] rfl rfl 0 rfl rfl rfl rfl hl.1 rfl (Nat.le_of_ble_eq_true rfl) dX8_wayOf_57 (fun r_28 hw_r_28 => ?_)
          subst hw_r_28
          exact W.iret (v := fal (10 * j_2 + k_3)) hx hb hr (fun t ht hW => ⟨⟨fal (10 * j_2 + k_3), ff, rfl, ((wo_y (P := Pa) (l := fal) (u := fau) (o := fao) (j := j_2) (k := k_3) (by omega) (by omega) (by omega) (by omega) ⟨h_12, h_13⟩).trans ((if_neg h_17).trans (if_pos c_20))).symm, by rw [ht]; exact hP.sub [0, 1, 2, 3, 4, 5] rfl, hD.sub [0, 1, 2, 3, 4, 5] (by decide +kernel) rfl⟩, hS.F ht⟩) hS.2.2 dX8_wayOf_60 hlk
      · skip
        refine lv_if_ne (tgt := 47) hx hb dX8_wayOf_37 (by decide) (fun c_29 => absurd (by decide) c_29) (fun c_29 => ?_)
        refine lv_aload_n hx hb dX8_wayOf_40 rfl (lv_at hl 0 rfl) ?_
        refine lv_ldc (v := (-1000000004)) hx hb hown (hu _ uw410) dX8_wayOf_41 ?_
        refine xc_Vi (wr := [(qh, .inr (1, [.int (nI (Pa)), .ref ae, .ref al, .ref au, .ref ao, .ref ar, .ref ak, .ref aw, .ref att, .ref ass])), (al, .inl (cI, 100, .inl fal)), (au, .inl (cI, 100, .inl fau)), (ao, .inl (cI, 100, .inl fao))]) hF (c_X8_finding_N l D cI cJ cZ cS ta sa sv s.heap.size h0 qh qk qd b0 qa qm qs qp ql qt qz qf ff ) kv_X8_80 ⟨rfl, rfl, Nat.le_of_ble_eq_true rfl, Nat.le_of_ble_eq_true rfl⟩ ⟨Nat.le_of_ble_eq_true rfl, Nat.le_of_ble_eq_true rfl⟩ hK hN hZ hP hD hS hA [0, 5] [1, 2, 3, 4] rfl rfl rfl rfl (by decide) 0 rfl rfl rfl rfl hl.1 rfl (Nat.le_of_ble_eq_true rfl) dX8_wayOf_43 (fun r_30 u_r_30 H locs hw_r_30 hP hD hS => ?_)
        obtain ⟨f2_31, rfl⟩ : ∃ z, z = u_r_30 := ⟨_, rfl⟩
        try dsimp only at hw_r_30
        have hP : va_P D vwCl [(qh, .inr (1, [.int (nI (Pa)), .ref ae, .ref al, .ref au, .ref ao, .ref ar, .ref ak, .ref aw, .ref att, .ref ass])), (al, .inl (cI, 100, .inl fal)), (au, .inl (cI, 100, .inl fau)), (ao, .inl (cI, 100, .inl fao)), (h0, .inr (8, [.ref qh, .ref qk, .ref qd, .int b0, .ref qa, .ref qm, .ref qs, .ref qp, .ref ql, .ref qt, .ref qz, .ref qf])), (qf, .inl (cI, 7, .inl f2_31))] H := hP
        have hD : va_D A [(qh, .inr (1, [.int (nI (Pa)), .ref ae, .ref al, .ref au, .ref ao, .ref ar, .ref ak, .ref aw, .ref att, .ref ass])), (al, .inl (cI, 100, .inl fal)), (au, .inl (cI, 100, .inl fau)), (ao, .inl (cI, 100, .inl fao)), (h0, .inr (8, [.ref qh, .ref qk, .ref qd, .int b0, .ref qa, .ref qm, .ref qs, .ref qp, .ref ql, .ref qt, .ref qz, .ref qf])), (qf, .inl (cI, 7, .inl f2_31))] := hD
        subst hw_r_30
        exact W.iret (v := (-1000000004)) hx hb hr (fun t ht hW => ⟨⟨(-1000000004), f2_31, rfl, ((wo_y (P := Pa) (l := fal) (u := fau) (o := fao) (j := j_2) (k := k_3) (by omega) (by omega) (by omega) (by omega) ⟨h_12, h_13⟩).trans (if_pos h_18)).symm, by rw [ht]; exact hP.sub [4, 0, 1, 2, 3, 5] rfl, hD.sub [4, 0, 1, 2, 3, 5] (by decide +kernel) rfl⟩, hS.F ht⟩) hS.2.2 dX8_wayOf_46 hlk
    · skip
      refine lv_if_ne (tgt := 28) hx hb dX8_wayOf_18 (by decide) (fun c_32 => absurd (by decide) c_32) (fun c_32 => ?_)
      refine lv_aload_n hx hb dX8_wayOf_21 rfl (lv_at hl 0 rfl) ?_
      refine lv_ldc (v := (-1000000001)) hx hb hown (hu _ uw396) dX8_wayOf_22 ?_
      refine xc_Vi (wr := [(qh, .inr (1, [.int (nI (Pa)), .ref ae, .ref al, .ref au, .ref ao, .ref ar, .ref ak, .ref aw, .ref att, .ref ass])), (al, .inl (cI, 100, .inl fal)), (au, .inl (cI, 100, .inl fau)), (ao, .inl (cI, 100, .inl fao))]) hF (c_X8_finding_B l D cI cJ cZ cS ta sa sv s.heap.size h0 qh qk qd b0 qa qm qs qp ql qt qz qf ff ) kv_X8_80 ⟨rfl, rfl, Nat.le_of_ble_eq_true rfl, Nat.le_of_ble_eq_true rfl⟩ ⟨Nat.le_of_ble_eq_true rfl, Nat.le_of_ble_eq_true rfl⟩ hK hN hZ hP hD hS hA [0, 5] [1, 2, 3, 4] rfl rfl rfl rfl (by decide) 0 rfl rfl rfl rfl hl.1 rfl (Nat.le_of_ble_eq_true rfl) dX8_wayOf_24 (fun r_33 u_r_33 H locs hw_r_33 hP hD hS => ?_)
      obtain ⟨f2_34, rfl⟩ : ∃ z, z = u_r_33 := ⟨_, rfl⟩
      try dsimp only at hw_r_33
      have hP : va_P D vwCl [(qh, .inr (1, [.int (nI (Pa)), .ref ae, .ref al, .ref au, .ref ao, .ref ar, .ref ak, .ref aw, .ref att, .ref ass])), (al, .inl (cI, 100, .inl fal)), (au, .inl (cI, 100, .inl fau)), (ao, .inl (cI, 100, .inl fao)), (h0, .inr (8, [.ref qh, .ref qk, .ref qd, .int b0, .ref qa, .ref qm, .ref qs, .ref qp, .ref ql, .ref qt, .ref qz, .ref qf])), (qf, .inl (cI, 7, .inl f2_34))] H := hP
      have hD : va_D A [(qh, .inr (1, [.int (nI (Pa)), .ref ae, .ref al, .ref au, .ref ao, .ref ar, .ref ak, .ref aw, .ref att, .ref ass])), (al, .inl (cI, 100, .inl fal)), (au, .inl (cI, 100, .inl fau)), (ao, .inl (cI, 100, .inl fao)), (h0, .inr (8, [.ref qh, .ref qk, .ref qd, .int b0, .ref qa, .ref qm, .ref qs, .ref qp, .ref ql, .ref qt, .ref qz, .ref qf])), (qf, .inl (cI, 7, .inl f2_34))] := hD
      subst hw_r_33
      exact W.iret (v := (-1000000001)) hx hb hr (fun t ht hW => ⟨⟨(-1000000001), f2_34, rfl, wo_no (l := fal) (u := fau) (o := fao) (fun h => h_14.elim h.2.1 h.2.2), by rw [ht]; exact hP.sub [4, 0, 1, 2, 3, 5] rfl, hD.sub [4, 0, 1, 2, 3, 5] (by decide +kernel) rfl⟩, hS.F ht⟩) hS.2.2 dX8_wayOf_27 hlk
  · skip
    refine lv_if_eq (tgt := 21) hx hb dX8_wayOf_9 (by decide) (fun c_35 => ?_) (fun c_35 => absurd (by decide) c_35)
    refine lv_aload_n hx hb dX8_wayOf_21 rfl (lv_at hl 0 rfl) ?_
    refine lv_ldc (v := (-1000000001)) hx hb hown (hu _ uw396) dX8_wayOf_22 ?_
    refine xc_Vi (wr := [(qh, .inr (1, [.int (nI (Pa)), .ref ae, .ref al, .ref au, .ref ao, .ref ar, .ref ak, .ref aw, .ref att, .ref ass])), (al, .inl (cI, 100, .inl fal)), (au, .inl (cI, 100, .inl fau)), (ao, .inl (cI, 100, .inl fao))]) hF (c_X8_finding_B l D cI cJ cZ cS ta sa sv s.heap.size h0 qh qk qd b0 qa qm qs qp ql qt qz qf ff ) kv_X8_80 ⟨rfl, rfl, Nat.le_of_ble_eq_true rfl, Nat.le_of_ble_eq_true rfl⟩ ⟨Nat.le_of_ble_eq_true rfl, Nat.le_of_ble_eq_true rfl⟩ hK hN hZ hP hD hS hA [0, 5] [1, 2, 3, 4] rfl rfl rfl rfl (by decide) 0 rfl rfl rfl rfl hl.1 rfl (Nat.le_of_ble_eq_true rfl) dX8_wayOf_24 (fun r_36 u_r_36 H locs hw_r_36 hP hD hS => ?_)
    obtain ⟨f2_37, rfl⟩ : ∃ z, z = u_r_36 := ⟨_, rfl⟩
    try dsimp only at hw_r_36
    have hP : va_P D vwCl [(qh, .inr (1, [.int (nI (Pa)), .ref ae, .ref al, .ref au, .ref ao, .ref ar, .ref ak, .ref aw, .ref att, .ref ass])), (al, .inl (cI, 100, .inl fal)), (au, .inl (cI, 100, .inl fau)), (ao, .inl (cI, 100, .inl fao)), (h0, .inr (8, [.ref qh, .ref qk, .ref qd, .int b0, .ref qa, .ref qm, .ref qs, .ref qp, .ref ql, .ref qt, .ref qz, .ref qf])), (qf, .inl (cI, 7, .inl f2_37))] H := hP
    have hD : va_D A [(qh, .inr (1, [.int (nI (Pa)), .ref ae, .ref al, .ref au, .ref ao, .ref ar, .ref ak, .ref aw, .ref att, .ref ass])), (al, .inl (cI, 100, .inl fal)), (au, .inl (cI, 100, .inl fau)), (ao, .inl (cI, 100, .inl fao)), (h0, .inr (8, [.ref qh, .ref qk, .ref qd, .int b0, .ref qa, .ref qm, .ref qs, .ref qp, .ref ql, .ref qt, .ref qz, .ref qf])), (qf, .inl (cI, 7, .inl f2_37))] := hD
    subst hw_r_36
    exact W.iret (v := (-1000000001)) hx hb hr (fun t ht hW => ⟨⟨(-1000000001), f2_37, rfl, wo_no (l := fal) (u := fau) (o := fao) (fun h => h_9 h.1), by rw [ht]; exact hP.sub [4, 0, 1, 2, 3, 5] rfl, hD.sub [4, 0, 1, 2, 3, 5] (by decide +kernel) rfl⟩, hS.F ht⟩) hS.2.2 dX8_wayOf_27 hlk
set_option maxHeartbeats 4000000 in
set_option maxRecDepth 100000 in
theorem c_X8_shut_0 (l : Launch) (D : va_G) (cI cJ cZ cS : ClassId) (ta : Nat) (sa sv : Nat → Nat) (sz : Nat) (h0 : Nat) (qh : Nat) (qk : Nat) (qd : Nat) (b0 : Int32) (qa : Nat) (qm : Nat) (qs : Nat) (qp : Nat) (ql : Nat) (qt : Nat) (qz : Nat) (qf : Nat) (Pa : Nat) (ae : Nat) (al : Nat) (au : Nat) (ao : Nat) (ar : Nat) (ak : Nat) (aw : Nat) (att : Nat) (ass : Nat) (fao : Nat → Int32) (ff : Nat → Int32) (p0 : Int32) (p1 : Int32) (hP0 : Pa ≤ 10) : Met l yX8_shut (Cond.code yX8_shut cX8_shut 5 (some .int) :: wsU) ({ frames := 2, cells := 0, slots := 0, locals := 44 }) (va_Pc [.ref h0, .int p0, .int p1, .int 0] (XW D (xT cI cJ cZ cS) ta sa sv [(h0, .inr (8, [.ref qh, .ref qk, .ref qd, .int b0, .ref qa, .ref qm, .ref qs, .ref qp, .ref ql, .ref qt, .ref qz, .ref qf])), (qh, .inr (1, [.int (nI (Pa)), .ref ae, .ref al, .ref au, .ref ao, .ref ar, .ref ak, .ref aw, .ref att, .ref ass])), (ao, .inl (cI, 100, .inl fao)), (qf, .inl (cI, 7, .inl ff))] sz)) (XQi (fun (r : Int32) (u : (Nat → Int32) × (Nat → Int32)) => match u with | (d2, f2) => ((r = shR Pa p0 p1 0 1 fao)) ∧ (d2 = shF Pa p0 p1 1 fao)) D (fun (u : (Nat → Int32) × (Nat → Int32)) => match u with | (d2, f2) => [(h0, .inr (8, [.ref qh, .ref qk, .ref qd, .int b0, .ref qa, .ref qm, .ref qs, .ref qp, .ref ql, .ref qt, .ref qz, .ref qf])), (qh, .inr (1, [.int (nI (Pa)), .ref ae, .ref al, .ref au, .ref ao, .ref ar, .ref ak, .ref aw, .ref att, .ref ass])), (ao, .inl (cI, 100, .inl d2)), (qf, .inl (cI, 7, .inl f2))]) (va_A [(h0, .inr (8, [.ref qh, .ref qk, .ref qd, .int b0, .ref qa, .ref qm, .ref qs, .ref qp, .ref ql, .ref qt, .ref qz, .ref qf])), (qh, .inr (1, [.int (nI (Pa)), .ref ae, .ref al, .ref au, .ref ao, .ref ar, .ref ak, .ref aw, .ref att, .ref ass])), (ao, .inl (cI, 100, .inl fao)), (qf, .inl (cI, 7, .inl ff))] sz)) 0 0 (va_A [(h0, .inr (8, [.ref qh, .ref qk, .ref qd, .int b0, .ref qa, .ref qm, .ref qs, .ref qp, .ref ql, .ref qt, .ref qz, .ref qf])), (qh, .inr (1, [.int (nI (Pa)), .ref ae, .ref al, .ref au, .ref ao, .ref ar, .ref ak, .ref aw, .ref att, .ref ass])), (ao, .inl (cI, 100, .inl fao)), (qf, .inl (cI, 7, .inl ff))] sz) := by
  refine xh (QA := fun A => XQi (fun (r : Int32) (u : (Nat → Int32) × (Nat → Int32)) => match u with | (d2, f2) => ((r = shR Pa p0 p1 0 1 fao)) ∧ (d2 = shF Pa p0 p1 1 fao)) D (fun (u : (Nat → Int32) × (Nat → Int32)) => match u with | (d2, f2) => [(h0, .inr (8, [.ref qh, .ref qk, .ref qd, .int b0, .ref qa, .ref qm, .ref qs, .ref qp, .ref ql, .ref qt, .ref qz, .ref qf])), (qh, .inr (1, [.int (nI (Pa)), .ref ae, .ref al, .ref au, .ref ao, .ref ar, .ref ak, .ref aw, .ref att, .ref ass])), (ao, .inl (cI, 100, .inl d2)), (qf, .inl (cI, 7, .inl f2))]) A) (fr := fun A => A) (by decide) (Nat.le_of_ble_eq_true rfl) ?_
  intro p e s m below meth c ls A hF hr hlk hin hsz hP hK hD hN hZ hA hS hl
  have hF : CallFix p m c cX8_shut 5 s _ _ RX8 := hF
  have hx := hF.1
  have hb := hF.2.1
  have hml := hF.2.2.1
  have hown := hF.2.2.2.1
  have hu : ∀ w ∈ wsU, w.before _ s = true := fun w h => hF.2.2.2.2 w (List.mem_cons_of_mem _ h)
  have hl : lv_has ls 5 [(0, .ref h0), (1, .int p0), (2, .int p1), (3, .int 0)] := hl
  refine lv_aload_n hx hb dX8_shut_0 rfl (lv_at hl 0 rfl) ?_
  refine xg hF kf_X8_12 hK hP 0 rfl rfl dX8_shut_1 ?_
  refine lv_iload_n hx hb dX8_shut_4 rfl (lv_at hl 1 rfl) ?_
  refine lv_iload_n hx hb dX8_shut_5 rfl (lv_at hl 2 rfl) ?_
  refine xc_Vr hF (c_X1_areTwo l D cI cJ cZ cS ta sa sv s.heap.size qh ae al au ao ar ak aw att ass Pa p0 p1 (by omega)) kv_X8_99 ⟨rfl, rfl, Nat.le_of_ble_eq_true rfl, Nat.le_of_ble_eq_true rfl⟩ ⟨Nat.le_of_ble_eq_true rfl, Nat.le_of_ble_eq_true rfl⟩ hK hN hZ hP hD hS hA [1] rfl rfl 0 rfl rfl rfl rfl hl.1 rfl (Nat.le_of_ble_eq_true rfl) dX8_shut_6 (fun r_1 hw_r_1 => ?_)
  rcases hw_r_1 with ⟨j_2, k_3, rfl, rfl, rfl, h_6, h_7, h_8⟩ | ⟨rfl, h_9⟩
  · skip
    refine lv_if_ne (tgt := 19) hx hb dX8_shut_9 (by decide) (fun c_10 => ?_) (fun c_10 => absurd c_10 (by decide))
    refine lv_aload_n hx hb dX8_shut_19 rfl (lv_at hl 0 rfl) ?_
    refine xg hF kf_X8_12 hK hP 0 rfl rfl dX8_shut_20 ?_
    refine lv_iload_n hx hb dX8_shut_23 rfl (lv_at hl 1 rfl) ?_
    refine lv_iload_n hx hb dX8_shut_24 rfl (lv_at hl 2 rfl) ?_
    refine xc_Vr hF (c_X1_isThere l D cI cJ cZ cS ta sa sv s.heap.size qh ae al au ao ar ak aw att ass Pa j_2 k_3 fao (by omega) (by omega)) kv_X8_106 ⟨rfl, rfl, Nat.le_of_ble_eq_true rfl, Nat.le_of_ble_eq_true rfl⟩ ⟨Nat.le_of_ble_eq_true rfl, Nat.le_of_ble_eq_true rfl⟩ hK hN hZ hP hD hS hA [1, 2] rfl rfl 0 rfl rfl rfl rfl hl.1 rfl (Nat.le_of_ble_eq_true rfl) dX8_shut_25 (fun r_11 hw_r_11 => ?_)
    rcases hw_r_11 with ⟨rfl, h_12⟩ | ⟨rfl, h_13⟩
    · skip
      refine lv_if_ne (tgt := 38) hx hb dX8_shut_28 (by decide) (fun c_14 => ?_) (fun c_14 => absurd c_14 (by decide))
      refine lv_aload_n hx hb dX8_shut_38 rfl (lv_at hl 0 rfl) ?_
      refine xg hF kf_X8_12 hK hP 0 rfl rfl dX8_shut_39 ?_
      refine lv_iload_n hx hb dX8_shut_42 rfl (lv_at hl 1 rfl) ?_
      refine lv_iload_n hx hb dX8_shut_43 rfl (lv_at hl 2 rfl) ?_
      refine xc_Vr hF (c_X1_isOpen l D cI cJ cZ cS ta sa sv s.heap.size qh ae al au ao ar ak aw att ass Pa j_2 k_3 fao (by omega) (by omega)) kv_X8_121 ⟨rfl, rfl, Nat.le_of_ble_eq_true rfl, Nat.le_of_ble_eq_true rfl⟩ ⟨Nat.le_of_ble_eq_true rfl, Nat.le_of_ble_eq_true rfl⟩ hK hN hZ hP hD hS hA [1, 2] rfl rfl 0 rfl rfl rfl rfl hl.1 rfl (Nat.le_of_ble_eq_true rfl) dX8_shut_44 (fun r_15 hw_r_15 => ?_)
      rcases hw_r_15 with ⟨rfl, h_16⟩ | ⟨rfl, h_17⟩
      · skip
        refine lv_if_ne (tgt := 54) hx hb dX8_shut_47 (by decide) (fun c_18 => ?_) (fun c_18 => absurd c_18 (by decide))
        refine lv_iconst (v := 0) hx hb dX8_shut_54 (by decide) ?_
        refine lv_istore (lv' := [(4, .int 0), (0, .ref h0), (1, .int (nI (j_2))), (2, .int (nI (k_3))), (3, .int 0)]) hx hb dX8_shut_55 hl (by decide) rfl (fun ls hl => ?_)
        refine lv_aload_n hx hb dX8_shut_57 rfl (lv_at hl 1 rfl) ?_
        refine xg hF kf_X8_12 hK hP 0 rfl rfl dX8_shut_58 ?_
        refine lv_iload_n hx hb dX8_shut_61 rfl (lv_at hl 2 rfl) ?_
        refine lv_iload_n hx hb dX8_shut_62 rfl (lv_at hl 3 rfl) ?_
        refine lv_iload_n hx hb dX8_shut_63 rfl (lv_at hl 4 rfl) ?_
        refine xc_Vv (wr := [(h0, .inr (8, [.ref qh, .ref qk, .ref qd, .int b0, .ref qa, .ref qm, .ref qs, .ref qp, .ref ql, .ref qt, .ref qz, .ref qf])), (qf, .inl (cI, 7, .inl ff))]) hF (c_X1_setShut l D cI cJ cZ cS ta sa sv s.heap.size qh ae al au ao ar ak aw att ass Pa j_2 k_3 0 fao (by omega) (by omega)) kv_X8_124 ⟨rfl, rfl, Nat.le_of_ble_eq_true rfl, Nat.le_of_ble_eq_true rfl⟩ ⟨Nat.le_of_ble_eq_true rfl, Nat.le_of_ble_eq_true rfl⟩ hK hN hZ hP hD hS hA [1, 2] [0, 3] rfl rfl rfl rfl (by decide) 0 rfl rfl rfl rfl hl.1 rfl (Nat.le_of_ble_eq_true rfl) dX8_shut_64 (fun u_r_19 H locs hw_r_19 hP hD hS => ?_)
        obtain ⟨d2_20, rfl⟩ : ∃ z, z = u_r_19 := ⟨_, rfl⟩
        try dsimp only at hw_r_19
        have i_21 := hw_r_19
        have hP : va_P D vwCl [(h0, .inr (8, [.ref qh, .ref qk, .ref qd, .int b0, .ref qa, .ref qm, .ref qs, .ref qp, .ref ql, .ref qt, .ref qz, .ref qf])), (qf, .inl (cI, 7, .inl ff)), (qh, .inr (1, [.int (nI (Pa)), .ref ae, .ref al, .ref au, .ref ao, .ref ar, .ref ak, .ref aw, .ref att, .ref ass])), (ao, .inl (cI, 100, .inl d2_20))] H := hP
        have hD : va_D A [(h0, .inr (8, [.ref qh, .ref qk, .ref qd, .int b0, .ref qa, .ref qm, .ref qs, .ref qp, .ref ql, .ref qt, .ref qz, .ref qf])), (qf, .inl (cI, 7, .inl ff)), (qh, .inr (1, [.int (nI (Pa)), .ref ae, .ref al, .ref au, .ref ao, .ref ar, .ref ak, .ref aw, .ref att, .ref ass])), (ao, .inl (cI, 100, .inl d2_20))] := hD
        refine lv_iload hx hb dX8_shut_67 (lv_at hl 0 rfl) ?_
        refine lv_iload_n hx hb dX8_shut_69 rfl (lv_at hl 4 rfl) ?_
        refine lv_icmp_ne (tgt := 77) hx hb dX8_shut_70 (by decide) (fun c_22 => absurd (by decide) c_22) (fun c_22 => ?_)
        refine lv_iconst (v := 0) hx hb dX8_shut_73 (by decide) ?_
        refine lv_goto (tgt := 78) hx hb dX8_shut_74 (by decide) ?_
        exact W.iret (v := 0) hx hb hr (fun t ht hW => ⟨⟨0, (d2_20, ff), rfl, ⟨((sh_y (P := Pa) (o := fao) (c1 := 0) (c0 := 1) (j := j_2) (k := k_3) (by omega) (by omega) (by omega) (by omega) h_12).1 h_16), (i_21.trans (by rw [if_pos rfl]; exact (sh_y (P := Pa) (o := fao) (c1 := 0) (c0 := 1) (j := j_2) (k := k_3) (by omega) (by omega) (by omega) (by omega) h_12).2.2 _))⟩, by rw [ht]; exact hP.sub [0, 2, 3, 1] rfl, hD.sub [0, 2, 3, 1] (by decide) rfl⟩, hS.F ht⟩) hS.2.2 dX8_shut_78 hlk
      · skip
        refine lv_if_ne (tgt := 54) hx hb dX8_shut_47 (by decide) (fun c_23 => absurd (by decide) c_23) (fun c_23 => ?_)
        refine lv_iconst (v := 1) hx hb dX8_shut_50 (by decide) ?_
        refine lv_goto (tgt := 55) hx hb dX8_shut_51 (by decide) ?_
        refine lv_istore (lv' := [(4, .int 1), (0, .ref h0), (1, .int (nI (j_2))), (2, .int (nI (k_3))), (3, .int 0)]) hx hb dX8_shut_55 hl (by decide) rfl (fun ls hl => ?_)
        refine lv_aload_n hx hb dX8_shut_57 rfl (lv_at hl 1 rfl) ?_
        refine xg hF kf_X8_12 hK hP 0 rfl rfl dX8_shut_58 ?_
        refine lv_iload_n hx hb dX8_shut_61 rfl (lv_at hl 2 rfl) ?_
        refine lv_iload_n hx hb dX8_shut_62 rfl (lv_at hl 3 rfl) ?_
        refine lv_iload_n hx hb dX8_shut_63 rfl (lv_at hl 4 rfl) ?_
        refine xc_Vv (wr := [(h0, .inr (8, [.ref qh, .ref qk, .ref qd, .int b0, .ref qa, .ref qm, .ref qs, .ref qp, .ref ql, .ref qt, .ref qz, .ref qf])), (qf, .inl (cI, 7, .inl ff))]) hF (c_X1_setShut l D cI cJ cZ cS ta sa sv s.heap.size qh ae al au ao ar ak aw att ass Pa j_2 k_3 0 fao (by omega) (by omega)) kv_X8_124 ⟨rfl, rfl, Nat.le_of_ble_eq_true rfl, Nat.le_of_ble_eq_true rfl⟩ ⟨Nat.le_of_ble_eq_true rfl, Nat.le_of_ble_eq_true rfl⟩ hK hN hZ hP hD hS hA [1, 2] [0, 3] rfl rfl rfl rfl (by decide) 0 rfl rfl rfl rfl hl.1 rfl (Nat.le_of_ble_eq_true rfl) dX8_shut_64 (fun u_r_24 H locs hw_r_24 hP hD hS => ?_)
        obtain ⟨d2_25, rfl⟩ : ∃ z, z = u_r_24 := ⟨_, rfl⟩
        try dsimp only at hw_r_24
        have i_26 := hw_r_24
        have hP : va_P D vwCl [(h0, .inr (8, [.ref qh, .ref qk, .ref qd, .int b0, .ref qa, .ref qm, .ref qs, .ref qp, .ref ql, .ref qt, .ref qz, .ref qf])), (qf, .inl (cI, 7, .inl ff)), (qh, .inr (1, [.int (nI (Pa)), .ref ae, .ref al, .ref au, .ref ao, .ref ar, .ref ak, .ref aw, .ref att, .ref ass])), (ao, .inl (cI, 100, .inl d2_25))] H := hP
        have hD : va_D A [(h0, .inr (8, [.ref qh, .ref qk, .ref qd, .int b0, .ref qa, .ref qm, .ref qs, .ref qp, .ref ql, .ref qt, .ref qz, .ref qf])), (qf, .inl (cI, 7, .inl ff)), (qh, .inr (1, [.int (nI (Pa)), .ref ae, .ref al, .ref au, .ref ao, .ref ar, .ref ak, .ref aw, .ref att, .ref ass])), (ao, .inl (cI, 100, .inl d2_25))] := hD
        refine lv_iload hx hb dX8_shut_67 (lv_at hl 0 rfl) ?_
        refine lv_iload_n hx hb dX8_shut_69 rfl (lv_at hl 4 rfl) ?_
        refine lv_icmp_ne (tgt := 77) hx hb dX8_shut_70 (by decide) (fun c_27 => ?_) (fun c_27 => absurd c_27 (by decide))
        refine lv_iconst (v := 1) hx hb dX8_shut_77 (by decide) ?_
        exact W.iret (v := 1) hx hb hr (fun t ht hW => ⟨⟨1, (d2_25, ff), rfl, ⟨((sh_y (P := Pa) (o := fao) (c1 := 0) (c0 := 1) (j := j_2) (k := k_3) (by omega) (by omega) (by omega) (by omega) h_12).2.1 h_17), (i_26.trans (by rw [if_pos rfl]; exact (sh_y (P := Pa) (o := fao) (c1 := 0) (c0 := 1) (j := j_2) (k := k_3) (by omega) (by omega) (by omega) (by omega) h_12).2.2 _))⟩, by rw [ht]; exact hP.sub [0, 2, 3, 1] rfl, hD.sub [0, 2, 3, 1] (by decide) rfl⟩, hS.F ht⟩) hS.2.2 dX8_shut_78 hlk
    · skip
      refine lv_if_ne (tgt := 38) hx hb dX8_shut_28 (by decide) (fun c_28 => absurd (by decide) c_28) (fun c_28 => ?_)
      refine lv_aload_n hx hb dX8_shut_31 rfl (lv_at hl 0 rfl) ?_
      refine lv_ldc (v := (-1000000004)) hx hb hown (hu _ uw410) dX8_shut_32 ?_
      refine xc_Vi (wr := [(qh, .inr (1, [.int (nI (Pa)), .ref ae, .ref al, .ref au, .ref ao, .ref ar, .ref ak, .ref aw, .ref att, .ref ass])), (ao, .inl (cI, 100, .inl fao))]) hF (c_X8_finding_N l D cI cJ cZ cS ta sa sv s.heap.size h0 qh qk qd b0 qa qm qs qp ql qt qz qf ff ) kv_X8_80 ⟨rfl, rfl, Nat.le_of_ble_eq_true rfl, Nat.le_of_ble_eq_true rfl⟩ ⟨Nat.le_of_ble_eq_true rfl, Nat.le_of_ble_eq_true rfl⟩ hK hN hZ hP hD hS hA [0, 3] [1, 2] rfl rfl rfl rfl (by decide) 0 rfl rfl rfl rfl hl.1 rfl (Nat.le_of_ble_eq_true rfl) dX8_shut_34 (fun r_29 u_r_29 H locs hw_r_29 hP hD hS => ?_)
      obtain ⟨f2_30, rfl⟩ : ∃ z, z = u_r_29 := ⟨_, rfl⟩
      try dsimp only at hw_r_29
      have hP : va_P D vwCl [(qh, .inr (1, [.int (nI (Pa)), .ref ae, .ref al, .ref au, .ref ao, .ref ar, .ref ak, .ref aw, .ref att, .ref ass])), (ao, .inl (cI, 100, .inl fao)), (h0, .inr (8, [.ref qh, .ref qk, .ref qd, .int b0, .ref qa, .ref qm, .ref qs, .ref qp, .ref ql, .ref qt, .ref qz, .ref qf])), (qf, .inl (cI, 7, .inl f2_30))] H := hP
      have hD : va_D A [(qh, .inr (1, [.int (nI (Pa)), .ref ae, .ref al, .ref au, .ref ao, .ref ar, .ref ak, .ref aw, .ref att, .ref ass])), (ao, .inl (cI, 100, .inl fao)), (h0, .inr (8, [.ref qh, .ref qk, .ref qd, .int b0, .ref qa, .ref qm, .ref qs, .ref qp, .ref ql, .ref qt, .ref qz, .ref qf])), (qf, .inl (cI, 7, .inl f2_30))] := hD
      subst hw_r_29
      exact W.iret (v := (-1000000004)) hx hb hr (fun t ht hW => ⟨⟨(-1000000004), (fao, f2_30), rfl, ⟨(sh_n (P := Pa) (o := fao) (c1 := 0) (c0 := 1) (j := j_2) (k := k_3) (by omega) (by omega) (by omega) (by omega) h_13).1, ((sh_n (P := Pa) (o := fao) (c1 := 0) (c0 := 1) (j := j_2) (k := k_3) (by omega) (by omega) (by omega) (by omega) h_13).2 _)⟩, by rw [ht]; exact hP.sub [2, 0, 1, 3] rfl, hD.sub [2, 0, 1, 3] (by decide) rfl⟩, hS.F ht⟩) hS.2.2 dX8_shut_37 hlk
  · skip
    refine lv_if_ne (tgt := 19) hx hb dX8_shut_9 (by decide) (fun c_31 => absurd (by decide) c_31) (fun c_31 => ?_)
    refine lv_aload_n hx hb dX8_shut_12 rfl (lv_at hl 0 rfl) ?_
    refine lv_ldc (v := (-1000000001)) hx hb hown (hu _ uw396) dX8_shut_13 ?_
    refine xc_Vi (wr := [(qh, .inr (1, [.int (nI (Pa)), .ref ae, .ref al, .ref au, .ref ao, .ref ar, .ref ak, .ref aw, .ref att, .ref ass])), (ao, .inl (cI, 100, .inl fao))]) hF (c_X8_finding_B l D cI cJ cZ cS ta sa sv s.heap.size h0 qh qk qd b0 qa qm qs qp ql qt qz qf ff ) kv_X8_80 ⟨rfl, rfl, Nat.le_of_ble_eq_true rfl, Nat.le_of_ble_eq_true rfl⟩ ⟨Nat.le_of_ble_eq_true rfl, Nat.le_of_ble_eq_true rfl⟩ hK hN hZ hP hD hS hA [0, 3] [1, 2] rfl rfl rfl rfl (by decide) 0 rfl rfl rfl rfl hl.1 rfl (Nat.le_of_ble_eq_true rfl) dX8_shut_15 (fun r_32 u_r_32 H locs hw_r_32 hP hD hS => ?_)
    obtain ⟨f2_33, rfl⟩ : ∃ z, z = u_r_32 := ⟨_, rfl⟩
    try dsimp only at hw_r_32
    have hP : va_P D vwCl [(qh, .inr (1, [.int (nI (Pa)), .ref ae, .ref al, .ref au, .ref ao, .ref ar, .ref ak, .ref aw, .ref att, .ref ass])), (ao, .inl (cI, 100, .inl fao)), (h0, .inr (8, [.ref qh, .ref qk, .ref qd, .int b0, .ref qa, .ref qm, .ref qs, .ref qp, .ref ql, .ref qt, .ref qz, .ref qf])), (qf, .inl (cI, 7, .inl f2_33))] H := hP
    have hD : va_D A [(qh, .inr (1, [.int (nI (Pa)), .ref ae, .ref al, .ref au, .ref ao, .ref ar, .ref ak, .ref aw, .ref att, .ref ass])), (ao, .inl (cI, 100, .inl fao)), (h0, .inr (8, [.ref qh, .ref qk, .ref qd, .int b0, .ref qa, .ref qm, .ref qs, .ref qp, .ref ql, .ref qt, .ref qz, .ref qf])), (qf, .inl (cI, 7, .inl f2_33))] := hD
    subst hw_r_32
    exact W.iret (v := (-1000000001)) hx hb hr (fun t ht hW => ⟨⟨(-1000000001), (fao, f2_33), rfl, ⟨(sh_b (P := Pa) (o := fao) (c1 := 0) (c0 := 1) h_9).1, ((sh_b (P := Pa) (o := fao) (c1 := 0) (c0 := 1) h_9).2 _)⟩, by rw [ht]; exact hP.sub [2, 0, 1, 3] rfl, hD.sub [2, 0, 1, 3] (by decide) rfl⟩, hS.F ht⟩) hS.2.2 dX8_shut_18 hlk
set_option maxHeartbeats 4000000 in
set_option maxRecDepth 100000 in
theorem c_X8_shut_1 (l : Launch) (D : va_G) (cI cJ cZ cS : ClassId) (ta : Nat) (sa sv : Nat → Nat) (sz : Nat) (h0 : Nat) (qh : Nat) (qk : Nat) (qd : Nat) (b0 : Int32) (qa : Nat) (qm : Nat) (qs : Nat) (qp : Nat) (ql : Nat) (qt : Nat) (qz : Nat) (qf : Nat) (Pa : Nat) (ae : Nat) (al : Nat) (au : Nat) (ao : Nat) (ar : Nat) (ak : Nat) (aw : Nat) (att : Nat) (ass : Nat) (fao : Nat → Int32) (ff : Nat → Int32) (p0 : Int32) (p1 : Int32) (hP0 : Pa ≤ 10) : Met l yX8_shut (Cond.code yX8_shut cX8_shut 5 (some .int) :: wsU) ({ frames := 2, cells := 0, slots := 0, locals := 44 }) (va_Pc [.ref h0, .int p0, .int p1, .int 1] (XW D (xT cI cJ cZ cS) ta sa sv [(h0, .inr (8, [.ref qh, .ref qk, .ref qd, .int b0, .ref qa, .ref qm, .ref qs, .ref qp, .ref ql, .ref qt, .ref qz, .ref qf])), (qh, .inr (1, [.int (nI (Pa)), .ref ae, .ref al, .ref au, .ref ao, .ref ar, .ref ak, .ref aw, .ref att, .ref ass])), (ao, .inl (cI, 100, .inl fao)), (qf, .inl (cI, 7, .inl ff))] sz)) (XQi (fun (r : Int32) (u : (Nat → Int32) × (Nat → Int32)) => match u with | (d2, f2) => ((r = shR Pa p0 p1 1 0 fao)) ∧ (d2 = shF Pa p0 p1 2 fao)) D (fun (u : (Nat → Int32) × (Nat → Int32)) => match u with | (d2, f2) => [(h0, .inr (8, [.ref qh, .ref qk, .ref qd, .int b0, .ref qa, .ref qm, .ref qs, .ref qp, .ref ql, .ref qt, .ref qz, .ref qf])), (qh, .inr (1, [.int (nI (Pa)), .ref ae, .ref al, .ref au, .ref ao, .ref ar, .ref ak, .ref aw, .ref att, .ref ass])), (ao, .inl (cI, 100, .inl d2)), (qf, .inl (cI, 7, .inl f2))]) (va_A [(h0, .inr (8, [.ref qh, .ref qk, .ref qd, .int b0, .ref qa, .ref qm, .ref qs, .ref qp, .ref ql, .ref qt, .ref qz, .ref qf])), (qh, .inr (1, [.int (nI (Pa)), .ref ae, .ref al, .ref au, .ref ao, .ref ar, .ref ak, .ref aw, .ref att, .ref ass])), (ao, .inl (cI, 100, .inl fao)), (qf, .inl (cI, 7, .inl ff))] sz)) 0 0 (va_A [(h0, .inr (8, [.ref qh, .ref qk, .ref qd, .int b0, .ref qa, .ref qm, .ref qs, .ref qp, .ref ql, .ref qt, .ref qz, .ref qf])), (qh, .inr (1, [.int (nI (Pa)), .ref ae, .ref al, .ref au, .ref ao, .ref ar, .ref ak, .ref aw, .ref att, .ref ass])), (ao, .inl (cI, 100, .inl fao)), (qf, .inl (cI, 7, .inl ff))] sz) := by
  refine xh (QA := fun A => XQi (fun (r : Int32) (u : (Nat → Int32) × (Nat → Int32)) => match u with | (d2, f2) => ((r = shR Pa p0 p1 1 0 fao)) ∧ (d2 = shF Pa p0 p1 2 fao)) D (fun (u : (Nat → Int32) × (Nat → Int32)) => match u with | (d2, f2) => [(h0, .inr (8, [.ref qh, .ref qk, .ref qd, .int b0, .ref qa, .ref qm, .ref qs, .ref qp, .ref ql, .ref qt, .ref qz, .ref qf])), (qh, .inr (1, [.int (nI (Pa)), .ref ae, .ref al, .ref au, .ref ao, .ref ar, .ref ak, .ref aw, .ref att, .ref ass])), (ao, .inl (cI, 100, .inl d2)), (qf, .inl (cI, 7, .inl f2))]) A) (fr := fun A => A) (by decide) (Nat.le_of_ble_eq_true rfl) ?_
  intro p e s m below meth c ls A hF hr hlk hin hsz hP hK hD hN hZ hA hS hl
  have hF : CallFix p m c cX8_shut 5 s _ _ RX8 := hF
  have hx := hF.1
  have hb := hF.2.1
  have hml := hF.2.2.1
  have hown := hF.2.2.2.1
  have hu : ∀ w ∈ wsU, w.before _ s = true := fun w h => hF.2.2.2.2 w (List.mem_cons_of_mem _ h)
  have hl : lv_has ls 5 [(0, .ref h0), (1, .int p0), (2, .int p1), (3, .int 1)] := hl
  refine lv_aload_n hx hb dX8_shut_0 rfl (lv_at hl 0 rfl) ?_
  refine xg hF kf_X8_12 hK hP 0 rfl rfl dX8_shut_1 ?_
  refine lv_iload_n hx hb dX8_shut_4 rfl (lv_at hl 1 rfl) ?_
  refine lv_iload_n hx hb dX8_shut_5 rfl (lv_at hl 2 rfl) ?_
  refine xc_Vr hF (c_X1_areTwo l D cI cJ cZ cS ta sa sv s.heap.size qh ae al au ao ar ak aw att ass Pa p0 p1 (by omega)) kv_X8_99 ⟨rfl, rfl, Nat.le_of_ble_eq_true rfl, Nat.le_of_ble_eq_true rfl⟩ ⟨Nat.le_of_ble_eq_true rfl, Nat.le_of_ble_eq_true rfl⟩ hK hN hZ hP hD hS hA [1] rfl rfl 0 rfl rfl rfl rfl hl.1 rfl (Nat.le_of_ble_eq_true rfl) dX8_shut_6 (fun r_1 hw_r_1 => ?_)
  rcases hw_r_1 with ⟨j_2, k_3, rfl, rfl, rfl, h_6, h_7, h_8⟩ | ⟨rfl, h_9⟩
  · skip
    refine lv_if_ne (tgt := 19) hx hb dX8_shut_9 (by decide) (fun c_10 => ?_) (fun c_10 => absurd c_10 (by decide))
    refine lv_aload_n hx hb dX8_shut_19 rfl (lv_at hl 0 rfl) ?_
    refine xg hF kf_X8_12 hK hP 0 rfl rfl dX8_shut_20 ?_
    refine lv_iload_n hx hb dX8_shut_23 rfl (lv_at hl 1 rfl) ?_
    refine lv_iload_n hx hb dX8_shut_24 rfl (lv_at hl 2 rfl) ?_
    refine xc_Vr hF (c_X1_isThere l D cI cJ cZ cS ta sa sv s.heap.size qh ae al au ao ar ak aw att ass Pa j_2 k_3 fao (by omega) (by omega)) kv_X8_106 ⟨rfl, rfl, Nat.le_of_ble_eq_true rfl, Nat.le_of_ble_eq_true rfl⟩ ⟨Nat.le_of_ble_eq_true rfl, Nat.le_of_ble_eq_true rfl⟩ hK hN hZ hP hD hS hA [1, 2] rfl rfl 0 rfl rfl rfl rfl hl.1 rfl (Nat.le_of_ble_eq_true rfl) dX8_shut_25 (fun r_11 hw_r_11 => ?_)
    rcases hw_r_11 with ⟨rfl, h_12⟩ | ⟨rfl, h_13⟩
    · skip
      refine lv_if_ne (tgt := 38) hx hb dX8_shut_28 (by decide) (fun c_14 => ?_) (fun c_14 => absurd c_14 (by decide))
      refine lv_aload_n hx hb dX8_shut_38 rfl (lv_at hl 0 rfl) ?_
      refine xg hF kf_X8_12 hK hP 0 rfl rfl dX8_shut_39 ?_
      refine lv_iload_n hx hb dX8_shut_42 rfl (lv_at hl 1 rfl) ?_
      refine lv_iload_n hx hb dX8_shut_43 rfl (lv_at hl 2 rfl) ?_
      refine xc_Vr hF (c_X1_isOpen l D cI cJ cZ cS ta sa sv s.heap.size qh ae al au ao ar ak aw att ass Pa j_2 k_3 fao (by omega) (by omega)) kv_X8_121 ⟨rfl, rfl, Nat.le_of_ble_eq_true rfl, Nat.le_of_ble_eq_true rfl⟩ ⟨Nat.le_of_ble_eq_true rfl, Nat.le_of_ble_eq_true rfl⟩ hK hN hZ hP hD hS hA [1, 2] rfl rfl 0 rfl rfl rfl rfl hl.1 rfl (Nat.le_of_ble_eq_true rfl) dX8_shut_44 (fun r_15 hw_r_15 => ?_)
      rcases hw_r_15 with ⟨rfl, h_16⟩ | ⟨rfl, h_17⟩
      · skip
        refine lv_if_ne (tgt := 54) hx hb dX8_shut_47 (by decide) (fun c_18 => ?_) (fun c_18 => absurd c_18 (by decide))
        refine lv_iconst (v := 0) hx hb dX8_shut_54 (by decide) ?_
        refine lv_istore (lv' := [(4, .int 0), (0, .ref h0), (1, .int (nI (j_2))), (2, .int (nI (k_3))), (3, .int 1)]) hx hb dX8_shut_55 hl (by decide) rfl (fun ls hl => ?_)
        refine lv_aload_n hx hb dX8_shut_57 rfl (lv_at hl 1 rfl) ?_
        refine xg hF kf_X8_12 hK hP 0 rfl rfl dX8_shut_58 ?_
        refine lv_iload_n hx hb dX8_shut_61 rfl (lv_at hl 2 rfl) ?_
        refine lv_iload_n hx hb dX8_shut_62 rfl (lv_at hl 3 rfl) ?_
        refine lv_iload_n hx hb dX8_shut_63 rfl (lv_at hl 4 rfl) ?_
        refine xc_Vv (wr := [(h0, .inr (8, [.ref qh, .ref qk, .ref qd, .int b0, .ref qa, .ref qm, .ref qs, .ref qp, .ref ql, .ref qt, .ref qz, .ref qf])), (qf, .inl (cI, 7, .inl ff))]) hF (c_X1_setShut l D cI cJ cZ cS ta sa sv s.heap.size qh ae al au ao ar ak aw att ass Pa j_2 k_3 1 fao (by omega) (by omega)) kv_X8_124 ⟨rfl, rfl, Nat.le_of_ble_eq_true rfl, Nat.le_of_ble_eq_true rfl⟩ ⟨Nat.le_of_ble_eq_true rfl, Nat.le_of_ble_eq_true rfl⟩ hK hN hZ hP hD hS hA [1, 2] [0, 3] rfl rfl rfl rfl (by decide) 0 rfl rfl rfl rfl hl.1 rfl (Nat.le_of_ble_eq_true rfl) dX8_shut_64 (fun u_r_19 H locs hw_r_19 hP hD hS => ?_)
        obtain ⟨d2_20, rfl⟩ : ∃ z, z = u_r_19 := ⟨_, rfl⟩
        try dsimp only at hw_r_19
        have i_21 := hw_r_19
        have hP : va_P D vwCl [(h0, .inr (8, [.ref qh, .ref qk, .ref qd, .int b0, .ref qa, .ref qm, .ref qs, .ref qp, .ref ql, .ref qt, .ref qz, .ref qf])), (qf, .inl (cI, 7, .inl ff)), (qh, .inr (1, [.int (nI (Pa)), .ref ae, .ref al, .ref au, .ref ao, .ref ar, .ref ak, .ref aw, .ref att, .ref ass])), (ao, .inl (cI, 100, .inl d2_20))] H := hP
        have hD : va_D A [(h0, .inr (8, [.ref qh, .ref qk, .ref qd, .int b0, .ref qa, .ref qm, .ref qs, .ref qp, .ref ql, .ref qt, .ref qz, .ref qf])), (qf, .inl (cI, 7, .inl ff)), (qh, .inr (1, [.int (nI (Pa)), .ref ae, .ref al, .ref au, .ref ao, .ref ar, .ref ak, .ref aw, .ref att, .ref ass])), (ao, .inl (cI, 100, .inl d2_20))] := hD
        refine lv_iload hx hb dX8_shut_67 (lv_at hl 0 rfl) ?_
        refine lv_iload_n hx hb dX8_shut_69 rfl (lv_at hl 4 rfl) ?_
        refine lv_icmp_ne (tgt := 77) hx hb dX8_shut_70 (by decide) (fun c_22 => ?_) (fun c_22 => absurd c_22 (by decide))
        refine lv_iconst (v := 1) hx hb dX8_shut_77 (by decide) ?_
        exact W.iret (v := 1) hx hb hr (fun t ht hW => ⟨⟨1, (d2_20, ff), rfl, ⟨((sh_y (P := Pa) (o := fao) (c1 := 1) (c0 := 0) (j := j_2) (k := k_3) (by omega) (by omega) (by omega) (by omega) h_12).1 h_16), (i_21.trans (by rw [if_neg (by decide)]; exact (sh_y (P := Pa) (o := fao) (c1 := 1) (c0 := 0) (j := j_2) (k := k_3) (by omega) (by omega) (by omega) (by omega) h_12).2.2 _))⟩, by rw [ht]; exact hP.sub [0, 2, 3, 1] rfl, hD.sub [0, 2, 3, 1] (by decide) rfl⟩, hS.F ht⟩) hS.2.2 dX8_shut_78 hlk
      · skip
        refine lv_if_ne (tgt := 54) hx hb dX8_shut_47 (by decide) (fun c_23 => absurd (by decide) c_23) (fun c_23 => ?_)
        refine lv_iconst (v := 1) hx hb dX8_shut_50 (by decide) ?_
        refine lv_goto (tgt := 55) hx hb dX8_shut_51 (by decide) ?_
        refine lv_istore (lv' := [(4, .int 1), (0, .ref h0), (1, .int (nI (j_2))), (2, .int (nI (k_3))), (3, .int 1)]) hx hb dX8_shut_55 hl (by decide) rfl (fun ls hl => ?_)
        refine lv_aload_n hx hb dX8_shut_57 rfl (lv_at hl 1 rfl) ?_
        refine xg hF kf_X8_12 hK hP 0 rfl rfl dX8_shut_58 ?_
        refine lv_iload_n hx hb dX8_shut_61 rfl (lv_at hl 2 rfl) ?_
        refine lv_iload_n hx hb dX8_shut_62 rfl (lv_at hl 3 rfl) ?_
        refine lv_iload_n hx hb dX8_shut_63 rfl (lv_at hl 4 rfl) ?_
        refine xc_Vv (wr := [(h0, .inr (8, [.ref qh, .ref qk, .ref qd, .int b0, .ref qa, .ref qm, .ref qs, .ref qp, .ref ql, .ref qt, .ref qz, .ref qf])), (qf, .inl (cI, 7, .inl ff))]) hF (c_X1_setShut l D cI cJ cZ cS ta sa sv s.heap.size qh ae al au ao ar ak aw att ass Pa j_2 k_3 1 fao (by omega) (by omega)) kv_X8_124 ⟨rfl, rfl, Nat.le_of_ble_eq_true rfl, Nat.le_of_ble_eq_true rfl⟩ ⟨Nat.le_of_ble_eq_true rfl, Nat.le_of_ble_eq_true rfl⟩ hK hN hZ hP hD hS hA [1, 2] [0, 3] rfl rfl rfl rfl (by decide) 0 rfl rfl rfl rfl hl.1 rfl (Nat.le_of_ble_eq_true rfl) dX8_shut_64 (fun u_r_24 H locs hw_r_24 hP hD hS => ?_)
        obtain ⟨d2_25, rfl⟩ : ∃ z, z = u_r_24 := ⟨_, rfl⟩
        try dsimp only at hw_r_24
        have i_26 := hw_r_24
        have hP : va_P D vwCl [(h0, .inr (8, [.ref qh, .ref qk, .ref qd, .int b0, .ref qa, .ref qm, .ref qs, .ref qp, .ref ql, .ref qt, .ref qz, .ref qf])), (qf, .inl (cI, 7, .inl ff)), (qh, .inr (1, [.int (nI (Pa)), .ref ae, .ref al, .ref au, .ref ao, .ref ar, .ref ak, .ref aw, .ref att, .ref ass])), (ao, .inl (cI, 100, .inl d2_25))] H := hP
        have hD : va_D A [(h0, .inr (8, [.ref qh, .ref qk, .ref qd, .int b0, .ref qa, .ref qm, .ref qs, .ref qp, .ref ql, .ref qt, .ref qz, .ref qf])), (qf, .inl (cI, 7, .inl ff)), (qh, .inr (1, [.int (nI (Pa)), .ref ae, .ref al, .ref au, .ref ao, .ref ar, .ref ak, .ref aw, .ref att, .ref ass])), (ao, .inl (cI, 100, .inl d2_25))] := hD
        refine lv_iload hx hb dX8_shut_67 (lv_at hl 0 rfl) ?_
        refine lv_iload_n hx hb dX8_shut_69 rfl (lv_at hl 4 rfl) ?_
        refine lv_icmp_ne (tgt := 77) hx hb dX8_shut_70 (by decide) (fun c_27 => absurd (by decide) c_27) (fun c_27 => ?_)
        refine lv_iconst (v := 0) hx hb dX8_shut_73 (by decide) ?_
        refine lv_goto (tgt := 78) hx hb dX8_shut_74 (by decide) ?_
        exact W.iret (v := 0) hx hb hr (fun t ht hW => ⟨⟨0, (d2_25, ff), rfl, ⟨((sh_y (P := Pa) (o := fao) (c1 := 1) (c0 := 0) (j := j_2) (k := k_3) (by omega) (by omega) (by omega) (by omega) h_12).2.1 h_17), (i_26.trans (by rw [if_neg (by decide)]; exact (sh_y (P := Pa) (o := fao) (c1 := 1) (c0 := 0) (j := j_2) (k := k_3) (by omega) (by omega) (by omega) (by omega) h_12).2.2 _))⟩, by rw [ht]; exact hP.sub [0, 2, 3, 1] rfl, hD.sub [0, 2, 3, 1] (by decide) rfl⟩, hS.F ht⟩) hS.2.2 dX8_shut_78 hlk
    · skip
      refine lv_if_ne (tgt := 38) hx hb dX8_shut_28 (by decide) (fun c_28 => absurd (by decide) c_28) (fun c_28 => ?_)
      refine lv_aload_n hx hb dX8_shut_31 rfl (lv_at hl 0 rfl) ?_
      refine lv_ldc (v := (-1000000004)) hx hb hown (hu _ uw410) dX8_shut_32 ?_
      refine xc_Vi (wr := [(qh, .inr (1, [.int (nI (Pa)), .ref ae, .ref al, .ref au, .ref ao, .ref ar, .ref ak, .ref aw, .ref att, .ref ass])), (ao, .inl (cI, 100, .inl fao))]) hF (c_X8_finding_N l D cI cJ cZ cS ta sa sv s.heap.size h0 qh qk qd b0 qa qm qs qp ql qt qz qf ff ) kv_X8_80 ⟨rfl, rfl, Nat.le_of_ble_eq_true rfl, Nat.le_of_ble_eq_true rfl⟩ ⟨Nat.le_of_ble_eq_true rfl, Nat.le_of_ble_eq_true rfl⟩ hK hN hZ hP hD hS hA [0, 3] [1, 2] rfl rfl rfl rfl (by decide) 0 rfl rfl rfl rfl hl.1 rfl (Nat.le_of_ble_eq_true rfl) dX8_shut_34 (fun r_29 u_r_29 H locs hw_r_29 hP hD hS => ?_)
      obtain ⟨f2_30, rfl⟩ : ∃ z, z = u_r_29 := ⟨_, rfl⟩
      try dsimp only at hw_r_29
      have hP : va_P D vwCl [(qh, .inr (1, [.int (nI (Pa)), .ref ae, .ref al, .ref au, .ref ao, .ref ar, .ref ak, .ref aw, .ref att, .ref ass])), (ao, .inl (cI, 100, .inl fao)), (h0, .inr (8, [.ref qh, .ref qk, .ref qd, .int b0, .ref qa, .ref qm, .ref qs, .ref qp, .ref ql, .ref qt, .ref qz, .ref qf])), (qf, .inl (cI, 7, .inl f2_30))] H := hP
      have hD : va_D A [(qh, .inr (1, [.int (nI (Pa)), .ref ae, .ref al, .ref au, .ref ao, .ref ar, .ref ak, .ref aw, .ref att, .ref ass])), (ao, .inl (cI, 100, .inl fao)), (h0, .inr (8, [.ref qh, .ref qk, .ref qd, .int b0, .ref qa, .ref qm, .ref qs, .ref qp, .ref ql, .ref qt, .ref qz, .ref qf])), (qf, .inl (cI, 7, .inl f2_30))] := hD
      subst hw_r_29
      exact W.iret (v := (-1000000004)) hx hb hr (fun t ht hW => ⟨⟨(-1000000004), (fao, f2_30), rfl, ⟨(sh_n (P := Pa) (o := fao) (c1 := 1) (c0 := 0) (j := j_2) (k := k_3) (by omega) (by omega) (by omega) (by omega) h_13).1, ((sh_n (P := Pa) (o := fao) (c1 := 1) (c0 := 0) (j := j_2) (k := k_3) (by omega) (by omega) (by omega) (by omega) h_13).2 _)⟩, by rw [ht]; exact hP.sub [2, 0, 1, 3] rfl, hD.sub [2, 0, 1, 3] (by decide) rfl⟩, hS.F ht⟩) hS.2.2 dX8_shut_37 hlk
  · skip
    refine lv_if_ne (tgt := 19) hx hb dX8_shut_9 (by decide) (fun c_31 => absurd (by decide) c_31) (fun c_31 => ?_)
    refine lv_aload_n hx hb dX8_shut_12 rfl (lv_at hl 0 rfl) ?_
    refine lv_ldc (v := (-1000000001)) hx hb hown (hu _ uw396) dX8_shut_13 ?_
    refine xc_Vi (wr := [(qh, .inr (1, [.int (nI (Pa)), .ref ae, .ref al, .ref au, .ref ao, .ref ar, .ref ak, .ref aw, .ref att, .ref ass])), (ao, .inl (cI, 100, .inl fao))]) hF (c_X8_finding_B l D cI cJ cZ cS ta sa sv s.heap.size h0 qh qk qd b0 qa qm qs qp ql qt qz qf ff ) kv_X8_80 ⟨rfl, rfl, Nat.le_of_ble_eq_true rfl, Nat.le_of_ble_eq_true rfl⟩ ⟨Nat.le_of_ble_eq_true rfl, Nat.le_of_ble_eq_true rfl⟩ hK hN hZ hP hD hS hA [0, 3] [1, 2] rfl rfl rfl rfl (by decide) 0 rfl rfl rfl rfl hl.1 rfl (Nat.le_of_ble_eq_true rfl) dX8_shut_15 (fun r_32 u_r_32 H locs hw_r_32 hP hD hS => ?_)
    obtain ⟨f2_33, rfl⟩ : ∃ z, z = u_r_32 := ⟨_, rfl⟩
    try dsimp only at hw_r_32
    have hP : va_P D vwCl [(qh, .inr (1, [.int (nI (Pa)), .ref ae, .ref al, .ref au, .ref ao, .ref ar, .ref ak, .ref aw, .ref att, .ref ass])), (ao, .inl (cI, 100, .inl fao)), (h0, .inr (8, [.ref qh, .ref qk, .ref qd, .int b0, .ref qa, .ref qm, .ref qs, .ref qp, .ref ql, .ref qt, .ref qz, .ref qf])), (qf, .inl (cI, 7, .inl f2_33))] H := hP
    have hD : va_D A [(qh, .inr (1, [.int (nI (Pa)), .ref ae, .ref al, .ref au, .ref ao, .ref ar, .ref ak, .ref aw, .ref att, .ref ass])), (ao, .inl (cI, 100, .inl fao)), (h0, .inr (8, [.ref qh, .ref qk, .ref qd, .int b0, .ref qa, .ref qm, .ref qs, .ref qp, .ref ql, .ref qt, .ref qz, .ref qf])), (qf, .inl (cI, 7, .inl f2_33))] := hD
    subst hw_r_32
    exact W.iret (v := (-1000000001)) hx hb hr (fun t ht hW => ⟨⟨(-1000000001), (fao, f2_33), rfl, ⟨(sh_b (P := Pa) (o := fao) (c1 := 1) (c0 := 0) h_9).1, ((sh_b (P := Pa) (o := fao) (c1 := 1) (c0 := 0) h_9).2 _)⟩, by rw [ht]; exact hP.sub [2, 0, 1, 3] rfl, hD.sub [2, 0, 1, 3] (by decide) rfl⟩, hS.F ht⟩) hS.2.2 dX8_shut_18 hlk
set_option maxHeartbeats 4000000 in
set_option maxRecDepth 100000 in
theorem c_X8_isLooped (l : Launch) (D : va_G) (cI cJ cZ cS : ClassId) (ta : Nat) (sa sv : Nat → Nat) (sz : Nat) (h0 : Nat) (qh : Nat) (qk : Nat) (qd : Nat) (b0 : Int32) (qa : Nat) (qm : Nat) (qs : Nat) (qp : Nat) (ql : Nat) (qt : Nat) (qz : Nat) (qf : Nat) (Pa : Nat) (ae : Nat) (al : Nat) (au : Nat) (ao : Nat) (ar : Nat) (ak : Nat) (aw : Nat) (att : Nat) (ass : Nat) (fal : Nat → Int32) (fao : Nat → Int32) (Qa : Nat) (an : Nat) (La : Nat → Int32) (hP0 : Pa ≤ 10) : Met l yX8_isLooped (Cond.code yX8_isLooped cX8_isLooped 1 (some .boolean) :: wsU) ({ frames := 4, cells := 0, slots := 0, locals := 88 }) (va_Pc [.ref h0] (XW D (xT cI cJ cZ cS) ta sa sv [(h0, .inr (8, [.ref qh, .ref qk, .ref qd, .int b0, .ref qa, .ref qm, .ref qs, .ref qp, .ref ql, .ref qt, .ref qz, .ref qf])), (qh, .inr (1, [.int (nI (Pa)), .ref ae, .ref al, .ref au, .ref ao, .ref ar, .ref ak, .ref aw, .ref att, .ref ass])), (al, .inl (cI, 100, .inl fal)), (ao, .inl (cI, 100, .inl fao)), (qa, .inr (0, [.int (nI (Qa)), .ref an])), (an, .inl (cI, 100, .inl La))] sz)) (XQi (fun (r : Int32) (L2 : (Nat → Int32)) => ((r = 1) ∨ (r = 0))) D (fun (L2 : Nat → Int32) => [(h0, .inr (8, [.ref qh, .ref qk, .ref qd, .int b0, .ref qa, .ref qm, .ref qs, .ref qp, .ref ql, .ref qt, .ref qz, .ref qf])), (qh, .inr (1, [.int (nI (Pa)), .ref ae, .ref al, .ref au, .ref ao, .ref ar, .ref ak, .ref aw, .ref att, .ref ass])), (al, .inl (cI, 100, .inl fal)), (ao, .inl (cI, 100, .inl fao)), (qa, .inr (0, [.int (nI (Pa)), .ref an])), (an, .inl (cI, 100, .inl L2))]) (va_A [(h0, .inr (8, [.ref qh, .ref qk, .ref qd, .int b0, .ref qa, .ref qm, .ref qs, .ref qp, .ref ql, .ref qt, .ref qz, .ref qf])), (qh, .inr (1, [.int (nI (Pa)), .ref ae, .ref al, .ref au, .ref ao, .ref ar, .ref ak, .ref aw, .ref att, .ref ass])), (al, .inl (cI, 100, .inl fal)), (ao, .inl (cI, 100, .inl fao)), (qa, .inr (0, [.int (nI (Qa)), .ref an])), (an, .inl (cI, 100, .inl La))] sz)) 0 0 (va_A [(h0, .inr (8, [.ref qh, .ref qk, .ref qd, .int b0, .ref qa, .ref qm, .ref qs, .ref qp, .ref ql, .ref qt, .ref qz, .ref qf])), (qh, .inr (1, [.int (nI (Pa)), .ref ae, .ref al, .ref au, .ref ao, .ref ar, .ref ak, .ref aw, .ref att, .ref ass])), (al, .inl (cI, 100, .inl fal)), (ao, .inl (cI, 100, .inl fao)), (qa, .inr (0, [.int (nI (Qa)), .ref an])), (an, .inl (cI, 100, .inl La))] sz) := by
  refine xh (QA := fun A => XQi (fun (r : Int32) (L2 : (Nat → Int32)) => ((r = 1) ∨ (r = 0))) D (fun (L2 : Nat → Int32) => [(h0, .inr (8, [.ref qh, .ref qk, .ref qd, .int b0, .ref qa, .ref qm, .ref qs, .ref qp, .ref ql, .ref qt, .ref qz, .ref qf])), (qh, .inr (1, [.int (nI (Pa)), .ref ae, .ref al, .ref au, .ref ao, .ref ar, .ref ak, .ref aw, .ref att, .ref ass])), (al, .inl (cI, 100, .inl fal)), (ao, .inl (cI, 100, .inl fao)), (qa, .inr (0, [.int (nI (Pa)), .ref an])), (an, .inl (cI, 100, .inl L2))]) A) (fr := fun A => A) (by decide) (Nat.le_of_ble_eq_true rfl) ?_
  intro p e s m below meth c ls A hF hr hlk hin hsz hP hK hD hN hZ hA hS hl
  have hF : CallFix p m c cX8_isLooped 1 s _ _ RX8 := hF
  have hx := hF.1
  have hb := hF.2.1
  have hml := hF.2.2.1
  have hown := hF.2.2.2.1
  have hu : ∀ w ∈ wsU, w.before _ s = true := fun w h => hF.2.2.2.2 w (List.mem_cons_of_mem _ h)
  have hl : lv_has ls 1 [(0, .ref h0)] := hl
  refine lv_aload_n hx hb dX8_isLooped_0 rfl (lv_at hl 0 rfl) ?_
  refine xg hF kf_X8_29 hK hP 0 rfl rfl dX8_isLooped_1 ?_
  refine lv_aload_n hx hb dX8_isLooped_4 rfl (lv_at hl 0 rfl) ?_
  refine xg hF kf_X8_12 hK hP 0 rfl rfl dX8_isLooped_5 ?_
  refine xc_Vv (wr := [(h0, .inr (8, [.ref qh, .ref qk, .ref qd, .int b0, .ref qa, .ref qm, .ref qs, .ref qp, .ref ql, .ref qt, .ref qz, .ref qf]))]) hF (c_X0_measure l D cI cJ cZ cS ta sa sv s.heap.size qa an Qa La qh ae al au ao ar ak aw att ass Pa fal fao (by omega)) kv_X8_146 ⟨rfl, rfl, Nat.le_of_ble_eq_true rfl, Nat.le_of_ble_eq_true rfl⟩ ⟨Nat.le_of_ble_eq_true rfl, Nat.le_of_ble_eq_true rfl⟩ hK hN hZ hP hD hS hA [4, 5, 1, 2, 3] [0] rfl rfl rfl rfl (by decide) 0 rfl rfl rfl rfl hl.1 rfl (Nat.le_of_ble_eq_true rfl) dX8_isLooped_8 (fun u_r_1 H locs hw_r_1 hP hD hS => ?_)
  obtain ⟨L2_2, rfl⟩ : ∃ z, z = u_r_1 := ⟨_, rfl⟩
  try dsimp only at hw_r_1
  have hP : va_P D vwCl [(h0, .inr (8, [.ref qh, .ref qk, .ref qd, .int b0, .ref qa, .ref qm, .ref qs, .ref qp, .ref ql, .ref qt, .ref qz, .ref qf])), (qa, .inr (0, [.int (nI (Pa)), .ref an])), (an, .inl (cI, 100, .inl L2_2)), (qh, .inr (1, [.int (nI (Pa)), .ref ae, .ref al, .ref au, .ref ao, .ref ar, .ref ak, .ref aw, .ref att, .ref ass])), (al, .inl (cI, 100, .inl fal)), (ao, .inl (cI, 100, .inl fao))] H := hP
  have hD : va_D A [(h0, .inr (8, [.ref qh, .ref qk, .ref qd, .int b0, .ref qa, .ref qm, .ref qs, .ref qp, .ref ql, .ref qt, .ref qz, .ref qf])), (qa, .inr (0, [.int (nI (Pa)), .ref an])), (an, .inl (cI, 100, .inl L2_2)), (qh, .inr (1, [.int (nI (Pa)), .ref ae, .ref al, .ref au, .ref ao, .ref ar, .ref ak, .ref aw, .ref att, .ref ass])), (al, .inl (cI, 100, .inl fal)), (ao, .inl (cI, 100, .inl fao))] := hD
  refine lv_aload_n hx hb dX8_isLooped_11 rfl (lv_at hl 0 rfl) ?_
  refine xg hF kf_X8_29 hK hP 0 rfl rfl dX8_isLooped_12 ?_
  refine xc_Vr hF (c_X0_hasLoop l D cI cJ cZ cS ta sa sv H.size qa an Pa L2_2 (by omega)) kv_X8_332 ⟨rfl, rfl, Nat.le_of_ble_eq_true rfl, Nat.le_of_ble_eq_true rfl⟩ ⟨Nat.le_of_ble_eq_true rfl, Nat.le_of_ble_eq_true rfl⟩ hK hN hZ hP hD hS hA [1, 2] rfl rfl 0 rfl rfl rfl rfl hl.1 rfl (Nat.le_of_ble_eq_true rfl) dX8_isLooped_15 (fun r_3 hw_r_3 => ?_)
  rcases hw_r_3 with rfl | rfl
  · skip
    exact W.zret (v := 1) hx hb hr rfl (fun t ht hW => ⟨⟨1, L2_2, rfl, (by first | exact Or.inl rfl), by rw [ht]; exact hP.sub [0, 3, 4, 5, 1, 2] rfl, hD.sub [0, 3, 4, 5, 1, 2] (by decide +kernel) rfl⟩, hS.F ht⟩) hS.2.2 dX8_isLooped_18 hlk
  · skip
    exact W.zret (v := 0) hx hb hr rfl (fun t ht hW => ⟨⟨0, L2_2, rfl, (by first | exact Or.inr (rfl)), by rw [ht]; exact hP.sub [0, 3, 4, 5, 1, 2] rfl, hD.sub [0, 3, 4, 5, 1, 2] (by decide +kernel) rfl⟩, hS.F ht⟩) hS.2.2 dX8_isLooped_18 hlk
set_option maxHeartbeats 4000000 in
set_option maxRecDepth 100000 in
theorem c_X8_far (l : Launch) (D : va_G) (cI cJ cZ cS : ClassId) (ta : Nat) (sa sv : Nat → Nat) (sz : Nat) (h0 : Nat) (qh : Nat) (qk : Nat) (qd : Nat) (b0 : Int32) (qa : Nat) (qm : Nat) (qs : Nat) (qp : Nat) (ql : Nat) (qt : Nat) (qz : Nat) (qf : Nat) (Pa : Nat) (ae : Nat) (al : Nat) (au : Nat) (ao : Nat) (ar : Nat) (ak : Nat) (aw : Nat) (att : Nat) (ass : Nat) (fal : Nat → Int32) (fao : Nat → Int32) (Qa : Nat) (an : Nat) (La : Nat → Int32) (ff : Nat → Int32) (p0 : Int32) (p1 : Int32) (hP0 : Pa ≤ 10) (hQa : Qa ≤ 10) : Met l yX8_far (Cond.code yX8_far cX8_far 3 (some .int) :: wsU) ({ frames := 5, cells := 0, slots := 0, locals := 108 }) (va_Pc [.ref h0, .int p0, .int p1] (XW D (xT cI cJ cZ cS) ta sa sv [(h0, .inr (8, [.ref qh, .ref qk, .ref qd, .int b0, .ref qa, .ref qm, .ref qs, .ref qp, .ref ql, .ref qt, .ref qz, .ref qf])), (qh, .inr (1, [.int (nI (Pa)), .ref ae, .ref al, .ref au, .ref ao, .ref ar, .ref ak, .ref aw, .ref att, .ref ass])), (al, .inl (cI, 100, .inl fal)), (ao, .inl (cI, 100, .inl fao)), (qa, .inr (0, [.int (nI (Qa)), .ref an])), (an, .inl (cI, 100, .inl La)), (qf, .inl (cI, 7, .inl ff))] sz)) (XQi (fun (r : Int32) (u : Nat × (Nat → Int32) × (Nat → Int32)) => match u with | (Q2, L2, f2) => (True) ∧ (Q2 ≤ 10)) D (fun (u : Nat × (Nat → Int32) × (Nat → Int32)) => match u with | (Q2, L2, f2) => [(h0, .inr (8, [.ref qh, .ref qk, .ref qd, .int b0, .ref qa, .ref qm, .ref qs, .ref qp, .ref ql, .ref qt, .ref qz, .ref qf])), (qh, .inr (1, [.int (nI (Pa)), .ref ae, .ref al, .ref au, .ref ao, .ref ar, .ref ak, .ref aw, .ref att, .ref ass])), (al, .inl (cI, 100, .inl fal)), (ao, .inl (cI, 100, .inl fao)), (qa, .inr (0, [.int (nI (Q2)), .ref an])), (an, .inl (cI, 100, .inl L2)), (qf, .inl (cI, 7, .inl f2))]) (va_A [(h0, .inr (8, [.ref qh, .ref qk, .ref qd, .int b0, .ref qa, .ref qm, .ref qs, .ref qp, .ref ql, .ref qt, .ref qz, .ref qf])), (qh, .inr (1, [.int (nI (Pa)), .ref ae, .ref al, .ref au, .ref ao, .ref ar, .ref ak, .ref aw, .ref att, .ref ass])), (al, .inl (cI, 100, .inl fal)), (ao, .inl (cI, 100, .inl fao)), (qa, .inr (0, [.int (nI (Qa)), .ref an])), (an, .inl (cI, 100, .inl La)), (qf, .inl (cI, 7, .inl ff))] sz)) 0 0 (va_A [(h0, .inr (8, [.ref qh, .ref qk, .ref qd, .int b0, .ref qa, .ref qm, .ref qs, .ref qp, .ref ql, .ref qt, .ref qz, .ref qf])), (qh, .inr (1, [.int (nI (Pa)), .ref ae, .ref al, .ref au, .ref ao, .ref ar, .ref ak, .ref aw, .ref att, .ref ass])), (al, .inl (cI, 100, .inl fal)), (ao, .inl (cI, 100, .inl fao)), (qa, .inr (0, [.int (nI (Qa)), .ref an])), (an, .inl (cI, 100, .inl La)), (qf, .inl (cI, 7, .inl ff))] sz) := by
  refine xh (QA := fun A => XQi (fun (r : Int32) (u : Nat × (Nat → Int32) × (Nat → Int32)) => match u with | (Q2, L2, f2) => (True) ∧ (Q2 ≤ 10)) D (fun (u : Nat × (Nat → Int32) × (Nat → Int32)) => match u with | (Q2, L2, f2) => [(h0, .inr (8, [.ref qh, .ref qk, .ref qd, .int b0, .ref qa, .ref qm, .ref qs, .ref qp, .ref ql, .ref qt, .ref qz, .ref qf])), (qh, .inr (1, [.int (nI (Pa)), .ref ae, .ref al, .ref au, .ref ao, .ref ar, .ref ak, .ref aw, .ref att, .ref ass])), (al, .inl (cI, 100, .inl fal)), (ao, .inl (cI, 100, .inl fao)), (qa, .inr (0, [.int (nI (Q2)), .ref an])), (an, .inl (cI, 100, .inl L2)), (qf, .inl (cI, 7, .inl f2))]) A) (fr := fun A => A) (by decide) (Nat.le_of_ble_eq_true rfl) ?_
  intro p e s m below meth c ls A hF hr hlk hin hsz hP hK hD hN hZ hA hS hl
  have hF : CallFix p m c cX8_far 3 s _ _ RX8 := hF
  have hx := hF.1
  have hb := hF.2.1
  have hml := hF.2.2.1
  have hown := hF.2.2.2.1
  have hu : ∀ w ∈ wsU, w.before _ s = true := fun w h => hF.2.2.2.2 w (List.mem_cons_of_mem _ h)
  have hl : lv_has ls 3 [(0, .ref h0), (1, .int p0), (2, .int p1)] := hl
  refine lv_aload_n hx hb dX8_far_0 rfl (lv_at hl 0 rfl) ?_
  refine xg hF kf_X8_12 hK hP 0 rfl rfl dX8_far_1 ?_
  refine lv_iload_n hx hb dX8_far_4 rfl (lv_at hl 1 rfl) ?_
  refine lv_i2l (v := p0.toInt64) hx hb dX8_far_5 rfl ?_
  refine xc_Vr hF (c_X1_isPlace l D cI cJ cZ cS ta sa sv s.heap.size qh ae al au ao ar ak aw att ass Pa p0 (by omega)) kv_X8_87 ⟨rfl, rfl, Nat.le_of_ble_eq_true rfl, Nat.le_of_ble_eq_true rfl⟩ ⟨Nat.le_of_ble_eq_true rfl, Nat.le_of_ble_eq_true rfl⟩ hK hN hZ hP hD hS hA [1] rfl rfl 0 rfl rfl rfl rfl hl.1 rfl (Nat.le_of_ble_eq_true rfl) dX8_far_6 (fun r_1 hw_r_1 => ?_)
  rcases hw_r_1 with ⟨k_2, rfl, rfl, h_4⟩ | ⟨rfl, h_5⟩
  · skip
    refine lv_if_eq (tgt := 24) hx hb dX8_far_9 (by decide) (fun c_6 => absurd c_6 (by decide)) (fun c_6 => ?_)
    refine lv_aload_n hx hb dX8_far_12 rfl (lv_at hl 0 rfl) ?_
    refine xg hF kf_X8_12 hK hP 0 rfl rfl dX8_far_13 ?_
    refine lv_iload_n hx hb dX8_far_16 rfl (lv_at hl 2 rfl) ?_
    refine lv_i2l (v := p1.toInt64) hx hb dX8_far_17 rfl ?_
    refine xc_Vr hF (c_X1_isPlace l D cI cJ cZ cS ta sa sv s.heap.size qh ae al au ao ar ak aw att ass Pa p1 (by omega)) kv_X8_87 ⟨rfl, rfl, Nat.le_of_ble_eq_true rfl, Nat.le_of_ble_eq_true rfl⟩ ⟨Nat.le_of_ble_eq_true rfl, Nat.le_of_ble_eq_true rfl⟩ hK hN hZ hP hD hS hA [1] rfl rfl 0 rfl rfl rfl rfl hl.1 rfl (Nat.le_of_ble_eq_true rfl) dX8_far_18 (fun r_7 hw_r_7 => ?_)
    rcases hw_r_7 with ⟨k_8, rfl, rfl, h_10⟩ | ⟨rfl, h_11⟩
    · skip
      refine lv_if_ne (tgt := 31) hx hb dX8_far_21 (by decide) (fun c_12 => ?_) (fun c_12 => absurd c_12 (by decide))
      refine lv_aload_n hx hb dX8_far_31 rfl (lv_at hl 0 rfl) ?_
      refine xc_Vi (wr := [(qf, .inl (cI, 7, .inl ff))]) hF (c_X8_isLooped l D cI cJ cZ cS ta sa sv s.heap.size h0 qh qk qd b0 qa qm qs qp ql qt qz qf Pa ae al au ao ar ak aw att ass fal fao Qa an La (by omega)) kv_X8_128 ⟨rfl, rfl, Nat.le_of_ble_eq_true rfl, Nat.le_of_ble_eq_true rfl⟩ ⟨Nat.le_of_ble_eq_true rfl, Nat.le_of_ble_eq_true rfl⟩ hK hN hZ hP hD hS hA [0, 1, 2, 3, 4, 5] [6] rfl rfl (by decide +kernel) rfl (by decide +kernel) 0 rfl rfl rfl rfl hl.1 rfl (Nat.le_of_ble_eq_true rfl) dX8_far_32 (fun r_13 u_r_13 H locs hw_r_13 hP hD hS => ?_)
      obtain ⟨L2_14, rfl⟩ : ∃ z, z = u_r_13 := ⟨_, rfl⟩
      try dsimp only at hw_r_13
      have hP : va_P D vwCl [(qf, .inl (cI, 7, .inl ff)), (h0, .inr (8, [.ref qh, .ref qk, .ref qd, .int b0, .ref qa, .ref qm, .ref qs, .ref qp, .ref ql, .ref qt, .ref qz, .ref qf])), (qh, .inr (1, [.int (nI (Pa)), .ref ae, .ref al, .ref au, .ref ao, .ref ar, .ref ak, .ref aw, .ref att, .ref ass])), (al, .inl (cI, 100, .inl fal)), (ao, .inl (cI, 100, .inl fao)), (qa, .inr (0, [.int (nI (Pa)), .ref an])), (an, .inl (cI, 100, .inl L2_14))] H := hP
      have hD : va_D A [(qf, .inl (cI, 7, .inl ff)), (h0, .inr (8, [.ref qh, .ref qk, .ref qd, .int b0, .ref qa, .ref qm, .ref qs, .ref qp, .ref ql, .ref qt, .ref qz, .ref qf])), (qh, .inr (1, [.int (nI (Pa)), .ref ae, .ref al, .ref au, .ref ao, .ref ar, .ref ak, .ref aw, .ref att, .ref ass])), (al, .inl (cI, 100, .inl fal)), (ao, .inl (cI, 100, .inl fao)), (qa, .inr (0, [.int (nI (Pa)), .ref an])), (an, .inl (cI, 100, .inl L2_14))] := hD
      rcases hw_r_13 with rfl | rfl
      · skip
        refine lv_if_eq (tgt := 45) hx hb dX8_far_35 (by decide) (fun c_15 => absurd c_15 (by decide)) (fun c_15 => ?_)
        refine lv_aload_n hx hb dX8_far_38 rfl (lv_at hl 0 rfl) ?_
        refine lv_ldc (v := (-1000000005)) hx hb hown (hu _ uw452) dX8_far_39 ?_
        refine xc_Vi (wr := [(qh, .inr (1, [.int (nI (Pa)), .ref ae, .ref al, .ref au, .ref ao, .ref ar, .ref ak, .ref aw, .ref att, .ref ass])), (al, .inl (cI, 100, .inl fal)), (ao, .inl (cI, 100, .inl fao)), (qa, .inr (0, [.int (nI (Pa)), .ref an])), (an, .inl (cI, 100, .inl L2_14))]) hF (c_X8_finding_T l D cI cJ cZ cS ta sa sv H.size h0 qh qk qd b0 qa qm qs qp ql qt qz qf ff ) kv_X8_80 ⟨rfl, rfl, Nat.le_of_ble_eq_true rfl, Nat.le_of_ble_eq_true rfl⟩ ⟨Nat.le_of_ble_eq_true rfl, Nat.le_of_ble_eq_true rfl⟩ hK hN hZ hP hD hS hA [1, 0] [2, 3, 4, 5, 6] rfl rfl rfl (by decide +kernel) (by decide +kernel) 0 rfl rfl rfl rfl hl.1 rfl (Nat.le_of_ble_eq_true rfl) dX8_far_41 (fun r_16 u_r_16 H locs hw_r_16 hP hD hS => ?_)
        obtain ⟨f2_17, rfl⟩ : ∃ z, z = u_r_16 := ⟨_, rfl⟩
        try dsimp only at hw_r_16
        have hP : va_P D vwCl [(qh, .inr (1, [.int (nI (Pa)), .ref ae, .ref al, .ref au, .ref ao, .ref ar, .ref ak, .ref aw, .ref att, .ref ass])), (al, .inl (cI, 100, .inl fal)), (ao, .inl (cI, 100, .inl fao)), (qa, .inr (0, [.int (nI (Pa)), .ref an])), (an, .inl (cI, 100, .inl L2_14)), (h0, .inr (8, [.ref qh, .ref qk, .ref qd, .int b0, .ref qa, .ref qm, .ref qs, .ref qp, .ref ql, .ref qt, .ref qz, .ref qf])), (qf, .inl (cI, 7, .inl f2_17))] H := hP
        have hD : va_D A [(qh, .inr (1, [.int (nI (Pa)), .ref ae, .ref al, .ref au, .ref ao, .ref ar, .ref ak, .ref aw, .ref att, .ref ass])), (al, .inl (cI, 100, .inl fal)), (ao, .inl (cI, 100, .inl fao)), (qa, .inr (0, [.int (nI (Pa)), .ref an])), (an, .inl (cI, 100, .inl L2_14)), (h0, .inr (8, [.ref qh, .ref qk, .ref qd, .int b0, .ref qa, .ref qm, .ref qs, .ref qp, .ref ql, .ref qt, .ref qz, .ref qf])), (qf, .inl (cI, 7, .inl f2_17))] := hD
        subst hw_r_16
        exact W.iret (v := (-1000000005)) hx hb hr (fun t ht hW => ⟨⟨(-1000000005), (Pa, L2_14, f2_17), rfl, ⟨trivial, (by first | assumption | omega)⟩, by rw [ht]; exact hP.sub [5, 0, 1, 2, 3, 4, 6] rfl, hD.sub [5, 0, 1, 2, 3, 4, 6] (by decide +kernel) rfl⟩, hS.F ht⟩) hS.2.2 dX8_far_44 hlk
      · skip
        refine lv_if_eq (tgt := 45) hx hb dX8_far_35 (by decide) (fun c_18 => ?_) (fun c_18 => absurd (by decide) c_18)
        refine lv_aload_n hx hb dX8_far_45 rfl (lv_at hl 0 rfl) ?_
        refine lv_aload_n hx hb dX8_far_46 rfl (lv_at hl 0 rfl) ?_
        refine xg hF kf_X8_29 hK hP 1 rfl rfl dX8_far_47 ?_
        refine lv_iload_n hx hb dX8_far_50 rfl (lv_at hl 1 rfl) ?_
        refine lv_iload_n hx hb dX8_far_51 rfl (lv_at hl 2 rfl) ?_
        refine xc_Vr hF (c_X0_farOf l D cI cJ cZ cS ta sa sv H.size qa an Pa L2_14 k_2 k_8 (by omega) (by omega)) kv_X8_133 ⟨rfl, rfl, Nat.le_of_ble_eq_true rfl, Nat.le_of_ble_eq_true rfl⟩ ⟨Nat.le_of_ble_eq_true rfl, Nat.le_of_ble_eq_true rfl⟩ hK hN hZ hP hD hS hA [5, 6] rfl rfl 0 rfl rfl rfl rfl hl.1 rfl (Nat.le_of_ble_eq_true rfl) dX8_far_52 (fun r_19 hw_r_19 => ?_)
        refine xc_Vi (wr := [(qh, .inr (1, [.int (nI (Pa)), .ref ae, .ref al, .ref au, .ref ao, .ref ar, .ref ak, .ref aw, .ref att, .ref ass])), (al, .inl (cI, 100, .inl fal)), (ao, .inl (cI, 100, .inl fao)), (qa, .inr (0, [.int (nI (Pa)), .ref an])), (an, .inl (cI, 100, .inl L2_14))]) hF (c_X8_lengthOrNone l D cI cJ cZ cS ta sa sv H.size h0 qh qk qd b0 qa qm qs qp ql qt qz qf ff r_19 ) kv_X8_136 ⟨rfl, rfl, Nat.le_of_ble_eq_true rfl, Nat.le_of_ble_eq_true rfl⟩ ⟨Nat.le_of_ble_eq_true rfl, Nat.le_of_ble_eq_true rfl⟩ hK hN hZ hP hD hS hA [1, 0] [2, 3, 4, 5, 6] rfl rfl rfl (by decide +kernel) (by decide +kernel) 0 rfl rfl rfl rfl hl.1 rfl (Nat.le_of_ble_eq_true rfl) dX8_far_55 (fun r_20 u_r_20 H locs hw_r_20 hP hD hS => ?_)
        obtain ⟨f2_21, rfl⟩ : ∃ z, z = u_r_20 := ⟨_, rfl⟩
        try dsimp only at hw_r_20
        have hP : va_P D vwCl [(qh, .inr (1, [.int (nI (Pa)), .ref ae, .ref al, .ref au, .ref ao, .ref ar, .ref ak, .ref aw, .ref att, .ref ass])), (al, .inl (cI, 100, .inl fal)), (ao, .inl (cI, 100, .inl fao)), (qa, .inr (0, [.int (nI (Pa)), .ref an])), (an, .inl (cI, 100, .inl L2_14)), (h0, .inr (8, [.ref qh, .ref qk, .ref qd, .int b0, .ref qa, .ref qm, .ref qs, .ref qp, .ref ql, .ref qt, .ref qz, .ref qf])), (qf, .inl (cI, 7, .inl f2_21))] H := hP
        have hD : va_D A [(qh, .inr (1, [.int (nI (Pa)), .ref ae, .ref al, .ref au, .ref ao, .ref ar, .ref ak, .ref aw, .ref att, .ref ass])), (al, .inl (cI, 100, .inl fal)), (ao, .inl (cI, 100, .inl fao)), (qa, .inr (0, [.int (nI (Pa)), .ref an])), (an, .inl (cI, 100, .inl L2_14)), (h0, .inr (8, [.ref qh, .ref qk, .ref qd, .int b0, .ref qa, .ref qm, .ref qs, .ref qp, .ref ql, .ref qt, .ref qz, .ref qf])), (qf, .inl (cI, 7, .inl f2_21))] := hD
        exact W.iret (v := r_20) hx hb hr (fun t ht hW => ⟨⟨r_20, (Pa, L2_14, f2_21), rfl, ⟨trivial, (by first | assumption | omega)⟩, by rw [ht]; exact hP.sub [5, 0, 1, 2, 3, 4, 6] rfl, hD.sub [5, 0, 1, 2, 3, 4, 6] (by decide +kernel) rfl⟩, hS.F ht⟩) hS.2.2 dX8_far_58 hlk
    · skip
      refine lv_if_ne (tgt := 31) hx hb dX8_far_21 (by decide) (fun c_22 => absurd (by decide) c_22) (fun c_22 => ?_)
      refine lv_aload_n hx hb dX8_far_24 rfl (lv_at hl 0 rfl) ?_
      refine lv_ldc (v := (-1000000001)) hx hb hown (hu _ uw396) dX8_far_25 ?_
      refine xc_Vi (wr := [(qh, .inr (1, [.int (nI (Pa)), .ref ae, .ref al, .ref au, .ref ao, .ref ar, .ref ak, .ref aw, .ref att, .ref ass])), (al, .inl (cI, 100, .inl fal)), (ao, .inl (cI, 100, .inl fao)), (qa, .inr (0, [.int (nI (Qa)), .ref an])), (an, .inl (cI, 100, .inl La))]) hF (c_X8_finding_B l D cI cJ cZ cS ta sa sv s.heap.size h0 qh qk qd b0 qa qm qs qp ql qt qz qf ff ) kv_X8_80 ⟨rfl, rfl, Nat.le_of_ble_eq_true rfl, Nat.le_of_ble_eq_true rfl⟩ ⟨Nat.le_of_ble_eq_true rfl, Nat.le_of_ble_eq_true rfl⟩ hK hN hZ hP hD hS hA [0, 6] [1, 2, 3, 4, 5] rfl rfl rfl (by decide +kernel) (by decide +kernel) 0 rfl rfl rfl rfl hl.1 rfl (Nat.le_of_ble_eq_true rfl) dX8_far_27 (fun r_23 u_r_23 H locs hw_r_23 hP hD hS => ?_)
      obtain ⟨f2_24, rfl⟩ : ∃ z, z = u_r_23 := ⟨_, rfl⟩
      try dsimp only at hw_r_23
      have hP : va_P D vwCl [(qh, .inr (1, [.int (nI (Pa)), .ref ae, .ref al, .ref au, .ref ao, .ref ar, .ref ak, .ref aw, .ref att, .ref ass])), (al, .inl (cI, 100, .inl fal)), (ao, .inl (cI, 100, .inl fao)), (qa, .inr (0, [.int (nI (Qa)), .ref an])), (an, .inl (cI, 100, .inl La)), (h0, .inr (8, [.ref qh, .ref qk, .ref qd, .int b0, .ref qa, .ref qm, .ref qs, .ref qp, .ref ql, .ref qt, .ref qz, .ref qf])), (qf, .inl (cI, 7, .inl f2_24))] H := hP
      have hD : va_D A [(qh, .inr (1, [.int (nI (Pa)), .ref ae, .ref al, .ref au, .ref ao, .ref ar, .ref ak, .ref aw, .ref att, .ref ass])), (al, .inl (cI, 100, .inl fal)), (ao, .inl (cI, 100, .inl fao)), (qa, .inr (0, [.int (nI (Qa)), .ref an])), (an, .inl (cI, 100, .inl La)), (h0, .inr (8, [.ref qh, .ref qk, .ref qd, .int b0, .ref qa, .ref qm, .ref qs, .ref qp, .ref ql, .ref qt, .ref qz, .ref qf])), (qf, .inl (cI, 7, .inl f2_24))] := hD
      subst hw_r_23
      exact W.iret (v := (-1000000001)) hx hb hr (fun t ht hW => ⟨⟨(-1000000001), (Qa, La, f2_24), rfl, ⟨trivial, (by first | assumption | omega)⟩, by rw [ht]; exact hP.sub [5, 0, 1, 2, 3, 4, 6] rfl, hD.sub [5, 0, 1, 2, 3, 4, 6] (by decide +kernel) rfl⟩, hS.F ht⟩) hS.2.2 dX8_far_30 hlk
  · skip
    refine lv_if_eq (tgt := 24) hx hb dX8_far_9 (by decide) (fun c_25 => ?_) (fun c_25 => absurd (by decide) c_25)
    refine lv_aload_n hx hb dX8_far_24 rfl (lv_at hl 0 rfl) ?_
    refine lv_ldc (v := (-1000000001)) hx hb hown (hu _ uw396) dX8_far_25 ?_
    refine xc_Vi (wr := [(qh, .inr (1, [.int (nI (Pa)), .ref ae, .ref al, .ref au, .ref ao, .ref ar, .ref ak, .ref aw, .ref att, .ref ass])), (al, .inl (cI, 100, .inl fal)), (ao, .inl (cI, 100, .inl fao)), (qa, .inr (0, [.int (nI (Qa)), .ref an])), (an, .inl (cI, 100, .inl La))]) hF (c_X8_finding_B l D cI cJ cZ cS ta sa sv s.heap.size h0 qh qk qd b0 qa qm qs qp ql qt qz qf ff ) kv_X8_80 ⟨rfl, rfl, Nat.le_of_ble_eq_true rfl, Nat.le_of_ble_eq_true rfl⟩ ⟨Nat.le_of_ble_eq_true rfl, Nat.le_of_ble_eq_true rfl⟩ hK hN hZ hP hD hS hA [0, 6] [1, 2, 3, 4, 5] rfl rfl rfl (by decide +kernel) (by decide +kernel) 0 rfl rfl rfl rfl hl.1 rfl (Nat.le_of_ble_eq_true rfl) dX8_far_27 (fun r_26 u_r_26 H locs hw_r_26 hP hD hS => ?_)
    obtain ⟨f2_27, rfl⟩ : ∃ z, z = u_r_26 := ⟨_, rfl⟩
    try dsimp only at hw_r_26
    have hP : va_P D vwCl [(qh, .inr (1, [.int (nI (Pa)), .ref ae, .ref al, .ref au, .ref ao, .ref ar, .ref ak, .ref aw, .ref att, .ref ass])), (al, .inl (cI, 100, .inl fal)), (ao, .inl (cI, 100, .inl fao)), (qa, .inr (0, [.int (nI (Qa)), .ref an])), (an, .inl (cI, 100, .inl La)), (h0, .inr (8, [.ref qh, .ref qk, .ref qd, .int b0, .ref qa, .ref qm, .ref qs, .ref qp, .ref ql, .ref qt, .ref qz, .ref qf])), (qf, .inl (cI, 7, .inl f2_27))] H := hP
    have hD : va_D A [(qh, .inr (1, [.int (nI (Pa)), .ref ae, .ref al, .ref au, .ref ao, .ref ar, .ref ak, .ref aw, .ref att, .ref ass])), (al, .inl (cI, 100, .inl fal)), (ao, .inl (cI, 100, .inl fao)), (qa, .inr (0, [.int (nI (Qa)), .ref an])), (an, .inl (cI, 100, .inl La)), (h0, .inr (8, [.ref qh, .ref qk, .ref qd, .int b0, .ref qa, .ref qm, .ref qs, .ref qp, .ref ql, .ref qt, .ref qz, .ref qf])), (qf, .inl (cI, 7, .inl f2_27))] := hD
    subst hw_r_26
    exact W.iret (v := (-1000000001)) hx hb hr (fun t ht hW => ⟨⟨(-1000000001), (Qa, La, f2_27), rfl, ⟨trivial, (by first | assumption | omega)⟩, by rw [ht]; exact hP.sub [5, 0, 1, 2, 3, 4, 6] rfl, hD.sub [5, 0, 1, 2, 3, 4, 6] (by decide +kernel) rfl⟩, hS.F ht⟩) hS.2.2 dX8_far_30 hlk
set_option maxHeartbeats 4000000 in
set_option maxRecDepth 100000 in
theorem c_X8_by (l : Launch) (D : va_G) (cI cJ cZ cS : ClassId) (ta : Nat) (sa sv : Nat → Nat) (sz : Nat) (h0 : Nat) (qh : Nat) (qk : Nat) (qd : Nat) (b0 : Int32) (qa : Nat) (qm : Nat) (qs : Nat) (qp : Nat) (ql : Nat) (qt : Nat) (qz : Nat) (qf : Nat) (Pa : Nat) (ae : Nat) (al : Nat) (au : Nat) (ao : Nat) (ar : Nat) (ak : Nat) (aw : Nat) (att : Nat) (ass : Nat) (fal : Nat → Int32) (fao : Nat → Int32) (Qa : Nat) (an : Nat) (La : Nat → Int32) (ff : Nat → Int32) (p0 : Int32) (p1 : Int32) (p2 : Int32) (hP0 : Pa ≤ 10) (hQa : Qa ≤ 10) : Met l yX8_by (Cond.code yX8_by cX8_by 5 (some .int) :: wsU) ({ frames := 5, cells := 0, slots := 0, locals := 115 }) (va_Pc [.ref h0, .int p0, .int p1, .int p2] (XW D (xT cI cJ cZ cS) ta sa sv [(h0, .inr (8, [.ref qh, .ref qk, .ref qd, .int b0, .ref qa, .ref qm, .ref qs, .ref qp, .ref ql, .ref qt, .ref qz, .ref qf])), (qh, .inr (1, [.int (nI (Pa)), .ref ae, .ref al, .ref au, .ref ao, .ref ar, .ref ak, .ref aw, .ref att, .ref ass])), (al, .inl (cI, 100, .inl fal)), (ao, .inl (cI, 100, .inl fao)), (qa, .inr (0, [.int (nI (Qa)), .ref an])), (an, .inl (cI, 100, .inl La)), (qf, .inl (cI, 7, .inl ff))] sz)) (XQi (fun (r : Int32) (u : Nat × (Nat → Int32) × (Nat → Int32)) => match u with | (Q2, L2, f2) => (True) ∧ (Q2 ≤ 10)) D (fun (u : Nat × (Nat → Int32) × (Nat → Int32)) => match u with | (Q2, L2, f2) => [(h0, .inr (8, [.ref qh, .ref qk, .ref qd, .int b0, .ref qa, .ref qm, .ref qs, .ref qp, .ref ql, .ref qt, .ref qz, .ref qf])), (qh, .inr (1, [.int (nI (Pa)), .ref ae, .ref al, .ref au, .ref ao, .ref ar, .ref ak, .ref aw, .ref att, .ref ass])), (al, .inl (cI, 100, .inl fal)), (ao, .inl (cI, 100, .inl fao)), (qa, .inr (0, [.int (nI (Q2)), .ref an])), (an, .inl (cI, 100, .inl L2)), (qf, .inl (cI, 7, .inl f2))]) (va_A [(h0, .inr (8, [.ref qh, .ref qk, .ref qd, .int b0, .ref qa, .ref qm, .ref qs, .ref qp, .ref ql, .ref qt, .ref qz, .ref qf])), (qh, .inr (1, [.int (nI (Pa)), .ref ae, .ref al, .ref au, .ref ao, .ref ar, .ref ak, .ref aw, .ref att, .ref ass])), (al, .inl (cI, 100, .inl fal)), (ao, .inl (cI, 100, .inl fao)), (qa, .inr (0, [.int (nI (Qa)), .ref an])), (an, .inl (cI, 100, .inl La)), (qf, .inl (cI, 7, .inl ff))] sz)) 0 0 (va_A [(h0, .inr (8, [.ref qh, .ref qk, .ref qd, .int b0, .ref qa, .ref qm, .ref qs, .ref qp, .ref ql, .ref qt, .ref qz, .ref qf])), (qh, .inr (1, [.int (nI (Pa)), .ref ae, .ref al, .ref au, .ref ao, .ref ar, .ref ak, .ref aw, .ref att, .ref ass])), (al, .inl (cI, 100, .inl fal)), (ao, .inl (cI, 100, .inl fao)), (qa, .inr (0, [.int (nI (Qa)), .ref an])), (an, .inl (cI, 100, .inl La)), (qf, .inl (cI, 7, .inl ff))] sz) := by
  refine xh (QA := fun A => XQi (fun (r : Int32) (u : Nat × (Nat → Int32) × (Nat → Int32)) => match u with | (Q2, L2, f2) => (True) ∧ (Q2 ≤ 10)) D (fun (u : Nat × (Nat → Int32) × (Nat → Int32)) => match u with | (Q2, L2, f2) => [(h0, .inr (8, [.ref qh, .ref qk, .ref qd, .int b0, .ref qa, .ref qm, .ref qs, .ref qp, .ref ql, .ref qt, .ref qz, .ref qf])), (qh, .inr (1, [.int (nI (Pa)), .ref ae, .ref al, .ref au, .ref ao, .ref ar, .ref ak, .ref aw, .ref att, .ref ass])), (al, .inl (cI, 100, .inl fal)), (ao, .inl (cI, 100, .inl fao)), (qa, .inr (0, [.int (nI (Q2)), .ref an])), (an, .inl (cI, 100, .inl L2)), (qf, .inl (cI, 7, .inl f2))]) A) (fr := fun A => A) (by decide) (Nat.le_of_ble_eq_true rfl) ?_
  intro p e s m below meth c ls A hF hr hlk hin hsz hP hK hD hN hZ hA hS hl
  have hF : CallFix p m c cX8_by 5 s _ _ RX8 := hF
  have hx := hF.1
  have hb := hF.2.1
  have hml := hF.2.2.1
  have hown := hF.2.2.2.1
  have hu : ∀ w ∈ wsU, w.before _ s = true := fun w h => hF.2.2.2.2 w (List.mem_cons_of_mem _ h)
  have hl : lv_has ls 5 [(0, .ref h0), (1, .int p0), (2, .int p1), (3, .int p2)] := hl
  refine lv_aload_n hx hb dX8_by_0 rfl (lv_at hl 0 rfl) ?_
  refine xg hF kf_X8_12 hK hP 0 rfl rfl dX8_by_1 ?_
  refine lv_iload_n hx hb dX8_by_4 rfl (lv_at hl 1 rfl) ?_
  refine lv_i2l (v := p0.toInt64) hx hb dX8_by_5 rfl ?_
  refine xc_Vr hF (c_X1_isPlace l D cI cJ cZ cS ta sa sv s.heap.size qh ae al au ao ar ak aw att ass Pa p0 (by omega)) kv_X8_87 ⟨rfl, rfl, Nat.le_of_ble_eq_true rfl, Nat.le_of_ble_eq_true rfl⟩ ⟨Nat.le_of_ble_eq_true rfl, Nat.le_of_ble_eq_true rfl⟩ hK hN hZ hP hD hS hA [1] rfl rfl 0 rfl rfl rfl rfl hl.1 rfl (Nat.le_of_ble_eq_true rfl) dX8_by_6 (fun r_1 hw_r_1 => ?_)
  rcases hw_r_1 with ⟨k_2, rfl, rfl, h_4⟩ | ⟨rfl, h_5⟩
  · skip
    refine lv_if_eq (tgt := 34) hx hb dX8_by_9 (by decide) (fun c_6 => absurd c_6 (by decide)) (fun c_6 => ?_)
    refine lv_aload_n hx hb dX8_by_12 rfl (lv_at hl 0 rfl) ?_
    refine xg hF kf_X8_12 hK hP 0 rfl rfl dX8_by_13 ?_
    refine lv_iload_n hx hb dX8_by_16 rfl (lv_at hl 2 rfl) ?_
    refine lv_i2l (v := p1.toInt64) hx hb dX8_by_17 rfl ?_
    refine xc_Vr hF (c_X1_isPlace l D cI cJ cZ cS ta sa sv s.heap.size qh ae al au ao ar ak aw att ass Pa p1 (by omega)) kv_X8_87 ⟨rfl, rfl, Nat.le_of_ble_eq_true rfl, Nat.le_of_ble_eq_true rfl⟩ ⟨Nat.le_of_ble_eq_true rfl, Nat.le_of_ble_eq_true rfl⟩ hK hN hZ hP hD hS hA [1] rfl rfl 0 rfl rfl rfl rfl hl.1 rfl (Nat.le_of_ble_eq_true rfl) dX8_by_18 (fun r_7 hw_r_7 => ?_)
    rcases hw_r_7 with ⟨k_8, rfl, rfl, h_10⟩ | ⟨rfl, h_11⟩
    · skip
      refine lv_if_eq (tgt := 34) hx hb dX8_by_21 (by decide) (fun c_12 => absurd c_12 (by decide)) (fun c_12 => ?_)
      refine lv_iload_n hx hb dX8_by_24 rfl (lv_at hl 3 rfl) ?_
      refine lv_iconst (v := (-1)) hx hb dX8_by_25 (by decide) ?_
      refine lv_bipush (v := 9) hx hb dX8_by_26 (by decide) ?_
      refine xc_Sr hF (c_X8_isWithin l D cI cJ cZ cS ta sa sv s.heap.size p2 (-1) 9 ) ks_X8_91 ⟨rfl, rfl, Nat.le_of_ble_eq_true rfl, Nat.le_of_ble_eq_true rfl⟩ ⟨Nat.le_of_ble_eq_true rfl, Nat.le_of_ble_eq_true rfl⟩ hK hN hZ hP hD hS hA [] rfl rfl rfl hl.1 rfl (Nat.le_of_ble_eq_true rfl) dX8_by_28 (fun r_13 hw_r_13 => ?_)
      rcases hw_r_13 with ⟨rfl, h_14, h_15⟩ | ⟨rfl, h_16⟩
      · skip
        refine lv_if_ne (tgt := 41) hx hb dX8_by_31 (by decide) (fun c_17 => ?_) (fun c_17 => absurd c_17 (by decide))
        refine lv_aload_n hx hb dX8_by_41 rfl (lv_at hl 0 rfl) ?_
        refine xc_Vi (wr := [(qf, .inl (cI, 7, .inl ff))]) hF (c_X8_isLooped l D cI cJ cZ cS ta sa sv s.heap.size h0 qh qk qd b0 qa qm qs qp ql qt qz qf Pa ae al au ao ar ak aw att ass fal fao Qa an La (by omega)) kv_X8_128 ⟨rfl, rfl, Nat.le_of_ble_eq_true rfl, Nat.le_of_ble_eq_true rfl⟩ ⟨Nat.le_of_ble_eq_true rfl, Nat.le_of_ble_eq_true rfl⟩ hK hN hZ hP hD hS hA [0, 1, 2, 3, 4, 5] [6] rfl rfl (by decide +kernel) rfl (by decide +kernel) 0 rfl rfl rfl rfl hl.1 rfl (Nat.le_of_ble_eq_true rfl) dX8_by_42 (fun r_18 u_r_18 H locs hw_r_18 hP hD hS => ?_)
        obtain ⟨L2_19, rfl⟩ : ∃ z, z = u_r_18 := ⟨_, rfl⟩
        try dsimp only at hw_r_18
        have hP : va_P D vwCl [(qf, .inl (cI, 7, .inl ff)), (h0, .inr (8, [.ref qh, .ref qk, .ref qd, .int b0, .ref qa, .ref qm, .ref qs, .ref qp, .ref ql, .ref qt, .ref qz, .ref qf])), (qh, .inr (1, [.int (nI (Pa)), .ref ae, .ref al, .ref au, .ref ao, .ref ar, .ref ak, .ref aw, .ref att, .ref ass])), (al, .inl (cI, 100, .inl fal)), (ao, .inl (cI, 100, .inl fao)), (qa, .inr (0, [.int (nI (Pa)), .ref an])), (an, .inl (cI, 100, .inl L2_19))] H := hP
        have hD : va_D A [(qf, .inl (cI, 7, .inl ff)), (h0, .inr (8, [.ref qh, .ref qk, .ref qd, .int b0, .ref qa, .ref qm, .ref qs, .ref qp, .ref ql, .ref qt, .ref qz, .ref qf])), (qh, .inr (1, [.int (nI (Pa)), .ref ae, .ref al, .ref au, .ref ao, .ref ar, .ref ak, .ref aw, .ref att, .ref ass])), (al, .inl (cI, 100, .inl fal)), (ao, .inl (cI, 100, .inl fao)), (qa, .inr (0, [.int (nI (Pa)), .ref an])), (an, .inl (cI, 100, .inl L2_19))] := hD
        rcases hw_r_18 with rfl | rfl
        · skip
          refine lv_if_eq (tgt := 55) hx hb dX8_by_45 (by decide) (fun c_20 => absurd c_20 (by decide)) (fun c_20 => ?_)
          refine lv_aload_n hx hb dX8_by_48 rfl (lv_at hl 0 rfl) ?_
          refine lv_ldc (v := (-1000000005)) hx hb hown (hu _ uw452) dX8_by_49 ?_
          refine xc_Vi (wr := [(qh, .inr (1, [.int (nI (Pa)), .ref ae, .ref al, .ref au, .ref ao, .ref ar, .ref ak, .ref aw, .ref att, .ref ass])), (al, .inl (cI, 100, .inl fal)), (ao, .inl (cI, 100, .inl fao)), (qa, .inr (0, [.int (nI (Pa)), .ref an])), (an, .inl (cI, 100, .inl L2_19))]) hF (c_X8_finding_T l D cI cJ cZ cS ta sa sv H.size h0 qh qk qd b0 qa qm qs qp ql qt qz qf ff ) kv_X8_80 ⟨rfl, rfl, Nat.le_of_ble_eq_true rfl, Nat.le_of_ble_eq_true rfl⟩ ⟨Nat.le_of_ble_eq_true rfl, Nat.le_of_ble_eq_true rfl⟩ hK hN hZ hP hD hS hA [1, 0] [2, 3, 4, 5, 6] rfl rfl rfl (by decide +kernel) (by decide +kernel) 0 rfl rfl rfl rfl hl.1 rfl (Nat.le_of_ble_eq_true rfl) dX8_by_51 (fun r_21 u_r_21 H locs hw_r_21 hP hD hS => ?_)
          obtain ⟨f2_22, rfl⟩ : ∃ z, z = u_r_21 := ⟨_, rfl⟩
          try dsimp only at hw_r_21
          have hP : va_P D vwCl [(qh, .inr (1, [.int (nI (Pa)), .ref ae, .ref al, .ref au, .ref ao, .ref ar, .ref ak, .ref aw, .ref att, .ref ass])), (al, .inl (cI, 100, .inl fal)), (ao, .inl (cI, 100, .inl fao)), (qa, .inr (0, [.int (nI (Pa)), .ref an])), (an, .inl (cI, 100, .inl L2_19)), (h0, .inr (8, [.ref qh, .ref qk, .ref qd, .int b0, .ref qa, .ref qm, .ref qs, .ref qp, .ref ql, .ref qt, .ref qz, .ref qf])), (qf, .inl (cI, 7, .inl f2_22))] H := hP
          have hD : va_D A [(qh, .inr (1, [.int (nI (Pa)), .ref ae, .ref al, .ref au, .ref ao, .ref ar, .ref ak, .ref aw, .ref att, .ref ass])), (al, .inl (cI, 100, .inl fal)), (ao, .inl (cI, 100, .inl fao)), (qa, .inr (0, [.int (nI (Pa)), .ref an])), (an, .inl (cI, 100, .inl L2_19)), (h0, .inr (8, [.ref qh, .ref qk, .ref qd, .int b0, .ref qa, .ref qm, .ref qs, .ref qp, .ref ql, .ref qt, .ref qz, .ref qf])), (qf, .inl (cI, 7, .inl f2_22))] := hD
          subst hw_r_21
          exact W.iret (v := (-1000000005)) hx hb hr (fun t ht hW => ⟨⟨(-1000000005), (Pa, L2_19, f2_22), rfl, ⟨trivial, (by first | assumption | omega)⟩, by rw [ht]; exact hP.sub [5, 0, 1, 2, 3, 4, 6] rfl, hD.sub [5, 0, 1, 2, 3, 4, 6] (by decide +kernel) rfl⟩, hS.F ht⟩) hS.2.2 dX8_by_54 hlk
        · skip
          refine lv_if_eq (tgt := 55) hx hb dX8_by_45 (by decide) (fun c_23 => ?_) (fun c_23 => absurd (by decide) c_23)
          refine lv_aload_n hx hb dX8_by_55 rfl (lv_at hl 0 rfl) ?_
          refine xg hF kf_X8_29 hK hP 1 rfl rfl dX8_by_56 ?_
          refine lv_iload_n hx hb dX8_by_59 rfl (lv_at hl 1 rfl) ?_
          refine lv_iload_n hx hb dX8_by_60 rfl (lv_at hl 2 rfl) ?_
          refine xc_Vr hF (c_X0_waysOf l D cI cJ cZ cS ta sa sv H.size qa an Pa L2_19 k_2 k_8 (by omega) (by omega)) kv_X8_139 ⟨rfl, rfl, Nat.le_of_ble_eq_true rfl, Nat.le_of_ble_eq_true rfl⟩ ⟨Nat.le_of_ble_eq_true rfl, Nat.le_of_ble_eq_true rfl⟩ hK hN hZ hP hD hS hA [5, 6] rfl rfl 0 rfl rfl rfl rfl hl.1 rfl (Nat.le_of_ble_eq_true rfl) dX8_by_61 (fun r_24 hw_r_24 => ?_)
          refine lv_istore (lv' := [(4, .int r_24), (0, .ref h0), (1, .int (nI (k_2))), (2, .int (nI (k_8))), (3, .int p2)]) hx hb dX8_by_64 hl (by decide) rfl (fun ls hl => ?_)
          refine lv_iload hx hb dX8_by_66 (lv_at hl 0 rfl) ?_
          refine lv_if_lt (tgt := 77) hx hb dX8_by_68 (by decide) (fun c_25 => ?_) (fun c_25 => ?_)
          · skip
            refine lv_aload_n hx hb dX8_by_77 rfl (lv_at hl 1 rfl) ?_
            refine lv_ldc (v := (-1000000004)) hx hb hown (hu _ uw410) dX8_by_78 ?_
            refine xc_Vi (wr := [(qh, .inr (1, [.int (nI (Pa)), .ref ae, .ref al, .ref au, .ref ao, .ref ar, .ref ak, .ref aw, .ref att, .ref ass])), (al, .inl (cI, 100, .inl fal)), (ao, .inl (cI, 100, .inl fao)), (qa, .inr (0, [.int (nI (Pa)), .ref an])), (an, .inl (cI, 100, .inl L2_19))]) hF (c_X8_finding_N l D cI cJ cZ cS ta sa sv H.size h0 qh qk qd b0 qa qm qs qp ql qt qz qf ff ) kv_X8_80 ⟨rfl, rfl, Nat.le_of_ble_eq_true rfl, Nat.le_of_ble_eq_true rfl⟩ ⟨Nat.le_of_ble_eq_true rfl, Nat.le_of_ble_eq_true rfl⟩ hK hN hZ hP hD hS hA [1, 0] [2, 3, 4, 5, 6] rfl rfl rfl (by decide +kernel) (by decide +kernel) 0 rfl rfl rfl rfl hl.1 rfl (Nat.le_of_ble_eq_true rfl) dX8_by_80 (fun r_26 u_r_26 H locs hw_r_26 hP hD hS => ?_)
            obtain ⟨f2_27, rfl⟩ : ∃ z, z = u_r_26 := ⟨_, rfl⟩
            try dsimp only at hw_r_26
            have hP : va_P D vwCl [(qh, .inr (1, [.int (nI (Pa)), .ref ae, .ref al, .ref au, .ref ao, .ref ar, .ref ak, .ref aw, .ref att, .ref ass])), (al, .inl (cI, 100, .inl fal)), (ao, .inl (cI, 100, .inl fao)), (qa, .inr (0, [.int (nI (Pa)), .ref an])), (an, .inl (cI, 100, .inl L2_19)), (h0, .inr (8, [.ref qh, .ref qk, .ref qd, .int b0, .ref qa, .ref qm, .ref qs, .ref qp, .ref ql, .ref qt, .ref qz, .ref qf])), (qf, .inl (cI, 7, .inl f2_27))] H := hP
            have hD : va_D A [(qh, .inr (1, [.int (nI (Pa)), .ref ae, .ref al, .ref au, .ref ao, .ref ar, .ref ak, .ref aw, .ref att, .ref ass])), (al, .inl (cI, 100, .inl fal)), (ao, .inl (cI, 100, .inl fao)), (qa, .inr (0, [.int (nI (Pa)), .ref an])), (an, .inl (cI, 100, .inl L2_19)), (h0, .inr (8, [.ref qh, .ref qk, .ref qd, .int b0, .ref qa, .ref qm, .ref qs, .ref qp, .ref ql, .ref qt, .ref qz, .ref qf])), (qf, .inl (cI, 7, .inl f2_27))] := hD
            subst hw_r_26
            exact W.iret (v := (-1000000004)) hx hb hr (fun t ht hW => ⟨⟨(-1000000004), (Pa, L2_19, f2_27), rfl, ⟨trivial, (by first | assumption | omega)⟩, by rw [ht]; exact hP.sub [5, 0, 1, 2, 3, 4, 6] rfl, hD.sub [5, 0, 1, 2, 3, 4, 6] (by decide +kernel) rfl⟩, hS.F ht⟩) hS.2.2 dX8_by_83 hlk
          · skip
            refine lv_iload_n hx hb dX8_by_71 rfl (lv_at hl 4 rfl) ?_
            refine lv_iload hx hb dX8_by_72 (lv_at hl 0 rfl) ?_
            refine lv_icmp_le (tgt := 84) hx hb dX8_by_74 (by decide) (fun c_28 => ?_) (fun c_28 => ?_)
            · skip
              refine lv_iload_n hx hb dX8_by_84 rfl (lv_at hl 4 rfl) ?_
              refine lv_if_ge (tgt := 93) hx hb dX8_by_85 (by decide) (fun c_29 => ?_) (fun c_29 => ?_)
              · skip
                obtain ⟨y_30, hy_30, rfl⟩ := xrange (w := 9) (by omega) (fun h => absurd c_29 (Int32.not_le.mpr h)) h_15
                refine lv_aload_n hx hb dX8_by_93 rfl (lv_at hl 1 rfl) ?_
                refine xg hF kf_X8_29 hK hP 1 rfl rfl dX8_by_94 ?_
                refine lv_aload_n hx hb dX8_by_97 rfl (lv_at hl 1 rfl) ?_
                refine xg hF kf_X8_12 hK hP 1 rfl rfl dX8_by_98 ?_
                refine lv_iload_n hx hb dX8_by_101 rfl (lv_at hl 2 rfl) ?_
                refine lv_iload_n hx hb dX8_by_102 rfl (lv_at hl 3 rfl) ?_
                refine lv_iload_n hx hb dX8_by_103 rfl (lv_at hl 4 rfl) ?_
                refine xc_Vr hF (c_X0_stopOf l D cI cJ cZ cS ta sa sv H.size qa an Pa L2_19 qh ae al au ao ar ak aw att ass Pa fal fao k_2 k_8 y_30 (by omega) (by omega) (by omega) (by omega)) kv_X8_142 ⟨rfl, rfl, Nat.le_of_ble_eq_true rfl, Nat.le_of_ble_eq_true rfl⟩ ⟨Nat.le_of_ble_eq_true rfl, Nat.le_of_ble_eq_true rfl⟩ hK hN hZ hP hD hS hA [5, 6, 2, 3, 4] rfl rfl 0 rfl rfl rfl rfl hl.1 rfl (Nat.le_of_ble_eq_true rfl) dX8_by_104 (fun r_31 hw_r_31 => ?_)
                obtain ⟨y_32, rfl, h_33⟩ := hw_r_31
                exact W.iret (v := nI (y_32)) hx hb hr (fun t ht hW => ⟨⟨nI (y_32), (Pa, L2_19, ff), rfl, ⟨trivial, (by first | assumption | omega)⟩, by rw [ht]; exact hP.sub [1, 2, 3, 4, 5, 6, 0] rfl, hD.sub [1, 2, 3, 4, 5, 6, 0] (by decide +kernel) rfl⟩, hS.F ht⟩) hS.2.2 dX8_by_107 hlk
              · skip
                refine lv_iload hx hb dX8_by_88 (lv_at hl 0 rfl) ?_
                refine lv_goto (tgt := 107) hx hb dX8_by_90 (by decide) ?_
                exact W.iret (v := r_24) hx hb hr (fun t ht hW => ⟨⟨r_24, (Pa, L2_19, ff), rfl, ⟨trivial, (by first | assumption | omega)⟩, by rw [ht]; exact hP.sub [1, 2, 3, 4, 5, 6, 0] rfl, hD.sub [1, 2, 3, 4, 5, 6, 0] (by decide +kernel) rfl⟩, hS.F ht⟩) hS.2.2 dX8_by_107 hlk
            · skip
              refine lv_aload_n hx hb dX8_by_77 rfl (lv_at hl 1 rfl) ?_
              refine lv_ldc (v := (-1000000004)) hx hb hown (hu _ uw410) dX8_by_78 ?_
              refine xc_Vi (wr := [(qh, .inr (1, [.int (nI (Pa)), .ref ae, .ref al, .ref au, .ref ao, .ref ar, .ref ak, .ref aw, .ref att, .ref ass])), (al, .inl (cI, 100, .inl fal)), (ao, .inl (cI, 100, .inl fao)), (qa, .inr (0, [.int (nI (Pa)), .ref an])), (an, .inl (cI, 100, .inl L2_19))]) hF (c_X8_finding_N l D cI cJ cZ cS ta sa sv H.size h0 qh qk qd b0 qa qm qs qp ql qt qz qf ff ) kv_X8_80 ⟨rfl, rfl, Nat.le_of_ble_eq_true rfl, Nat.le_of_ble_eq_true rfl⟩ ⟨Nat.le_of_ble_eq_true rfl, Nat.le_of_ble_eq_true rfl⟩ hK hN hZ hP hD hS hA [1, 0] [2, 3, 4, 5, 6] rfl rfl rfl (by decide +kernel) (by decide +kernel) 0 rfl rfl rfl rfl hl.1 rfl (Nat.le_of_ble_eq_true rfl) dX8_by_80 (fun r_34 u_r_34 H locs hw_r_34 hP hD hS => ?_)
              obtain ⟨f2_35, rfl⟩ : ∃ z, z = u_r_34 := ⟨_, rfl⟩
              try dsimp only at hw_r_34
              have hP : va_P D vwCl [(qh, .inr (1, [.int (nI (Pa)), .ref ae, .ref al, .ref au, .ref ao, .ref ar, .ref ak, .ref aw, .ref att, .ref ass])), (al, .inl (cI, 100, .inl fal)), (ao, .inl (cI, 100, .inl fao)), (qa, .inr (0, [.int (nI (Pa)), .ref an])), (an, .inl (cI, 100, .inl L2_19)), (h0, .inr (8, [.ref qh, .ref qk, .ref qd, .int b0, .ref qa, .ref qm, .ref qs, .ref qp, .ref ql, .ref qt, .ref qz, .ref qf])), (qf, .inl (cI, 7, .inl f2_35))] H := hP
              have hD : va_D A [(qh, .inr (1, [.int (nI (Pa)), .ref ae, .ref al, .ref au, .ref ao, .ref ar, .ref ak, .ref aw, .ref att, .ref ass])), (al, .inl (cI, 100, .inl fal)), (ao, .inl (cI, 100, .inl fao)), (qa, .inr (0, [.int (nI (Pa)), .ref an])), (an, .inl (cI, 100, .inl L2_19)), (h0, .inr (8, [.ref qh, .ref qk, .ref qd, .int b0, .ref qa, .ref qm, .ref qs, .ref qp, .ref ql, .ref qt, .ref qz, .ref qf])), (qf, .inl (cI, 7, .inl f2_35))] := hD
              subst hw_r_34
              exact W.iret (v := (-1000000004)) hx hb hr (fun t ht hW => ⟨⟨(-1000000004), (Pa, L2_19, f2_35), rfl, ⟨trivial, (by first | assumption | omega)⟩, by rw [ht]; exact hP.sub [5, 0, 1, 2, 3, 4, 6] rfl, hD.sub [5, 0, 1, 2, 3, 4, 6] (by decide +kernel) rfl⟩, hS.F ht⟩) hS.2.2 dX8_by_83 hlk
      · skip
        refine lv_if_ne (tgt := 41) hx hb dX8_by_31 (by decide) (fun c_36 => absurd (by decide) c_36) (fun c_36 => ?_)
        refine lv_aload_n hx hb dX8_by_34 rfl (lv_at hl 0 rfl) ?_
        refine lv_ldc (v := (-1000000001)) hx hb hown (hu _ uw396) dX8_by_35 ?_
        refine xc_Vi (wr := [(qh, .inr (1, [.int (nI (Pa)), .ref ae, .ref al, .ref au, .ref ao, .ref ar, .ref ak, .ref aw, .ref att, .ref ass])), (al, .inl (cI, 100, .inl fal)), (ao, .inl (cI, 100, .inl fao)), (qa, .inr (0, [.int (nI (Qa)), .ref an])), (an, .inl (cI, 100, .inl La))]) hF (c_X8_finding_B l D cI cJ cZ cS ta sa sv s.heap.size h0 qh qk qd b0 qa qm qs qp ql qt qz qf ff ) kv_X8_80 ⟨rfl, rfl, Nat.le_of_ble_eq_true rfl, Nat.le_of_ble_eq_true rfl⟩ ⟨Nat.le_of_ble_eq_true rfl, Nat.le_of_ble_eq_true rfl⟩ hK hN hZ hP hD hS hA [0, 6] [1, 2, 3, 4, 5] rfl rfl rfl (by decide +kernel) (by decide +kernel) 0 rfl rfl rfl rfl hl.1 rfl (Nat.le_of_ble_eq_true rfl) dX8_by_37 (fun r_37 u_r_37 H locs hw_r_37 hP hD hS => ?_)
        obtain ⟨f2_38, rfl⟩ : ∃ z, z = u_r_37 := ⟨_, rfl⟩
        try dsimp only at hw_r_37
        have hP : va_P D vwCl [(qh, .inr (1, [.int (nI (Pa)), .ref ae, .ref al, .ref au, .ref ao, .ref ar, .ref ak, .ref aw, .ref att, .ref ass])), (al, .inl (cI, 100, .inl fal)), (ao, .inl (cI, 100, .inl fao)), (qa, .inr (0, [.int (nI (Qa)), .ref an])), (an, .inl (cI, 100, .inl La)), (h0, .inr (8, [.ref qh, .ref qk, .ref qd, .int b0, .ref qa, .ref qm, .ref qs, .ref qp, .ref ql, .ref qt, .ref qz, .ref qf])), (qf, .inl (cI, 7, .inl f2_38))] H := hP
        have hD : va_D A [(qh, .inr (1, [.int (nI (Pa)), .ref ae, .ref al, .ref au, .ref ao, .ref ar, .ref ak, .ref aw, .ref att, .ref ass])), (al, .inl (cI, 100, .inl fal)), (ao, .inl (cI, 100, .inl fao)), (qa, .inr (0, [.int (nI (Qa)), .ref an])), (an, .inl (cI, 100, .inl La)), (h0, .inr (8, [.ref qh, .ref qk, .ref qd, .int b0, .ref qa, .ref qm, .ref qs, .ref qp, .ref ql, .ref qt, .ref qz, .ref qf])), (qf, .inl (cI, 7, .inl f2_38))] := hD
        subst hw_r_37
        exact W.iret (v := (-1000000001)) hx hb hr (fun t ht hW => ⟨⟨(-1000000001), (Qa, La, f2_38), rfl, ⟨trivial, (by first | assumption | omega)⟩, by rw [ht]; exact hP.sub [5, 0, 1, 2, 3, 4, 6] rfl, hD.sub [5, 0, 1, 2, 3, 4, 6] (by decide +kernel) rfl⟩, hS.F ht⟩) hS.2.2 dX8_by_40 hlk
    · skip
      refine lv_if_eq (tgt := 34) hx hb dX8_by_21 (by decide) (fun c_39 => ?_) (fun c_39 => absurd (by decide) c_39)
      refine lv_aload_n hx hb dX8_by_34 rfl (lv_at hl 0 rfl) ?_
      refine lv_ldc (v := (-1000000001)) hx hb hown (hu _ uw396) dX8_by_35 ?_
      refine xc_Vi (wr := [(qh, .inr (1, [.int (nI (Pa)), .ref ae, .ref al, .ref au, .ref ao, .ref ar, .ref ak, .ref aw, .ref att, .ref ass])), (al, .inl (cI, 100, .inl fal)), (ao, .inl (cI, 100, .inl fao)), (qa, .inr (0, [.int (nI (Qa)), .ref an])), (an, .inl (cI, 100, .inl La))]) hF (c_X8_finding_B l D cI cJ cZ cS ta sa sv s.heap.size h0 qh qk qd b0 qa qm qs qp ql qt qz qf ff ) kv_X8_80 ⟨rfl, rfl, Nat.le_of_ble_eq_true rfl, Nat.le_of_ble_eq_true rfl⟩ ⟨Nat.le_of_ble_eq_true rfl, Nat.le_of_ble_eq_true rfl⟩ hK hN hZ hP hD hS hA [0, 6] [1, 2, 3, 4, 5] rfl rfl rfl (by decide +kernel) (by decide +kernel) 0 rfl rfl rfl rfl hl.1 rfl (Nat.le_of_ble_eq_true rfl) dX8_by_37 (fun r_40 u_r_40 H locs hw_r_40 hP hD hS => ?_)
      obtain ⟨f2_41, rfl⟩ : ∃ z, z = u_r_40 := ⟨_, rfl⟩
      try dsimp only at hw_r_40
      have hP : va_P D vwCl [(qh, .inr (1, [.int (nI (Pa)), .ref ae, .ref al, .ref au, .ref ao, .ref ar, .ref ak, .ref aw, .ref att, .ref ass])), (al, .inl (cI, 100, .inl fal)), (ao, .inl (cI, 100, .inl fao)), (qa, .inr (0, [.int (nI (Qa)), .ref an])), (an, .inl (cI, 100, .inl La)), (h0, .inr (8, [.ref qh, .ref qk, .ref qd, .int b0, .ref qa, .ref qm, .ref qs, .ref qp, .ref ql, .ref qt, .ref qz, .ref qf])), (qf, .inl (cI, 7, .inl f2_41))] H := hP
      have hD : va_D A [(qh, .inr (1, [.int (nI (Pa)), .ref ae, .ref al, .ref au, .ref ao, .ref ar, .ref ak, .ref aw, .ref att, .ref ass])), (al, .inl (cI, 100, .inl fal)), (ao, .inl (cI, 100, .inl fao)), (qa, .inr (0, [.int (nI (Qa)), .ref an])), (an, .inl (cI, 100, .inl La)), (h0, .inr (8, [.ref qh, .ref qk, .ref qd, .int b0, .ref qa, .ref qm, .ref qs, .ref qp, .ref ql, .ref qt, .ref qz, .ref qf])), (qf, .inl (cI, 7, .inl f2_41))] := hD
      subst hw_r_40
      exact W.iret (v := (-1000000001)) hx hb hr (fun t ht hW => ⟨⟨(-1000000001), (Qa, La, f2_41), rfl, ⟨trivial, (by first | assumption | omega)⟩, by rw [ht]; exact hP.sub [5, 0, 1, 2, 3, 4, 6] rfl, hD.sub [5, 0, 1, 2, 3, 4, 6] (by decide +kernel) rfl⟩, hS.F ht⟩) hS.2.2 dX8_by_40 hlk
  · skip
    refine lv_if_eq (tgt := 34) hx hb dX8_by_9 (by decide) (fun c_42 => ?_) (fun c_42 => absurd (by decide) c_42)
    refine lv_aload_n hx hb dX8_by_34 rfl (lv_at hl 0 rfl) ?_
    refine lv_ldc (v := (-1000000001)) hx hb hown (hu _ uw396) dX8_by_35 ?_
    refine xc_Vi (wr := [(qh, .inr (1, [.int (nI (Pa)), .ref ae, .ref al, .ref au, .ref ao, .ref ar, .ref ak, .ref aw, .ref att, .ref ass])), (al, .inl (cI, 100, .inl fal)), (ao, .inl (cI, 100, .inl fao)), (qa, .inr (0, [.int (nI (Qa)), .ref an])), (an, .inl (cI, 100, .inl La))]) hF (c_X8_finding_B l D cI cJ cZ cS ta sa sv s.heap.size h0 qh qk qd b0 qa qm qs qp ql qt qz qf ff ) kv_X8_80 ⟨rfl, rfl, Nat.le_of_ble_eq_true rfl, Nat.le_of_ble_eq_true rfl⟩ ⟨Nat.le_of_ble_eq_true rfl, Nat.le_of_ble_eq_true rfl⟩ hK hN hZ hP hD hS hA [0, 6] [1, 2, 3, 4, 5] rfl rfl rfl (by decide +kernel) (by decide +kernel) 0 rfl rfl rfl rfl hl.1 rfl (Nat.le_of_ble_eq_true rfl) dX8_by_37 (fun r_43 u_r_43 H locs hw_r_43 hP hD hS => ?_)
    obtain ⟨f2_44, rfl⟩ : ∃ z, z = u_r_43 := ⟨_, rfl⟩
    try dsimp only at hw_r_43
    have hP : va_P D vwCl [(qh, .inr (1, [.int (nI (Pa)), .ref ae, .ref al, .ref au, .ref ao, .ref ar, .ref ak, .ref aw, .ref att, .ref ass])), (al, .inl (cI, 100, .inl fal)), (ao, .inl (cI, 100, .inl fao)), (qa, .inr (0, [.int (nI (Qa)), .ref an])), (an, .inl (cI, 100, .inl La)), (h0, .inr (8, [.ref qh, .ref qk, .ref qd, .int b0, .ref qa, .ref qm, .ref qs, .ref qp, .ref ql, .ref qt, .ref qz, .ref qf])), (qf, .inl (cI, 7, .inl f2_44))] H := hP
    have hD : va_D A [(qh, .inr (1, [.int (nI (Pa)), .ref ae, .ref al, .ref au, .ref ao, .ref ar, .ref ak, .ref aw, .ref att, .ref ass])), (al, .inl (cI, 100, .inl fal)), (ao, .inl (cI, 100, .inl fao)), (qa, .inr (0, [.int (nI (Qa)), .ref an])), (an, .inl (cI, 100, .inl La)), (h0, .inr (8, [.ref qh, .ref qk, .ref qd, .int b0, .ref qa, .ref qm, .ref qs, .ref qp, .ref ql, .ref qt, .ref qz, .ref qf])), (qf, .inl (cI, 7, .inl f2_44))] := hD
    subst hw_r_43
    exact W.iret (v := (-1000000001)) hx hb hr (fun t ht hW => ⟨⟨(-1000000001), (Qa, La, f2_44), rfl, ⟨trivial, (by first | assumption | omega)⟩, by rw [ht]; exact hP.sub [5, 0, 1, 2, 3, 4, 6] rfl, hD.sub [5, 0, 1, 2, 3, 4, 6] (by decide +kernel) rfl⟩, hS.F ht⟩) hS.2.2 dX8_by_40 hlk
set_option maxHeartbeats 4000000 in
set_option maxRecDepth 100000 in
theorem c_X8_loops (l : Launch) (D : va_G) (cI cJ cZ cS : ClassId) (ta : Nat) (sa sv : Nat → Nat) (sz : Nat) (h0 : Nat) (qh : Nat) (qk : Nat) (qd : Nat) (b0 : Int32) (qa : Nat) (qm : Nat) (qs : Nat) (qp : Nat) (ql : Nat) (qt : Nat) (qz : Nat) (qf : Nat) (Pa : Nat) (ae : Nat) (al : Nat) (au : Nat) (ao : Nat) (ar : Nat) (ak : Nat) (aw : Nat) (att : Nat) (ass : Nat) (fal : Nat → Int32) (fao : Nat → Int32) (Qa : Nat) (an : Nat) (La : Nat → Int32) (hP0 : Pa ≤ 10) (hQa : Qa ≤ 10) : Met l yX8_loops (Cond.code yX8_loops cX8_loops 1 (some .int) :: wsU) ({ frames := 4, cells := 0, slots := 0, locals := 88 }) (va_Pc [.ref h0] (XW D (xT cI cJ cZ cS) ta sa sv [(h0, .inr (8, [.ref qh, .ref qk, .ref qd, .int b0, .ref qa, .ref qm, .ref qs, .ref qp, .ref ql, .ref qt, .ref qz, .ref qf])), (qh, .inr (1, [.int (nI (Pa)), .ref ae, .ref al, .ref au, .ref ao, .ref ar, .ref ak, .ref aw, .ref att, .ref ass])), (al, .inl (cI, 100, .inl fal)), (ao, .inl (cI, 100, .inl fao)), (qa, .inr (0, [.int (nI (Qa)), .ref an])), (an, .inl (cI, 100, .inl La))] sz)) (XQi (fun (r : Int32) (u : Nat × (Nat → Int32)) => match u with | (Q2, L2) => (True) ∧ (Q2 ≤ 10)) D (fun (u : Nat × (Nat → Int32)) => match u with | (Q2, L2) => [(h0, .inr (8, [.ref qh, .ref qk, .ref qd, .int b0, .ref qa, .ref qm, .ref qs, .ref qp, .ref ql, .ref qt, .ref qz, .ref qf])), (qh, .inr (1, [.int (nI (Pa)), .ref ae, .ref al, .ref au, .ref ao, .ref ar, .ref ak, .ref aw, .ref att, .ref ass])), (al, .inl (cI, 100, .inl fal)), (ao, .inl (cI, 100, .inl fao)), (qa, .inr (0, [.int (nI (Q2)), .ref an])), (an, .inl (cI, 100, .inl L2))]) (va_A [(h0, .inr (8, [.ref qh, .ref qk, .ref qd, .int b0, .ref qa, .ref qm, .ref qs, .ref qp, .ref ql, .ref qt, .ref qz, .ref qf])), (qh, .inr (1, [.int (nI (Pa)), .ref ae, .ref al, .ref au, .ref ao, .ref ar, .ref ak, .ref aw, .ref att, .ref ass])), (al, .inl (cI, 100, .inl fal)), (ao, .inl (cI, 100, .inl fao)), (qa, .inr (0, [.int (nI (Qa)), .ref an])), (an, .inl (cI, 100, .inl La))] sz)) 0 0 (va_A [(h0, .inr (8, [.ref qh, .ref qk, .ref qd, .int b0, .ref qa, .ref qm, .ref qs, .ref qp, .ref ql, .ref qt, .ref qz, .ref qf])), (qh, .inr (1, [.int (nI (Pa)), .ref ae, .ref al, .ref au, .ref ao, .ref ar, .ref ak, .ref aw, .ref att, .ref ass])), (al, .inl (cI, 100, .inl fal)), (ao, .inl (cI, 100, .inl fao)), (qa, .inr (0, [.int (nI (Qa)), .ref an])), (an, .inl (cI, 100, .inl La))] sz) := by
  refine xh (QA := fun A => XQi (fun (r : Int32) (u : Nat × (Nat → Int32)) => match u with | (Q2, L2) => (True) ∧ (Q2 ≤ 10)) D (fun (u : Nat × (Nat → Int32)) => match u with | (Q2, L2) => [(h0, .inr (8, [.ref qh, .ref qk, .ref qd, .int b0, .ref qa, .ref qm, .ref qs, .ref qp, .ref ql, .ref qt, .ref qz, .ref qf])), (qh, .inr (1, [.int (nI (Pa)), .ref ae, .ref al, .ref au, .ref ao, .ref ar, .ref ak, .ref aw, .ref att, .ref ass])), (al, .inl (cI, 100, .inl fal)), (ao, .inl (cI, 100, .inl fao)), (qa, .inr (0, [.int (nI (Q2)), .ref an])), (an, .inl (cI, 100, .inl L2))]) A) (fr := fun A => A) (by decide) (Nat.le_of_ble_eq_true rfl) ?_
  intro p e s m below meth c ls A hF hr hlk hin hsz hP hK hD hN hZ hA hS hl
  have hF : CallFix p m c cX8_loops 1 s _ _ RX8 := hF
  have hx := hF.1
  have hb := hF.2.1
  have hml := hF.2.2.1
  have hown := hF.2.2.2.1
  have hu : ∀ w ∈ wsU, w.before _ s = true := fun w h => hF.2.2.2.2 w (List.mem_cons_of_mem _ h)
  have hl : lv_has ls 1 [(0, .ref h0)] := hl
  refine lv_aload_n hx hb dX8_loops_0 rfl (lv_at hl 0 rfl) ?_
  refine xg hF kf_X8_29 hK hP 0 rfl rfl dX8_loops_1 ?_
  refine lv_aload_n hx hb dX8_loops_4 rfl (lv_at hl 0 rfl) ?_
  refine xg hF kf_X8_12 hK hP 0 rfl rfl dX8_loops_5 ?_
  refine xc_Vv (wr := [(h0, .inr (8, [.ref qh, .ref qk, .ref qd, .int b0, .ref qa, .ref qm, .ref qs, .ref qp, .ref ql, .ref qt, .ref qz, .ref qf]))]) hF (c_X0_measure l D cI cJ cZ cS ta sa sv s.heap.size qa an Qa La qh ae al au ao ar ak aw att ass Pa fal fao (by omega)) kv_X8_146 ⟨rfl, rfl, Nat.le_of_ble_eq_true rfl, Nat.le_of_ble_eq_true rfl⟩ ⟨Nat.le_of_ble_eq_true rfl, Nat.le_of_ble_eq_true rfl⟩ hK hN hZ hP hD hS hA [4, 5, 1, 2, 3] [0] rfl rfl rfl rfl (by decide) 0 rfl rfl rfl rfl hl.1 rfl (Nat.le_of_ble_eq_true rfl) dX8_loops_8 (fun u_r_1 H locs hw_r_1 hP hD hS => ?_)
  obtain ⟨L2_2, rfl⟩ : ∃ z, z = u_r_1 := ⟨_, rfl⟩
  try dsimp only at hw_r_1
  have hP : va_P D vwCl [(h0, .inr (8, [.ref qh, .ref qk, .ref qd, .int b0, .ref qa, .ref qm, .ref qs, .ref qp, .ref ql, .ref qt, .ref qz, .ref qf])), (qa, .inr (0, [.int (nI (Pa)), .ref an])), (an, .inl (cI, 100, .inl L2_2)), (qh, .inr (1, [.int (nI (Pa)), .ref ae, .ref al, .ref au, .ref ao, .ref ar, .ref ak, .ref aw, .ref att, .ref ass])), (al, .inl (cI, 100, .inl fal)), (ao, .inl (cI, 100, .inl fao))] H := hP
  have hD : va_D A [(h0, .inr (8, [.ref qh, .ref qk, .ref qd, .int b0, .ref qa, .ref qm, .ref qs, .ref qp, .ref ql, .ref qt, .ref qz, .ref qf])), (qa, .inr (0, [.int (nI (Pa)), .ref an])), (an, .inl (cI, 100, .inl L2_2)), (qh, .inr (1, [.int (nI (Pa)), .ref ae, .ref al, .ref au, .ref ao, .ref ar, .ref ak, .ref aw, .ref att, .ref ass])), (al, .inl (cI, 100, .inl fal)), (ao, .inl (cI, 100, .inl fao))] := hD
  refine lv_aload_n hx hb dX8_loops_11 rfl (lv_at hl 0 rfl) ?_
  refine xg hF kf_X8_29 hK hP 0 rfl rfl dX8_loops_12 ?_
  refine xc_Vr hF (c_X0_loopSet l D cI cJ cZ cS ta sa sv H.size qa an Pa L2_2 (by omega)) kv_X8_150 ⟨rfl, rfl, Nat.le_of_ble_eq_true rfl, Nat.le_of_ble_eq_true rfl⟩ ⟨Nat.le_of_ble_eq_true rfl, Nat.le_of_ble_eq_true rfl⟩ hK hN hZ hP hD hS hA [1, 2] rfl rfl 0 rfl rfl rfl rfl hl.1 rfl (Nat.le_of_ble_eq_true rfl) dX8_loops_15 (fun r_3 hw_r_3 => ?_)
  exact W.iret (v := r_3) hx hb hr (fun t ht hW => ⟨⟨r_3, (Pa, L2_2), rfl, ⟨trivial, (by first | assumption | omega)⟩, by rw [ht]; exact hP.sub [0, 3, 4, 5, 1, 2] rfl, hD.sub [0, 3, 4, 5, 1, 2] (by decide +kernel) rfl⟩, hS.F ht⟩) hS.2.2 dX8_loops_18 hlk
set_option maxHeartbeats 4000000 in
set_option maxRecDepth 100000 in
theorem c_X8_longer (l : Launch) (D : va_G) (cI cJ cZ cS : ClassId) (ta : Nat) (sa sv : Nat → Nat) (sz : Nat) (h0 : Nat) (qh : Nat) (qk : Nat) (qd : Nat) (b0 : Int32) (qa : Nat) (qm : Nat) (qs : Nat) (qp : Nat) (ql : Nat) (qt : Nat) (qz : Nat) (qf : Nat) (Pa : Nat) (ae : Nat) (al : Nat) (au : Nat) (ao : Nat) (ar : Nat) (ak : Nat) (aw : Nat) (att : Nat) (ass : Nat) (fal : Nat → Int32) (fao : Nat → Int32) (Qa : Nat) (an : Nat) (La : Nat → Int32) (ff : Nat → Int32) (p0 : Int32) (p1 : Int32) (hP0 : Pa ≤ 10) (hQa : Qa ≤ 10) : Met l yX8_longer (Cond.code yX8_longer cX8_longer 5 (some .int) :: wsU) ({ frames := 5, cells := 0, slots := 0, locals := 108 }) (va_Pc [.ref h0, .int p0, .int p1] (XW D (xT cI cJ cZ cS) ta sa sv [(h0, .inr (8, [.ref qh, .ref qk, .ref qd, .int b0, .ref qa, .ref qm, .ref qs, .ref qp, .ref ql, .ref qt, .ref qz, .ref qf])), (qh, .inr (1, [.int (nI (Pa)), .ref ae, .ref al, .ref au, .ref ao, .ref ar, .ref ak, .ref aw, .ref att, .ref ass])), (al, .inl (cI, 100, .inl fal)), (ao, .inl (cI, 100, .inl fao)), (qa, .inr (0, [.int (nI (Qa)), .ref an])), (an, .inl (cI, 100, .inl La)), (qf, .inl (cI, 7, .inl ff))] sz)) (XQi (fun (r : Int32) (u : Nat × (Nat → Int32) × (Nat → Int32)) => match u with | (Q2, L2, f2) => (True) ∧ (Q2 ≤ 10)) D (fun (u : Nat × (Nat → Int32) × (Nat → Int32)) => match u with | (Q2, L2, f2) => [(h0, .inr (8, [.ref qh, .ref qk, .ref qd, .int b0, .ref qa, .ref qm, .ref qs, .ref qp, .ref ql, .ref qt, .ref qz, .ref qf])), (qh, .inr (1, [.int (nI (Pa)), .ref ae, .ref al, .ref au, .ref ao, .ref ar, .ref ak, .ref aw, .ref att, .ref ass])), (al, .inl (cI, 100, .inl fal)), (ao, .inl (cI, 100, .inl fao)), (qa, .inr (0, [.int (nI (Q2)), .ref an])), (an, .inl (cI, 100, .inl L2)), (qf, .inl (cI, 7, .inl f2))]) (va_A [(h0, .inr (8, [.ref qh, .ref qk, .ref qd, .int b0, .ref qa, .ref qm, .ref qs, .ref qp, .ref ql, .ref qt, .ref qz, .ref qf])), (qh, .inr (1, [.int (nI (Pa)), .ref ae, .ref al, .ref au, .ref ao, .ref ar, .ref ak, .ref aw, .ref att, .ref ass])), (al, .inl (cI, 100, .inl fal)), (ao, .inl (cI, 100, .inl fao)), (qa, .inr (0, [.int (nI (Qa)), .ref an])), (an, .inl (cI, 100, .inl La)), (qf, .inl (cI, 7, .inl ff))] sz)) 0 0 (va_A [(h0, .inr (8, [.ref qh, .ref qk, .ref qd, .int b0, .ref qa, .ref qm, .ref qs, .ref qp, .ref ql, .ref qt, .ref qz, .ref qf])), (qh, .inr (1, [.int (nI (Pa)), .ref ae, .ref al, .ref au, .ref ao, .ref ar, .ref ak, .ref aw, .ref att, .ref ass])), (al, .inl (cI, 100, .inl fal)), (ao, .inl (cI, 100, .inl fao)), (qa, .inr (0, [.int (nI (Qa)), .ref an])), (an, .inl (cI, 100, .inl La)), (qf, .inl (cI, 7, .inl ff))] sz) := by
  refine xh (QA := fun A => XQi (fun (r : Int32) (u : Nat × (Nat → Int32) × (Nat → Int32)) => match u with | (Q2, L2, f2) => (True) ∧ (Q2 ≤ 10)) D (fun (u : Nat × (Nat → Int32) × (Nat → Int32)) => match u with | (Q2, L2, f2) => [(h0, .inr (8, [.ref qh, .ref qk, .ref qd, .int b0, .ref qa, .ref qm, .ref qs, .ref qp, .ref ql, .ref qt, .ref qz, .ref qf])), (qh, .inr (1, [.int (nI (Pa)), .ref ae, .ref al, .ref au, .ref ao, .ref ar, .ref ak, .ref aw, .ref att, .ref ass])), (al, .inl (cI, 100, .inl fal)), (ao, .inl (cI, 100, .inl fao)), (qa, .inr (0, [.int (nI (Q2)), .ref an])), (an, .inl (cI, 100, .inl L2)), (qf, .inl (cI, 7, .inl f2))]) A) (fr := fun A => A) (by decide) (Nat.le_of_ble_eq_true rfl) ?_
  intro p e s m below meth c ls A hF hr hlk hin hsz hP hK hD hN hZ hA hS hl
  have hF : CallFix p m c cX8_longer 5 s _ _ RX8 := hF
  have hx := hF.1
  have hb := hF.2.1
  have hml := hF.2.2.1
  have hown := hF.2.2.2.1
  have hu : ∀ w ∈ wsU, w.before _ s = true := fun w h => hF.2.2.2.2 w (List.mem_cons_of_mem _ h)
  have hl : lv_has ls 5 [(0, .ref h0), (1, .int p0), (2, .int p1)] := hl
  refine lv_aload_n hx hb dX8_longer_0 rfl (lv_at hl 0 rfl) ?_
  refine xg hF kf_X8_12 hK hP 0 rfl rfl dX8_longer_1 ?_
  refine lv_iload_n hx hb dX8_longer_4 rfl (lv_at hl 1 rfl) ?_
  refine lv_i2l (v := p0.toInt64) hx hb dX8_longer_5 rfl ?_
  refine xc_Vr hF (c_X1_isPlace l D cI cJ cZ cS ta sa sv s.heap.size qh ae al au ao ar ak aw att ass Pa p0 (by omega)) kv_X8_87 ⟨rfl, rfl, Nat.le_of_ble_eq_true rfl, Nat.le_of_ble_eq_true rfl⟩ ⟨Nat.le_of_ble_eq_true rfl, Nat.le_of_ble_eq_true rfl⟩ hK hN hZ hP hD hS hA [1] rfl rfl 0 rfl rfl rfl rfl hl.1 rfl (Nat.le_of_ble_eq_true rfl) dX8_longer_6 (fun r_1 hw_r_1 => ?_)
  rcases hw_r_1 with ⟨k_2, rfl, rfl, h_4⟩ | ⟨rfl, h_5⟩
  · skip
    refine lv_if_eq (tgt := 24) hx hb dX8_longer_9 (by decide) (fun c_6 => absurd c_6 (by decide)) (fun c_6 => ?_)
    refine lv_aload_n hx hb dX8_longer_12 rfl (lv_at hl 0 rfl) ?_
    refine xg hF kf_X8_12 hK hP 0 rfl rfl dX8_longer_13 ?_
    refine lv_iload_n hx hb dX8_longer_16 rfl (lv_at hl 2 rfl) ?_
    refine lv_i2l (v := p1.toInt64) hx hb dX8_longer_17 rfl ?_
    refine xc_Vr hF (c_X1_isPlace l D cI cJ cZ cS ta sa sv s.heap.size qh ae al au ao ar ak aw att ass Pa p1 (by omega)) kv_X8_87 ⟨rfl, rfl, Nat.le_of_ble_eq_true rfl, Nat.le_of_ble_eq_true rfl⟩ ⟨Nat.le_of_ble_eq_true rfl, Nat.le_of_ble_eq_true rfl⟩ hK hN hZ hP hD hS hA [1] rfl rfl 0 rfl rfl rfl rfl hl.1 rfl (Nat.le_of_ble_eq_true rfl) dX8_longer_18 (fun r_7 hw_r_7 => ?_)
    rcases hw_r_7 with ⟨k_8, rfl, rfl, h_10⟩ | ⟨rfl, h_11⟩
    · skip
      refine lv_if_ne (tgt := 31) hx hb dX8_longer_21 (by decide) (fun c_12 => ?_) (fun c_12 => absurd c_12 (by decide))
      refine lv_aload_n hx hb dX8_longer_31 rfl (lv_at hl 0 rfl) ?_
      refine xc_Vi (wr := [(qf, .inl (cI, 7, .inl ff))]) hF (c_X8_isLooped l D cI cJ cZ cS ta sa sv s.heap.size h0 qh qk qd b0 qa qm qs qp ql qt qz qf Pa ae al au ao ar ak aw att ass fal fao Qa an La (by omega)) kv_X8_128 ⟨rfl, rfl, Nat.le_of_ble_eq_true rfl, Nat.le_of_ble_eq_true rfl⟩ ⟨Nat.le_of_ble_eq_true rfl, Nat.le_of_ble_eq_true rfl⟩ hK hN hZ hP hD hS hA [0, 1, 2, 3, 4, 5] [6] rfl rfl (by decide +kernel) rfl (by decide +kernel) 0 rfl rfl rfl rfl hl.1 rfl (Nat.le_of_ble_eq_true rfl) dX8_longer_32 (fun r_13 u_r_13 H locs hw_r_13 hP hD hS => ?_)
      obtain ⟨L2_14, rfl⟩ : ∃ z, z = u_r_13 := ⟨_, rfl⟩
      try dsimp only at hw_r_13
      have hP : va_P D vwCl [(qf, .inl (cI, 7, .inl ff)), (h0, .inr (8, [.ref qh, .ref qk, .ref qd, .int b0, .ref qa, .ref qm, .ref qs, .ref qp, .ref ql, .ref qt, .ref qz, .ref qf])), (qh, .inr (1, [.int (nI (Pa)), .ref ae, .ref al, .ref au, .ref ao, .ref ar, .ref ak, .ref aw, .ref att, .ref ass])), (al, .inl (cI, 100, .inl fal)), (ao, .inl (cI, 100, .inl fao)), (qa, .inr (0, [.int (nI (Pa)), .ref an])), (an, .inl (cI, 100, .inl L2_14))] H := hP
      have hD : va_D A [(qf, .inl (cI, 7, .inl ff)), (h0, .inr (8, [.ref qh, .ref qk, .ref qd, .int b0, .ref qa, .ref qm, .ref qs, .ref qp, .ref ql, .ref qt, .ref qz, .ref qf])), (qh, .inr (1, [.int (nI (Pa)), .ref ae, .ref al, .ref au, .ref ao, .ref ar, .ref ak, .ref aw, .ref att, .ref ass])), (al, .inl (cI, 100, .inl fal)), (ao, .inl (cI, 100, .inl fao)), (qa, .inr (0, [.int (nI (Pa)), .ref an])), (an, .inl (cI, 100, .inl L2_14))] := hD
      rcases hw_r_13 with rfl | rfl
      · skip
        refine lv_if_eq (tgt := 45) hx hb dX8_longer_35 (by decide) (fun c_15 => absurd c_15 (by decide)) (fun c_15 => ?_)
        refine lv_aload_n hx hb dX8_longer_38 rfl (lv_at hl 0 rfl) ?_
        refine lv_ldc (v := (-1000000005)) hx hb hown (hu _ uw452) dX8_longer_39 ?_
        refine xc_Vi (wr := [(qh, .inr (1, [.int (nI (Pa)), .ref ae, .ref al, .ref au, .ref ao, .ref ar, .ref ak, .ref aw, .ref att, .ref ass])), (al, .inl (cI, 100, .inl fal)), (ao, .inl (cI, 100, .inl fao)), (qa, .inr (0, [.int (nI (Pa)), .ref an])), (an, .inl (cI, 100, .inl L2_14))]) hF (c_X8_finding_T l D cI cJ cZ cS ta sa sv H.size h0 qh qk qd b0 qa qm qs qp ql qt qz qf ff ) kv_X8_80 ⟨rfl, rfl, Nat.le_of_ble_eq_true rfl, Nat.le_of_ble_eq_true rfl⟩ ⟨Nat.le_of_ble_eq_true rfl, Nat.le_of_ble_eq_true rfl⟩ hK hN hZ hP hD hS hA [1, 0] [2, 3, 4, 5, 6] rfl rfl rfl (by decide +kernel) (by decide +kernel) 0 rfl rfl rfl rfl hl.1 rfl (Nat.le_of_ble_eq_true rfl) dX8_longer_41 (fun r_16 u_r_16 H locs hw_r_16 hP hD hS => ?_)
        obtain ⟨f2_17, rfl⟩ : ∃ z, z = u_r_16 := ⟨_, rfl⟩
        try dsimp only at hw_r_16
        have hP : va_P D vwCl [(qh, .inr (1, [.int (nI (Pa)), .ref ae, .ref al, .ref au, .ref ao, .ref ar, .ref ak, .ref aw, .ref att, .ref ass])), (al, .inl (cI, 100, .inl fal)), (ao, .inl (cI, 100, .inl fao)), (qa, .inr (0, [.int (nI (Pa)), .ref an])), (an, .inl (cI, 100, .inl L2_14)), (h0, .inr (8, [.ref qh, .ref qk, .ref qd, .int b0, .ref qa, .ref qm, .ref qs, .ref qp, .ref ql, .ref qt, .ref qz, .ref qf])), (qf, .inl (cI, 7, .inl f2_17))] H := hP
        have hD : va_D A [(qh, .inr (1, [.int (nI (Pa)), .ref ae, .ref al, .ref au, .ref ao, .ref ar, .ref ak, .ref aw, .ref att, .ref ass])), (al, .inl (cI, 100, .inl fal)), (ao, .inl (cI, 100, .inl fao)), (qa, .inr (0, [.int (nI (Pa)), .ref an])), (an, .inl (cI, 100, .inl L2_14)), (h0, .inr (8, [.ref qh, .ref qk, .ref qd, .int b0, .ref qa, .ref qm, .ref qs, .ref qp, .ref ql, .ref qt, .ref qz, .ref qf])), (qf, .inl (cI, 7, .inl f2_17))] := hD
        subst hw_r_16
        exact W.iret (v := (-1000000005)) hx hb hr (fun t ht hW => ⟨⟨(-1000000005), (Pa, L2_14, f2_17), rfl, ⟨trivial, (by first | assumption | omega)⟩, by rw [ht]; exact hP.sub [5, 0, 1, 2, 3, 4, 6] rfl, hD.sub [5, 0, 1, 2, 3, 4, 6] (by decide +kernel) rfl⟩, hS.F ht⟩) hS.2.2 dX8_longer_44 hlk
      · skip
        refine lv_if_eq (tgt := 45) hx hb dX8_longer_35 (by decide) (fun c_18 => ?_) (fun c_18 => absurd (by decide) c_18)
        refine lv_aload_n hx hb dX8_longer_45 rfl (lv_at hl 0 rfl) ?_
        refine xg hF kf_X8_29 hK hP 1 rfl rfl dX8_longer_46 ?_
        refine lv_iload_n hx hb dX8_longer_49 rfl (lv_at hl 1 rfl) ?_
        refine lv_iload_n hx hb dX8_longer_50 rfl (lv_at hl 2 rfl) ?_
        refine xc_Vr hF (c_X0_farOf l D cI cJ cZ cS ta sa sv H.size qa an Pa L2_14 k_2 k_8 (by omega) (by omega)) kv_X8_133 ⟨rfl, rfl, Nat.le_of_ble_eq_true rfl, Nat.le_of_ble_eq_true rfl⟩ ⟨Nat.le_of_ble_eq_true rfl, Nat.le_of_ble_eq_true rfl⟩ hK hN hZ hP hD hS hA [5, 6] rfl rfl 0 rfl rfl rfl rfl hl.1 rfl (Nat.le_of_ble_eq_true rfl) dX8_longer_51 (fun r_19 hw_r_19 => ?_)
        refine lv_istore_n (lv' := [(3, .int r_19), (0, .ref h0), (1, .int (nI (k_2))), (2, .int (nI (k_8)))]) hx hb dX8_longer_54 rfl hl (by decide) rfl (fun ls hl => ?_)
        refine lv_aload_n hx hb dX8_longer_55 rfl (lv_at hl 1 rfl) ?_
        refine xg hF kf_X8_29 hK hP 1 rfl rfl dX8_longer_56 ?_
        refine lv_iload_n hx hb dX8_longer_59 rfl (lv_at hl 3 rfl) ?_
        refine lv_iload_n hx hb dX8_longer_60 rfl (lv_at hl 2 rfl) ?_
        refine xc_Vr hF (c_X0_farOf l D cI cJ cZ cS ta sa sv H.size qa an Pa L2_14 k_8 k_2 (by omega) (by omega)) kv_X8_133 ⟨rfl, rfl, Nat.le_of_ble_eq_true rfl, Nat.le_of_ble_eq_true rfl⟩ ⟨Nat.le_of_ble_eq_true rfl, Nat.le_of_ble_eq_true rfl⟩ hK hN hZ hP hD hS hA [5, 6] rfl rfl 0 rfl rfl rfl rfl hl.1 rfl (Nat.le_of_ble_eq_true rfl) dX8_longer_61 (fun r_20 hw_r_20 => ?_)
        refine lv_istore (lv' := [(4, .int r_20), (3, .int r_19), (0, .ref h0), (1, .int (nI (k_2))), (2, .int (nI (k_8)))]) hx hb dX8_longer_64 hl (by decide) rfl (fun ls hl => ?_)
        refine lv_iload_n hx hb dX8_longer_66 rfl (lv_at hl 1 rfl) ?_
        refine lv_ldc (v := 1000000000) hx hb hown (hu _ uw4) dX8_longer_67 ?_
        refine lv_icmp_eq (tgt := 79) hx hb dX8_longer_69 (by decide) (fun c_21 => ?_) (fun c_21 => ?_)
        · skip
          refine lv_aload_n hx hb dX8_longer_79 rfl (lv_at hl 2 rfl) ?_
          refine lv_ldc (v := (-1000000004)) hx hb hown (hu _ uw410) dX8_longer_80 ?_
          refine xc_Vi (wr := [(qh, .inr (1, [.int (nI (Pa)), .ref ae, .ref al, .ref au, .ref ao, .ref ar, .ref ak, .ref aw, .ref att, .ref ass])), (al, .inl (cI, 100, .inl fal)), (ao, .inl (cI, 100, .inl fao)), (qa, .inr (0, [.int (nI (Pa)), .ref an])), (an, .inl (cI, 100, .inl L2_14))]) hF (c_X8_finding_N l D cI cJ cZ cS ta sa sv H.size h0 qh qk qd b0 qa qm qs qp ql qt qz qf ff ) kv_X8_80 ⟨rfl, rfl, Nat.le_of_ble_eq_true rfl, Nat.le_of_ble_eq_true rfl⟩ ⟨Nat.le_of_ble_eq_true rfl, Nat.le_of_ble_eq_true rfl⟩ hK hN hZ hP hD hS hA [1, 0] [2, 3, 4, 5, 6] rfl rfl rfl (by decide +kernel) (by decide +kernel) 0 rfl rfl rfl rfl hl.1 rfl (Nat.le_of_ble_eq_true rfl) dX8_longer_82 (fun r_22 u_r_22 H locs hw_r_22 hP hD hS => ?_)
          obtain ⟨f2_23, rfl⟩ : ∃ z, z = u_r_22 := ⟨_, rfl⟩
          try dsimp only at hw_r_22
          have hP : va_P D vwCl [(qh, .inr (1, [.int (nI (Pa)), .ref ae, .ref al, .ref au, .ref ao, .ref ar, .ref ak, .ref aw, .ref att, .ref ass])), (al, .inl (cI, 100, .inl fal)), (ao, .inl (cI, 100, .inl fao)), (qa, .inr (0, [.int (nI (Pa)), .ref an])), (an, .inl (cI, 100, .inl L2_14)), (h0, .inr (8, [.ref qh, .ref qk, .ref qd, .int b0, .ref qa, .ref qm, .ref qs, .ref qp, .ref ql, .ref qt, .ref qz, .ref qf])), (qf, .inl (cI, 7, .inl f2_23))] H := hP
          have hD : va_D A [(qh, .inr (1, [.int (nI (Pa)), .ref ae, .ref al, .ref au, .ref ao, .ref ar, .ref ak, .ref aw, .ref att, .ref ass])), (al, .inl (cI, 100, .inl fal)), (ao, .inl (cI, 100, .inl fao)), (qa, .inr (0, [.int (nI (Pa)), .ref an])), (an, .inl (cI, 100, .inl L2_14)), (h0, .inr (8, [.ref qh, .ref qk, .ref qd, .int b0, .ref qa, .ref qm, .ref qs, .ref qp, .ref ql, .ref qt, .ref qz, .ref qf])), (qf, .inl (cI, 7, .inl f2_23))] := hD
          subst hw_r_22
          exact W.iret (v := (-1000000004)) hx hb hr (fun t ht hW => ⟨⟨(-1000000004), (Pa, L2_14, f2_23), rfl, ⟨trivial, (by first | assumption | omega)⟩, by rw [ht]; exact hP.sub [5, 0, 1, 2, 3, 4, 6] rfl, hD.sub [5, 0, 1, 2, 3, 4, 6] (by decide +kernel) rfl⟩, hS.F ht⟩) hS.2.2 dX8_longer_85 hlk
        · skip
          refine lv_iload hx hb dX8_longer_72 (lv_at hl 0 rfl) ?_
          refine lv_ldc (v := 1000000000) hx hb hown (hu _ uw4) dX8_longer_74 ?_
          refine lv_icmp_ne (tgt := 86) hx hb dX8_longer_76 (by decide) (fun c_24 => ?_) (fun c_24 => ?_)
          · skip
            refine lv_iload_n hx hb dX8_longer_86 rfl (lv_at hl 1 rfl) ?_
            refine lv_iload hx hb dX8_longer_87 (lv_at hl 0 rfl) ?_
            refine lv_isub hx hb dX8_longer_89 ?_
            refine lv_topi (fun x_25 ex_25 => ?_)
            exact W.iret (v := x_25) hx hb hr (fun t ht hW => ⟨⟨x_25, (Pa, L2_14, ff), rfl, ⟨trivial, (by first | assumption | omega)⟩, by rw [ht]; exact hP.sub [1, 2, 3, 4, 5, 6, 0] rfl, hD.sub [1, 2, 3, 4, 5, 6, 0] (by decide +kernel) rfl⟩, hS.F ht⟩) hS.2.2 dX8_longer_90 hlk
          · skip
            refine lv_aload_n hx hb dX8_longer_79 rfl (lv_at hl 2 rfl) ?_
            refine lv_ldc (v := (-1000000004)) hx hb hown (hu _ uw410) dX8_longer_80 ?_
            refine xc_Vi (wr := [(qh, .inr (1, [.int (nI (Pa)), .ref ae, .ref al, .ref au, .ref ao, .ref ar, .ref ak, .ref aw, .ref att, .ref ass])), (al, .inl (cI, 100, .inl fal)), (ao, .inl (cI, 100, .inl fao)), (qa, .inr (0, [.int (nI (Pa)), .ref an])), (an, .inl (cI, 100, .inl L2_14))]) hF (c_X8_finding_N l D cI cJ cZ cS ta sa sv H.size h0 qh qk qd b0 qa qm qs qp ql qt qz qf ff ) kv_X8_80 ⟨rfl, rfl, Nat.le_of_ble_eq_true rfl, Nat.le_of_ble_eq_true rfl⟩ ⟨Nat.le_of_ble_eq_true rfl, Nat.le_of_ble_eq_true rfl⟩ hK hN hZ hP hD hS hA [1, 0] [2, 3, 4, 5, 6] rfl rfl rfl (by decide +kernel) (by decide +kernel) 0 rfl rfl rfl rfl hl.1 rfl (Nat.le_of_ble_eq_true rfl) dX8_longer_82 (fun r_26 u_r_26 H locs hw_r_26 hP hD hS => ?_)
            obtain ⟨f2_27, rfl⟩ : ∃ z, z = u_r_26 := ⟨_, rfl⟩
            try dsimp only at hw_r_26
            have hP : va_P D vwCl [(qh, .inr (1, [.int (nI (Pa)), .ref ae, .ref al, .ref au, .ref ao, .ref ar, .ref ak, .ref aw, .ref att, .ref ass])), (al, .inl (cI, 100, .inl fal)), (ao, .inl (cI, 100, .inl fao)), (qa, .inr (0, [.int (nI (Pa)), .ref an])), (an, .inl (cI, 100, .inl L2_14)), (h0, .inr (8, [.ref qh, .ref qk, .ref qd, .int b0, .ref qa, .ref qm, .ref qs, .ref qp, .ref ql, .ref qt, .ref qz, .ref qf])), (qf, .inl (cI, 7, .inl f2_27))] H := hP
            have hD : va_D A [(qh, .inr (1, [.int (nI (Pa)), .ref ae, .ref al, .ref au, .ref ao, .ref ar, .ref ak, .ref aw, .ref att, .ref ass])), (al, .inl (cI, 100, .inl fal)), (ao, .inl (cI, 100, .inl fao)), (qa, .inr (0, [.int (nI (Pa)), .ref an])), (an, .inl (cI, 100, .inl L2_14)), (h0, .inr (8, [.ref qh, .ref qk, .ref qd, .int b0, .ref qa, .ref qm, .ref qs, .ref qp, .ref ql, .ref qt, .ref qz, .ref qf])), (qf, .inl (cI, 7, .inl f2_27))] := hD
            subst hw_r_26
            exact W.iret (v := (-1000000004)) hx hb hr (fun t ht hW => ⟨⟨(-1000000004), (Pa, L2_14, f2_27), rfl, ⟨trivial, (by first | assumption | omega)⟩, by rw [ht]; exact hP.sub [5, 0, 1, 2, 3, 4, 6] rfl, hD.sub [5, 0, 1, 2, 3, 4, 6] (by decide +kernel) rfl⟩, hS.F ht⟩) hS.2.2 dX8_longer_85 hlk
    · skip
      refine lv_if_ne (tgt := 31) hx hb dX8_longer_21 (by decide) (fun c_28 => absurd (by decide) c_28) (fun c_28 => ?_)
      refine lv_aload_n hx hb dX8_longer_24 rfl (lv_at hl 0 rfl) ?_
      refine lv_ldc (v := (-1000000001)) hx hb hown (hu _ uw396) dX8_longer_25 ?_
      refine xc_Vi (wr := [(qh, .inr (1, [.int (nI (Pa)), .ref ae, .ref al, .ref au, .ref ao, .ref ar, .ref ak, .ref aw, .ref att, .ref ass])), (al, .inl (cI, 100, .inl fal)), (ao, .inl (cI, 100, .inl fao)), (qa, .inr (0, [.int (nI (Qa)), .ref an])), (an, .inl (cI, 100, .inl La))]) hF (c_X8_finding_B l D cI cJ cZ cS ta sa sv s.heap.size h0 qh qk qd b0 qa qm qs qp ql qt qz qf ff ) kv_X8_80 ⟨rfl, rfl, Nat.le_of_ble_eq_true rfl, Nat.le_of_ble_eq_true rfl⟩ ⟨Nat.le_of_ble_eq_true rfl, Nat.le_of_ble_eq_true rfl⟩ hK hN hZ hP hD hS hA [0, 6] [1, 2, 3, 4, 5] rfl rfl rfl (by decide +kernel) (by decide +kernel) 0 rfl rfl rfl rfl hl.1 rfl (Nat.le_of_ble_eq_true rfl) dX8_longer_27 (fun r_29 u_r_29 H locs hw_r_29 hP hD hS => ?_)
      obtain ⟨f2_30, rfl⟩ : ∃ z, z = u_r_29 := ⟨_, rfl⟩
      try dsimp only at hw_r_29
      have hP : va_P D vwCl [(qh, .inr (1, [.int (nI (Pa)), .ref ae, .ref al, .ref au, .ref ao, .ref ar, .ref ak, .ref aw, .ref att, .ref ass])), (al, .inl (cI, 100, .inl fal)), (ao, .inl (cI, 100, .inl fao)), (qa, .inr (0, [.int (nI (Qa)), .ref an])), (an, .inl (cI, 100, .inl La)), (h0, .inr (8, [.ref qh, .ref qk, .ref qd, .int b0, .ref qa, .ref qm, .ref qs, .ref qp, .ref ql, .ref qt, .ref qz, .ref qf])), (qf, .inl (cI, 7, .inl f2_30))] H := hP
      have hD : va_D A [(qh, .inr (1, [.int (nI (Pa)), .ref ae, .ref al, .ref au, .ref ao, .ref ar, .ref ak, .ref aw, .ref att, .ref ass])), (al, .inl (cI, 100, .inl fal)), (ao, .inl (cI, 100, .inl fao)), (qa, .inr (0, [.int (nI (Qa)), .ref an])), (an, .inl (cI, 100, .inl La)), (h0, .inr (8, [.ref qh, .ref qk, .ref qd, .int b0, .ref qa, .ref qm, .ref qs, .ref qp, .ref ql, .ref qt, .ref qz, .ref qf])), (qf, .inl (cI, 7, .inl f2_30))] := hD
      subst hw_r_29
      exact W.iret (v := (-1000000001)) hx hb hr (fun t ht hW => ⟨⟨(-1000000001), (Qa, La, f2_30), rfl, ⟨trivial, (by first | assumption | omega)⟩, by rw [ht]; exact hP.sub [5, 0, 1, 2, 3, 4, 6] rfl, hD.sub [5, 0, 1, 2, 3, 4, 6] (by decide +kernel) rfl⟩, hS.F ht⟩) hS.2.2 dX8_longer_30 hlk
  · skip
    refine lv_if_eq (tgt := 24) hx hb dX8_longer_9 (by decide) (fun c_31 => ?_) (fun c_31 => absurd (by decide) c_31)
    refine lv_aload_n hx hb dX8_longer_24 rfl (lv_at hl 0 rfl) ?_
    refine lv_ldc (v := (-1000000001)) hx hb hown (hu _ uw396) dX8_longer_25 ?_
    refine xc_Vi (wr := [(qh, .inr (1, [.int (nI (Pa)), .ref ae, .ref al, .ref au, .ref ao, .ref ar, .ref ak, .ref aw, .ref att, .ref ass])), (al, .inl (cI, 100, .inl fal)), (ao, .inl (cI, 100, .inl fao)), (qa, .inr (0, [.int (nI (Qa)), .ref an])), (an, .inl (cI, 100, .inl La))]) hF (c_X8_finding_B l D cI cJ cZ cS ta sa sv s.heap.size h0 qh qk qd b0 qa qm qs qp ql qt qz qf ff ) kv_X8_80 ⟨rfl, rfl, Nat.le_of_ble_eq_true rfl, Nat.le_of_ble_eq_true rfl⟩ ⟨Nat.le_of_ble_eq_true rfl, Nat.le_of_ble_eq_true rfl⟩ hK hN hZ hP hD hS hA [0, 6] [1, 2, 3, 4, 5] rfl rfl rfl (by decide +kernel) (by decide +kernel) 0 rfl rfl rfl rfl hl.1 rfl (Nat.le_of_ble_eq_true rfl) dX8_longer_27 (fun r_32 u_r_32 H locs hw_r_32 hP hD hS => ?_)
    obtain ⟨f2_33, rfl⟩ : ∃ z, z = u_r_32 := ⟨_, rfl⟩
    try dsimp only at hw_r_32
    have hP : va_P D vwCl [(qh, .inr (1, [.int (nI (Pa)), .ref ae, .ref al, .ref au, .ref ao, .ref ar, .ref ak, .ref aw, .ref att, .ref ass])), (al, .inl (cI, 100, .inl fal)), (ao, .inl (cI, 100, .inl fao)), (qa, .inr (0, [.int (nI (Qa)), .ref an])), (an, .inl (cI, 100, .inl La)), (h0, .inr (8, [.ref qh, .ref qk, .ref qd, .int b0, .ref qa, .ref qm, .ref qs, .ref qp, .ref ql, .ref qt, .ref qz, .ref qf])), (qf, .inl (cI, 7, .inl f2_33))] H := hP
    have hD : va_D A [(qh, .inr (1, [.int (nI (Pa)), .ref ae, .ref al, .ref au, .ref ao, .ref ar, .ref ak, .ref aw, .ref att, .ref ass])), (al, .inl (cI, 100, .inl fal)), (ao, .inl (cI, 100, .inl fao)), (qa, .inr (0, [.int (nI (Qa)), .ref an])), (an, .inl (cI, 100, .inl La)), (h0, .inr (8, [.ref qh, .ref qk, .ref qd, .int b0, .ref qa, .ref qm, .ref qs, .ref qp, .ref ql, .ref qt, .ref qz, .ref qf])), (qf, .inl (cI, 7, .inl f2_33))] := hD
    subst hw_r_32
    exact W.iret (v := (-1000000001)) hx hb hr (fun t ht hW => ⟨⟨(-1000000001), (Qa, La, f2_33), rfl, ⟨trivial, (by first | assumption | omega)⟩, by rw [ht]; exact hP.sub [5, 0, 1, 2, 3, 4, 6] rfl, hD.sub [5, 0, 1, 2, 3, 4, 6] (by decide +kernel) rfl⟩, hS.F ht⟩) hS.2.2 dX8_longer_30 hlk
set_option maxHeartbeats 4000000 in
set_option maxRecDepth 100000 in
theorem c_X8_trip (l : Launch) (D : va_G) (cI cJ cZ cS : ClassId) (ta : Nat) (sa sv : Nat → Nat) (sz : Nat) (h0 : Nat) (qh : Nat) (qk : Nat) (qd : Nat) (b0 : Int32) (qa : Nat) (qm : Nat) (qs : Nat) (qp : Nat) (ql : Nat) (qt : Nat) (qz : Nat) (qf : Nat) (Pa : Nat) (ae : Nat) (al : Nat) (au : Nat) (ao : Nat) (ar : Nat) (ak : Nat) (aw : Nat) (att : Nat) (ass : Nat) (fae : Nat → Int32) (fal : Nat → Int32) (fao : Nat → Int32) (Qa : Nat) (an : Nat) (La : Nat → Int32) (ff : Nat → Int32) (p0 : Int32) (hP0 : Pa ≤ 10) (hQa : Qa ≤ 10) : Met l yX8_trip (Cond.code yX8_trip cX8_trip 2 (some .int) :: wsU) ({ frames := 5, cells := 0, slots := 0, locals := 108 }) (va_Pc [.ref h0, .int p0] (XW D (xT cI cJ cZ cS) ta sa sv [(h0, .inr (8, [.ref qh, .ref qk, .ref qd, .int b0, .ref qa, .ref qm, .ref qs, .ref qp, .ref ql, .ref qt, .ref qz, .ref qf])), (qh, .inr (1, [.int (nI (Pa)), .ref ae, .ref al, .ref au, .ref ao, .ref ar, .ref ak, .ref aw, .ref att, .ref ass])), (ae, .inl (cI, 10, .inl fae)), (al, .inl (cI, 100, .inl fal)), (ao, .inl (cI, 100, .inl fao)), (qa, .inr (0, [.int (nI (Qa)), .ref an])), (an, .inl (cI, 100, .inl La)), (qf, .inl (cI, 7, .inl ff))] sz)) (XQi (fun (r : Int32) (u : Nat × (Nat → Int32) × (Nat → Int32)) => match u with | (Q2, L2, f2) => (True) ∧ (Q2 ≤ 10)) D (fun (u : Nat × (Nat → Int32) × (Nat → Int32)) => match u with | (Q2, L2, f2) => [(h0, .inr (8, [.ref qh, .ref qk, .ref qd, .int b0, .ref qa, .ref qm, .ref qs, .ref qp, .ref ql, .ref qt, .ref qz, .ref qf])), (qh, .inr (1, [.int (nI (Pa)), .ref ae, .ref al, .ref au, .ref ao, .ref ar, .ref ak, .ref aw, .ref att, .ref ass])), (ae, .inl (cI, 10, .inl fae)), (al, .inl (cI, 100, .inl fal)), (ao, .inl (cI, 100, .inl fao)), (qa, .inr (0, [.int (nI (Q2)), .ref an])), (an, .inl (cI, 100, .inl L2)), (qf, .inl (cI, 7, .inl f2))]) (va_A [(h0, .inr (8, [.ref qh, .ref qk, .ref qd, .int b0, .ref qa, .ref qm, .ref qs, .ref qp, .ref ql, .ref qt, .ref qz, .ref qf])), (qh, .inr (1, [.int (nI (Pa)), .ref ae, .ref al, .ref au, .ref ao, .ref ar, .ref ak, .ref aw, .ref att, .ref ass])), (ae, .inl (cI, 10, .inl fae)), (al, .inl (cI, 100, .inl fal)), (ao, .inl (cI, 100, .inl fao)), (qa, .inr (0, [.int (nI (Qa)), .ref an])), (an, .inl (cI, 100, .inl La)), (qf, .inl (cI, 7, .inl ff))] sz)) 0 0 (va_A [(h0, .inr (8, [.ref qh, .ref qk, .ref qd, .int b0, .ref qa, .ref qm, .ref qs, .ref qp, .ref ql, .ref qt, .ref qz, .ref qf])), (qh, .inr (1, [.int (nI (Pa)), .ref ae, .ref al, .ref au, .ref ao, .ref ar, .ref ak, .ref aw, .ref att, .ref ass])), (ae, .inl (cI, 10, .inl fae)), (al, .inl (cI, 100, .inl fal)), (ao, .inl (cI, 100, .inl fao)), (qa, .inr (0, [.int (nI (Qa)), .ref an])), (an, .inl (cI, 100, .inl La)), (qf, .inl (cI, 7, .inl ff))] sz) := by
  refine xh (QA := fun A => XQi (fun (r : Int32) (u : Nat × (Nat → Int32) × (Nat → Int32)) => match u with | (Q2, L2, f2) => (True) ∧ (Q2 ≤ 10)) D (fun (u : Nat × (Nat → Int32) × (Nat → Int32)) => match u with | (Q2, L2, f2) => [(h0, .inr (8, [.ref qh, .ref qk, .ref qd, .int b0, .ref qa, .ref qm, .ref qs, .ref qp, .ref ql, .ref qt, .ref qz, .ref qf])), (qh, .inr (1, [.int (nI (Pa)), .ref ae, .ref al, .ref au, .ref ao, .ref ar, .ref ak, .ref aw, .ref att, .ref ass])), (ae, .inl (cI, 10, .inl fae)), (al, .inl (cI, 100, .inl fal)), (ao, .inl (cI, 100, .inl fao)), (qa, .inr (0, [.int (nI (Q2)), .ref an])), (an, .inl (cI, 100, .inl L2)), (qf, .inl (cI, 7, .inl f2))]) A) (fr := fun A => A) (by decide) (Nat.le_of_ble_eq_true rfl) ?_
  intro p e s m below meth c ls A hF hr hlk hin hsz hP hK hD hN hZ hA hS hl
  have hF : CallFix p m c cX8_trip 2 s _ _ RX8 := hF
  have hx := hF.1
  have hb := hF.2.1
  have hml := hF.2.2.1
  have hown := hF.2.2.2.1
  have hu : ∀ w ∈ wsU, w.before _ s = true := fun w h => hF.2.2.2.2 w (List.mem_cons_of_mem _ h)
  have hl : lv_has ls 2 [(0, .ref h0), (1, .int p0)] := hl
  refine lv_aload_n hx hb dX8_trip_0 rfl (lv_at hl 0 rfl) ?_
  refine xg hF kf_X8_12 hK hP 0 rfl rfl dX8_trip_1 ?_
  refine lv_iload_n hx hb dX8_trip_4 rfl (lv_at hl 1 rfl) ?_
  refine lv_i2l (v := p0.toInt64) hx hb dX8_trip_5 rfl ?_
  refine xc_Vr hF (c_X1_isPlace l D cI cJ cZ cS ta sa sv s.heap.size qh ae al au ao ar ak aw att ass Pa p0 (by omega)) kv_X8_87 ⟨rfl, rfl, Nat.le_of_ble_eq_true rfl, Nat.le_of_ble_eq_true rfl⟩ ⟨Nat.le_of_ble_eq_true rfl, Nat.le_of_ble_eq_true rfl⟩ hK hN hZ hP hD hS hA [1] rfl rfl 0 rfl rfl rfl rfl hl.1 rfl (Nat.le_of_ble_eq_true rfl) dX8_trip_6 (fun r_1 hw_r_1 => ?_)
  rcases hw_r_1 with ⟨k_2, rfl, rfl, h_4⟩ | ⟨rfl, h_5⟩
  · skip
    refine lv_if_ne (tgt := 19) hx hb dX8_trip_9 (by decide) (fun c_6 => ?_) (fun c_6 => absurd c_6 (by decide))
    refine lv_aload_n hx hb dX8_trip_19 rfl (lv_at hl 0 rfl) ?_
    refine xc_Vi (wr := [(ae, .inl (cI, 10, .inl fae)), (qf, .inl (cI, 7, .inl ff))]) hF (c_X8_isLooped l D cI cJ cZ cS ta sa sv s.heap.size h0 qh qk qd b0 qa qm qs qp ql qt qz qf Pa ae al au ao ar ak aw att ass fal fao Qa an La (by omega)) kv_X8_128 ⟨rfl, rfl, Nat.le_of_ble_eq_true rfl, Nat.le_of_ble_eq_true rfl⟩ ⟨Nat.le_of_ble_eq_true rfl, Nat.le_of_ble_eq_true rfl⟩ hK hN hZ hP hD hS hA [0, 1, 3, 4, 5, 6] [2, 7] rfl rfl (by decide +kernel) rfl (by decide +kernel) 0 rfl rfl rfl rfl hl.1 rfl (Nat.le_of_ble_eq_true rfl) dX8_trip_20 (fun r_7 u_r_7 H locs hw_r_7 hP hD hS => ?_)
    obtain ⟨L2_8, rfl⟩ : ∃ z, z = u_r_7 := ⟨_, rfl⟩
    try dsimp only at hw_r_7
    have hP : va_P D vwCl [(ae, .inl (cI, 10, .inl fae)), (qf, .inl (cI, 7, .inl ff)), (h0, .inr (8, [.ref qh, .ref qk, .ref qd, .int b0, .ref qa, .ref qm, .ref qs, .ref qp, .ref ql, .ref qt, .ref qz, .ref qf])), (qh, .inr (1, [.int (nI (Pa)), .ref ae, .ref al, .ref au, .ref ao, .ref ar, .ref ak, .ref aw, .ref att, .ref ass])), (al, .inl (cI, 100, .inl fal)), (ao, .inl (cI, 100, .inl fao)), (qa, .inr (0, [.int (nI (Pa)), .ref an])), (an, .inl (cI, 100, .inl L2_8))] H := hP
    have hD : va_D A [(ae, .inl (cI, 10, .inl fae)), (qf, .inl (cI, 7, .inl ff)), (h0, .inr (8, [.ref qh, .ref qk, .ref qd, .int b0, .ref qa, .ref qm, .ref qs, .ref qp, .ref ql, .ref qt, .ref qz, .ref qf])), (qh, .inr (1, [.int (nI (Pa)), .ref ae, .ref al, .ref au, .ref ao, .ref ar, .ref ak, .ref aw, .ref att, .ref ass])), (al, .inl (cI, 100, .inl fal)), (ao, .inl (cI, 100, .inl fao)), (qa, .inr (0, [.int (nI (Pa)), .ref an])), (an, .inl (cI, 100, .inl L2_8))] := hD
    rcases hw_r_7 with rfl | rfl
    · skip
      refine lv_if_eq (tgt := 33) hx hb dX8_trip_23 (by decide) (fun c_9 => absurd c_9 (by decide)) (fun c_9 => ?_)
      refine lv_aload_n hx hb dX8_trip_26 rfl (lv_at hl 0 rfl) ?_
      refine lv_ldc (v := (-1000000005)) hx hb hown (hu _ uw452) dX8_trip_27 ?_
      refine xc_Vi (wr := [(ae, .inl (cI, 10, .inl fae)), (qh, .inr (1, [.int (nI (Pa)), .ref ae, .ref al, .ref au, .ref ao, .ref ar, .ref ak, .ref aw, .ref att, .ref ass])), (al, .inl (cI, 100, .inl fal)), (ao, .inl (cI, 100, .inl fao)), (qa, .inr (0, [.int (nI (Pa)), .ref an])), (an, .inl (cI, 100, .inl L2_8))]) hF (c_X8_finding_T l D cI cJ cZ cS ta sa sv H.size h0 qh qk qd b0 qa qm qs qp ql qt qz qf ff ) kv_X8_80 ⟨rfl, rfl, Nat.le_of_ble_eq_true rfl, Nat.le_of_ble_eq_true rfl⟩ ⟨Nat.le_of_ble_eq_true rfl, Nat.le_of_ble_eq_true rfl⟩ hK hN hZ hP hD hS hA [2, 1] [0, 3, 4, 5, 6, 7] rfl rfl rfl (by decide +kernel) (by decide +kernel) 0 rfl rfl rfl rfl hl.1 rfl (Nat.le_of_ble_eq_true rfl) dX8_trip_29 (fun r_10 u_r_10 H locs hw_r_10 hP hD hS => ?_)
      obtain ⟨f2_11, rfl⟩ : ∃ z, z = u_r_10 := ⟨_, rfl⟩
      try dsimp only at hw_r_10
      have hP : va_P D vwCl [(ae, .inl (cI, 10, .inl fae)), (qh, .inr (1, [.int (nI (Pa)), .ref ae, .ref al, .ref au, .ref ao, .ref ar, .ref ak, .ref aw, .ref att, .ref ass])), (al, .inl (cI, 100, .inl fal)), (ao, .inl (cI, 100, .inl fao)), (qa, .inr (0, [.int (nI (Pa)), .ref an])), (an, .inl (cI, 100, .inl L2_8)), (h0, .inr (8, [.ref qh, .ref qk, .ref qd, .int b0, .ref qa, .ref qm, .ref qs, .ref qp, .ref ql, .ref qt, .ref qz, .ref qf])), (qf, .inl (cI, 7, .inl f2_11))] H := hP
      have hD : va_D A [(ae, .inl (cI, 10, .inl fae)), (qh, .inr (1, [.int (nI (Pa)), .ref ae, .ref al, .ref au, .ref ao, .ref ar, .ref ak, .ref aw, .ref att, .ref ass])), (al, .inl (cI, 100, .inl fal)), (ao, .inl (cI, 100, .inl fao)), (qa, .inr (0, [.int (nI (Pa)), .ref an])), (an, .inl (cI, 100, .inl L2_8)), (h0, .inr (8, [.ref qh, .ref qk, .ref qd, .int b0, .ref qa, .ref qm, .ref qs, .ref qp, .ref ql, .ref qt, .ref qz, .ref qf])), (qf, .inl (cI, 7, .inl f2_11))] := hD
      subst hw_r_10
      exact W.iret (v := (-1000000005)) hx hb hr (fun t ht hW => ⟨⟨(-1000000005), (Pa, L2_8, f2_11), rfl, ⟨trivial, (by first | assumption | omega)⟩, by rw [ht]; exact hP.sub [6, 1, 0, 2, 3, 4, 5, 7] rfl, hD.sub [6, 1, 0, 2, 3, 4, 5, 7] (by decide +kernel) rfl⟩, hS.F ht⟩) hS.2.2 dX8_trip_32 hlk
    · skip
      refine lv_if_eq (tgt := 33) hx hb dX8_trip_23 (by decide) (fun c_12 => ?_) (fun c_12 => absurd (by decide) c_12)
      refine lv_aload_n hx hb dX8_trip_33 rfl (lv_at hl 0 rfl) ?_
      refine lv_aload_n hx hb dX8_trip_34 rfl (lv_at hl 0 rfl) ?_
      refine xg hF kf_X8_29 hK hP 2 rfl rfl dX8_trip_35 ?_
      refine lv_aload_n hx hb dX8_trip_38 rfl (lv_at hl 0 rfl) ?_
      refine xg hF kf_X8_12 hK hP 2 rfl rfl dX8_trip_39 ?_
      refine lv_iload_n hx hb dX8_trip_42 rfl (lv_at hl 1 rfl) ?_
      refine xc_Vr hF (c_X0_tripOf l D cI cJ cZ cS ta sa sv H.size qa an Pa L2_8 qh ae al au ao ar ak aw att ass Pa fae k_2 (by omega) (by omega)) kv_X8_201 ⟨rfl, rfl, Nat.le_of_ble_eq_true rfl, Nat.le_of_ble_eq_true rfl⟩ ⟨Nat.le_of_ble_eq_true rfl, Nat.le_of_ble_eq_true rfl⟩ hK hN hZ hP hD hS hA [6, 7, 3, 0] rfl rfl 0 rfl rfl rfl rfl hl.1 rfl (Nat.le_of_ble_eq_true rfl) dX8_trip_43 (fun r_13 hw_r_13 => ?_)
      refine xc_Vi (wr := [(ae, .inl (cI, 10, .inl fae)), (qh, .inr (1, [.int (nI (Pa)), .ref ae, .ref al, .ref au, .ref ao, .ref ar, .ref ak, .ref aw, .ref att, .ref ass])), (al, .inl (cI, 100, .inl fal)), (ao, .inl (cI, 100, .inl fao)), (qa, .inr (0, [.int (nI (Pa)), .ref an])), (an, .inl (cI, 100, .inl L2_8))]) hF (c_X8_lengthOrNone l D cI cJ cZ cS ta sa sv H.size h0 qh qk qd b0 qa qm qs qp ql qt qz qf ff r_13 ) kv_X8_136 ⟨rfl, rfl, Nat.le_of_ble_eq_true rfl, Nat.le_of_ble_eq_true rfl⟩ ⟨Nat.le_of_ble_eq_true rfl, Nat.le_of_ble_eq_true rfl⟩ hK hN hZ hP hD hS hA [2, 1] [0, 3, 4, 5, 6, 7] rfl rfl rfl (by decide +kernel) (by decide +kernel) 0 rfl rfl rfl rfl hl.1 rfl (Nat.le_of_ble_eq_true rfl) dX8_trip_46 (fun r_14 u_r_14 H locs hw_r_14 hP hD hS => ?_)
      obtain ⟨f2_15, rfl⟩ : ∃ z, z = u_r_14 := ⟨_, rfl⟩
      try dsimp only at hw_r_14
      have hP : va_P D vwCl [(ae, .inl (cI, 10, .inl fae)), (qh, .inr (1, [.int (nI (Pa)), .ref ae, .ref al, .ref au, .ref ao, .ref ar, .ref ak, .ref aw, .ref att, .ref ass])), (al, .inl (cI, 100, .inl fal)), (ao, .inl (cI, 100, .inl fao)), (qa, .inr (0, [.int (nI (Pa)), .ref an])), (an, .inl (cI, 100, .inl L2_8)), (h0, .inr (8, [.ref qh, .ref qk, .ref qd, .int b0, .ref qa, .ref qm, .ref qs, .ref qp, .ref ql, .ref qt, .ref qz, .ref qf])), (qf, .inl (cI, 7, .inl f2_15))] H := hP
      have hD : va_D A [(ae, .inl (cI, 10, .inl fae)), (qh, .inr (1, [.int (nI (Pa)), .ref ae, .ref al, .ref au, .ref ao, .ref ar, .ref ak, .ref aw, .ref att, .ref ass])), (al, .inl (cI, 100, .inl fal)), (ao, .inl (cI, 100, .inl fao)), (qa, .inr (0, [.int (nI (Pa)), .ref an])), (an, .inl (cI, 100, .inl L2_8)), (h0, .inr (8, [.ref qh, .ref qk, .ref qd, .int b0, .ref qa, .ref qm, .ref qs, .ref qp, .ref ql, .ref qt, .ref qz, .ref qf])), (qf, .inl (cI, 7, .inl f2_15))] := hD
      exact W.iret (v := r_14) hx hb hr (fun t ht hW => ⟨⟨r_14, (Pa, L2_8, f2_15), rfl, ⟨trivial, (by first | assumption | omega)⟩, by rw [ht]; exact hP.sub [6, 1, 0, 2, 3, 4, 5, 7] rfl, hD.sub [6, 1, 0, 2, 3, 4, 5, 7] (by decide +kernel) rfl⟩, hS.F ht⟩) hS.2.2 dX8_trip_49 hlk
  · skip
    refine lv_if_ne (tgt := 19) hx hb dX8_trip_9 (by decide) (fun c_16 => absurd (by decide) c_16) (fun c_16 => ?_)
    refine lv_aload_n hx hb dX8_trip_12 rfl (lv_at hl 0 rfl) ?_
    refine lv_ldc (v := (-1000000001)) hx hb hown (hu _ uw396) dX8_trip_13 ?_
    refine xc_Vi (wr := [(qh, .inr (1, [.int (nI (Pa)), .ref ae, .ref al, .ref au, .ref ao, .ref ar, .ref ak, .ref aw, .ref att, .ref ass])), (ae, .inl (cI, 10, .inl fae)), (al, .inl (cI, 100, .inl fal)), (ao, .inl (cI, 100, .inl fao)), (qa, .inr (0, [.int (nI (Qa)), .ref an])), (an, .inl (cI, 100, .inl La))]) hF (c_X8_finding_B l D cI cJ cZ cS ta sa sv s.heap.size h0 qh qk qd b0 qa qm qs qp ql qt qz qf ff ) kv_X8_80 ⟨rfl, rfl, Nat.le_of_ble_eq_true rfl, Nat.le_of_ble_eq_true rfl⟩ ⟨Nat.le_of_ble_eq_true rfl, Nat.le_of_ble_eq_true rfl⟩ hK hN hZ hP hD hS hA [0, 7] [1, 2, 3, 4, 5, 6] rfl rfl rfl (by decide +kernel) (by decide +kernel) 0 rfl rfl rfl rfl hl.1 rfl (Nat.le_of_ble_eq_true rfl) dX8_trip_15 (fun r_17 u_r_17 H locs hw_r_17 hP hD hS => ?_)
    obtain ⟨f2_18, rfl⟩ : ∃ z, z = u_r_17 := ⟨_, rfl⟩
    try dsimp only at hw_r_17
    have hP : va_P D vwCl [(qh, .inr (1, [.int (nI (Pa)), .ref ae, .ref al, .ref au, .ref ao, .ref ar, .ref ak, .ref aw, .ref att, .ref ass])), (ae, .inl (cI, 10, .inl fae)), (al, .inl (cI, 100, .inl fal)), (ao, .inl (cI, 100, .inl fao)), (qa, .inr (0, [.int (nI (Qa)), .ref an])), (an, .inl (cI, 100, .inl La)), (h0, .inr (8, [.ref qh, .ref qk, .ref qd, .int b0, .ref qa, .ref qm, .ref qs, .ref qp, .ref ql, .ref qt, .ref qz, .ref qf])), (qf, .inl (cI, 7, .inl f2_18))] H := hP
    have hD : va_D A [(qh, .inr (1, [.int (nI (Pa)), .ref ae, .ref al, .ref au, .ref ao, .ref ar, .ref ak, .ref aw, .ref att, .ref ass])), (ae, .inl (cI, 10, .inl fae)), (al, .inl (cI, 100, .inl fal)), (ao, .inl (cI, 100, .inl fao)), (qa, .inr (0, [.int (nI (Qa)), .ref an])), (an, .inl (cI, 100, .inl La)), (h0, .inr (8, [.ref qh, .ref qk, .ref qd, .int b0, .ref qa, .ref qm, .ref qs, .ref qp, .ref ql, .ref qt, .ref qz, .ref qf])), (qf, .inl (cI, 7, .inl f2_18))] := hD
    subst hw_r_17
    exact W.iret (v := (-1000000001)) hx hb hr (fun t ht hW => ⟨⟨(-1000000001), (Qa, La, f2_18), rfl, ⟨trivial, (by first | assumption | omega)⟩, by rw [ht]; exact hP.sub [6, 0, 1, 2, 3, 4, 5, 7] rfl, hD.sub [6, 0, 1, 2, 3, 4, 5, 7] (by decide +kernel) rfl⟩, hS.F ht⟩) hS.2.2 dX8_trip_18 hlk
set_option maxHeartbeats 4000000 in
set_option maxRecDepth 100000 in
theorem c_X8_live (l : Launch) (D : va_G) (cI cJ cZ cS : ClassId) (ta : Nat) (sa sv : Nat → Nat) (sz : Nat) (h0 : Nat) (qh : Nat) (qk : Nat) (qd : Nat) (b0 : Int32) (qa : Nat) (qm : Nat) (qs : Nat) (qp : Nat) (ql : Nat) (qt : Nat) (qz : Nat) (qf : Nat) (Pa : Nat) (ae : Nat) (al : Nat) (au : Nat) (ao : Nat) (ar : Nat) (ak : Nat) (aw : Nat) (att : Nat) (ass : Nat) (fae : Nat → Int32) (fal : Nat → Int32) (fao : Nat → Int32) (Qa : Nat) (an : Nat) (La : Nat → Int32) (ff : Nat → Int32) (hP0 : Pa ≤ 10) (hQa : Qa ≤ 10) : Met l yX8_live (Cond.code yX8_live cX8_live 2 (some .int) :: wsU) ({ frames := 5, cells := 0, slots := 0, locals := 108 }) (va_Pc [.ref h0] (XW D (xT cI cJ cZ cS) ta sa sv [(h0, .inr (8, [.ref qh, .ref qk, .ref qd, .int b0, .ref qa, .ref qm, .ref qs, .ref qp, .ref ql, .ref qt, .ref qz, .ref qf])), (qh, .inr (1, [.int (nI (Pa)), .ref ae, .ref al, .ref au, .ref ao, .ref ar, .ref ak, .ref aw, .ref att, .ref ass])), (ae, .inl (cI, 10, .inl fae)), (al, .inl (cI, 100, .inl fal)), (ao, .inl (cI, 100, .inl fao)), (qa, .inr (0, [.int (nI (Qa)), .ref an])), (an, .inl (cI, 100, .inl La)), (qf, .inl (cI, 7, .inl ff))] sz)) (XQi (fun (r : Int32) (u : Nat × (Nat → Int32) × (Nat → Int32)) => match u with | (Q2, L2, f2) => (True) ∧ (Q2 ≤ 10)) D (fun (u : Nat × (Nat → Int32) × (Nat → Int32)) => match u with | (Q2, L2, f2) => [(h0, .inr (8, [.ref qh, .ref qk, .ref qd, .int b0, .ref qa, .ref qm, .ref qs, .ref qp, .ref ql, .ref qt, .ref qz, .ref qf])), (qh, .inr (1, [.int (nI (Pa)), .ref ae, .ref al, .ref au, .ref ao, .ref ar, .ref ak, .ref aw, .ref att, .ref ass])), (ae, .inl (cI, 10, .inl fae)), (al, .inl (cI, 100, .inl fal)), (ao, .inl (cI, 100, .inl fao)), (qa, .inr (0, [.int (nI (Q2)), .ref an])), (an, .inl (cI, 100, .inl L2)), (qf, .inl (cI, 7, .inl f2))]) (va_A [(h0, .inr (8, [.ref qh, .ref qk, .ref qd, .int b0, .ref qa, .ref qm, .ref qs, .ref qp, .ref ql, .ref qt, .ref qz, .ref qf])), (qh, .inr (1, [.int (nI (Pa)), .ref ae, .ref al, .ref au, .ref ao, .ref ar, .ref ak, .ref aw, .ref att, .ref ass])), (ae, .inl (cI, 10, .inl fae)), (al, .inl (cI, 100, .inl fal)), (ao, .inl (cI, 100, .inl fao)), (qa, .inr (0, [.int (nI (Qa)), .ref an])), (an, .inl (cI, 100, .inl La)), (qf, .inl (cI, 7, .inl ff))] sz)) 0 0 (va_A [(h0, .inr (8, [.ref qh, .ref qk, .ref qd, .int b0, .ref qa, .ref qm, .ref qs, .ref qp, .ref ql, .ref qt, .ref qz, .ref qf])), (qh, .inr (1, [.int (nI (Pa)), .ref ae, .ref al, .ref au, .ref ao, .ref ar, .ref ak, .ref aw, .ref att, .ref ass])), (ae, .inl (cI, 10, .inl fae)), (al, .inl (cI, 100, .inl fal)), (ao, .inl (cI, 100, .inl fao)), (qa, .inr (0, [.int (nI (Qa)), .ref an])), (an, .inl (cI, 100, .inl La)), (qf, .inl (cI, 7, .inl ff))] sz) := by
  refine xh (QA := fun A => XQi (fun (r : Int32) (u : Nat × (Nat → Int32) × (Nat → Int32)) => match u with | (Q2, L2, f2) => (True) ∧ (Q2 ≤ 10)) D (fun (u : Nat × (Nat → Int32) × (Nat → Int32)) => match u with | (Q2, L2, f2) => [(h0, .inr (8, [.ref qh, .ref qk, .ref qd, .int b0, .ref qa, .ref qm, .ref qs, .ref qp, .ref ql, .ref qt, .ref qz, .ref qf])), (qh, .inr (1, [.int (nI (Pa)), .ref ae, .ref al, .ref au, .ref ao, .ref ar, .ref ak, .ref aw, .ref att, .ref ass])), (ae, .inl (cI, 10, .inl fae)), (al, .inl (cI, 100, .inl fal)), (ao, .inl (cI, 100, .inl fao)), (qa, .inr (0, [.int (nI (Q2)), .ref an])), (an, .inl (cI, 100, .inl L2)), (qf, .inl (cI, 7, .inl f2))]) A) (fr := fun A => A) (by decide) (Nat.le_of_ble_eq_true rfl) ?_
  intro p e s m below meth c ls A hF hr hlk hin hsz hP hK hD hN hZ hA hS hl
  have hF : CallFix p m c cX8_live 2 s _ _ RX8 := hF
  have hx := hF.1
  have hb := hF.2.1
  have hml := hF.2.2.1
  have hown := hF.2.2.2.1
  have hu : ∀ w ∈ wsU, w.before _ s = true := fun w h => hF.2.2.2.2 w (List.mem_cons_of_mem _ h)
  have hl : lv_has ls 2 [(0, .ref h0)] := hl
  refine lv_aload_n hx hb dX8_live_0 rfl (lv_at hl 0 rfl) ?_
  refine xc_Vi (wr := [(ae, .inl (cI, 10, .inl fae)), (qf, .inl (cI, 7, .inl ff))]) hF (c_X8_isLooped l D cI cJ cZ cS ta sa sv s.heap.size h0 qh qk qd b0 qa qm qs qp ql qt qz qf Pa ae al au ao ar ak aw att ass fal fao Qa an La (by omega)) kv_X8_128 ⟨rfl, rfl, Nat.le_of_ble_eq_true rfl, Nat.le_of_ble_eq_true rfl⟩ ⟨Nat.le_of_ble_eq_true rfl, Nat.le_of_ble_eq_true rfl⟩ hK hN hZ hP hD hS hA [0, 1, 3, 4, 5, 6] [2, 7] rfl rfl (by decide +kernel) rfl (by decide +kernel) 0 rfl rfl rfl rfl hl.1 rfl (Nat.le_of_ble_eq_true rfl) dX8_live_1 (fun r_1 u_r_1 H locs hw_r_1 hP hD hS => ?_)
  obtain ⟨L2_2, rfl⟩ : ∃ z, z = u_r_1 := ⟨_, rfl⟩
  try dsimp only at hw_r_1
  have hP : va_P D vwCl [(ae, .inl (cI, 10, .inl fae)), (qf, .inl (cI, 7, .inl ff)), (h0, .inr (8, [.ref qh, .ref qk, .ref qd, .int b0, .ref qa, .ref qm, .ref qs, .ref qp, .ref ql, .ref qt, .ref qz, .ref qf])), (qh, .inr (1, [.int (nI (Pa)), .ref ae, .ref al, .ref au, .ref ao, .ref ar, .ref ak, .ref aw, .ref att, .ref ass])), (al, .inl (cI, 100, .inl fal)), (ao, .inl (cI, 100, .inl fao)), (qa, .inr (0, [.int (nI (Pa)), .ref an])), (an, .inl (cI, 100, .inl L2_2))] H := hP
  have hD : va_D A [(ae, .inl (cI, 10, .inl fae)), (qf, .inl (cI, 7, .inl ff)), (h0, .inr (8, [.ref qh, .ref qk, .ref qd, .int b0, .ref qa, .ref qm, .ref qs, .ref qp, .ref ql, .ref qt, .ref qz, .ref qf])), (qh, .inr (1, [.int (nI (Pa)), .ref ae, .ref al, .ref au, .ref ao, .ref ar, .ref ak, .ref aw, .ref att, .ref ass])), (al, .inl (cI, 100, .inl fal)), (ao, .inl (cI, 100, .inl fao)), (qa, .inr (0, [.int (nI (Pa)), .ref an])), (an, .inl (cI, 100, .inl L2_2))] := hD
  rcases hw_r_1 with rfl | rfl
  · skip
    refine lv_if_eq (tgt := 14) hx hb dX8_live_4 (by decide) (fun c_3 => absurd c_3 (by decide)) (fun c_3 => ?_)
    refine lv_aload_n hx hb dX8_live_7 rfl (lv_at hl 0 rfl) ?_
    refine lv_ldc (v := (-1000000005)) hx hb hown (hu _ uw452) dX8_live_8 ?_
    refine xc_Vi (wr := [(ae, .inl (cI, 10, .inl fae)), (qh, .inr (1, [.int (nI (Pa)), .ref ae, .ref al, .ref au, .ref ao, .ref ar, .ref ak, .ref aw, .ref att, .ref ass])), (al, .inl (cI, 100, .inl fal)), (ao, .inl (cI, 100, .inl fao)), (qa, .inr (0, [.int (nI (Pa)), .ref an])), (an, .inl (cI, 100, .inl L2_2))]) hF (c_X8_finding_T l D cI cJ cZ cS ta sa sv H.size h0 qh qk qd b0 qa qm qs qp ql qt qz qf ff ) kv_X8_80 ⟨rfl, rfl, Nat.le_of_ble_eq_true rfl, Nat.le_of_ble_eq_true rfl⟩ ⟨Nat.le_of_ble_eq_true rfl, Nat.le_of_ble_eq_true rfl⟩ hK hN hZ hP hD hS hA [2, 1] [0, 3, 4, 5, 6, 7] rfl rfl rfl (by decide +kernel) (by decide +kernel) 0 rfl rfl rfl rfl hl.1 rfl (Nat.le_of_ble_eq_true rfl) dX8_live_10 (fun r_4 u_r_4 H locs hw_r_4 hP hD hS => ?_)
    obtain ⟨f2_5, rfl⟩ : ∃ z, z = u_r_4 := ⟨_, rfl⟩
    try dsimp only at hw_r_4
    have hP : va_P D vwCl [(ae, .inl (cI, 10, .inl fae)), (qh, .inr (1, [.int (nI (Pa)), .ref ae, .ref al, .ref au, .ref ao, .ref ar, .ref ak, .ref aw, .ref att, .ref ass])), (al, .inl (cI, 100, .inl fal)), (ao, .inl (cI, 100, .inl fao)), (qa, .inr (0, [.int (nI (Pa)), .ref an])), (an, .inl (cI, 100, .inl L2_2)), (h0, .inr (8, [.ref qh, .ref qk, .ref qd, .int b0, .ref qa, .ref qm, .ref qs, .ref qp, .ref ql, .ref qt, .ref qz, .ref qf])), (qf, .inl (cI, 7, .inl f2_5))] H := hP
    have hD : va_D A [(ae, .inl (cI, 10, .inl fae)), (qh, .inr (1, [.int (nI (Pa)), .ref ae, .ref al, .ref au, .ref ao, .ref ar, .ref ak, .ref aw, .ref att, .ref ass])), (al, .inl (cI, 100, .inl fal)), (ao, .inl (cI, 100, .inl fao)), (qa, .inr (0, [.int (nI (Pa)), .ref an])), (an, .inl (cI, 100, .inl L2_2)), (h0, .inr (8, [.ref qh, .ref qk, .ref qd, .int b0, .ref qa, .ref qm, .ref qs, .ref qp, .ref ql, .ref qt, .ref qz, .ref qf])), (qf, .inl (cI, 7, .inl f2_5))] := hD
    subst hw_r_4
    exact W.iret (v := (-1000000005)) hx hb hr (fun t ht hW => ⟨⟨(-1000000005), (Pa, L2_2, f2_5), rfl, ⟨trivial, (by first | assumption | omega)⟩, by rw [ht]; exact hP.sub [6, 1, 0, 2, 3, 4, 5, 7] rfl, hD.sub [6, 1, 0, 2, 3, 4, 5, 7] (by decide +kernel) rfl⟩, hS.F ht⟩) hS.2.2 dX8_live_13 hlk
  · skip
    refine lv_if_eq (tgt := 14) hx hb dX8_live_4 (by decide) (fun c_6 => ?_) (fun c_6 => absurd (by decide) c_6)
    refine lv_aload_n hx hb dX8_live_14 rfl (lv_at hl 0 rfl) ?_
    refine xg hF kf_X8_29 hK hP 2 rfl rfl dX8_live_15 ?_
    refine lv_aload_n hx hb dX8_live_18 rfl (lv_at hl 0 rfl) ?_
    refine xg hF kf_X8_12 hK hP 2 rfl rfl dX8_live_19 ?_
    refine xc_Vr hF (c_X0_homeOf l D cI cJ cZ cS ta sa sv H.size qa an Pa L2_2 qh ae al au ao ar ak aw att ass Pa fae (by omega)) kv_X8_197 ⟨rfl, rfl, Nat.le_of_ble_eq_true rfl, Nat.le_of_ble_eq_true rfl⟩ ⟨Nat.le_of_ble_eq_true rfl, Nat.le_of_ble_eq_true rfl⟩ hK hN hZ hP hD hS hA [6, 7, 3, 0] rfl rfl 0 rfl rfl rfl rfl hl.1 rfl (Nat.le_of_ble_eq_true rfl) dX8_live_22 (fun r_7 hw_r_7 => ?_)
    rcases hw_r_7 with rfl | ⟨y_8, rfl, h_9⟩
    · skip
      refine lv_istore_n (lv' := [(1, .int (-1)), (0, .ref h0)]) hx hb dX8_live_25 rfl hl (by decide) rfl (fun ls hl => ?_)
      refine lv_iload_n hx hb dX8_live_26 rfl (lv_at hl 0 rfl) ?_
      refine lv_if_ge (tgt := 39) hx hb dX8_live_27 (by decide) (fun c_10 => absurd c_10 (by decide)) (fun c_10 => ?_)
      refine lv_aload_n hx hb dX8_live_30 rfl (lv_at hl 1 rfl) ?_
      refine lv_ldc (v := (-1000000004)) hx hb hown (hu _ uw410) dX8_live_31 ?_
      refine xc_Vi (wr := [(ae, .inl (cI, 10, .inl fae)), (qh, .inr (1, [.int (nI (Pa)), .ref ae, .ref al, .ref au, .ref ao, .ref ar, .ref ak, .ref aw, .ref att, .ref ass])), (al, .inl (cI, 100, .inl fal)), (ao, .inl (cI, 100, .inl fao)), (qa, .inr (0, [.int (nI (Pa)), .ref an])), (an, .inl (cI, 100, .inl L2_2))]) hF (c_X8_finding_N l D cI cJ cZ cS ta sa sv H.size h0 qh qk qd b0 qa qm qs qp ql qt qz qf ff ) kv_X8_80 ⟨rfl, rfl, Nat.le_of_ble_eq_true rfl, Nat.le_of_ble_eq_true rfl⟩ ⟨Nat.le_of_ble_eq_true rfl, Nat.le_of_ble_eq_true rfl⟩ hK hN hZ hP hD hS hA [2, 1] [0, 3, 4, 5, 6, 7] rfl rfl rfl (by decide +kernel) (by decide +kernel) 0 rfl rfl rfl rfl hl.1 rfl (Nat.le_of_ble_eq_true rfl) dX8_live_33 (fun r_11 u_r_11 H locs hw_r_11 hP hD hS => ?_)
      obtain ⟨f2_12, rfl⟩ : ∃ z, z = u_r_11 := ⟨_, rfl⟩
      try dsimp only at hw_r_11
      have hP : va_P D vwCl [(ae, .inl (cI, 10, .inl fae)), (qh, .inr (1, [.int (nI (Pa)), .ref ae, .ref al, .ref au, .ref ao, .ref ar, .ref ak, .ref aw, .ref att, .ref ass])), (al, .inl (cI, 100, .inl fal)), (ao, .inl (cI, 100, .inl fao)), (qa, .inr (0, [.int (nI (Pa)), .ref an])), (an, .inl (cI, 100, .inl L2_2)), (h0, .inr (8, [.ref qh, .ref qk, .ref qd, .int b0, .ref qa, .ref qm, .ref qs, .ref qp, .ref ql, .ref qt, .ref qz, .ref qf])), (qf, .inl (cI, 7, .inl f2_12))] H := hP
      have hD : va_D A [(ae, .inl (cI, 10, .inl fae)), (qh, .inr (1, [.int (nI (Pa)), .ref ae, .ref al, .ref au, .ref ao, .ref ar, .ref ak, .ref aw, .ref att, .ref ass])), (al, .inl (cI, 100, .inl fal)), (ao, .inl (cI, 100, .inl fao)), (qa, .inr (0, [.int (nI (Pa)), .ref an])), (an, .inl (cI, 100, .inl L2_2)), (h0, .inr (8, [.ref qh, .ref qk, .ref qd, .int b0, .ref qa, .ref qm, .ref qs, .ref qp, .ref ql, .ref qt, .ref qz, .ref qf])), (qf, .inl (cI, 7, .inl f2_12))] := hD
      subst hw_r_11
      refine lv_goto (tgt := 40) hx hb dX8_live_36 (by decide) ?_
      exact W.iret (v := (-1000000004)) hx hb hr (fun t ht hW => ⟨⟨(-1000000004), (Pa, L2_2, f2_12), rfl, ⟨trivial, (by first | assumption | omega)⟩, by rw [ht]; exact hP.sub [6, 1, 0, 2, 3, 4, 5, 7] rfl, hD.sub [6, 1, 0, 2, 3, 4, 5, 7] (by decide +kernel) rfl⟩, hS.F ht⟩) hS.2.2 dX8_live_40 hlk
    · skip
      refine lv_istore_n (lv' := [(1, .int (nI (y_8))), (0, .ref h0)]) hx hb dX8_live_25 rfl hl (by decide) rfl (fun ls hl => ?_)
      refine lv_iload_n hx hb dX8_live_26 rfl (lv_at hl 0 rfl) ?_
      refine lv_if_ge (tgt := 39) hx hb dX8_live_27 (by decide) (fun c_13 => ?_) (fun c_13 => by have nc_13 : y_8 < 0 := xn_nle (a := 0) (b := y_8) (by omega) (by omega) c_13; omega)
      have nc_13 : 0 ≤ y_8 := xn_le (a := 0) (b := y_8) (by omega) (by omega) c_13
      refine lv_iload_n hx hb dX8_live_39 rfl (lv_at hl 0 rfl) ?_
      exact W.iret (v := nI (y_8)) hx hb hr (fun t ht hW => ⟨⟨nI (y_8), (Pa, L2_2, ff), rfl, ⟨trivial, (by first | assumption | omega)⟩, by rw [ht]; exact hP.sub [2, 3, 0, 4, 5, 6, 7, 1] rfl, hD.sub [2, 3, 0, 4, 5, 6, 7, 1] (by decide +kernel) rfl⟩, hS.F ht⟩) hS.2.2 dX8_live_40 hlk
set_option maxHeartbeats 4000000 in
set_option maxRecDepth 100000 in
theorem c_X8_meet (l : Launch) (D : va_G) (cI cJ cZ cS : ClassId) (ta : Nat) (sa sv : Nat → Nat) (sz : Nat) (h0 : Nat) (qh : Nat) (qk : Nat) (qd : Nat) (b0 : Int32) (qa : Nat) (qm : Nat) (qs : Nat) (qp : Nat) (ql : Nat) (qt : Nat) (qz : Nat) (qf : Nat) (Pa : Nat) (ae : Nat) (al : Nat) (au : Nat) (ao : Nat) (ar : Nat) (ak : Nat) (aw : Nat) (att : Nat) (ass : Nat) (fal : Nat → Int32) (fao : Nat → Int32) (Qa : Nat) (an : Nat) (La : Nat → Int32) (ff : Nat → Int32) (p0 : Int32) (p1 : Int32) (p2 : Int32) (hP0 : Pa ≤ 10) (hQa : Qa ≤ 10) : Met l yX8_meet (Cond.code yX8_meet cX8_meet 5 (some .int) :: wsU) ({ frames := 5, cells := 0, slots := 0, locals := 108 }) (va_Pc [.ref h0, .int p0, .int p1, .int p2] (XW D (xT cI cJ cZ cS) ta sa sv [(h0, .inr (8, [.ref qh, .ref qk, .ref qd, .int b0, .ref qa, .ref qm, .ref qs, .ref qp, .ref ql, .ref qt, .ref qz, .ref qf])), (qh, .inr (1, [.int (nI (Pa)), .ref ae, .ref al, .ref au, .ref ao, .ref ar, .ref ak, .ref aw, .ref att, .ref ass])), (al, .inl (cI, 100, .inl fal)), (ao, .inl (cI, 100, .inl fao)), (qa, .inr (0, [.int (nI (Qa)), .ref an])), (an, .inl (cI, 100, .inl La)), (qf, .inl (cI, 7, .inl ff))] sz)) (XQi (fun (r : Int32) (u : Nat × (Nat → Int32) × (Nat → Int32)) => match u with | (Q2, L2, f2) => (True) ∧ (Q2 ≤ 10)) D (fun (u : Nat × (Nat → Int32) × (Nat → Int32)) => match u with | (Q2, L2, f2) => [(h0, .inr (8, [.ref qh, .ref qk, .ref qd, .int b0, .ref qa, .ref qm, .ref qs, .ref qp, .ref ql, .ref qt, .ref qz, .ref qf])), (qh, .inr (1, [.int (nI (Pa)), .ref ae, .ref al, .ref au, .ref ao, .ref ar, .ref ak, .ref aw, .ref att, .ref ass])), (al, .inl (cI, 100, .inl fal)), (ao, .inl (cI, 100, .inl fao)), (qa, .inr (0, [.int (nI (Q2)), .ref an])), (an, .inl (cI, 100, .inl L2)), (qf, .inl (cI, 7, .inl f2))]) (va_A [(h0, .inr (8, [.ref qh, .ref qk, .ref qd, .int b0, .ref qa, .ref qm, .ref qs, .ref qp, .ref ql, .ref qt, .ref qz, .ref qf])), (qh, .inr (1, [.int (nI (Pa)), .ref ae, .ref al, .ref au, .ref ao, .ref ar, .ref ak, .ref aw, .ref att, .ref ass])), (al, .inl (cI, 100, .inl fal)), (ao, .inl (cI, 100, .inl fao)), (qa, .inr (0, [.int (nI (Qa)), .ref an])), (an, .inl (cI, 100, .inl La)), (qf, .inl (cI, 7, .inl ff))] sz)) 0 0 (va_A [(h0, .inr (8, [.ref qh, .ref qk, .ref qd, .int b0, .ref qa, .ref qm, .ref qs, .ref qp, .ref ql, .ref qt, .ref qz, .ref qf])), (qh, .inr (1, [.int (nI (Pa)), .ref ae, .ref al, .ref au, .ref ao, .ref ar, .ref ak, .ref aw, .ref att, .ref ass])), (al, .inl (cI, 100, .inl fal)), (ao, .inl (cI, 100, .inl fao)), (qa, .inr (0, [.int (nI (Qa)), .ref an])), (an, .inl (cI, 100, .inl La)), (qf, .inl (cI, 7, .inl ff))] sz) := by
  refine xh (QA := fun A => XQi (fun (r : Int32) (u : Nat × (Nat → Int32) × (Nat → Int32)) => match u with | (Q2, L2, f2) => (True) ∧ (Q2 ≤ 10)) D (fun (u : Nat × (Nat → Int32) × (Nat → Int32)) => match u with | (Q2, L2, f2) => [(h0, .inr (8, [.ref qh, .ref qk, .ref qd, .int b0, .ref qa, .ref qm, .ref qs, .ref qp, .ref ql, .ref qt, .ref qz, .ref qf])), (qh, .inr (1, [.int (nI (Pa)), .ref ae, .ref al, .ref au, .ref ao, .ref ar, .ref ak, .ref aw, .ref att, .ref ass])), (al, .inl (cI, 100, .inl fal)), (ao, .inl (cI, 100, .inl fao)), (qa, .inr (0, [.int (nI (Q2)), .ref an])), (an, .inl (cI, 100, .inl L2)), (qf, .inl (cI, 7, .inl f2))]) A) (fr := fun A => A) (by decide) (Nat.le_of_ble_eq_true rfl) ?_
  intro p e s m below meth c ls A hF hr hlk hin hsz hP hK hD hN hZ hA hS hl
  have hF : CallFix p m c cX8_meet 5 s _ _ RX8 := hF
  have hx := hF.1
  have hb := hF.2.1
  have hml := hF.2.2.1
  have hown := hF.2.2.2.1
  have hu : ∀ w ∈ wsU, w.before _ s = true := fun w h => hF.2.2.2.2 w (List.mem_cons_of_mem _ h)
  have hl : lv_has ls 5 [(0, .ref h0), (1, .int p0), (2, .int p1), (3, .int p2)] := hl
  refine lv_aload_n hx hb dX8_meet_0 rfl (lv_at hl 0 rfl) ?_
  refine xg hF kf_X8_12 hK hP 0 rfl rfl dX8_meet_1 ?_
  refine lv_iload_n hx hb dX8_meet_4 rfl (lv_at hl 1 rfl) ?_
  refine lv_i2l (v := p0.toInt64) hx hb dX8_meet_5 rfl ?_
  refine xc_Vr hF (c_X1_isPlace l D cI cJ cZ cS ta sa sv s.heap.size qh ae al au ao ar ak aw att ass Pa p0 (by omega)) kv_X8_87 ⟨rfl, rfl, Nat.le_of_ble_eq_true rfl, Nat.le_of_ble_eq_true rfl⟩ ⟨Nat.le_of_ble_eq_true rfl, Nat.le_of_ble_eq_true rfl⟩ hK hN hZ hP hD hS hA [1] rfl rfl 0 rfl rfl rfl rfl hl.1 rfl (Nat.le_of_ble_eq_true rfl) dX8_meet_6 (fun r_1 hw_r_1 => ?_)
  rcases hw_r_1 with ⟨k_2, rfl, rfl, h_4⟩ | ⟨rfl, h_5⟩
  · skip
    refine lv_if_eq (tgt := 33) hx hb dX8_meet_9 (by decide) (fun c_6 => absurd c_6 (by decide)) (fun c_6 => ?_)
    refine lv_aload_n hx hb dX8_meet_12 rfl (lv_at hl 0 rfl) ?_
    refine xg hF kf_X8_12 hK hP 0 rfl rfl dX8_meet_13 ?_
    refine lv_iload_n hx hb dX8_meet_16 rfl (lv_at hl 2 rfl) ?_
    refine lv_i2l (v := p1.toInt64) hx hb dX8_meet_17 rfl ?_
    refine xc_Vr hF (c_X1_isPlace l D cI cJ cZ cS ta sa sv s.heap.size qh ae al au ao ar ak aw att ass Pa p1 (by omega)) kv_X8_87 ⟨rfl, rfl, Nat.le_of_ble_eq_true rfl, Nat.le_of_ble_eq_true rfl⟩ ⟨Nat.le_of_ble_eq_true rfl, Nat.le_of_ble_eq_true rfl⟩ hK hN hZ hP hD hS hA [1] rfl rfl 0 rfl rfl rfl rfl hl.1 rfl (Nat.le_of_ble_eq_true rfl) dX8_meet_18 (fun r_7 hw_r_7 => ?_)
    rcases hw_r_7 with ⟨k_8, rfl, rfl, h_10⟩ | ⟨rfl, h_11⟩
    · skip
      refine lv_if_eq (tgt := 33) hx hb dX8_meet_21 (by decide) (fun c_12 => absurd c_12 (by decide)) (fun c_12 => ?_)
      refine lv_iload_n hx hb dX8_meet_24 rfl (lv_at hl 3 rfl) ?_
      refine lv_iconst (v := 0) hx hb dX8_meet_25 (by decide) ?_
      refine lv_iconst (v := 2) hx hb dX8_meet_26 (by decide) ?_
      refine xc_Sr hF (c_X8_isWithin l D cI cJ cZ cS ta sa sv s.heap.size p2 0 2 ) ks_X8_91 ⟨rfl, rfl, Nat.le_of_ble_eq_true rfl, Nat.le_of_ble_eq_true rfl⟩ ⟨Nat.le_of_ble_eq_true rfl, Nat.le_of_ble_eq_true rfl⟩ hK hN hZ hP hD hS hA [] rfl rfl rfl hl.1 rfl (Nat.le_of_ble_eq_true rfl) dX8_meet_27 (fun r_13 hw_r_13 => ?_)
      rcases hw_r_13 with ⟨rfl, h_14, h_15⟩ | ⟨rfl, h_16⟩
      · skip
        refine lv_if_ne (tgt := 40) hx hb dX8_meet_30 (by decide) (fun c_17 => ?_) (fun c_17 => absurd c_17 (by decide))
        refine lv_aload_n hx hb dX8_meet_40 rfl (lv_at hl 0 rfl) ?_
        refine xc_Vi (wr := [(qf, .inl (cI, 7, .inl ff))]) hF (c_X8_isLooped l D cI cJ cZ cS ta sa sv s.heap.size h0 qh qk qd b0 qa qm qs qp ql qt qz qf Pa ae al au ao ar ak aw att ass fal fao Qa an La (by omega)) kv_X8_128 ⟨rfl, rfl, Nat.le_of_ble_eq_true rfl, Nat.le_of_ble_eq_true rfl⟩ ⟨Nat.le_of_ble_eq_true rfl, Nat.le_of_ble_eq_true rfl⟩ hK hN hZ hP hD hS hA [0, 1, 2, 3, 4, 5] [6] rfl rfl (by decide +kernel) rfl (by decide +kernel) 0 rfl rfl rfl rfl hl.1 rfl (Nat.le_of_ble_eq_true rfl) dX8_meet_41 (fun r_18 u_r_18 H locs hw_r_18 hP hD hS => ?_)
        obtain ⟨L2_19, rfl⟩ : ∃ z, z = u_r_18 := ⟨_, rfl⟩
        try dsimp only at hw_r_18
        have hP : va_P D vwCl [(qf, .inl (cI, 7, .inl ff)), (h0, .inr (8, [.ref qh, .ref qk, .ref qd, .int b0, .ref qa, .ref qm, .ref qs, .ref qp, .ref ql, .ref qt, .ref qz, .ref qf])), (qh, .inr (1, [.int (nI (Pa)), .ref ae, .ref al, .ref au, .ref ao, .ref ar, .ref ak, .ref aw, .ref att, .ref ass])), (al, .inl (cI, 100, .inl fal)), (ao, .inl (cI, 100, .inl fao)), (qa, .inr (0, [.int (nI (Pa)), .ref an])), (an, .inl (cI, 100, .inl L2_19))] H := hP
        have hD : va_D A [(qf, .inl (cI, 7, .inl ff)), (h0, .inr (8, [.ref qh, .ref qk, .ref qd, .int b0, .ref qa, .ref qm, .ref qs, .ref qp, .ref ql, .ref qt, .ref qz, .ref qf])), (qh, .inr (1, [.int (nI (Pa)), .ref ae, .ref al, .ref au, .ref ao, .ref ar, .ref ak, .ref aw, .ref att, .ref ass])), (al, .inl (cI, 100, .inl fal)), (ao, .inl (cI, 100, .inl fao)), (qa, .inr (0, [.int (nI (Pa)), .ref an])), (an, .inl (cI, 100, .inl L2_19))] := hD
        rcases hw_r_18 with rfl | rfl
        · skip
          refine lv_if_eq (tgt := 54) hx hb dX8_meet_44 (by decide) (fun c_20 => absurd c_20 (by decide)) (fun c_20 => ?_)
          refine lv_aload_n hx hb dX8_meet_47 rfl (lv_at hl 0 rfl) ?_
          refine lv_ldc (v := (-1000000005)) hx hb hown (hu _ uw452) dX8_meet_48 ?_
          refine xc_Vi (wr := [(qh, .inr (1, [.int (nI (Pa)), .ref ae, .ref al, .ref au, .ref ao, .ref ar, .ref ak, .ref aw, .ref att, .ref ass])), (al, .inl (cI, 100, .inl fal)), (ao, .inl (cI, 100, .inl fao)), (qa, .inr (0, [.int (nI (Pa)), .ref an])), (an, .inl (cI, 100, .inl L2_19))]) hF (c_X8_finding_T l D cI cJ cZ cS ta sa sv H.size h0 qh qk qd b0 qa qm qs qp ql qt qz qf ff ) kv_X8_80 ⟨rfl, rfl, Nat.le_of_ble_eq_true rfl, Nat.le_of_ble_eq_true rfl⟩ ⟨Nat.le_of_ble_eq_true rfl, Nat.le_of_ble_eq_true rfl⟩ hK hN hZ hP hD hS hA [1, 0] [2, 3, 4, 5, 6] rfl rfl rfl (by decide +kernel) (by decide +kernel) 0 rfl rfl rfl rfl hl.1 rfl (Nat.le_of_ble_eq_true rfl) dX8_meet_50 (fun r_21 u_r_21 H locs hw_r_21 hP hD hS => ?_)
          obtain ⟨f2_22, rfl⟩ : ∃ z, z = u_r_21 := ⟨_, rfl⟩
          try dsimp only at hw_r_21
          have hP : va_P D vwCl [(qh, .inr (1, [.int (nI (Pa)), .ref ae, .ref al, .ref au, .ref ao, .ref ar, .ref ak, .ref aw, .ref att, .ref ass])), (al, .inl (cI, 100, .inl fal)), (ao, .inl (cI, 100, .inl fao)), (qa, .inr (0, [.int (nI (Pa)), .ref an])), (an, .inl (cI, 100, .inl L2_19)), (h0, .inr (8, [.ref qh, .ref qk, .ref qd, .int b0, .ref qa, .ref qm, .ref qs, .ref qp, .ref ql, .ref qt, .ref qz, .ref qf])), (qf, .inl (cI, 7, .inl f2_22))] H := hP
          have hD : va_D A [(qh, .inr (1, [.int (nI (Pa)), .ref ae, .ref al, .ref au, .ref ao, .ref ar, .ref ak, .ref aw, .ref att, .ref ass])), (al, .inl (cI, 100, .inl fal)), (ao, .inl (cI, 100, .inl fao)), (qa, .inr (0, [.int (nI (Pa)), .ref an])), (an, .inl (cI, 100, .inl L2_19)), (h0, .inr (8, [.ref qh, .ref qk, .ref qd, .int b0, .ref qa, .ref qm, .ref qs, .ref qp, .ref ql, .ref qt, .ref qz, .ref qf])), (qf, .inl (cI, 7, .inl f2_22))] := hD
          subst hw_r_21
          exact W.iret (v := (-1000000005)) hx hb hr (fun t ht hW => ⟨⟨(-1000000005), (Pa, L2_19, f2_22), rfl, ⟨trivial, (by first | assumption | omega)⟩, by rw [ht]; exact hP.sub [5, 0, 1, 2, 3, 4, 6] rfl, hD.sub [5, 0, 1, 2, 3, 4, 6] (by decide +kernel) rfl⟩, hS.F ht⟩) hS.2.2 dX8_meet_53 hlk
        · skip
          refine lv_if_eq (tgt := 54) hx hb dX8_meet_44 (by decide) (fun c_23 => ?_) (fun c_23 => absurd (by decide) c_23)
          refine lv_aload_n hx hb dX8_meet_54 rfl (lv_at hl 0 rfl) ?_
          refine xg hF kf_X8_29 hK hP 1 rfl rfl dX8_meet_55 ?_
          refine lv_iload_n hx hb dX8_meet_58 rfl (lv_at hl 1 rfl) ?_
          refine lv_iload_n hx hb dX8_meet_59 rfl (lv_at hl 2 rfl) ?_
          refine lv_iload_n hx hb dX8_meet_60 rfl (lv_at hl 3 rfl) ?_
          refine xc_Vr hF (c_X0_meetingOf l D cI cJ cZ cS ta sa sv H.size qa an Pa L2_19 k_2 k_8 p2 (by omega) (by omega) (by omega)) kv_X8_205 ⟨rfl, rfl, Nat.le_of_ble_eq_true rfl, Nat.le_of_ble_eq_true rfl⟩ ⟨Nat.le_of_ble_eq_true rfl, Nat.le_of_ble_eq_true rfl⟩ hK hN hZ hP hD hS hA [5, 6] rfl rfl 0 rfl rfl rfl rfl hl.1 rfl (Nat.le_of_ble_eq_true rfl) dX8_meet_61 (fun r_24 hw_r_24 => ?_)
          rcases hw_r_24 with rfl | ⟨y_25, rfl, h_26⟩
          · skip
            refine lv_istore (lv' := [(4, .int (-1)), (0, .ref h0), (1, .int (nI (k_2))), (2, .int (nI (k_8))), (3, .int p2)]) hx hb dX8_meet_64 hl (by decide) rfl (fun ls hl => ?_)
            refine lv_iload hx hb dX8_meet_66 (lv_at hl 0 rfl) ?_
            refine lv_if_ge (tgt := 80) hx hb dX8_meet_68 (by decide) (fun c_27 => absurd c_27 (by decide)) (fun c_27 => ?_)
            refine lv_aload_n hx hb dX8_meet_71 rfl (lv_at hl 1 rfl) ?_
            refine lv_ldc (v := (-1000000004)) hx hb hown (hu _ uw410) dX8_meet_72 ?_
            refine xc_Vi (wr := [(qh, .inr (1, [.int (nI (Pa)), .ref ae, .ref al, .ref au, .ref ao, .ref ar, .ref ak, .ref aw, .ref att, .ref ass])), (al, .inl (cI, 100, .inl fal)), (ao, .inl (cI, 100, .inl fao)), (qa, .inr (0, [.int (nI (Pa)), .ref an])), (an, .inl (cI, 100, .inl L2_19))]) hF (c_X8_finding_N l D cI cJ cZ cS ta sa sv H.size h0 qh qk qd b0 qa qm qs qp ql qt qz qf ff ) kv_X8_80 ⟨rfl, rfl, Nat.le_of_ble_eq_true rfl, Nat.le_of_ble_eq_true rfl⟩ ⟨Nat.le_of_ble_eq_true rfl, Nat.le_of_ble_eq_true rfl⟩ hK hN hZ hP hD hS hA [1, 0] [2, 3, 4, 5, 6] rfl rfl rfl (by decide +kernel) (by decide +kernel) 0 rfl rfl rfl rfl hl.1 rfl (Nat.le_of_ble_eq_true rfl) dX8_meet_74 (fun r_28 u_r_28 H locs hw_r_28 hP hD hS => ?_)
            obtain ⟨f2_29, rfl⟩ : ∃ z, z = u_r_28 := ⟨_, rfl⟩
            try dsimp only at hw_r_28
            have hP : va_P D vwCl [(qh, .inr (1, [.int (nI (Pa)), .ref ae, .ref al, .ref au, .ref ao, .ref ar, .ref ak, .ref aw, .ref att, .ref ass])), (al, .inl (cI, 100, .inl fal)), (ao, .inl (cI, 100, .inl fao)), (qa, .inr (0, [.int (nI (Pa)), .ref an])), (an, .inl (cI, 100, .inl L2_19)), (h0, .inr (8, [.ref qh, .ref qk, .ref qd, .int b0, .ref qa, .ref qm, .ref qs, .ref qp, .ref ql, .ref qt, .ref qz, .ref qf])), (qf, .inl (cI, 7, .inl f2_29))] H := hP
            have hD : va_D A [(qh, .inr (1, [.int (nI (Pa)), .ref ae, .ref al, .ref au, .ref ao, .ref ar, .ref ak, .ref aw, .ref att, .ref ass])), (al, .inl (cI, 100, .inl fal)), (ao, .inl (cI, 100, .inl fao)), (qa, .inr (0, [.int (nI (Pa)), .ref an])), (an, .inl (cI, 100, .inl L2_19)), (h0, .inr (8, [.ref qh, .ref qk, .ref qd, .int b0, .ref qa, .ref qm, .ref qs, .ref qp, .ref ql, .ref qt, .ref qz, .ref qf])), (qf, .inl (cI, 7, .inl f2_29))] := hD
            subst hw_r_28
            refine lv_goto (tgt := 82) hx hb dX8_meet_77 (by decide) ?_
            exact W.iret (v := (-1000000004)) hx hb hr (fun t ht hW => ⟨⟨(-1000000004), (Pa, L2_19, f2_29), rfl, ⟨trivial, (by first | assumption | omega)⟩, by rw [ht]; exact hP.sub [5, 0, 1, 2, 3, 4, 6] rfl, hD.sub [5, 0, 1, 2, 3, 4, 6] (by decide +kernel) rfl⟩, hS.F ht⟩) hS.2.2 dX8_meet_82 hlk
          · skip
            refine lv_istore (lv' := [(4, .int (nI (y_25))), (0, .ref h0), (1, .int (nI (k_2))), (2, .int (nI (k_8))), (3, .int p2)]) hx hb dX8_meet_64 hl (by decide) rfl (fun ls hl => ?_)
            refine lv_iload hx hb dX8_meet_66 (lv_at hl 0 rfl) ?_
            refine lv_if_ge (tgt := 80) hx hb dX8_meet_68 (by decide) (fun c_30 => ?_) (fun c_30 => by have nc_30 : y_25 < 0 := xn_nle (a := 0) (b := y_25) (by omega) (by omega) c_30; omega)
            have nc_30 : 0 ≤ y_25 := xn_le (a := 0) (b := y_25) (by omega) (by omega) c_30
            refine lv_iload hx hb dX8_meet_80 (lv_at hl 0 rfl) ?_
            exact W.iret (v := nI (y_25)) hx hb hr (fun t ht hW => ⟨⟨nI (y_25), (Pa, L2_19, ff), rfl, ⟨trivial, (by first | assumption | omega)⟩, by rw [ht]; exact hP.sub [1, 2, 3, 4, 5, 6, 0] rfl, hD.sub [1, 2, 3, 4, 5, 6, 0] (by decide +kernel) rfl⟩, hS.F ht⟩) hS.2.2 dX8_meet_82 hlk
      · skip
        refine lv_if_ne (tgt := 40) hx hb dX8_meet_30 (by decide) (fun c_31 => absurd (by decide) c_31) (fun c_31 => ?_)
        refine lv_aload_n hx hb dX8_meet_33 rfl (lv_at hl 0 rfl) ?_
        refine lv_ldc (v := (-1000000001)) hx hb hown (hu _ uw396) dX8_meet_34 ?_
        refine xc_Vi (wr := [(qh, .inr (1, [.int (nI (Pa)), .ref ae, .ref al, .ref au, .ref ao, .ref ar, .ref ak, .ref aw, .ref att, .ref ass])), (al, .inl (cI, 100, .inl fal)), (ao, .inl (cI, 100, .inl fao)), (qa, .inr (0, [.int (nI (Qa)), .ref an])), (an, .inl (cI, 100, .inl La))]) hF (c_X8_finding_B l D cI cJ cZ cS ta sa sv s.heap.size h0 qh qk qd b0 qa qm qs qp ql qt qz qf ff ) kv_X8_80 ⟨rfl, rfl, Nat.le_of_ble_eq_true rfl, Nat.le_of_ble_eq_true rfl⟩ ⟨Nat.le_of_ble_eq_true rfl, Nat.le_of_ble_eq_true rfl⟩ hK hN hZ hP hD hS hA [0, 6] [1, 2, 3, 4, 5] rfl rfl rfl (by decide +kernel) (by decide +kernel) 0 rfl rfl rfl rfl hl.1 rfl (Nat.le_of_ble_eq_true rfl) dX8_meet_36 (fun r_32 u_r_32 H locs hw_r_32 hP hD hS => ?_)
        obtain ⟨f2_33, rfl⟩ : ∃ z, z = u_r_32 := ⟨_, rfl⟩
        try dsimp only at hw_r_32
        have hP : va_P D vwCl [(qh, .inr (1, [.int (nI (Pa)), .ref ae, .ref al, .ref au, .ref ao, .ref ar, .ref ak, .ref aw, .ref att, .ref ass])), (al, .inl (cI, 100, .inl fal)), (ao, .inl (cI, 100, .inl fao)), (qa, .inr (0, [.int (nI (Qa)), .ref an])), (an, .inl (cI, 100, .inl La)), (h0, .inr (8, [.ref qh, .ref qk, .ref qd, .int b0, .ref qa, .ref qm, .ref qs, .ref qp, .ref ql, .ref qt, .ref qz, .ref qf])), (qf, .inl (cI, 7, .inl f2_33))] H := hP
        have hD : va_D A [(qh, .inr (1, [.int (nI (Pa)), .ref ae, .ref al, .ref au, .ref ao, .ref ar, .ref ak, .ref aw, .ref att, .ref ass])), (al, .inl (cI, 100, .inl fal)), (ao, .inl (cI, 100, .inl fao)), (qa, .inr (0, [.int (nI (Qa)), .ref an])), (an, .inl (cI, 100, .inl La)), (h0, .inr (8, [.ref qh, .ref qk, .ref qd, .int b0, .ref qa, .ref qm, .ref qs, .ref qp, .ref ql, .ref qt, .ref qz, .ref qf])), (qf, .inl (cI, 7, .inl f2_33))] := hD
        subst hw_r_32
        exact W.iret (v := (-1000000001)) hx hb hr (fun t ht hW => ⟨⟨(-1000000001), (Qa, La, f2_33), rfl, ⟨trivial, (by first | assumption | omega)⟩, by rw [ht]; exact hP.sub [5, 0, 1, 2, 3, 4, 6] rfl, hD.sub [5, 0, 1, 2, 3, 4, 6] (by decide +kernel) rfl⟩, hS.F ht⟩) hS.2.2 dX8_meet_39 hlk
    · skip
      refine lv_if_eq (tgt := 33) hx hb dX8_meet_21 (by decide) (fun c_34 => ?_) (fun c_34 => absurd (by decide) c_34)
      refine lv_aload_n hx hb dX8_meet_33 rfl (lv_at hl 0 rfl) ?_
      refine lv_ldc (v := (-1000000001)) hx hb hown (hu _ uw396) dX8_meet_34 ?_
      refine xc_Vi (wr := [(qh, .inr (1, [.int (nI (Pa)), .ref ae, .ref al, .ref au, .ref ao, .ref ar, .ref ak, .ref aw, .ref att, .ref ass])), (al, .inl (cI, 100, .inl fal)), (ao, .inl (cI, 100, .inl fao)), (qa, .inr (0, [.int (nI (Qa)), .ref an])), (an, .inl (cI, 100, .inl La))]) hF (c_X8_finding_B l D cI cJ cZ cS ta sa sv s.heap.size h0 qh qk qd b0 qa qm qs qp ql qt qz qf ff ) kv_X8_80 ⟨rfl, rfl, Nat.le_of_ble_eq_true rfl, Nat.le_of_ble_eq_true rfl⟩ ⟨Nat.le_of_ble_eq_true rfl, Nat.le_of_ble_eq_true rfl⟩ hK hN hZ hP hD hS hA [0, 6] [1, 2, 3, 4, 5] rfl rfl rfl (by decide +kernel) (by decide +kernel) 0 rfl rfl rfl rfl hl.1 rfl (Nat.le_of_ble_eq_true rfl) dX8_meet_36 (fun r_35 u_r_35 H locs hw_r_35 hP hD hS => ?_)
      obtain ⟨f2_36, rfl⟩ : ∃ z, z = u_r_35 := ⟨_, rfl⟩
      try dsimp only at hw_r_35
      have hP : va_P D vwCl [(qh, .inr (1, [.int (nI (Pa)), .ref ae, .ref al, .ref au, .ref ao, .ref ar, .ref ak, .ref aw, .ref att, .ref ass])), (al, .inl (cI, 100, .inl fal)), (ao, .inl (cI, 100, .inl fao)), (qa, .inr (0, [.int (nI (Qa)), .ref an])), (an, .inl (cI, 100, .inl La)), (h0, .inr (8, [.ref qh, .ref qk, .ref qd, .int b0, .ref qa, .ref qm, .ref qs, .ref qp, .ref ql, .ref qt, .ref qz, .ref qf])), (qf, .inl (cI, 7, .inl f2_36))] H := hP
      have hD : va_D A [(qh, .inr (1, [.int (nI (Pa)), .ref ae, .ref al, .ref au, .ref ao, .ref ar, .ref ak, .ref aw, .ref att, .ref ass])), (al, .inl (cI, 100, .inl fal)), (ao, .inl (cI, 100, .inl fao)), (qa, .inr (0, [.int (nI (Qa)), .ref an])), (an, .inl (cI, 100, .inl La)), (h0, .inr (8, [.ref qh, .ref qk, .ref qd, .int b0, .ref qa, .ref qm, .ref qs, .ref qp, .ref ql, .ref qt, .ref qz, .ref qf])), (qf, .inl (cI, 7, .inl f2_36))] := hD
      subst hw_r_35
      exact W.iret (v := (-1000000001)) hx hb hr (fun t ht hW => ⟨⟨(-1000000001), (Qa, La, f2_36), rfl, ⟨trivial, (by first | assumption | omega)⟩, by rw [ht]; exact hP.sub [5, 0, 1, 2, 3, 4, 6] rfl, hD.sub [5, 0, 1, 2, 3, 4, 6] (by decide +kernel) rfl⟩, hS.F ht⟩) hS.2.2 dX8_meet_39 hlk
  · skip
    refine lv_if_eq (tgt := 33) hx hb dX8_meet_9 (by decide) (fun c_37 => ?_) (fun c_37 => absurd (by decide) c_37)
    refine lv_aload_n hx hb dX8_meet_33 rfl (lv_at hl 0 rfl) ?_
    refine lv_ldc (v := (-1000000001)) hx hb hown (hu _ uw396) dX8_meet_34 ?_
    refine xc_Vi (wr := [(qh, .inr (1, [.int (nI (Pa)), .ref ae, .ref al, .ref au, .ref ao, .ref ar, .ref ak, .ref aw, .ref att, .ref ass])), (al, .inl (cI, 100, .inl fal)), (ao, .inl (cI, 100, .inl fao)), (qa, .inr (0, [.int (nI (Qa)), .ref an])), (an, .inl (cI, 100, .inl La))]) hF (c_X8_finding_B l D cI cJ cZ cS ta sa sv s.heap.size h0 qh qk qd b0 qa qm qs qp ql qt qz qf ff ) kv_X8_80 ⟨rfl, rfl, Nat.le_of_ble_eq_true rfl, Nat.le_of_ble_eq_true rfl⟩ ⟨Nat.le_of_ble_eq_true rfl, Nat.le_of_ble_eq_true rfl⟩ hK hN hZ hP hD hS hA [0, 6] [1, 2, 3, 4, 5] rfl rfl rfl (by decide +kernel) (by decide +kernel) 0 rfl rfl rfl rfl hl.1 rfl (Nat.le_of_ble_eq_true rfl) dX8_meet_36 (fun r_38 u_r_38 H locs hw_r_38 hP hD hS => ?_)
    obtain ⟨f2_39, rfl⟩ : ∃ z, z = u_r_38 := ⟨_, rfl⟩
    try dsimp only at hw_r_38
    have hP : va_P D vwCl [(qh, .inr (1, [.int (nI (Pa)), .ref ae, .ref al, .ref au, .ref ao, .ref ar, .ref ak, .ref aw, .ref att, .ref ass])), (al, .inl (cI, 100, .inl fal)), (ao, .inl (cI, 100, .inl fao)), (qa, .inr (0, [.int (nI (Qa)), .ref an])), (an, .inl (cI, 100, .inl La)), (h0, .inr (8, [.ref qh, .ref qk, .ref qd, .int b0, .ref qa, .ref qm, .ref qs, .ref qp, .ref ql, .ref qt, .ref qz, .ref qf])), (qf, .inl (cI, 7, .inl f2_39))] H := hP
    have hD : va_D A [(qh, .inr (1, [.int (nI (Pa)), .ref ae, .ref al, .ref au, .ref ao, .ref ar, .ref ak, .ref aw, .ref att, .ref ass])), (al, .inl (cI, 100, .inl fal)), (ao, .inl (cI, 100, .inl fao)), (qa, .inr (0, [.int (nI (Qa)), .ref an])), (an, .inl (cI, 100, .inl La)), (h0, .inr (8, [.ref qh, .ref qk, .ref qd, .int b0, .ref qa, .ref qm, .ref qs, .ref qp, .ref ql, .ref qt, .ref qz, .ref qf])), (qf, .inl (cI, 7, .inl f2_39))] := hD
    subst hw_r_38
    exact W.iret (v := (-1000000001)) hx hb hr (fun t ht hW => ⟨⟨(-1000000001), (Qa, La, f2_39), rfl, ⟨trivial, (by first | assumption | omega)⟩, by rw [ht]; exact hP.sub [5, 0, 1, 2, 3, 4, 6] rfl, hD.sub [5, 0, 1, 2, 3, 4, 6] (by decide +kernel) rfl⟩, hS.F ht⟩) hS.2.2 dX8_meet_39 hlk
set_option maxHeartbeats 4000000 in
set_option maxRecDepth 100000 in
theorem c_X8_round (l : Launch) (D : va_G) (cI cJ cZ cS : ClassId) (ta : Nat) (sa sv : Nat → Nat) (sz : Nat) (h0 : Nat) (qh : Nat) (qk : Nat) (qd : Nat) (b0 : Int32) (qa : Nat) (qm : Nat) (qs : Nat) (qp : Nat) (ql : Nat) (qt : Nat) (qz : Nat) (qf : Nat) (Pa : Nat) (ae : Nat) (al : Nat) (au : Nat) (ao : Nat) (ar : Nat) (ak : Nat) (aw : Nat) (att : Nat) (ass : Nat) (Ra : Nat) (aRn : Nat) (aRp : Nat) (farn : Nat → Int32) (farp : Nat → Int32) (fak : Nat → Int32) (ff : Nat → Int32) (p0 : Int32) (p1 : Int32) (hP0 : Pa ≤ 10) (hR : Ra ≤ 8) (hLLr : LL Ra farn) (harn : BA 8 7 farn) (harp : BA 48 10 farp) : Met l yX8_round (Cond.code yX8_round cX8_round 3 (some .int) :: wsU) ({ frames := 3, cells := 0, slots := 0, locals := 67 }) (va_Pc [.ref h0, .int p0, .int p1] (XW D (xT cI cJ cZ cS) ta sa sv [(h0, .inr (8, [.ref qh, .ref qk, .ref qd, .int b0, .ref qa, .ref qm, .ref qs, .ref qp, .ref ql, .ref qt, .ref qz, .ref qf])), (qh, .inr (1, [.int (nI (Pa)), .ref ae, .ref al, .ref au, .ref ao, .ref ar, .ref ak, .ref aw, .ref att, .ref ass])), (ar, .inr (3, [.int (nI (Ra)), .ref aRn, .ref aRp])), (aRn, .inl (cI, 8, .inl farn)), (aRp, .inl (cI, 48, .inl farp)), (ak, .inl (cI, 8, .inl fak)), (qf, .inl (cI, 7, .inl ff))] sz)) (XQi (fun (r : Int32) (u : Nat × (Nat → Int32) × (Nat → Int32) × (Nat → Int32) × (Nat → Int32)) => match u with | (R2, rn2, rp2, k2, f2) => ((r = sp_rdr Pa Ra p0 p1)) ∧ (R2 = sp_rd Pa Ra p0 p1) ∧ (k2 = rdK Pa Ra p0 p1 fak) ∧ (rn2 = rdL Pa Ra p0 p1 farn) ∧ (rp2 = rdS Pa Ra p0 p1 farp) ∧ (R2 ≤ 8) ∧ (LL R2 rn2) ∧ (BA 8 7 rn2) ∧ (BA 48 10 rp2)) D (fun (u : Nat × (Nat → Int32) × (Nat → Int32) × (Nat → Int32) × (Nat → Int32)) => match u with | (R2, rn2, rp2, k2, f2) => [(h0, .inr (8, [.ref qh, .ref qk, .ref qd, .int b0, .ref qa, .ref qm, .ref qs, .ref qp, .ref ql, .ref qt, .ref qz, .ref qf])), (qh, .inr (1, [.int (nI (Pa)), .ref ae, .ref al, .ref au, .ref ao, .ref ar, .ref ak, .ref aw, .ref att, .ref ass])), (ar, .inr (3, [.int (nI (R2)), .ref aRn, .ref aRp])), (aRn, .inl (cI, 8, .inl rn2)), (aRp, .inl (cI, 48, .inl rp2)), (ak, .inl (cI, 8, .inl k2)), (qf, .inl (cI, 7, .inl f2))]) (va_A [(h0, .inr (8, [.ref qh, .ref qk, .ref qd, .int b0, .ref qa, .ref qm, .ref qs, .ref qp, .ref ql, .ref qt, .ref qz, .ref qf])), (qh, .inr (1, [.int (nI (Pa)), .ref ae, .ref al, .ref au, .ref ao, .ref ar, .ref ak, .ref aw, .ref att, .ref ass])), (ar, .inr (3, [.int (nI (Ra)), .ref aRn, .ref aRp])), (aRn, .inl (cI, 8, .inl farn)), (aRp, .inl (cI, 48, .inl farp)), (ak, .inl (cI, 8, .inl fak)), (qf, .inl (cI, 7, .inl ff))] sz)) 0 0 (va_A [(h0, .inr (8, [.ref qh, .ref qk, .ref qd, .int b0, .ref qa, .ref qm, .ref qs, .ref qp, .ref ql, .ref qt, .ref qz, .ref qf])), (qh, .inr (1, [.int (nI (Pa)), .ref ae, .ref al, .ref au, .ref ao, .ref ar, .ref ak, .ref aw, .ref att, .ref ass])), (ar, .inr (3, [.int (nI (Ra)), .ref aRn, .ref aRp])), (aRn, .inl (cI, 8, .inl farn)), (aRp, .inl (cI, 48, .inl farp)), (ak, .inl (cI, 8, .inl fak)), (qf, .inl (cI, 7, .inl ff))] sz) := by
  refine xh (QA := fun A => XQi (fun (r : Int32) (u : Nat × (Nat → Int32) × (Nat → Int32) × (Nat → Int32) × (Nat → Int32)) => match u with | (R2, rn2, rp2, k2, f2) => ((r = sp_rdr Pa Ra p0 p1)) ∧ (R2 = sp_rd Pa Ra p0 p1) ∧ (k2 = rdK Pa Ra p0 p1 fak) ∧ (rn2 = rdL Pa Ra p0 p1 farn) ∧ (rp2 = rdS Pa Ra p0 p1 farp) ∧ (R2 ≤ 8) ∧ (LL R2 rn2) ∧ (BA 8 7 rn2) ∧ (BA 48 10 rp2)) D (fun (u : Nat × (Nat → Int32) × (Nat → Int32) × (Nat → Int32) × (Nat → Int32)) => match u with | (R2, rn2, rp2, k2, f2) => [(h0, .inr (8, [.ref qh, .ref qk, .ref qd, .int b0, .ref qa, .ref qm, .ref qs, .ref qp, .ref ql, .ref qt, .ref qz, .ref qf])), (qh, .inr (1, [.int (nI (Pa)), .ref ae, .ref al, .ref au, .ref ao, .ref ar, .ref ak, .ref aw, .ref att, .ref ass])), (ar, .inr (3, [.int (nI (R2)), .ref aRn, .ref aRp])), (aRn, .inl (cI, 8, .inl rn2)), (aRp, .inl (cI, 48, .inl rp2)), (ak, .inl (cI, 8, .inl k2)), (qf, .inl (cI, 7, .inl f2))]) A) (fr := fun A => A) (by decide) (Nat.le_of_ble_eq_true rfl) ?_
  intro p e s m below meth c ls A hF hr hlk hin hsz hP hK hD hN hZ hA hS hl
  have hF : CallFix p m c cX8_round 3 s _ _ RX8 := hF
  have hx := hF.1
  have hb := hF.2.1
  have hml := hF.2.2.1
  have hown := hF.2.2.2.1
  have hu : ∀ w ∈ wsU, w.before _ s = true := fun w h => hF.2.2.2.2 w (List.mem_cons_of_mem _ h)
  have hl : lv_has ls 3 [(0, .ref h0), (1, .int p0), (2, .int p1)] := hl
  refine lv_iload_n hx hb dX8_round_0 rfl (lv_at hl 1 rfl) ?_
  refine xc_Sr hF (c_X8_isKind l D cI cJ cZ cS ta sa sv s.heap.size p0 ) ks_X8_155 ⟨rfl, rfl, Nat.le_of_ble_eq_true rfl, Nat.le_of_ble_eq_true rfl⟩ ⟨Nat.le_of_ble_eq_true rfl, Nat.le_of_ble_eq_true rfl⟩ hK hN hZ hP hD hS hA [] rfl rfl rfl hl.1 rfl (Nat.le_of_ble_eq_true rfl) dX8_round_1 (fun r_1 hw_r_1 => ?_)
  rcases hw_r_1 with ⟨rfl, h_2, h_3⟩ | ⟨rfl, h_4⟩
  · skip
    refine lv_if_eq (tgt := 19) hx hb dX8_round_4 (by decide) (fun c_5 => absurd c_5 (by decide)) (fun c_5 => ?_)
    refine lv_aload_n hx hb dX8_round_7 rfl (lv_at hl 0 rfl) ?_
    refine xg hF kf_X8_12 hK hP 0 rfl rfl dX8_round_8 ?_
    refine lv_iload_n hx hb dX8_round_11 rfl (lv_at hl 2 rfl) ?_
    refine lv_i2l (v := p1.toInt64) hx hb dX8_round_12 rfl ?_
    refine xc_Vr hF (c_X1_isPlace l D cI cJ cZ cS ta sa sv s.heap.size qh ae al au ao ar ak aw att ass Pa p1 (by omega)) kv_X8_87 ⟨rfl, rfl, Nat.le_of_ble_eq_true rfl, Nat.le_of_ble_eq_true rfl⟩ ⟨Nat.le_of_ble_eq_true rfl, Nat.le_of_ble_eq_true rfl⟩ hK hN hZ hP hD hS hA [1] rfl rfl 0 rfl rfl rfl rfl hl.1 rfl (Nat.le_of_ble_eq_true rfl) dX8_round_13 (fun r_6 hw_r_6 => ?_)
    rcases hw_r_6 with ⟨k_7, rfl, rfl, h_9⟩ | ⟨rfl, h_10⟩
    · skip
      refine lv_if_ne (tgt := 26) hx hb dX8_round_16 (by decide) (fun c_11 => ?_) (fun c_11 => absurd c_11 (by decide))
      refine lv_aload_n hx hb dX8_round_26 rfl (lv_at hl 0 rfl) ?_
      refine xg hF kf_X8_12 hK hP 0 rfl rfl dX8_round_27 ?_
      refine xg hF kf_X8_159 hK hP 1 rfl rfl dX8_round_30 ?_
      refine xc_Vr hF (c_X3_isFull l D cI cJ cZ cS ta sa sv s.heap.size ar aRn aRp Ra (by omega)) kv_X8_163 ⟨rfl, rfl, Nat.le_of_ble_eq_true rfl, Nat.le_of_ble_eq_true rfl⟩ ⟨Nat.le_of_ble_eq_true rfl, Nat.le_of_ble_eq_true rfl⟩ hK hN hZ hP hD hS hA [2] rfl rfl 0 rfl rfl rfl rfl hl.1 rfl (Nat.le_of_ble_eq_true rfl) dX8_round_33 (fun r_12 hw_r_12 => ?_)
      rcases hw_r_12 with ⟨rfl, h_13⟩ | ⟨rfl, h_14⟩
      · skip
        refine lv_if_eq (tgt := 46) hx hb dX8_round_36 (by decide) (fun c_15 => absurd c_15 (by decide)) (fun c_15 => ?_)
        refine lv_aload_n hx hb dX8_round_39 rfl (lv_at hl 0 rfl) ?_
        refine lv_ldc (v := (-1000000002)) hx hb hown (hu _ uw419) dX8_round_40 ?_
        refine xc_Vi (wr := [(qh, .inr (1, [.int (nI (Pa)), .ref ae, .ref al, .ref au, .ref ao, .ref ar, .ref ak, .ref aw, .ref att, .ref ass])), (ar, .inr (3, [.int (nI (Ra)), .ref aRn, .ref aRp])), (aRn, .inl (cI, 8, .inl farn)), (aRp, .inl (cI, 48, .inl farp)), (ak, .inl (cI, 8, .inl fak))]) hF (c_X8_finding_F l D cI cJ cZ cS ta sa sv s.heap.size h0 qh qk qd b0 qa qm qs qp ql qt qz qf ff ) kv_X8_80 ⟨rfl, rfl, Nat.le_of_ble_eq_true rfl, Nat.le_of_ble_eq_true rfl⟩ ⟨Nat.le_of_ble_eq_true rfl, Nat.le_of_ble_eq_true rfl⟩ hK hN hZ hP hD hS hA [0, 6] [1, 2, 3, 4, 5] rfl rfl rfl (by decide +kernel) (by decide +kernel) 0 rfl rfl rfl rfl hl.1 rfl (Nat.le_of_ble_eq_true rfl) dX8_round_42 (fun r_16 u_r_16 H locs hw_r_16 hP hD hS => ?_)
        obtain ⟨f2_17, rfl⟩ : ∃ z, z = u_r_16 := ⟨_, rfl⟩
        try dsimp only at hw_r_16
        have hP : va_P D vwCl [(qh, .inr (1, [.int (nI (Pa)), .ref ae, .ref al, .ref au, .ref ao, .ref ar, .ref ak, .ref aw, .ref att, .ref ass])), (ar, .inr (3, [.int (nI (Ra)), .ref aRn, .ref aRp])), (aRn, .inl (cI, 8, .inl farn)), (aRp, .inl (cI, 48, .inl farp)), (ak, .inl (cI, 8, .inl fak)), (h0, .inr (8, [.ref qh, .ref qk, .ref qd, .int b0, .ref qa, .ref qm, .ref qs, .ref qp, .ref ql, .ref qt, .ref qz, .ref qf])), (qf, .inl (cI, 7, .inl f2_17))] H := hP
        have hD : va_D A [(qh, .inr (1, [.int (nI (Pa)), .ref ae, .ref al, .ref au, .ref ao, .ref ar, .ref ak, .ref aw, .ref att, .ref ass])), (ar, .inr (3, [.int (nI (Ra)), .ref aRn, .ref aRp])), (aRn, .inl (cI, 8, .inl farn)), (aRp, .inl (cI, 48, .inl farp)), (ak, .inl (cI, 8, .inl fak)), (h0, .inr (8, [.ref qh, .ref qk, .ref qd, .int b0, .ref qa, .ref qm, .ref qs, .ref qp, .ref ql, .ref qt, .ref qz, .ref qf])), (qf, .inl (cI, 7, .inl f2_17))] := hD
        subst hw_r_16
        exact W.iret (v := (-1000000002)) hx hb hr (fun t ht hW => ⟨⟨(-1000000002), (Ra, farn, farp, fak, f2_17), rfl, ⟨(sp_rd2 ⟨⟨h_2, h_3⟩, isP_nI (by omega) (by omega)⟩ (by omega)).2, (sp_rd2 ⟨⟨h_2, h_3⟩, isP_nI (by omega) (by omega)⟩ (by omega)).1, (if_neg (fun h => absurd h.2 (by omega))).symm, (if_neg (fun h => absurd h.2 (by omega))).symm, (if_neg (fun h => absurd h.2 (by omega))).symm, (by first | assumption | omega), hLLr, harn, harp⟩, by rw [ht]; exact hP.sub [5, 0, 1, 2, 3, 4, 6] rfl, hD.sub [5, 0, 1, 2, 3, 4, 6] (by decide +kernel) rfl⟩, hS.F ht⟩) hS.2.2 dX8_round_45 hlk
      · skip
        refine lv_if_eq (tgt := 46) hx hb dX8_round_36 (by decide) (fun c_18 => ?_) (fun c_18 => absurd (by decide) c_18)
        refine lv_aload_n hx hb dX8_round_46 rfl (lv_at hl 0 rfl) ?_
        refine xg hF kf_X8_12 hK hP 0 rfl rfl dX8_round_47 ?_
        refine lv_iload_n hx hb dX8_round_50 rfl (lv_at hl 1 rfl) ?_
        refine lv_iload_n hx hb dX8_round_51 rfl (lv_at hl 2 rfl) ?_
        refine xc_Vi (wr := [(h0, .inr (8, [.ref qh, .ref qk, .ref qd, .int b0, .ref qa, .ref qm, .ref qs, .ref qp, .ref ql, .ref qt, .ref qz, .ref qf])), (qf, .inl (cI, 7, .inl ff))]) hF (c_X1_addRound l D cI cJ cZ cS ta sa sv s.heap.size qh ae al au ao ar ak aw att ass Pa aRn aRp Ra k_7 farn farp fak p0 (by omega) (by omega) harn harp) kv_X8_168 ⟨rfl, rfl, Nat.le_of_ble_eq_true rfl, Nat.le_of_ble_eq_true rfl⟩ ⟨Nat.le_of_ble_eq_true rfl, Nat.le_of_ble_eq_true rfl⟩ hK hN hZ hP hD hS hA [1, 2, 3, 4, 5] [0, 6] rfl rfl (by decide +kernel) rfl (by decide +kernel) 0 rfl rfl rfl rfl hl.1 rfl (Nat.le_of_ble_eq_true rfl) dX8_round_52 (fun r_19 u_r_19 H locs hw_r_19 hP hD hS => ?_)
        obtain ⟨l2_20, s2_21, k2_22⟩ := u_r_19
        try dsimp only at hw_r_19
        obtain ⟨hw_r_19, i_23, i_24, i_25, i_26, i_27⟩ := hw_r_19
        have hP : va_P D vwCl [(h0, .inr (8, [.ref qh, .ref qk, .ref qd, .int b0, .ref qa, .ref qm, .ref qs, .ref qp, .ref ql, .ref qt, .ref qz, .ref qf])), (qf, .inl (cI, 7, .inl ff)), (qh, .inr (1, [.int (nI (Pa)), .ref ae, .ref al, .ref au, .ref ao, .ref ar, .ref ak, .ref aw, .ref att, .ref ass])), (ar, .inr (3, [.int (nI (Ra + 1)), .ref aRn, .ref aRp])), (aRn, .inl (cI, 8, .inl l2_20)), (aRp, .inl (cI, 48, .inl s2_21)), (ak, .inl (cI, 8, .inl k2_22))] H := hP
        have hD : va_D A [(h0, .inr (8, [.ref qh, .ref qk, .ref qd, .int b0, .ref qa, .ref qm, .ref qs, .ref qp, .ref ql, .ref qt, .ref qz, .ref qf])), (qf, .inl (cI, 7, .inl ff)), (qh, .inr (1, [.int (nI (Pa)), .ref ae, .ref al, .ref au, .ref ao, .ref ar, .ref ak, .ref aw, .ref att, .ref ass])), (ar, .inr (3, [.int (nI (Ra + 1)), .ref aRn, .ref aRp])), (aRn, .inl (cI, 8, .inl l2_20)), (aRp, .inl (cI, 48, .inl s2_21)), (ak, .inl (cI, 8, .inl k2_22))] := hD
        subst hw_r_19
        exact W.iret (v := nI (Ra)) hx hb hr (fun t ht hW => ⟨⟨nI (Ra), (Ra + 1, l2_20, s2_21, k2_22, ff), rfl, ⟨(sp_rd1 ⟨⟨h_2, h_3⟩, isP_nI (by omega) (by omega)⟩ (by omega)).2, (sp_rd1 ⟨⟨h_2, h_3⟩, isP_nI (by omega) (by omega)⟩ (by omega)).1, (by rw [i_27]; exact (if_pos (show okRn Pa Ra p0 _ from ⟨⟨⟨h_2, h_3⟩, isP_nI (by omega) (by omega)⟩, by omega⟩)).symm), (by rw [i_25]; exact (if_pos (show okRn Pa Ra p0 _ from ⟨⟨⟨h_2, h_3⟩, isP_nI (by omega) (by omega)⟩, by omega⟩)).symm), (by rw [i_26]; exact (if_pos (show okRn Pa Ra p0 _ from ⟨⟨⟨h_2, h_3⟩, isP_nI (by omega) (by omega)⟩, by omega⟩)).symm), (by first | assumption | omega), (by rw [i_25]; exact LL.new hLLr), i_23, i_24⟩, by rw [ht]; exact hP.sub [0, 2, 3, 4, 5, 6, 1] rfl, hD.sub [0, 2, 3, 4, 5, 6, 1] (by decide +kernel) rfl⟩, hS.F ht⟩) hS.2.2 dX8_round_55 hlk
    · skip
      refine lv_if_ne (tgt := 26) hx hb dX8_round_16 (by decide) (fun c_28 => absurd (by decide) c_28) (fun c_28 => ?_)
      refine lv_aload_n hx hb dX8_round_19 rfl (lv_at hl 0 rfl) ?_
      refine lv_ldc (v := (-1000000001)) hx hb hown (hu _ uw396) dX8_round_20 ?_
      refine xc_Vi (wr := [(qh, .inr (1, [.int (nI (Pa)), .ref ae, .ref al, .ref au, .ref ao, .ref ar, .ref ak, .ref aw, .ref att, .ref ass])), (ar, .inr (3, [.int (nI (Ra)), .ref aRn, .ref aRp])), (aRn, .inl (cI, 8, .inl farn)), (aRp, .inl (cI, 48, .inl farp)), (ak, .inl (cI, 8, .inl fak))]) hF (c_X8_finding_B l D cI cJ cZ cS ta sa sv s.heap.size h0 qh qk qd b0 qa qm qs qp ql qt qz qf ff ) kv_X8_80 ⟨rfl, rfl, Nat.le_of_ble_eq_true rfl, Nat.le_of_ble_eq_true rfl⟩ ⟨Nat.le_of_ble_eq_true rfl, Nat.le_of_ble_eq_true rfl⟩ hK hN hZ hP hD hS hA [0, 6] [1, 2, 3, 4, 5] rfl rfl rfl (by decide +kernel) (by decide +kernel) 0 rfl rfl rfl rfl hl.1 rfl (Nat.le_of_ble_eq_true rfl) dX8_round_22 (fun r_29 u_r_29 H locs hw_r_29 hP hD hS => ?_)
      obtain ⟨f2_30, rfl⟩ : ∃ z, z = u_r_29 := ⟨_, rfl⟩
      try dsimp only at hw_r_29
      have hP : va_P D vwCl [(qh, .inr (1, [.int (nI (Pa)), .ref ae, .ref al, .ref au, .ref ao, .ref ar, .ref ak, .ref aw, .ref att, .ref ass])), (ar, .inr (3, [.int (nI (Ra)), .ref aRn, .ref aRp])), (aRn, .inl (cI, 8, .inl farn)), (aRp, .inl (cI, 48, .inl farp)), (ak, .inl (cI, 8, .inl fak)), (h0, .inr (8, [.ref qh, .ref qk, .ref qd, .int b0, .ref qa, .ref qm, .ref qs, .ref qp, .ref ql, .ref qt, .ref qz, .ref qf])), (qf, .inl (cI, 7, .inl f2_30))] H := hP
      have hD : va_D A [(qh, .inr (1, [.int (nI (Pa)), .ref ae, .ref al, .ref au, .ref ao, .ref ar, .ref ak, .ref aw, .ref att, .ref ass])), (ar, .inr (3, [.int (nI (Ra)), .ref aRn, .ref aRp])), (aRn, .inl (cI, 8, .inl farn)), (aRp, .inl (cI, 48, .inl farp)), (ak, .inl (cI, 8, .inl fak)), (h0, .inr (8, [.ref qh, .ref qk, .ref qd, .int b0, .ref qa, .ref qm, .ref qs, .ref qp, .ref ql, .ref qt, .ref qz, .ref qf])), (qf, .inl (cI, 7, .inl f2_30))] := hD
      subst hw_r_29
      exact W.iret (v := (-1000000001)) hx hb hr (fun t ht hW => ⟨⟨(-1000000001), (Ra, farn, farp, fak, f2_30), rfl, ⟨(sp_rd3 (P := Pa) (R := Ra) (fun h => h_10 h.2)).2, (sp_rd3 (P := Pa) (R := Ra) (fun h => h_10 h.2)).1, (if_neg (fun h => h_10 h.1.2)).symm, (if_neg (fun h => h_10 h.1.2)).symm, (if_neg (fun h => h_10 h.1.2)).symm, (by first | assumption | omega), hLLr, harn, harp⟩, by rw [ht]; exact hP.sub [5, 0, 1, 2, 3, 4, 6] rfl, hD.sub [5, 0, 1, 2, 3, 4, 6] (by decide +kernel) rfl⟩, hS.F ht⟩) hS.2.2 dX8_round_25 hlk
  · skip
    refine lv_if_eq (tgt := 19) hx hb dX8_round_4 (by decide) (fun c_31 => ?_) (fun c_31 => absurd (by decide) c_31)
    refine lv_aload_n hx hb dX8_round_19 rfl (lv_at hl 0 rfl) ?_
    refine lv_ldc (v := (-1000000001)) hx hb hown (hu _ uw396) dX8_round_20 ?_
    refine xc_Vi (wr := [(qh, .inr (1, [.int (nI (Pa)), .ref ae, .ref al, .ref au, .ref ao, .ref ar, .ref ak, .ref aw, .ref att, .ref ass])), (ar, .inr (3, [.int (nI (Ra)), .ref aRn, .ref aRp])), (aRn, .inl (cI, 8, .inl farn)), (aRp, .inl (cI, 48, .inl farp)), (ak, .inl (cI, 8, .inl fak))]) hF (c_X8_finding_B l D cI cJ cZ cS ta sa sv s.heap.size h0 qh qk qd b0 qa qm qs qp ql qt qz qf ff ) kv_X8_80 ⟨rfl, rfl, Nat.le_of_ble_eq_true rfl, Nat.le_of_ble_eq_true rfl⟩ ⟨Nat.le_of_ble_eq_true rfl, Nat.le_of_ble_eq_true rfl⟩ hK hN hZ hP hD hS hA [0, 6] [1, 2, 3, 4, 5] rfl rfl rfl (by decide +kernel) (by decide +kernel) 0 rfl rfl rfl rfl hl.1 rfl (Nat.le_of_ble_eq_true rfl) dX8_round_22 (fun r_32 u_r_32 H locs hw_r_32 hP hD hS => ?_)
    obtain ⟨f2_33, rfl⟩ : ∃ z, z = u_r_32 := ⟨_, rfl⟩
    try dsimp only at hw_r_32
    have hP : va_P D vwCl [(qh, .inr (1, [.int (nI (Pa)), .ref ae, .ref al, .ref au, .ref ao, .ref ar, .ref ak, .ref aw, .ref att, .ref ass])), (ar, .inr (3, [.int (nI (Ra)), .ref aRn, .ref aRp])), (aRn, .inl (cI, 8, .inl farn)), (aRp, .inl (cI, 48, .inl farp)), (ak, .inl (cI, 8, .inl fak)), (h0, .inr (8, [.ref qh, .ref qk, .ref qd, .int b0, .ref qa, .ref qm, .ref qs, .ref qp, .ref ql, .ref qt, .ref qz, .ref qf])), (qf, .inl (cI, 7, .inl f2_33))] H := hP
    have hD : va_D A [(qh, .inr (1, [.int (nI (Pa)), .ref ae, .ref al, .ref au, .ref ao, .ref ar, .ref ak, .ref aw, .ref att, .ref ass])), (ar, .inr (3, [.int (nI (Ra)), .ref aRn, .ref aRp])), (aRn, .inl (cI, 8, .inl farn)), (aRp, .inl (cI, 48, .inl farp)), (ak, .inl (cI, 8, .inl fak)), (h0, .inr (8, [.ref qh, .ref qk, .ref qd, .int b0, .ref qa, .ref qm, .ref qs, .ref qp, .ref ql, .ref qt, .ref qz, .ref qf])), (qf, .inl (cI, 7, .inl f2_33))] := hD
    subst hw_r_32
    exact W.iret (v := (-1000000001)) hx hb hr (fun t ht hW => ⟨⟨(-1000000001), (Ra, farn, farp, fak, f2_33), rfl, ⟨(sp_rd3 (P := Pa) (R := Ra) (fun h => h_4.elim h.1.1 h.1.2)).2, (sp_rd3 (P := Pa) (R := Ra) (fun h => h_4.elim h.1.1 h.1.2)).1, (if_neg (fun h => h_4.elim h.1.1.1 h.1.1.2)).symm, (if_neg (fun h => h_4.elim h.1.1.1 h.1.1.2)).symm, (if_neg (fun h => h_4.elim h.1.1.1 h.1.1.2)).symm, (by first | assumption | omega), hLLr, harn, harp⟩, by rw [ht]; exact hP.sub [5, 0, 1, 2, 3, 4, 6] rfl, hD.sub [5, 0, 1, 2, 3, 4, 6] (by decide +kernel) rfl⟩, hS.F ht⟩) hS.2.2 dX8_round_25 hlk
set_option maxHeartbeats 4000000 in
set_option maxRecDepth 100000 in
theorem c_X8_over (l : Launch) (D : va_G) (cI cJ cZ cS : ClassId) (ta : Nat) (sa sv : Nat → Nat) (sz : Nat) (h0 : Nat) (qh : Nat) (qk : Nat) (qd : Nat) (b0 : Int32) (qa : Nat) (qm : Nat) (qs : Nat) (qp : Nat) (ql : Nat) (qt : Nat) (qz : Nat) (qf : Nat) (Pa : Nat) (ae : Nat) (al : Nat) (au : Nat) (ao : Nat) (ar : Nat) (ak : Nat) (aw : Nat) (att : Nat) (ass : Nat) (Ra : Nat) (aRn : Nat) (aRp : Nat) (farn : Nat → Int32) (farp : Nat → Int32) (ff : Nat → Int32) (p0 : Int32) (p1 : Int32) (hP0 : Pa ≤ 10) (hR : Ra ≤ 8) (hLLr : LL Ra farn) (harn : BA 8 7 farn) (harp : BA 48 10 farp) : Met l yX8_over (Cond.code yX8_over cX8_over 3 (some .int) :: wsU) ({ frames := 1, cells := 0, slots := 0, locals := 22 }) (va_Pc [.ref h0, .int p0, .int p1] (XW D (xT cI cJ cZ cS) ta sa sv [(h0, .inr (8, [.ref qh, .ref qk, .ref qd, .int b0, .ref qa, .ref qm, .ref qs, .ref qp, .ref ql, .ref qt, .ref qz, .ref qf])), (qh, .inr (1, [.int (nI (Pa)), .ref ae, .ref al, .ref au, .ref ao, .ref ar, .ref ak, .ref aw, .ref att, .ref ass])), (ar, .inr (3, [.int (nI (Ra)), .ref aRn, .ref aRp])), (aRn, .inl (cI, 8, .inl farn)), (aRp, .inl (cI, 48, .inl farp)), (qf, .inl (cI, 7, .inl ff))] sz)) (XQi (fun (r : Int32) (u : (Nat → Int32) × (Nat → Int32) × (Nat → Int32)) => match u with | (rn2, rp2, f2) => ((r = ovr Pa Ra farn p0 p1)) ∧ (rn2 = ovL Pa Ra farn p0 p1) ∧ (rp2 = ovS Pa Ra farn p0 p1 farp) ∧ (LL Ra rn2) ∧ (BA 8 7 rn2) ∧ (BA 48 10 rp2)) D (fun (u : (Nat → Int32) × (Nat → Int32) × (Nat → Int32)) => match u with | (rn2, rp2, f2) => [(h0, .inr (8, [.ref qh, .ref qk, .ref qd, .int b0, .ref qa, .ref qm, .ref qs, .ref qp, .ref ql, .ref qt, .ref qz, .ref qf])), (qh, .inr (1, [.int (nI (Pa)), .ref ae, .ref al, .ref au, .ref ao, .ref ar, .ref ak, .ref aw, .ref att, .ref ass])), (ar, .inr (3, [.int (nI (Ra)), .ref aRn, .ref aRp])), (aRn, .inl (cI, 8, .inl rn2)), (aRp, .inl (cI, 48, .inl rp2)), (qf, .inl (cI, 7, .inl f2))]) (va_A [(h0, .inr (8, [.ref qh, .ref qk, .ref qd, .int b0, .ref qa, .ref qm, .ref qs, .ref qp, .ref ql, .ref qt, .ref qz, .ref qf])), (qh, .inr (1, [.int (nI (Pa)), .ref ae, .ref al, .ref au, .ref ao, .ref ar, .ref ak, .ref aw, .ref att, .ref ass])), (ar, .inr (3, [.int (nI (Ra)), .ref aRn, .ref aRp])), (aRn, .inl (cI, 8, .inl farn)), (aRp, .inl (cI, 48, .inl farp)), (qf, .inl (cI, 7, .inl ff))] sz)) 0 0 (va_A [(h0, .inr (8, [.ref qh, .ref qk, .ref qd, .int b0, .ref qa, .ref qm, .ref qs, .ref qp, .ref ql, .ref qt, .ref qz, .ref qf])), (qh, .inr (1, [.int (nI (Pa)), .ref ae, .ref al, .ref au, .ref ao, .ref ar, .ref ak, .ref aw, .ref att, .ref ass])), (ar, .inr (3, [.int (nI (Ra)), .ref aRn, .ref aRp])), (aRn, .inl (cI, 8, .inl farn)), (aRp, .inl (cI, 48, .inl farp)), (qf, .inl (cI, 7, .inl ff))] sz) := by
  refine xh (QA := fun A => XQi (fun (r : Int32) (u : (Nat → Int32) × (Nat → Int32) × (Nat → Int32)) => match u with | (rn2, rp2, f2) => ((r = ovr Pa Ra farn p0 p1)) ∧ (rn2 = ovL Pa Ra farn p0 p1) ∧ (rp2 = ovS Pa Ra farn p0 p1 farp) ∧ (LL Ra rn2) ∧ (BA 8 7 rn2) ∧ (BA 48 10 rp2)) D (fun (u : (Nat → Int32) × (Nat → Int32) × (Nat → Int32)) => match u with | (rn2, rp2, f2) => [(h0, .inr (8, [.ref qh, .ref qk, .ref qd, .int b0, .ref qa, .ref qm, .ref qs, .ref qp, .ref ql, .ref qt, .ref qz, .ref qf])), (qh, .inr (1, [.int (nI (Pa)), .ref ae, .ref al, .ref au, .ref ao, .ref ar, .ref ak, .ref aw, .ref att, .ref ass])), (ar, .inr (3, [.int (nI (Ra)), .ref aRn, .ref aRp])), (aRn, .inl (cI, 8, .inl rn2)), (aRp, .inl (cI, 48, .inl rp2)), (qf, .inl (cI, 7, .inl f2))]) A) (fr := fun A => A) (by decide) (Nat.le_of_ble_eq_true rfl) ?_
  intro p e s m below meth c ls A hF hr hlk hin hsz hP hK hD hN hZ hA hS hl
  have hF : CallFix p m c cX8_over 3 s _ _ RX8 := hF
  have hx := hF.1
  have hb := hF.2.1
  have hml := hF.2.2.1
  have hown := hF.2.2.2.1
  have hu : ∀ w ∈ wsU, w.before _ s = true := fun w h => hF.2.2.2.2 w (List.mem_cons_of_mem _ h)
  have hl : lv_has ls 3 [(0, .ref h0), (1, .int p0), (2, .int p1)] := hl
  refine lv_aload_n hx hb dX8_over_0 rfl (lv_at hl 0 rfl) ?_
  refine xg hF kf_X8_12 hK hP 0 rfl rfl dX8_over_1 ?_
  refine xg hF kf_X8_159 hK hP 1 rfl rfl dX8_over_4 ?_
  refine lv_iload_n hx hb dX8_over_7 rfl (lv_at hl 1 rfl) ?_
  refine xc_Vr hF (c_X3_has l D cI cJ cZ cS ta sa sv s.heap.size ar aRn aRp Ra p0 (by omega)) kv_X8_171 ⟨rfl, rfl, Nat.le_of_ble_eq_true rfl, Nat.le_of_ble_eq_true rfl⟩ ⟨Nat.le_of_ble_eq_true rfl, Nat.le_of_ble_eq_true rfl⟩ hK hN hZ hP hD hS hA [2] rfl rfl 0 rfl rfl rfl rfl hl.1 rfl (Nat.le_of_ble_eq_true rfl) dX8_over_8 (fun r_1 hw_r_1 => ?_)
  rcases hw_r_1 with ⟨k_2, rfl, rfl, h_4⟩ | ⟨rfl, h_5⟩
  · skip
    refine lv_if_eq (tgt := 26) hx hb dX8_over_11 (by decide) (fun c_6 => absurd c_6 (by decide)) (fun c_6 => ?_)
    refine lv_aload_n hx hb dX8_over_14 rfl (lv_at hl 0 rfl) ?_
    refine xg hF kf_X8_12 hK hP 0 rfl rfl dX8_over_15 ?_
    refine lv_iload_n hx hb dX8_over_18 rfl (lv_at hl 2 rfl) ?_
    refine lv_i2l (v := p1.toInt64) hx hb dX8_over_19 rfl ?_
    refine xc_Vr hF (c_X1_isPlace l D cI cJ cZ cS ta sa sv s.heap.size qh ae al au ao ar ak aw att ass Pa p1 (by omega)) kv_X8_87 ⟨rfl, rfl, Nat.le_of_ble_eq_true rfl, Nat.le_of_ble_eq_true rfl⟩ ⟨Nat.le_of_ble_eq_true rfl, Nat.le_of_ble_eq_true rfl⟩ hK hN hZ hP hD hS hA [1] rfl rfl 0 rfl rfl rfl rfl hl.1 rfl (Nat.le_of_ble_eq_true rfl) dX8_over_20 (fun r_7 hw_r_7 => ?_)
    rcases hw_r_7 with ⟨k_8, rfl, rfl, h_10⟩ | ⟨rfl, h_11⟩
    · skip
      refine lv_if_ne (tgt := 33) hx hb dX8_over_23 (by decide) (fun c_12 => ?_) (fun c_12 => absurd c_12 (by decide))
      refine lv_aload_n hx hb dX8_over_33 rfl (lv_at hl 0 rfl) ?_
      refine xg hF kf_X8_12 hK hP 0 rfl rfl dX8_over_34 ?_
      refine xg hF kf_X8_159 hK hP 1 rfl rfl dX8_over_37 ?_
      refine lv_iload_n hx hb dX8_over_40 rfl (lv_at hl 1 rfl) ?_
      refine xc_Vr hF (c_X3_isFullRow l D cI cJ cZ cS ta sa sv s.heap.size ar aRn aRp Ra k_2 farn (by omega) harn) kv_X8_174 ⟨rfl, rfl, Nat.le_of_ble_eq_true rfl, Nat.le_of_ble_eq_true rfl⟩ ⟨Nat.le_of_ble_eq_true rfl, Nat.le_of_ble_eq_true rfl⟩ hK hN hZ hP hD hS hA [2, 3] rfl rfl 0 rfl rfl rfl rfl hl.1 rfl (Nat.le_of_ble_eq_true rfl) dX8_over_41 (fun r_13 hw_r_13 => ?_)
      rcases hw_r_13 with ⟨q_14, rfl, h_15, h_16, h_17⟩ | ⟨q_18, rfl, h_19, h_20⟩
      · skip
        refine lv_if_eq (tgt := 54) hx hb dX8_over_44 (by decide) (fun c_21 => absurd c_21 (by decide)) (fun c_21 => ?_)
        refine lv_aload_n hx hb dX8_over_47 rfl (lv_at hl 0 rfl) ?_
        refine lv_ldc (v := (-1000000002)) hx hb hown (hu _ uw419) dX8_over_48 ?_
        refine xc_Vi (wr := [(qh, .inr (1, [.int (nI (Pa)), .ref ae, .ref al, .ref au, .ref ao, .ref ar, .ref ak, .ref aw, .ref att, .ref ass])), (ar, .inr (3, [.int (nI (Ra)), .ref aRn, .ref aRp])), (aRn, .inl (cI, 8, .inl farn)), (aRp, .inl (cI, 48, .inl farp))]) hF (c_X8_finding_F l D cI cJ cZ cS ta sa sv s.heap.size h0 qh qk qd b0 qa qm qs qp ql qt qz qf ff ) kv_X8_80 ⟨rfl, rfl, Nat.le_of_ble_eq_true rfl, Nat.le_of_ble_eq_true rfl⟩ ⟨Nat.le_of_ble_eq_true rfl, Nat.le_of_ble_eq_true rfl⟩ hK hN hZ hP hD hS hA [0, 5] [1, 2, 3, 4] rfl rfl rfl rfl (by decide) 0 rfl rfl rfl rfl hl.1 rfl (Nat.le_of_ble_eq_true rfl) dX8_over_50 (fun r_22 u_r_22 H locs hw_r_22 hP hD hS => ?_)
        obtain ⟨f2_23, rfl⟩ : ∃ z, z = u_r_22 := ⟨_, rfl⟩
        try dsimp only at hw_r_22
        have hP : va_P D vwCl [(qh, .inr (1, [.int (nI (Pa)), .ref ae, .ref al, .ref au, .ref ao, .ref ar, .ref ak, .ref aw, .ref att, .ref ass])), (ar, .inr (3, [.int (nI (Ra)), .ref aRn, .ref aRp])), (aRn, .inl (cI, 8, .inl farn)), (aRp, .inl (cI, 48, .inl farp)), (h0, .inr (8, [.ref qh, .ref qk, .ref qd, .int b0, .ref qa, .ref qm, .ref qs, .ref qp, .ref ql, .ref qt, .ref qz, .ref qf])), (qf, .inl (cI, 7, .inl f2_23))] H := hP
        have hD : va_D A [(qh, .inr (1, [.int (nI (Pa)), .ref ae, .ref al, .ref au, .ref ao, .ref ar, .ref ak, .ref aw, .ref att, .ref ass])), (ar, .inr (3, [.int (nI (Ra)), .ref aRn, .ref aRp])), (aRn, .inl (cI, 8, .inl farn)), (aRp, .inl (cI, 48, .inl farp)), (h0, .inr (8, [.ref qh, .ref qk, .ref qd, .int b0, .ref qa, .ref qm, .ref qs, .ref qp, .ref ql, .ref qt, .ref qz, .ref qf])), (qf, .inl (cI, 7, .inl f2_23))] := hD
        subst hw_r_22
        exact W.iret (v := (-1000000002)) hx hb hr (fun t ht hW => ⟨⟨(-1000000002), (farn, farp, f2_23), rfl, ⟨(ov_full (P := Pa) (R := Ra) (j := k_8) (by omega) (by omega) (by omega) (by omega) h_17 (by omega) (by omega)).1, (ov_full (P := Pa) (R := Ra) (j := k_8) (by omega) (by omega) (by omega) (by omega) h_17 (by omega) (by omega)).2.1, ((ov_full (P := Pa) (R := Ra) (j := k_8) (by omega) (by omega) (by omega) (by omega) h_17 (by omega) (by omega)).2.2 _), hLLr, harn, harp⟩, by rw [ht]; exact hP.sub [4, 0, 1, 2, 3, 5] rfl, hD.sub [4, 0, 1, 2, 3, 5] (by decide +kernel) rfl⟩, hS.F ht⟩) hS.2.2 dX8_over_53 hlk
      · skip
        refine lv_if_eq (tgt := 54) hx hb dX8_over_44 (by decide) (fun c_24 => ?_) (fun c_24 => absurd (by decide) c_24)
        refine lv_aload_n hx hb dX8_over_54 rfl (lv_at hl 0 rfl) ?_
        refine xg hF kf_X8_12 hK hP 0 rfl rfl dX8_over_55 ?_
        refine xg hF kf_X8_159 hK hP 1 rfl rfl dX8_over_58 ?_
        refine lv_iload_n hx hb dX8_over_61 rfl (lv_at hl 1 rfl) ?_
        refine lv_iload_n hx hb dX8_over_62 rfl (lv_at hl 2 rfl) ?_
        refine xc_Vi (wr := [(h0, .inr (8, [.ref qh, .ref qk, .ref qd, .int b0, .ref qa, .ref qm, .ref qs, .ref qp, .ref ql, .ref qt, .ref qz, .ref qf])), (qh, .inr (1, [.int (nI (Pa)), .ref ae, .ref al, .ref au, .ref ao, .ref ar, .ref ak, .ref aw, .ref att, .ref ass])), (qf, .inl (cI, 7, .inl ff))]) hF (c_X3_append l D cI cJ cZ cS ta sa sv s.heap.size ar aRn aRp Ra k_2 k_8 q_18 farn farp (by omega) (by omega) (by omega) h_20 harn harp) kv_X8_177 ⟨rfl, rfl, Nat.le_of_ble_eq_true rfl, Nat.le_of_ble_eq_true rfl⟩ ⟨Nat.le_of_ble_eq_true rfl, Nat.le_of_ble_eq_true rfl⟩ hK hN hZ hP hD hS hA [2, 3, 4] [0, 1, 5] rfl rfl rfl rfl (by decide) 0 rfl rfl rfl rfl hl.1 rfl (Nat.le_of_ble_eq_true rfl) dX8_over_63 (fun r_25 u_r_25 H locs hw_r_25 hP hD hS => ?_)
        obtain ⟨l2_26, s2_27⟩ := u_r_25
        try dsimp only at hw_r_25
        obtain ⟨hw_r_25, i_28, i_29, i_30, i_31⟩ := hw_r_25
        have hP : va_P D vwCl [(h0, .inr (8, [.ref qh, .ref qk, .ref qd, .int b0, .ref qa, .ref qm, .ref qs, .ref qp, .ref ql, .ref qt, .ref qz, .ref qf])), (qh, .inr (1, [.int (nI (Pa)), .ref ae, .ref al, .ref au, .ref ao, .ref ar, .ref ak, .ref aw, .ref att, .ref ass])), (qf, .inl (cI, 7, .inl ff)), (ar, .inr (3, [.int (nI (Ra)), .ref aRn, .ref aRp])), (aRn, .inl (cI, 8, .inl l2_26)), (aRp, .inl (cI, 48, .inl s2_27))] H := hP
        have hD : va_D A [(h0, .inr (8, [.ref qh, .ref qk, .ref qd, .int b0, .ref qa, .ref qm, .ref qs, .ref qp, .ref ql, .ref qt, .ref qz, .ref qf])), (qh, .inr (1, [.int (nI (Pa)), .ref ae, .ref al, .ref au, .ref ao, .ref ar, .ref ak, .ref aw, .ref att, .ref ass])), (qf, .inl (cI, 7, .inl ff)), (ar, .inr (3, [.int (nI (Ra)), .ref aRn, .ref aRp])), (aRn, .inl (cI, 8, .inl l2_26)), (aRp, .inl (cI, 48, .inl s2_27))] := hD
        subst hw_r_25
        exact W.iret (v := nI (q_18 + 1)) hx hb hr (fun t ht hW => ⟨⟨nI (q_18 + 1), (l2_26, s2_27, ff), rfl, ⟨(ov_yes (P := Pa) (R := Ra) (j := k_8) (by omega) (by omega) (by omega) (by omega) h_20 (by omega)).1, (by rw [i_30]; exact (ov_yes (P := Pa) (R := Ra) (j := k_8) (by omega) (by omega) (by omega) (by omega) h_20 (by omega)).2.1), (by rw [i_31]; exact (ov_yes (P := Pa) (R := Ra) (j := k_8) (by omega) (by omega) (by omega) (by omega) h_20 (by omega)).2.2 _), (by rw [i_30]; exact LL.put hLLr (by omega) (by omega)), i_28, i_29⟩, by rw [ht]; exact hP.sub [0, 1, 3, 4, 5, 2] rfl, hD.sub [0, 1, 3, 4, 5, 2] (by decide +kernel) rfl⟩, hS.F ht⟩) hS.2.2 dX8_over_66 hlk
    · skip
      refine lv_if_ne (tgt := 33) hx hb dX8_over_23 (by decide) (fun c_32 => absurd (by decide) c_32) (fun c_32 => ?_)
      refine lv_aload_n hx hb dX8_over_26 rfl (lv_at hl 0 rfl) ?_
      refine lv_ldc (v := (-1000000001)) hx hb hown (hu _ uw396) dX8_over_27 ?_
      refine xc_Vi (wr := [(qh, .inr (1, [.int (nI (Pa)), .ref ae, .ref al, .ref au, .ref ao, .ref ar, .ref ak, .ref aw, .ref att, .ref ass])), (ar, .inr (3, [.int (nI (Ra)), .ref aRn, .ref aRp])), (aRn, .inl (cI, 8, .inl farn)), (aRp, .inl (cI, 48, .inl farp))]) hF (c_X8_finding_B l D cI cJ cZ cS ta sa sv s.heap.size h0 qh qk qd b0 qa qm qs qp ql qt qz qf ff ) kv_X8_80 ⟨rfl, rfl, Nat.le_of_ble_eq_true rfl, Nat.le_of_ble_eq_true rfl⟩ ⟨Nat.le_of_ble_eq_true rfl, Nat.le_of_ble_eq_true rfl⟩ hK hN hZ hP hD hS hA [0, 5] [1, 2, 3, 4] rfl rfl rfl rfl (by decide) 0 rfl rfl rfl rfl hl.1 rfl (Nat.le_of_ble_eq_true rfl) dX8_over_29 (fun r_33 u_r_33 H locs hw_r_33 hP hD hS => ?_)
      obtain ⟨f2_34, rfl⟩ : ∃ z, z = u_r_33 := ⟨_, rfl⟩
      try dsimp only at hw_r_33
      have hP : va_P D vwCl [(qh, .inr (1, [.int (nI (Pa)), .ref ae, .ref al, .ref au, .ref ao, .ref ar, .ref ak, .ref aw, .ref att, .ref ass])), (ar, .inr (3, [.int (nI (Ra)), .ref aRn, .ref aRp])), (aRn, .inl (cI, 8, .inl farn)), (aRp, .inl (cI, 48, .inl farp)), (h0, .inr (8, [.ref qh, .ref qk, .ref qd, .int b0, .ref qa, .ref qm, .ref qs, .ref qp, .ref ql, .ref qt, .ref qz, .ref qf])), (qf, .inl (cI, 7, .inl f2_34))] H := hP
      have hD : va_D A [(qh, .inr (1, [.int (nI (Pa)), .ref ae, .ref al, .ref au, .ref ao, .ref ar, .ref ak, .ref aw, .ref att, .ref ass])), (ar, .inr (3, [.int (nI (Ra)), .ref aRn, .ref aRp])), (aRn, .inl (cI, 8, .inl farn)), (aRp, .inl (cI, 48, .inl farp)), (h0, .inr (8, [.ref qh, .ref qk, .ref qd, .int b0, .ref qa, .ref qm, .ref qs, .ref qp, .ref ql, .ref qt, .ref qz, .ref qf])), (qf, .inl (cI, 7, .inl f2_34))] := hD
      subst hw_r_33
      exact W.iret (v := (-1000000001)) hx hb hr (fun t ht hW => ⟨⟨(-1000000001), (farn, farp, f2_34), rfl, ⟨(ov_no (P := Pa) (R := Ra) (ln := farn) (fun h => h_11 h.2)).1, (ov_no (P := Pa) (R := Ra) (ln := farn) (fun h => h_11 h.2)).2.1, ((ov_no (P := Pa) (R := Ra) (ln := farn) (fun h => h_11 h.2)).2.2 _), hLLr, harn, harp⟩, by rw [ht]; exact hP.sub [4, 0, 1, 2, 3, 5] rfl, hD.sub [4, 0, 1, 2, 3, 5] (by decide +kernel) rfl⟩, hS.F ht⟩) hS.2.2 dX8_over_32 hlk
  · skip
    refine lv_if_eq (tgt := 26) hx hb dX8_over_11 (by decide) (fun c_35 => ?_) (fun c_35 => absurd (by decide) c_35)
    refine lv_aload_n hx hb dX8_over_26 rfl (lv_at hl 0 rfl) ?_
    refine lv_ldc (v := (-1000000001)) hx hb hown (hu _ uw396) dX8_over_27 ?_
    refine xc_Vi (wr := [(qh, .inr (1, [.int (nI (Pa)), .ref ae, .ref al, .ref au, .ref ao, .ref ar, .ref ak, .ref aw, .ref att, .ref ass])), (ar, .inr (3, [.int (nI (Ra)), .ref aRn, .ref aRp])), (aRn, .inl (cI, 8, .inl farn)), (aRp, .inl (cI, 48, .inl farp))]) hF (c_X8_finding_B l D cI cJ cZ cS ta sa sv s.heap.size h0 qh qk qd b0 qa qm qs qp ql qt qz qf ff ) kv_X8_80 ⟨rfl, rfl, Nat.le_of_ble_eq_true rfl, Nat.le_of_ble_eq_true rfl⟩ ⟨Nat.le_of_ble_eq_true rfl, Nat.le_of_ble_eq_true rfl⟩ hK hN hZ hP hD hS hA [0, 5] [1, 2, 3, 4] rfl rfl rfl rfl (by decide) 0 rfl rfl rfl rfl hl.1 rfl (Nat.le_of_ble_eq_true rfl) dX8_over_29 (fun r_36 u_r_36 H locs hw_r_36 hP hD hS => ?_)
    obtain ⟨f2_37, rfl⟩ : ∃ z, z = u_r_36 := ⟨_, rfl⟩
    try dsimp only at hw_r_36
    have hP : va_P D vwCl [(qh, .inr (1, [.int (nI (Pa)), .ref ae, .ref al, .ref au, .ref ao, .ref ar, .ref ak, .ref aw, .ref att, .ref ass])), (ar, .inr (3, [.int (nI (Ra)), .ref aRn, .ref aRp])), (aRn, .inl (cI, 8, .inl farn)), (aRp, .inl (cI, 48, .inl farp)), (h0, .inr (8, [.ref qh, .ref qk, .ref qd, .int b0, .ref qa, .ref qm, .ref qs, .ref qp, .ref ql, .ref qt, .ref qz, .ref qf])), (qf, .inl (cI, 7, .inl f2_37))] H := hP
    have hD : va_D A [(qh, .inr (1, [.int (nI (Pa)), .ref ae, .ref al, .ref au, .ref ao, .ref ar, .ref ak, .ref aw, .ref att, .ref ass])), (ar, .inr (3, [.int (nI (Ra)), .ref aRn, .ref aRp])), (aRn, .inl (cI, 8, .inl farn)), (aRp, .inl (cI, 48, .inl farp)), (h0, .inr (8, [.ref qh, .ref qk, .ref qd, .int b0, .ref qa, .ref qm, .ref qs, .ref qp, .ref ql, .ref qt, .ref qz, .ref qf])), (qf, .inl (cI, 7, .inl f2_37))] := hD
    subst hw_r_36
    exact W.iret (v := (-1000000001)) hx hb hr (fun t ht hW => ⟨⟨(-1000000001), (farn, farp, f2_37), rfl, ⟨(ov_no (P := Pa) (R := Ra) (ln := farn) (fun h => h_5 h.1)).1, (ov_no (P := Pa) (R := Ra) (ln := farn) (fun h => h_5 h.1)).2.1, ((ov_no (P := Pa) (R := Ra) (ln := farn) (fun h => h_5 h.1)).2.2 _), hLLr, harn, harp⟩, by rw [ht]; exact hP.sub [4, 0, 1, 2, 3, 5] rfl, hD.sub [4, 0, 1, 2, 3, 5] (by decide +kernel) rfl⟩, hS.F ht⟩) hS.2.2 dX8_over_32 hlk
set_option maxHeartbeats 4000000 in
set_option maxRecDepth 100000 in
theorem c_X8_sum (l : Launch) (D : va_G) (cI cJ cZ cS : ClassId) (ta : Nat) (sa sv : Nat → Nat) (sz : Nat) (h0 : Nat) (qh : Nat) (qk : Nat) (qd : Nat) (b0 : Int32) (qa : Nat) (qm : Nat) (qs : Nat) (qp : Nat) (ql : Nat) (qt : Nat) (qz : Nat) (qf : Nat) (Pa : Nat) (ae : Nat) (al : Nat) (au : Nat) (ao : Nat) (ar : Nat) (ak : Nat) (aw : Nat) (att : Nat) (ass : Nat) (fal : Nat → Int32) (fao : Nat → Int32) (Ra : Nat) (aRn : Nat) (aRp : Nat) (farn : Nat → Int32) (farp : Nat → Int32) (fak : Nat → Int32) (Qa : Nat) (an : Nat) (La : Nat → Int32) (sn : Nat) (Ls : Nat → Int32) (ff : Nat → Int32) (p0 : Int32) (hP0 : Pa ≤ 10) (hQa : Qa ≤ 10) (hR : Ra ≤ 8) (hLLr : LL Ra farn) (harn : BA 8 7 farn) (harp : BA 48 10 farp) : Met l yX8_sum (Cond.code yX8_sum cX8_sum 2 (some .int) :: wsU) ({ frames := 6, cells := 0, slots := 0, locals := 151 }) (va_Pc [.ref h0, .int p0] (XW D (xT cI cJ cZ cS) ta sa sv [(h0, .inr (8, [.ref qh, .ref qk, .ref qd, .int b0, .ref qa, .ref qm, .ref qs, .ref qp, .ref ql, .ref qt, .ref qz, .ref qf])), (qh, .inr (1, [.int (nI (Pa)), .ref ae, .ref al, .ref au, .ref ao, .ref ar, .ref ak, .ref aw, .ref att, .ref ass])), (al, .inl (cI, 100, .inl fal)), (ao, .inl (cI, 100, .inl fao)), (ar, .inr (3, [.int (nI (Ra)), .ref aRn, .ref aRp])), (aRn, .inl (cI, 8, .inl farn)), (aRp, .inl (cI, 48, .inl farp)), (ak, .inl (cI, 8, .inl fak)), (qa, .inr (0, [.int (nI (Qa)), .ref an])), (an, .inl (cI, 100, .inl La)), (qs, .inr (6, [.ref sn])), (sn, .inl (cI, 384, .inl Ls)), (qf, .inl (cI, 7, .inl ff))] sz)) (XQi (fun (r : Int32) (u : Nat × (Nat → Int32) × (Nat → Int32) × (Nat → Int32)) => match u with | (Q2, L2, Ls2, f2) => (True) ∧ (Q2 ≤ 10)) D (fun (u : Nat × (Nat → Int32) × (Nat → Int32) × (Nat → Int32)) => match u with | (Q2, L2, Ls2, f2) => [(h0, .inr (8, [.ref qh, .ref qk, .ref qd, .int b0, .ref qa, .ref qm, .ref qs, .ref qp, .ref ql, .ref qt, .ref qz, .ref qf])), (qh, .inr (1, [.int (nI (Pa)), .ref ae, .ref al, .ref au, .ref ao, .ref ar, .ref ak, .ref aw, .ref att, .ref ass])), (al, .inl (cI, 100, .inl fal)), (ao, .inl (cI, 100, .inl fao)), (ar, .inr (3, [.int (nI (Ra)), .ref aRn, .ref aRp])), (aRn, .inl (cI, 8, .inl farn)), (aRp, .inl (cI, 48, .inl farp)), (ak, .inl (cI, 8, .inl fak)), (qa, .inr (0, [.int (nI (Q2)), .ref an])), (an, .inl (cI, 100, .inl L2)), (qs, .inr (6, [.ref sn])), (sn, .inl (cI, 384, .inl Ls2)), (qf, .inl (cI, 7, .inl f2))]) (va_A [(h0, .inr (8, [.ref qh, .ref qk, .ref qd, .int b0, .ref qa, .ref qm, .ref qs, .ref qp, .ref ql, .ref qt, .ref qz, .ref qf])), (qh, .inr (1, [.int (nI (Pa)), .ref ae, .ref al, .ref au, .ref ao, .ref ar, .ref ak, .ref aw, .ref att, .ref ass])), (al, .inl (cI, 100, .inl fal)), (ao, .inl (cI, 100, .inl fao)), (ar, .inr (3, [.int (nI (Ra)), .ref aRn, .ref aRp])), (aRn, .inl (cI, 8, .inl farn)), (aRp, .inl (cI, 48, .inl farp)), (ak, .inl (cI, 8, .inl fak)), (qa, .inr (0, [.int (nI (Qa)), .ref an])), (an, .inl (cI, 100, .inl La)), (qs, .inr (6, [.ref sn])), (sn, .inl (cI, 384, .inl Ls)), (qf, .inl (cI, 7, .inl ff))] sz)) 0 0 (va_A [(h0, .inr (8, [.ref qh, .ref qk, .ref qd, .int b0, .ref qa, .ref qm, .ref qs, .ref qp, .ref ql, .ref qt, .ref qz, .ref qf])), (qh, .inr (1, [.int (nI (Pa)), .ref ae, .ref al, .ref au, .ref ao, .ref ar, .ref ak, .ref aw, .ref att, .ref ass])), (al, .inl (cI, 100, .inl fal)), (ao, .inl (cI, 100, .inl fao)), (ar, .inr (3, [.int (nI (Ra)), .ref aRn, .ref aRp])), (aRn, .inl (cI, 8, .inl farn)), (aRp, .inl (cI, 48, .inl farp)), (ak, .inl (cI, 8, .inl fak)), (qa, .inr (0, [.int (nI (Qa)), .ref an])), (an, .inl (cI, 100, .inl La)), (qs, .inr (6, [.ref sn])), (sn, .inl (cI, 384, .inl Ls)), (qf, .inl (cI, 7, .inl ff))] sz) := by
  refine xh (QA := fun A => XQi (fun (r : Int32) (u : Nat × (Nat → Int32) × (Nat → Int32) × (Nat → Int32)) => match u with | (Q2, L2, Ls2, f2) => (True) ∧ (Q2 ≤ 10)) D (fun (u : Nat × (Nat → Int32) × (Nat → Int32) × (Nat → Int32)) => match u with | (Q2, L2, Ls2, f2) => [(h0, .inr (8, [.ref qh, .ref qk, .ref qd, .int b0, .ref qa, .ref qm, .ref qs, .ref qp, .ref ql, .ref qt, .ref qz, .ref qf])), (qh, .inr (1, [.int (nI (Pa)), .ref ae, .ref al, .ref au, .ref ao, .ref ar, .ref ak, .ref aw, .ref att, .ref ass])), (al, .inl (cI, 100, .inl fal)), (ao, .inl (cI, 100, .inl fao)), (ar, .inr (3, [.int (nI (Ra)), .ref aRn, .ref aRp])), (aRn, .inl (cI, 8, .inl farn)), (aRp, .inl (cI, 48, .inl farp)), (ak, .inl (cI, 8, .inl fak)), (qa, .inr (0, [.int (nI (Q2)), .ref an])), (an, .inl (cI, 100, .inl L2)), (qs, .inr (6, [.ref sn])), (sn, .inl (cI, 384, .inl Ls2)), (qf, .inl (cI, 7, .inl f2))]) A) (fr := fun A => A) (by decide) (Nat.le_of_ble_eq_true rfl) ?_
  intro p e s m below meth c ls A hF hr hlk hin hsz hP hK hD hN hZ hA hS hl
  have hF : CallFix p m c cX8_sum 2 s _ _ RX8 := hF
  have hx := hF.1
  have hb := hF.2.1
  have hml := hF.2.2.1
  have hown := hF.2.2.2.1
  have hu : ∀ w ∈ wsU, w.before _ s = true := fun w h => hF.2.2.2.2 w (List.mem_cons_of_mem _ h)
  have hl : lv_has ls 2 [(0, .ref h0), (1, .int p0)] := hl
  refine lv_aload_n hx hb dX8_sum_0 rfl (lv_at hl 0 rfl) ?_
  refine xg hF kf_X8_12 hK hP 0 rfl rfl dX8_sum_1 ?_
  refine xg hF kf_X8_159 hK hP 1 rfl rfl dX8_sum_4 ?_
  refine lv_iload_n hx hb dX8_sum_7 rfl (lv_at hl 1 rfl) ?_
  refine xc_Vr hF (c_X3_has l D cI cJ cZ cS ta sa sv s.heap.size ar aRn aRp Ra p0 (by omega)) kv_X8_171 ⟨rfl, rfl, Nat.le_of_ble_eq_true rfl, Nat.le_of_ble_eq_true rfl⟩ ⟨Nat.le_of_ble_eq_true rfl, Nat.le_of_ble_eq_true rfl⟩ hK hN hZ hP hD hS hA [4] rfl rfl 0 rfl rfl rfl rfl hl.1 rfl (Nat.le_of_ble_eq_true rfl) dX8_sum_8 (fun r_1 hw_r_1 => ?_)
  rcases hw_r_1 with ⟨k_2, rfl, rfl, h_4⟩ | ⟨rfl, h_5⟩
  · skip
    refine lv_if_ne (tgt := 21) hx hb dX8_sum_11 (by decide) (fun c_6 => ?_) (fun c_6 => absurd c_6 (by decide))
    refine lv_aload_n hx hb dX8_sum_21 rfl (lv_at hl 0 rfl) ?_
    refine xc_Vi (wr := [(ar, .inr (3, [.int (nI (Ra)), .ref aRn, .ref aRp])), (aRn, .inl (cI, 8, .inl farn)), (aRp, .inl (cI, 48, .inl farp)), (ak, .inl (cI, 8, .inl fak)), (qs, .inr (6, [.ref sn])), (sn, .inl (cI, 384, .inl Ls)), (qf, .inl (cI, 7, .inl ff))]) hF (c_X8_isLooped l D cI cJ cZ cS ta sa sv s.heap.size h0 qh qk qd b0 qa qm qs qp ql qt qz qf Pa ae al au ao ar ak aw att ass fal fao Qa an La (by omega)) kv_X8_128 ⟨rfl, rfl, Nat.le_of_ble_eq_true rfl, Nat.le_of_ble_eq_true rfl⟩ ⟨Nat.le_of_ble_eq_true rfl, Nat.le_of_ble_eq_true rfl⟩ hK hN hZ hP hD hS hA [0, 1, 2, 3, 8, 9] [4, 5, 6, 7, 10, 11, 12] rfl rfl (by decide +kernel) (by decide +kernel) (by decide +kernel) 0 rfl rfl rfl rfl hl.1 rfl (Nat.le_of_ble_eq_true rfl) dX8_sum_22 (fun r_7 u_r_7 H locs hw_r_7 hP hD hS => ?_)
    obtain ⟨L2_8, rfl⟩ : ∃ z, z = u_r_7 := ⟨_, rfl⟩
    try dsimp only at hw_r_7
    have hP : va_P D vwCl [(ar, .inr (3, [.int (nI (Ra)), .ref aRn, .ref aRp])), (aRn, .inl (cI, 8, .inl farn)), (aRp, .inl (cI, 48, .inl farp)), (ak, .inl (cI, 8, .inl fak)), (qs, .inr (6, [.ref sn])), (sn, .inl (cI, 384, .inl Ls)), (qf, .inl (cI, 7, .inl ff)), (h0, .inr (8, [.ref qh, .ref qk, .ref qd, .int b0, .ref qa, .ref qm, .ref qs, .ref qp, .ref ql, .ref qt, .ref qz, .ref qf])), (qh, .inr (1, [.int (nI (Pa)), .ref ae, .ref al, .ref au, .ref ao, .ref ar, .ref ak, .ref aw, .ref att, .ref ass])), (al, .inl (cI, 100, .inl fal)), (ao, .inl (cI, 100, .inl fao)), (qa, .inr (0, [.int (nI (Pa)), .ref an])), (an, .inl (cI, 100, .inl L2_8))] H := hP
    have hD : va_D A [(ar, .inr (3, [.int (nI (Ra)), .ref aRn, .ref aRp])), (aRn, .inl (cI, 8, .inl farn)), (aRp, .inl (cI, 48, .inl farp)), (ak, .inl (cI, 8, .inl fak)), (qs, .inr (6, [.ref sn])), (sn, .inl (cI, 384, .inl Ls)), (qf, .inl (cI, 7, .inl ff)), (h0, .inr (8, [.ref qh, .ref qk, .ref qd, .int b0, .ref qa, .ref qm, .ref qs, .ref qp, .ref ql, .ref qt, .ref qz, .ref qf])), (qh, .inr (1, [.int (nI (Pa)), .ref ae, .ref al, .ref au, .ref ao, .ref ar, .ref ak, .ref aw, .ref att, .ref ass])), (al, .inl (cI, 100, .inl fal)), (ao, .inl (cI, 100, .inl fao)), (qa, .inr (0, [.int (nI (Pa)), .ref an])), (an, .inl (cI, 100, .inl L2_8))] := hD
    rcases hw_r_7 with rfl | rfl
    · skip
      refine lv_if_eq (tgt := 35) hx hb dX8_sum_25 (by decide) (fun c_9 => absurd c_9 (by decide)) (fun c_9 => ?_)
      refine lv_aload_n hx hb dX8_sum_28 rfl (lv_at hl 0 rfl) ?_
      refine lv_ldc (v := (-1000000005)) hx hb hown (hu _ uw452) dX8_sum_29 ?_
      refine xc_Vi (wr := [(ar, .inr (3, [.int (nI (Ra)), .ref aRn, .ref aRp])), (aRn, .inl (cI, 8, .inl farn)), (aRp, .inl (cI, 48, .inl farp)), (ak, .inl (cI, 8, .inl fak)), (qs, .inr (6, [.ref sn])), (sn, .inl (cI, 384, .inl Ls)), (qh, .inr (1, [.int (nI (Pa)), .ref ae, .ref al, .ref au, .ref ao, .ref ar, .ref ak, .ref aw, .ref att, .ref ass])), (al, .inl (cI, 100, .inl fal)), (ao, .inl (cI, 100, .inl fao)), (qa, .inr (0, [.int (nI (Pa)), .ref an])), (an, .inl (cI, 100, .inl L2_8))]) hF (c_X8_finding_T l D cI cJ cZ cS ta sa sv H.size h0 qh qk qd b0 qa qm qs qp ql qt qz qf ff ) kv_X8_80 ⟨rfl, rfl, Nat.le_of_ble_eq_true rfl, Nat.le_of_ble_eq_true rfl⟩ ⟨Nat.le_of_ble_eq_true rfl, Nat.le_of_ble_eq_true rfl⟩ hK hN hZ hP hD hS hA [7, 6] [0, 1, 2, 3, 4, 5, 8, 9, 10, 11, 12] rfl rfl rfl (by decide +kernel) (by decide +kernel) 0 rfl rfl rfl rfl hl.1 rfl (Nat.le_of_ble_eq_true rfl) dX8_sum_31 (fun r_10 u_r_10 H locs hw_r_10 hP hD hS => ?_)
      obtain ⟨f2_11, rfl⟩ : ∃ z, z = u_r_10 := ⟨_, rfl⟩
      try dsimp only at hw_r_10
      have hP : va_P D vwCl [(ar, .inr (3, [.int (nI (Ra)), .ref aRn, .ref aRp])), (aRn, .inl (cI, 8, .inl farn)), (aRp, .inl (cI, 48, .inl farp)), (ak, .inl (cI, 8, .inl fak)), (qs, .inr (6, [.ref sn])), (sn, .inl (cI, 384, .inl Ls)), (qh, .inr (1, [.int (nI (Pa)), .ref ae, .ref al, .ref au, .ref ao, .ref ar, .ref ak, .ref aw, .ref att, .ref ass])), (al, .inl (cI, 100, .inl fal)), (ao, .inl (cI, 100, .inl fao)), (qa, .inr (0, [.int (nI (Pa)), .ref an])), (an, .inl (cI, 100, .inl L2_8)), (h0, .inr (8, [.ref qh, .ref qk, .ref qd, .int b0, .ref qa, .ref qm, .ref qs, .ref qp, .ref ql, .ref qt, .ref qz, .ref qf])), (qf, .inl (cI, 7, .inl f2_11))] H := hP
      have hD : va_D A [(ar, .inr (3, [.int (nI (Ra)), .ref aRn, .ref aRp])), (aRn, .inl (cI, 8, .inl farn)), (aRp, .inl (cI, 48, .inl farp)), (ak, .inl (cI, 8, .inl fak)), (qs, .inr (6, [.ref sn])), (sn, .inl (cI, 384, .inl Ls)), (qh, .inr (1, [.int (nI (Pa)), .ref ae, .ref al, .ref au, .ref ao, .ref ar, .ref ak, .ref aw, .ref att, .ref ass])), (al, .inl (cI, 100, .inl fal)), (ao, .inl (cI, 100, .inl fao)), (qa, .inr (0, [.int (nI (Pa)), .ref an])), (an, .inl (cI, 100, .inl L2_8)), (h0, .inr (8, [.ref qh, .ref qk, .ref qd, .int b0, .ref qa, .ref qm, .ref qs, .ref qp, .ref ql, .ref qt, .ref qz, .ref qf])), (qf, .inl (cI, 7, .inl f2_11))] := hD
      subst hw_r_10
      exact W.iret (v := (-1000000005)) hx hb hr (fun t ht hW => ⟨⟨(-1000000005), (Pa, L2_8, Ls, f2_11), rfl, ⟨trivial, (by first | assumption | omega)⟩, by rw [ht]; exact hP.sub [11, 6, 7, 8, 0, 1, 2, 3, 9, 10, 4, 5, 12] rfl, hD.sub [11, 6, 7, 8, 0, 1, 2, 3, 9, 10, 4, 5, 12] (by decide +kernel) rfl⟩, hS.F ht⟩) hS.2.2 dX8_sum_34 hlk
    · skip
      refine lv_if_eq (tgt := 35) hx hb dX8_sum_25 (by decide) (fun c_12 => ?_) (fun c_12 => absurd (by decide) c_12)
      refine lv_aload_n hx hb dX8_sum_35 rfl (lv_at hl 0 rfl) ?_
      refine lv_aload_n hx hb dX8_sum_36 rfl (lv_at hl 0 rfl) ?_
      refine xg hF kf_X8_39 hK hP 7 rfl rfl dX8_sum_37 ?_
      refine lv_aload_n hx hb dX8_sum_40 rfl (lv_at hl 0 rfl) ?_
      refine xg hF kf_X8_12 hK hP 7 rfl rfl dX8_sum_41 ?_
      refine lv_aload_n hx hb dX8_sum_44 rfl (lv_at hl 0 rfl) ?_
      refine xg hF kf_X8_29 hK hP 7 rfl rfl dX8_sum_45 ?_
      refine lv_iload_n hx hb dX8_sum_48 rfl (lv_at hl 1 rfl) ?_
      obtain ⟨q9, hq91, hq92, eq9⟩ := hLLr k_2 (by omega)
      refine xc_Vi (wr := [(qf, .inl (cI, 7, .inl ff)), (h0, .inr (8, [.ref qh, .ref qk, .ref qd, .int b0, .ref qa, .ref qm, .ref qs, .ref qp, .ref ql, .ref qt, .ref qz, .ref qf]))]) hF (c_X6_sumOf l D cI cJ cZ cS ta sa sv H.size qs sn Ls qh ae al au ao ar ak aw att ass Pa aRn aRp Ra fal fao farn farp fak qa an Pa L2_8 k_2 q9 (by omega) (by omega) hq91 hq92 eq9 harn harp) kv_X8_180 ⟨rfl, rfl, Nat.le_of_ble_eq_true rfl, Nat.le_of_ble_eq_true rfl⟩ ⟨Nat.le_of_ble_eq_true rfl, Nat.le_of_ble_eq_true rfl⟩ hK hN hZ hP hD hS hA [4, 5, 8, 9, 10, 0, 1, 2, 3, 11, 12] [6, 7] rfl rfl (by decide +kernel) rfl (by decide +kernel) 0 rfl rfl rfl rfl hl.1 rfl (Nat.le_of_ble_eq_true rfl) dX8_sum_49 (fun r_13 u_r_13 H locs hw_r_13 hP hD hS => ?_)
      obtain ⟨L2_14, rfl⟩ : ∃ z, z = u_r_13 := ⟨_, rfl⟩
      try dsimp only at hw_r_13
      have hP : va_P D vwCl [(qf, .inl (cI, 7, .inl ff)), (h0, .inr (8, [.ref qh, .ref qk, .ref qd, .int b0, .ref qa, .ref qm, .ref qs, .ref qp, .ref ql, .ref qt, .ref qz, .ref qf])), (qs, .inr (6, [.ref sn])), (sn, .inl (cI, 384, .inl L2_14)), (qh, .inr (1, [.int (nI (Pa)), .ref ae, .ref al, .ref au, .ref ao, .ref ar, .ref ak, .ref aw, .ref att, .ref ass])), (al, .inl (cI, 100, .inl fal)), (ao, .inl (cI, 100, .inl fao)), (ar, .inr (3, [.int (nI (Ra)), .ref aRn, .ref aRp])), (aRn, .inl (cI, 8, .inl farn)), (aRp, .inl (cI, 48, .inl farp)), (ak, .inl (cI, 8, .inl fak)), (qa, .inr (0, [.int (nI (Pa)), .ref an])), (an, .inl (cI, 100, .inl L2_8))] H := hP
      have hD : va_D A [(qf, .inl (cI, 7, .inl ff)), (h0, .inr (8, [.ref qh, .ref qk, .ref qd, .int b0, .ref qa, .ref qm, .ref qs, .ref qp, .ref ql, .ref qt, .ref qz, .ref qf])), (qs, .inr (6, [.ref sn])), (sn, .inl (cI, 384, .inl L2_14)), (qh, .inr (1, [.int (nI (Pa)), .ref ae, .ref al, .ref au, .ref ao, .ref ar, .ref ak, .ref aw, .ref att, .ref ass])), (al, .inl (cI, 100, .inl fal)), (ao, .inl (cI, 100, .inl fao)), (ar, .inr (3, [.int (nI (Ra)), .ref aRn, .ref aRp])), (aRn, .inl (cI, 8, .inl farn)), (aRp, .inl (cI, 48, .inl farp)), (ak, .inl (cI, 8, .inl fak)), (qa, .inr (0, [.int (nI (Pa)), .ref an])), (an, .inl (cI, 100, .inl L2_8))] := hD
      refine xc_Vi (wr := [(qs, .inr (6, [.ref sn])), (sn, .inl (cI, 384, .inl L2_14)), (qh, .inr (1, [.int (nI (Pa)), .ref ae, .ref al, .ref au, .ref ao, .ref ar, .ref ak, .ref aw, .ref att, .ref ass])), (al, .inl (cI, 100, .inl fal)), (ao, .inl (cI, 100, .inl fao)), (ar, .inr (3, [.int (nI (Ra)), .ref aRn, .ref aRp])), (aRn, .inl (cI, 8, .inl farn)), (aRp, .inl (cI, 48, .inl farp)), (ak, .inl (cI, 8, .inl fak)), (qa, .inr (0, [.int (nI (Pa)), .ref an])), (an, .inl (cI, 100, .inl L2_8))]) hF (c_X8_lengthOrNone l D cI cJ cZ cS ta sa sv H.size h0 qh qk qd b0 qa qm qs qp ql qt qz qf ff r_13 ) kv_X8_136 ⟨rfl, rfl, Nat.le_of_ble_eq_true rfl, Nat.le_of_ble_eq_true rfl⟩ ⟨Nat.le_of_ble_eq_true rfl, Nat.le_of_ble_eq_true rfl⟩ hK hN hZ hP hD hS hA [1, 0] [2, 3, 4, 5, 6, 7, 8, 9, 10, 11, 12] rfl rfl rfl (by decide +kernel) (by decide +kernel) 0 rfl rfl rfl rfl hl.1 rfl (Nat.le_of_ble_eq_true rfl) dX8_sum_52 (fun r_15 u_r_15 H locs hw_r_15 hP hD hS => ?_)
      obtain ⟨f2_16, rfl⟩ : ∃ z, z = u_r_15 := ⟨_, rfl⟩
      try dsimp only at hw_r_15
      have hP : va_P D vwCl [(qs, .inr (6, [.ref sn])), (sn, .inl (cI, 384, .inl L2_14)), (qh, .inr (1, [.int (nI (Pa)), .ref ae, .ref al, .ref au, .ref ao, .ref ar, .ref ak, .ref aw, .ref att, .ref ass])), (al, .inl (cI, 100, .inl fal)), (ao, .inl (cI, 100, .inl fao)), (ar, .inr (3, [.int (nI (Ra)), .ref aRn, .ref aRp])), (aRn, .inl (cI, 8, .inl farn)), (aRp, .inl (cI, 48, .inl farp)), (ak, .inl (cI, 8, .inl fak)), (qa, .inr (0, [.int (nI (Pa)), .ref an])), (an, .inl (cI, 100, .inl L2_8)), (h0, .inr (8, [.ref qh, .ref qk, .ref qd, .int b0, .ref qa, .ref qm, .ref qs, .ref qp, .ref ql, .ref qt, .ref qz, .ref qf])), (qf, .inl (cI, 7, .inl f2_16))] H := hP
      have hD : va_D A [(qs, .inr (6, [.ref sn])), (sn, .inl (cI, 384, .inl L2_14)), (qh, .inr (1, [.int (nI (Pa)), .ref ae, .ref al, .ref au, .ref ao, .ref ar, .ref ak, .ref aw, .ref att, .ref ass])), (al, .inl (cI, 100, .inl fal)), (ao, .inl (cI, 100, .inl fao)), (ar, .inr (3, [.int (nI (Ra)), .ref aRn, .ref aRp])), (aRn, .inl (cI, 8, .inl farn)), (aRp, .inl (cI, 48, .inl farp)), (ak, .inl (cI, 8, .inl fak)), (qa, .inr (0, [.int (nI (Pa)), .ref an])), (an, .inl (cI, 100, .inl L2_8)), (h0, .inr (8, [.ref qh, .ref qk, .ref qd, .int b0, .ref qa, .ref qm, .ref qs, .ref qp, .ref ql, .ref qt, .ref qz, .ref qf])), (qf, .inl (cI, 7, .inl f2_16))] := hD
      exact W.iret (v := r_15) hx hb hr (fun t ht hW => ⟨⟨r_15, (Pa, L2_8, L2_14, f2_16), rfl, ⟨trivial, (by first | assumption | omega)⟩, by rw [ht]; exact hP.sub [11, 2, 3, 4, 5, 6, 7, 8, 9, 10, 0, 1, 12] rfl, hD.sub [11, 2, 3, 4, 5, 6, 7, 8, 9, 10, 0, 1, 12] (by decide +kernel) rfl⟩, hS.F ht⟩) hS.2.2 dX8_sum_55 hlk
  · skip
    refine lv_if_ne (tgt := 21) hx hb dX8_sum_11 (by decide) (fun c_17 => absurd (by decide) c_17) (fun c_17 => ?_)
    refine lv_aload_n hx hb dX8_sum_14 rfl (lv_at hl 0 rfl) ?_
    refine lv_ldc (v := (-1000000001)) hx hb hown (hu _ uw396) dX8_sum_15 ?_
    refine xc_Vi (wr := [(qh, .inr (1, [.int (nI (Pa)), .ref ae, .ref al, .ref au, .ref ao, .ref ar, .ref ak, .ref aw, .ref att, .ref ass])), (al, .inl (cI, 100, .inl fal)), (ao, .inl (cI, 100, .inl fao)), (ar, .inr (3, [.int (nI (Ra)), .ref aRn, .ref aRp])), (aRn, .inl (cI, 8, .inl farn)), (aRp, .inl (cI, 48, .inl farp)), (ak, .inl (cI, 8, .inl fak)), (qa, .inr (0, [.int (nI (Qa)), .ref an])), (an, .inl (cI, 100, .inl La)), (qs, .inr (6, [.ref sn])), (sn, .inl (cI, 384, .inl Ls))]) hF (c_X8_finding_B l D cI cJ cZ cS ta sa sv s.heap.size h0 qh qk qd b0 qa qm qs qp ql qt qz qf ff ) kv_X8_80 ⟨rfl, rfl, Nat.le_of_ble_eq_true rfl, Nat.le_of_ble_eq_true rfl⟩ ⟨Nat.le_of_ble_eq_true rfl, Nat.le_of_ble_eq_true rfl⟩ hK hN hZ hP hD hS hA [0, 12] [1, 2, 3, 4, 5, 6, 7, 8, 9, 10, 11] rfl rfl rfl (by decide +kernel) (by decide +kernel) 0 rfl rfl rfl rfl hl.1 rfl (Nat.le_of_ble_eq_true rfl) dX8_sum_17 (fun r_18 u_r_18 H locs hw_r_18 hP hD hS => ?_)
    obtain ⟨f2_19, rfl⟩ : ∃ z, z = u_r_18 := ⟨_, rfl⟩
    try dsimp only at hw_r_18
    have hP : va_P D vwCl [(qh, .inr (1, [.int (nI (Pa)), .ref ae, .ref al, .ref au, .ref ao, .ref ar, .ref ak, .ref aw, .ref att, .ref ass])), (al, .inl (cI, 100, .inl fal)), (ao, .inl (cI, 100, .inl fao)), (ar, .inr (3, [.int (nI (Ra)), .ref aRn, .ref aRp])), (aRn, .inl (cI, 8, .inl farn)), (aRp, .inl (cI, 48, .inl farp)), (ak, .inl (cI, 8, .inl fak)), (qa, .inr (0, [.int (nI (Qa)), .ref an])), (an, .inl (cI, 100, .inl La)), (qs, .inr (6, [.ref sn])), (sn, .inl (cI, 384, .inl Ls)), (h0, .inr (8, [.ref qh, .ref qk, .ref qd, .int b0, .ref qa, .ref qm, .ref qs, .ref qp, .ref ql, .ref qt, .ref qz, .ref qf])), (qf, .inl (cI, 7, .inl f2_19))] H := hP
    have hD : va_D A [(qh, .inr (1, [.int (nI (Pa)), .ref ae, .ref al, .ref au, .ref ao, .ref ar, .ref ak, .ref aw, .ref att, .ref ass])), (al, .inl (cI, 100, .inl fal)), (ao, .inl (cI, 100, .inl fao)), (ar, .inr (3, [.int (nI (Ra)), .ref aRn, .ref aRp])), (aRn, .inl (cI, 8, .inl farn)), (aRp, .inl (cI, 48, .inl farp)), (ak, .inl (cI, 8, .inl fak)), (qa, .inr (0, [.int (nI (Qa)), .ref an])), (an, .inl (cI, 100, .inl La)), (qs, .inr (6, [.ref sn])), (sn, .inl (cI, 384, .inl Ls)), (h0, .inr (8, [.ref qh, .ref qk, .ref qd, .int b0, .ref qa, .ref qm, .ref qs, .ref qp, .ref ql, .ref qt, .ref qz, .ref qf])), (qf, .inl (cI, 7, .inl f2_19))] := hD
    subst hw_r_18
    exact W.iret (v := (-1000000001)) hx hb hr (fun t ht hW => ⟨⟨(-1000000001), (Qa, La, Ls, f2_19), rfl, ⟨trivial, (by first | assumption | omega)⟩, by rw [ht]; exact hP.sub [11, 0, 1, 2, 3, 4, 5, 6, 7, 8, 9, 10, 12] rfl, hD.sub [11, 0, 1, 2, 3, 4, 5, 6, 7, 8, 9, 10, 12] (by decide +kernel) rfl⟩, hS.F ht⟩) hS.2.2 dX8_sum_20 hlk
set_option maxHeartbeats 4000000 in
set_option maxRecDepth 100000 in
theorem c_X8_roundOf (l : Launch) (D : va_G) (cI cJ cZ cS : ClassId) (ta : Nat) (sa sv : Nat → Nat) (sz : Nat) (h0 : Nat) (qh : Nat) (qk : Nat) (qd : Nat) (b0 : Int32) (qa : Nat) (qm : Nat) (qs : Nat) (qp : Nat) (ql : Nat) (qt : Nat) (qz : Nat) (qf : Nat) (Pa : Nat) (ae : Nat) (al : Nat) (au : Nat) (ao : Nat) (ar : Nat) (ak : Nat) (aw : Nat) (att : Nat) (ass : Nat) (Ra : Nat) (aRn : Nat) (aRp : Nat) (farn : Nat → Int32) (farp : Nat → Int32) (fak : Nat → Int32) (ff : Nat → Int32) (p0 : Int32) (p1 : Int32) (hP0 : Pa ≤ 10) (hR : Ra ≤ 8) (hLLr : LL Ra farn) (harn : BA 8 7 farn) (harp : BA 48 10 farp) : Met l yX8_roundOf (Cond.code yX8_roundOf cX8_roundOf 4 (some .int) :: wsU) ({ frames := 1, cells := 0, slots := 0, locals := 22 }) (va_Pc [.ref h0, .int p0, .int p1] (XW D (xT cI cJ cZ cS) ta sa sv [(h0, .inr (8, [.ref qh, .ref qk, .ref qd, .int b0, .ref qa, .ref qm, .ref qs, .ref qp, .ref ql, .ref qt, .ref qz, .ref qf])), (qh, .inr (1, [.int (nI (Pa)), .ref ae, .ref al, .ref au, .ref ao, .ref ar, .ref ak, .ref aw, .ref att, .ref ass])), (ar, .inr (3, [.int (nI (Ra)), .ref aRn, .ref aRp])), (aRn, .inl (cI, 8, .inl farn)), (aRp, .inl (cI, 48, .inl farp)), (ak, .inl (cI, 8, .inl fak)), (qf, .inl (cI, 7, .inl ff))] sz)) (XQi (fun (r : Int32) (f2 : (Nat → Int32)) => ((r = roR Ra fak farn farp p0 p1))) D (fun (f2 : Nat → Int32) => [(h0, .inr (8, [.ref qh, .ref qk, .ref qd, .int b0, .ref qa, .ref qm, .ref qs, .ref qp, .ref ql, .ref qt, .ref qz, .ref qf])), (qh, .inr (1, [.int (nI (Pa)), .ref ae, .ref al, .ref au, .ref ao, .ref ar, .ref ak, .ref aw, .ref att, .ref ass])), (ar, .inr (3, [.int (nI (Ra)), .ref aRn, .ref aRp])), (aRn, .inl (cI, 8, .inl farn)), (aRp, .inl (cI, 48, .inl farp)), (ak, .inl (cI, 8, .inl fak)), (qf, .inl (cI, 7, .inl f2))]) (va_A [(h0, .inr (8, [.ref qh, .ref qk, .ref qd, .int b0, .ref qa, .ref qm, .ref qs, .ref qp, .ref ql, .ref qt, .ref qz, .ref qf])), (qh, .inr (1, [.int (nI (Pa)), .ref ae, .ref al, .ref au, .ref ao, .ref ar, .ref ak, .ref aw, .ref att, .ref ass])), (ar, .inr (3, [.int (nI (Ra)), .ref aRn, .ref aRp])), (aRn, .inl (cI, 8, .inl farn)), (aRp, .inl (cI, 48, .inl farp)), (ak, .inl (cI, 8, .inl fak)), (qf, .inl (cI, 7, .inl ff))] sz)) 0 0 (va_A [(h0, .inr (8, [.ref qh, .ref qk, .ref qd, .int b0, .ref qa, .ref qm, .ref qs, .ref qp, .ref ql, .ref qt, .ref qz, .ref qf])), (qh, .inr (1, [.int (nI (Pa)), .ref ae, .ref al, .ref au, .ref ao, .ref ar, .ref ak, .ref aw, .ref att, .ref ass])), (ar, .inr (3, [.int (nI (Ra)), .ref aRn, .ref aRp])), (aRn, .inl (cI, 8, .inl farn)), (aRp, .inl (cI, 48, .inl farp)), (ak, .inl (cI, 8, .inl fak)), (qf, .inl (cI, 7, .inl ff))] sz) := by
  refine xh (QA := fun A => XQi (fun (r : Int32) (f2 : (Nat → Int32)) => ((r = roR Ra fak farn farp p0 p1))) D (fun (f2 : Nat → Int32) => [(h0, .inr (8, [.ref qh, .ref qk, .ref qd, .int b0, .ref qa, .ref qm, .ref qs, .ref qp, .ref ql, .ref qt, .ref qz, .ref qf])), (qh, .inr (1, [.int (nI (Pa)), .ref ae, .ref al, .ref au, .ref ao, .ref ar, .ref ak, .ref aw, .ref att, .ref ass])), (ar, .inr (3, [.int (nI (Ra)), .ref aRn, .ref aRp])), (aRn, .inl (cI, 8, .inl farn)), (aRp, .inl (cI, 48, .inl farp)), (ak, .inl (cI, 8, .inl fak)), (qf, .inl (cI, 7, .inl f2))]) A) (fr := fun A => A) (by decide) (Nat.le_of_ble_eq_true rfl) ?_
  intro p e s m below meth c ls A hF hr hlk hin hsz hP hK hD hN hZ hA hS hl
  have hF : CallFix p m c cX8_roundOf 4 s _ _ RX8 := hF
  have hx := hF.1
  have hb := hF.2.1
  have hml := hF.2.2.1
  have hown := hF.2.2.2.1
  have hu : ∀ w ∈ wsU, w.before _ s = true := fun w h => hF.2.2.2.2 w (List.mem_cons_of_mem _ h)
  have hl : lv_has ls 4 [(0, .ref h0), (1, .int p0), (2, .int p1)] := hl
  refine lv_aload_n hx hb dX8_roundOf_0 rfl (lv_at hl 0 rfl) ?_
  refine xg hF kf_X8_12 hK hP 0 rfl rfl dX8_roundOf_1 ?_
  refine xg hF kf_X8_159 hK hP 1 rfl rfl dX8_roundOf_4 ?_
  refine lv_iload_n hx hb dX8_roundOf_7 rfl (lv_at hl 1 rfl) ?_
  refine xc_Vr hF (c_X3_has l D cI cJ cZ cS ta sa sv s.heap.size ar aRn aRp Ra p0 (by omega)) kv_X8_171 ⟨rfl, rfl, Nat.le_of_ble_eq_true rfl, Nat.le_of_ble_eq_true rfl⟩ ⟨Nat.le_of_ble_eq_true rfl, Nat.le_of_ble_eq_true rfl⟩ hK hN hZ hP hD hS hA [2] rfl rfl 0 rfl rfl rfl rfl hl.1 rfl (Nat.le_of_ble_eq_true rfl) dX8_roundOf_8 (fun r_1 hw_r_1 => ?_)
  rcases hw_r_1 with ⟨k_2, rfl, rfl, h_4⟩ | ⟨rfl, h_5⟩
  · skip
    refine lv_if_eq (tgt := 24) hx hb dX8_roundOf_11 (by decide) (fun c_6 => absurd c_6 (by decide)) (fun c_6 => ?_)
    refine lv_iload_n hx hb dX8_roundOf_14 rfl (lv_at hl 2 rfl) ?_
    refine lv_bipush (v := (-2)) hx hb dX8_roundOf_15 (by decide) ?_
    refine lv_iconst (v := 5) hx hb dX8_roundOf_17 (by decide) ?_
    refine xc_Sr hF (c_X8_isWithin l D cI cJ cZ cS ta sa sv s.heap.size p1 (-2) 5 ) ks_X8_91 ⟨rfl, rfl, Nat.le_of_ble_eq_true rfl, Nat.le_of_ble_eq_true rfl⟩ ⟨Nat.le_of_ble_eq_true rfl, Nat.le_of_ble_eq_true rfl⟩ hK hN hZ hP hD hS hA [] rfl rfl rfl hl.1 rfl (Nat.le_of_ble_eq_true rfl) dX8_roundOf_18 (fun r_7 hw_r_7 => ?_)
    rcases hw_r_7 with ⟨rfl, h_8, h_9⟩ | ⟨rfl, h_10⟩
    · skip
      refine lv_if_ne (tgt := 31) hx hb dX8_roundOf_21 (by decide) (fun c_11 => ?_) (fun c_11 => absurd c_11 (by decide))
      refine lv_iload_n hx hb dX8_roundOf_31 rfl (lv_at hl 2 rfl) ?_
      refine lv_iconst (v := (-1)) hx hb dX8_roundOf_32 (by decide) ?_
      refine lv_icmp_ne (tgt := 46) hx hb dX8_roundOf_33 (by decide) (fun c_12 => ?_) (fun c_12 => ?_)
      · skip
        refine lv_aload_n hx hb dX8_roundOf_46 rfl (lv_at hl 0 rfl) ?_
        refine xg hF kf_X8_12 hK hP 0 rfl rfl dX8_roundOf_47 ?_
        refine xg hF kf_X8_159 hK hP 1 rfl rfl dX8_roundOf_50 ?_
        refine xg hF kf_X8_187 hK hP 2 rfl rfl dX8_roundOf_53 ?_
        refine lv_iload_n hx hb dX8_roundOf_56 rfl (lv_at hl 1 rfl) ?_
        refine va_iald hx hb hK hP 3 0 rfl rfl (vp_in_nI (show k_2 < 8 by omega) (by decide)) dX8_roundOf_57 ?_
        refine xl_i (y := farn k_2) (congrArg farn (nI_clamp (show k_2 < 2 ^ 31 by omega))) ?_
        obtain ⟨q_13, hq_13, eq_13⟩ := harn k_2 (by omega)
        refine xl_i (y := nI (q_13)) eq_13 ?_
        refine lv_istore_n (lv' := [(3, .int (nI (q_13))), (0, .ref h0), (1, .int (nI (k_2))), (2, .int p1)]) hx hb dX8_roundOf_58 rfl hl (by decide) rfl (fun ls hl => ?_)
        refine lv_iload_n hx hb dX8_roundOf_59 rfl (lv_at hl 3 rfl) ?_
        refine lv_bipush (v := (-2)) hx hb dX8_roundOf_60 (by decide) ?_
        refine lv_icmp_ne (tgt := 67) hx hb dX8_roundOf_62 (by decide) (fun c_14 => ?_) (fun c_14 => ?_)
        · skip
          obtain ⟨y_15, hy_15, rfl⟩ := x_ro h_8 c_12 c_14 h_9
          refine lv_iload_n hx hb dX8_roundOf_67 rfl (lv_at hl 3 rfl) ?_
          refine lv_iload_n hx hb dX8_roundOf_68 rfl (lv_at hl 0 rfl) ?_
          refine lv_icmp_ge (tgt := 87) hx hb dX8_roundOf_69 (by decide) (fun c_16 => ?_) (fun c_16 => ?_)
          · skip
            have nc_16 : q_13 ≤ y_15 := xn_le (a := q_13) (b := y_15) (by omega) (by omega) c_16
            refine lv_aload_n hx hb dX8_roundOf_87 rfl (lv_at hl 1 rfl) ?_
            refine lv_ldc (v := (-1000000004)) hx hb hown (hu _ uw410) dX8_roundOf_88 ?_
            refine xc_Vi (wr := [(qh, .inr (1, [.int (nI (Pa)), .ref ae, .ref al, .ref au, .ref ao, .ref ar, .ref ak, .ref aw, .ref att, .ref ass])), (ar, .inr (3, [.int (nI (Ra)), .ref aRn, .ref aRp])), (aRn, .inl (cI, 8, .inl farn)), (aRp, .inl (cI, 48, .inl farp)), (ak, .inl (cI, 8, .inl fak))]) hF (c_X8_finding_N l D cI cJ cZ cS ta sa sv s.heap.size h0 qh qk qd b0 qa qm qs qp ql qt qz qf ff ) kv_X8_80 ⟨rfl, rfl, Nat.le_of_ble_eq_true rfl, Nat.le_of_ble_eq_true rfl⟩ ⟨Nat.le_of_ble_eq_true rfl, Nat.le_of_ble_eq_true rfl⟩ hK hN hZ hP hD hS hA [0, 6] [1, 2, 3, 4, 5] rfl rfl rfl (by decide +kernel) (by decide +kernel) 0 rfl rfl rfl rfl hl.1 rfl (Nat.le_of_ble_eq_true rfl) dX8_roundOf_90 (fun r_17 u_r_17 H locs hw_r_17 hP hD hS => ?_)
            obtain ⟨f2_18, rfl⟩ : ∃ z, z = u_r_17 := ⟨_, rfl⟩
            try dsimp only at hw_r_17
            have hP : va_P D vwCl [(qh, .inr (1, [.int (nI (Pa)), .ref ae, .ref al, .ref au, .ref ao, .ref ar, .ref ak, .ref aw, .ref att, .ref ass])), (ar, .inr (3, [.int (nI (Ra)), .ref aRn, .ref aRp])), (aRn, .inl (cI, 8, .inl farn)), (aRp, .inl (cI, 48, .inl farp)), (ak, .inl (cI, 8, .inl fak)), (h0, .inr (8, [.ref qh, .ref qk, .ref qd, .int b0, .ref qa, .ref qm, .ref qs, .ref qp, .ref ql, .ref qt, .ref qz, .ref qf])), (qf, .inl (cI, 7, .inl f2_18))] H := hP
            have hD : va_D A [(qh, .inr (1, [.int (nI (Pa)), .ref ae, .ref al, .ref au, .ref ao, .ref ar, .ref ak, .ref aw, .ref att, .ref ass])), (ar, .inr (3, [.int (nI (Ra)), .ref aRn, .ref aRp])), (aRn, .inl (cI, 8, .inl farn)), (aRp, .inl (cI, 48, .inl farp)), (ak, .inl (cI, 8, .inl fak)), (h0, .inr (8, [.ref qh, .ref qk, .ref qd, .int b0, .ref qa, .ref qm, .ref qs, .ref qp, .ref ql, .ref qt, .ref qz, .ref qf])), (qf, .inl (cI, 7, .inl f2_18))] := hD
            subst hw_r_17
            exact W.iret (v := (-1000000004)) hx hb hr (fun t ht hW => ⟨⟨(-1000000004), f2_18, rfl, ro_n (kk := fak) (ln := farn) (sp := farp)  (by omega) (by omega) (by omega) eq_13 (by omega) (by omega), by rw [ht]; exact hP.sub [5, 0, 1, 2, 3, 4, 6] rfl, hD.sub [5, 0, 1, 2, 3, 4, 6] (by decide +kernel) rfl⟩, hS.F ht⟩) hS.2.2 dX8_roundOf_93 hlk
          · skip
            have nc_16 : y_15 < q_13 := xn_nle (a := q_13) (b := y_15) (by omega) (by omega) c_16
            refine lv_aload_n hx hb dX8_roundOf_72 rfl (lv_at hl 1 rfl) ?_
            refine xg hF kf_X8_12 hK hP 0 rfl rfl dX8_roundOf_73 ?_
            refine xg hF kf_X8_159 hK hP 1 rfl rfl dX8_roundOf_76 ?_
            refine lv_iload_n hx hb dX8_roundOf_79 rfl (lv_at hl 2 rfl) ?_
            refine lv_iload_n hx hb dX8_roundOf_80 rfl (lv_at hl 3 rfl) ?_
            refine xc_Vr hF (c_X3_stop l D cI cJ cZ cS ta sa sv s.heap.size ar aRn aRp Ra k_2 y_15 farp (by omega) (by omega) harp) kv_X8_190 ⟨rfl, rfl, Nat.le_of_ble_eq_true rfl, Nat.le_of_ble_eq_true rfl⟩ ⟨Nat.le_of_ble_eq_true rfl, Nat.le_of_ble_eq_true rfl⟩ hK hN hZ hP hD hS hA [2, 4] rfl rfl 0 rfl rfl rfl rfl hl.1 rfl (Nat.le_of_ble_eq_true rfl) dX8_roundOf_81 (fun r_19 hw_r_19 => ?_)
            obtain ⟨q_20, rfl, h_21, h_22⟩ := hw_r_19
            refine lv_goto (tgt := 93) hx hb dX8_roundOf_84 (by decide) ?_
            exact W.iret (v := nI (q_20)) hx hb hr (fun t ht hW => ⟨⟨nI (q_20), ff, rfl, ro_s (kk := fak) (ln := farn) (sp := farp)  (by omega) (by omega) (by omega) eq_13 (by omega) (by omega) h_22, by rw [ht]; exact hP.sub [0, 1, 2, 3, 4, 5, 6] rfl, hD.sub [0, 1, 2, 3, 4, 5, 6] (by decide +kernel) rfl⟩, hS.F ht⟩) hS.2.2 dX8_roundOf_93 hlk
        · skip
          refine lv_iload_n hx hb dX8_roundOf_65 rfl (lv_at hl 0 rfl) ?_
          exact W.iret (v := nI (q_13)) hx hb hr (fun t ht hW => ⟨⟨nI (q_13), ff, rfl, (eq_13.symm.trans (by rw [c_14]; exact ro_l (kk := fak) (ln := farn) (sp := farp)  (by omega) (by omega))), by rw [ht]; exact hP.sub [0, 1, 2, 3, 4, 5, 6] rfl, hD.sub [0, 1, 2, 3, 4, 5, 6] (by decide +kernel) rfl⟩, hS.F ht⟩) hS.2.2 dX8_roundOf_66 hlk
      · skip
        refine lv_aload_n hx hb dX8_roundOf_36 rfl (lv_at hl 0 rfl) ?_
        refine xg hF kf_X8_12 hK hP 0 rfl rfl dX8_roundOf_37 ?_
        refine xg hF kf_X8_184 hK hP 1 rfl rfl dX8_roundOf_40 ?_
        refine lv_iload_n hx hb dX8_roundOf_43 rfl (lv_at hl 1 rfl) ?_
        refine va_iald hx hb hK hP 5 0 rfl rfl (vp_in_nI (show k_2 < 8 by omega) (by decide)) dX8_roundOf_44 ?_
        refine xl_i (y := fak k_2) (congrArg fak (nI_clamp (show k_2 < 2 ^ 31 by omega))) ?_
        exact W.iret (v := fak k_2) hx hb hr (fun t ht hW => ⟨⟨fak k_2, ff, rfl, (by rw [c_12]; exact ro_k (kk := fak) (ln := farn) (sp := farp)  (by omega) (by omega)), by rw [ht]; exact hP.sub [0, 1, 2, 3, 4, 5, 6] rfl, hD.sub [0, 1, 2, 3, 4, 5, 6] (by decide +kernel) rfl⟩, hS.F ht⟩) hS.2.2 dX8_roundOf_45 hlk
    · skip
      refine lv_if_ne (tgt := 31) hx hb dX8_roundOf_21 (by decide) (fun c_23 => absurd (by decide) c_23) (fun c_23 => ?_)
      refine lv_aload_n hx hb dX8_roundOf_24 rfl (lv_at hl 0 rfl) ?_
      refine lv_ldc (v := (-1000000001)) hx hb hown (hu _ uw396) dX8_roundOf_25 ?_
      refine xc_Vi (wr := [(qh, .inr (1, [.int (nI (Pa)), .ref ae, .ref al, .ref au, .ref ao, .ref ar, .ref ak, .ref aw, .ref att, .ref ass])), (ar, .inr (3, [.int (nI (Ra)), .ref aRn, .ref aRp])), (aRn, .inl (cI, 8, .inl farn)), (aRp, .inl (cI, 48, .inl farp)), (ak, .inl (cI, 8, .inl fak))]) hF (c_X8_finding_B l D cI cJ cZ cS ta sa sv s.heap.size h0 qh qk qd b0 qa qm qs qp ql qt qz qf ff ) kv_X8_80 ⟨rfl, rfl, Nat.le_of_ble_eq_true rfl, Nat.le_of_ble_eq_true rfl⟩ ⟨Nat.le_of_ble_eq_true rfl, Nat.le_of_ble_eq_true rfl⟩ hK hN hZ hP hD hS hA [0, 6] [1, 2, 3, 4, 5] rfl rfl rfl (by decide +kernel) (by decide +kernel) 0 rfl rfl rfl rfl hl.1 rfl (Nat.le_of_ble_eq_true rfl) dX8_roundOf_27 (fun r_24 u_r_24 H locs hw_r_24 hP hD hS => ?_)
      obtain ⟨f2_25, rfl⟩ : ∃ z, z = u_r_24 := ⟨_, rfl⟩
      try dsimp only at hw_r_24
      have hP : va_P D vwCl [(qh, .inr (1, [.int (nI (Pa)), .ref ae, .ref al, .ref au, .ref ao, .ref ar, .ref ak, .ref aw, .ref att, .ref ass])), (ar, .inr (3, [.int (nI (Ra)), .ref aRn, .ref aRp])), (aRn, .inl (cI, 8, .inl farn)), (aRp, .inl (cI, 48, .inl farp)), (ak, .inl (cI, 8, .inl fak)), (h0, .inr (8, [.ref qh, .ref qk, .ref qd, .int b0, .ref qa, .ref qm, .ref qs, .ref qp, .ref ql, .ref qt, .ref qz, .ref qf])), (qf, .inl (cI, 7, .inl f2_25))] H := hP
      have hD : va_D A [(qh, .inr (1, [.int (nI (Pa)), .ref ae, .ref al, .ref au, .ref ao, .ref ar, .ref ak, .ref aw, .ref att, .ref ass])), (ar, .inr (3, [.int (nI (Ra)), .ref aRn, .ref aRp])), (aRn, .inl (cI, 8, .inl farn)), (aRp, .inl (cI, 48, .inl farp)), (ak, .inl (cI, 8, .inl fak)), (h0, .inr (8, [.ref qh, .ref qk, .ref qd, .int b0, .ref qa, .ref qm, .ref qs, .ref qp, .ref ql, .ref qt, .ref qz, .ref qf])), (qf, .inl (cI, 7, .inl f2_25))] := hD
      subst hw_r_24
      exact W.iret (v := (-1000000001)) hx hb hr (fun t ht hW => ⟨⟨(-1000000001), f2_25, rfl, ro_no (kk := fak) (ln := farn) (sp := farp) (fun h => h_10.elim h.2.1 h.2.2), by rw [ht]; exact hP.sub [5, 0, 1, 2, 3, 4, 6] rfl, hD.sub [5, 0, 1, 2, 3, 4, 6] (by decide +kernel) rfl⟩, hS.F ht⟩) hS.2.2 dX8_roundOf_30 hlk
  · skip
    refine lv_if_eq (tgt := 24) hx hb dX8_roundOf_11 (by decide) (fun c_26 => ?_) (fun c_26 => absurd (by decide) c_26)
    refine lv_aload_n hx hb dX8_roundOf_24 rfl (lv_at hl 0 rfl) ?_
    refine lv_ldc (v := (-1000000001)) hx hb hown (hu _ uw396) dX8_roundOf_25 ?_
    refine xc_Vi (wr := [(qh, .inr (1, [.int (nI (Pa)), .ref ae, .ref al, .ref au, .ref ao, .ref ar, .ref ak, .ref aw, .ref att, .ref ass])), (ar, .inr (3, [.int (nI (Ra)), .ref aRn, .ref aRp])), (aRn, .inl (cI, 8, .inl farn)), (aRp, .inl (cI, 48, .inl farp)), (ak, .inl (cI, 8, .inl fak))]) hF (c_X8_finding_B l D cI cJ cZ cS ta sa sv s.heap.size h0 qh qk qd b0 qa qm qs qp ql qt qz qf ff ) kv_X8_80 ⟨rfl, rfl, Nat.le_of_ble_eq_true rfl, Nat.le_of_ble_eq_true rfl⟩ ⟨Nat.le_of_ble_eq_true rfl, Nat.le_of_ble_eq_true rfl⟩ hK hN hZ hP hD hS hA [0, 6] [1, 2, 3, 4, 5] rfl rfl rfl (by decide +kernel) (by decide +kernel) 0 rfl rfl rfl rfl hl.1 rfl (Nat.le_of_ble_eq_true rfl) dX8_roundOf_27 (fun r_27 u_r_27 H locs hw_r_27 hP hD hS => ?_)
    obtain ⟨f2_28, rfl⟩ : ∃ z, z = u_r_27 := ⟨_, rfl⟩
    try dsimp only at hw_r_27
    have hP : va_P D vwCl [(qh, .inr (1, [.int (nI (Pa)), .ref ae, .ref al, .ref au, .ref ao, .ref ar, .ref ak, .ref aw, .ref att, .ref ass])), (ar, .inr (3, [.int (nI (Ra)), .ref aRn, .ref aRp])), (aRn, .inl (cI, 8, .inl farn)), (aRp, .inl (cI, 48, .inl farp)), (ak, .inl (cI, 8, .inl fak)), (h0, .inr (8, [.ref qh, .ref qk, .ref qd, .int b0, .ref qa, .ref qm, .ref qs, .ref qp, .ref ql, .ref qt, .ref qz, .ref qf])), (qf, .inl (cI, 7, .inl f2_28))] H := hP
    have hD : va_D A [(qh, .inr (1, [.int (nI (Pa)), .ref ae, .ref al, .ref au, .ref ao, .ref ar, .ref ak, .ref aw, .ref att, .ref ass])), (ar, .inr (3, [.int (nI (Ra)), .ref aRn, .ref aRp])), (aRn, .inl (cI, 8, .inl farn)), (aRp, .inl (cI, 48, .inl farp)), (ak, .inl (cI, 8, .inl fak)), (h0, .inr (8, [.ref qh, .ref qk, .ref qd, .int b0, .ref qa, .ref qm, .ref qs, .ref qp, .ref ql, .ref qt, .ref qz, .ref qf])), (qf, .inl (cI, 7, .inl f2_28))] := hD
    subst hw_r_27
    exact W.iret (v := (-1000000001)) hx hb hr (fun t ht hW => ⟨⟨(-1000000001), f2_28, rfl, ro_no (kk := fak) (ln := farn) (sp := farp) (fun h => h_5 h.1), by rw [ht]; exact hP.sub [5, 0, 1, 2, 3, 4, 6] rfl, hD.sub [5, 0, 1, 2, 3, 4, 6] (by decide +kernel) rfl⟩, hS.F ht⟩) hS.2.2 dX8_roundOf_30 hlk
set_option maxHeartbeats 4000000 in
set_option maxRecDepth 100000 in
theorem c_X8_as (l : Launch) (D : va_G) (cI cJ cZ cS : ClassId) (ta : Nat) (sa sv : Nat → Nat) (sz : Nat) (h0 : Nat) (qh : Nat) (qk : Nat) (qd : Nat) (b0 : Int32) (qa : Nat) (qm : Nat) (qs : Nat) (qp : Nat) (ql : Nat) (qt : Nat) (qz : Nat) (qf : Nat) (Pa : Nat) (ae : Nat) (al : Nat) (au : Nat) (ao : Nat) (ar : Nat) (ak : Nat) (aw : Nat) (att : Nat) (ass : Nat) (Ra : Nat) (aRn : Nat) (aRp : Nat) (farn : Nat → Int32) (farp : Nat → Int32) (fak : Nat → Int32) (ff : Nat → Int32) (p0 : Int32) (p1 : Int32) (hP0 : Pa ≤ 10) (hR : Ra ≤ 8) (hLLr : LL Ra farn) (harn : BA 8 7 farn) (harp : BA 48 10 farp) : Met l yX8_as (Cond.code yX8_as cX8_as 3 (some .int) :: wsU) ({ frames := 3, cells := 0, slots := 0, locals := 65 }) (va_Pc [.ref h0, .int p0, .int p1] (XW D (xT cI cJ cZ cS) ta sa sv [(h0, .inr (8, [.ref qh, .ref qk, .ref qd, .int b0, .ref qa, .ref qm, .ref qs, .ref qp, .ref ql, .ref qt, .ref qz, .ref qf])), (qh, .inr (1, [.int (nI (Pa)), .ref ae, .ref al, .ref au, .ref ao, .ref ar, .ref ak, .ref aw, .ref att, .ref ass])), (ar, .inr (3, [.int (nI (Ra)), .ref aRn, .ref aRp])), (aRn, .inl (cI, 8, .inl farn)), (aRp, .inl (cI, 48, .inl farp)), (ak, .inl (cI, 8, .inl fak)), (qf, .inl (cI, 7, .inl ff))] sz)) (XQi (fun (r : Int32) (f2 : (Nat → Int32)) => (True)) D (fun (f2 : Nat → Int32) => [(h0, .inr (8, [.ref qh, .ref qk, .ref qd, .int b0, .ref qa, .ref qm, .ref qs, .ref qp, .ref ql, .ref qt, .ref qz, .ref qf])), (qh, .inr (1, [.int (nI (Pa)), .ref ae, .ref al, .ref au, .ref ao, .ref ar, .ref ak, .ref aw, .ref att, .ref ass])), (ar, .inr (3, [.int (nI (Ra)), .ref aRn, .ref aRp])), (aRn, .inl (cI, 8, .inl farn)), (aRp, .inl (cI, 48, .inl farp)), (ak, .inl (cI, 8, .inl fak)), (qf, .inl (cI, 7, .inl f2))]) (va_A [(h0, .inr (8, [.ref qh, .ref qk, .ref qd, .int b0, .ref qa, .ref qm, .ref qs, .ref qp, .ref ql, .ref qt, .ref qz, .ref qf])), (qh, .inr (1, [.int (nI (Pa)), .ref ae, .ref al, .ref au, .ref ao, .ref ar, .ref ak, .ref aw, .ref att, .ref ass])), (ar, .inr (3, [.int (nI (Ra)), .ref aRn, .ref aRp])), (aRn, .inl (cI, 8, .inl farn)), (aRp, .inl (cI, 48, .inl farp)), (ak, .inl (cI, 8, .inl fak)), (qf, .inl (cI, 7, .inl ff))] sz)) 0 0 (va_A [(h0, .inr (8, [.ref qh, .ref qk, .ref qd, .int b0, .ref qa, .ref qm, .ref qs, .ref qp, .ref ql, .ref qt, .ref qz, .ref qf])), (qh, .inr (1, [.int (nI (Pa)), .ref ae, .ref al, .ref au, .ref ao, .ref ar, .ref ak, .ref aw, .ref att, .ref ass])), (ar, .inr (3, [.int (nI (Ra)), .ref aRn, .ref aRp])), (aRn, .inl (cI, 8, .inl farn)), (aRp, .inl (cI, 48, .inl farp)), (ak, .inl (cI, 8, .inl fak)), (qf, .inl (cI, 7, .inl ff))] sz) := by
  refine xh (QA := fun A => XQi (fun (r : Int32) (f2 : (Nat → Int32)) => (True)) D (fun (f2 : Nat → Int32) => [(h0, .inr (8, [.ref qh, .ref qk, .ref qd, .int b0, .ref qa, .ref qm, .ref qs, .ref qp, .ref ql, .ref qt, .ref qz, .ref qf])), (qh, .inr (1, [.int (nI (Pa)), .ref ae, .ref al, .ref au, .ref ao, .ref ar, .ref ak, .ref aw, .ref att, .ref ass])), (ar, .inr (3, [.int (nI (Ra)), .ref aRn, .ref aRp])), (aRn, .inl (cI, 8, .inl farn)), (aRp, .inl (cI, 48, .inl farp)), (ak, .inl (cI, 8, .inl fak)), (qf, .inl (cI, 7, .inl f2))]) A) (fr := fun A => A) (by decide) (Nat.le_of_ble_eq_true rfl) ?_
  intro p e s m below meth c ls A hF hr hlk hin hsz hP hK hD hN hZ hA hS hl
  have hF : CallFix p m c cX8_as 3 s _ _ RX8 := hF
  have hx := hF.1
  have hb := hF.2.1
  have hml := hF.2.2.1
  have hown := hF.2.2.2.1
  have hu : ∀ w ∈ wsU, w.before _ s = true := fun w h => hF.2.2.2.2 w (List.mem_cons_of_mem _ h)
  have hl : lv_has ls 3 [(0, .ref h0), (1, .int p0), (2, .int p1)] := hl
  refine lv_aload_n hx hb dX8_as_0 rfl (lv_at hl 0 rfl) ?_
  refine xg hF kf_X8_12 hK hP 0 rfl rfl dX8_as_1 ?_
  refine xg hF kf_X8_159 hK hP 1 rfl rfl dX8_as_4 ?_
  refine lv_iload_n hx hb dX8_as_7 rfl (lv_at hl 1 rfl) ?_
  refine xc_Vr hF (c_X3_has l D cI cJ cZ cS ta sa sv s.heap.size ar aRn aRp Ra p0 (by omega)) kv_X8_171 ⟨rfl, rfl, Nat.le_of_ble_eq_true rfl, Nat.le_of_ble_eq_true rfl⟩ ⟨Nat.le_of_ble_eq_true rfl, Nat.le_of_ble_eq_true rfl⟩ hK hN hZ hP hD hS hA [2] rfl rfl 0 rfl rfl rfl rfl hl.1 rfl (Nat.le_of_ble_eq_true rfl) dX8_as_8 (fun r_1 hw_r_1 => ?_)
  rcases hw_r_1 with ⟨k_2, rfl, rfl, h_4⟩ | ⟨rfl, h_5⟩
  · skip
    refine lv_if_eq (tgt := 21) hx hb dX8_as_11 (by decide) (fun c_6 => absurd c_6 (by decide)) (fun c_6 => ?_)
    refine lv_iload_n hx hb dX8_as_14 rfl (lv_at hl 2 rfl) ?_
    refine xc_Sr hF (c_X8_isKind l D cI cJ cZ cS ta sa sv s.heap.size p1 ) ks_X8_155 ⟨rfl, rfl, Nat.le_of_ble_eq_true rfl, Nat.le_of_ble_eq_true rfl⟩ ⟨Nat.le_of_ble_eq_true rfl, Nat.le_of_ble_eq_true rfl⟩ hK hN hZ hP hD hS hA [] rfl rfl rfl hl.1 rfl (Nat.le_of_ble_eq_true rfl) dX8_as_15 (fun r_7 hw_r_7 => ?_)
    rcases hw_r_7 with ⟨rfl, h_8, h_9⟩ | ⟨rfl, h_10⟩
    · skip
      refine lv_if_ne (tgt := 28) hx hb dX8_as_18 (by decide) (fun c_11 => ?_) (fun c_11 => absurd c_11 (by decide))
      refine lv_aload_n hx hb dX8_as_28 rfl (lv_at hl 0 rfl) ?_
      refine xg hF kf_X8_12 hK hP 0 rfl rfl dX8_as_29 ?_
      refine xg hF kf_X8_184 hK hP 1 rfl rfl dX8_as_32 ?_
      refine lv_iload_n hx hb dX8_as_35 rfl (lv_at hl 1 rfl) ?_
      refine va_iald hx hb hK hP 5 0 rfl rfl (vp_in_nI (show k_2 < 8 by omega) (by decide)) dX8_as_36 ?_
      refine xl_i (y := fak k_2) (congrArg fak (nI_clamp (show k_2 < 2 ^ 31 by omega))) ?_
      refine lv_iload_n hx hb dX8_as_37 rfl (lv_at hl 2 rfl) ?_
      refine xc_Sr hF (c_X8_isUnder l D cI cJ cZ cS ta sa sv s.heap.size (fak k_2) p1 ) ks_X8_193 ⟨rfl, rfl, Nat.le_of_ble_eq_true rfl, Nat.le_of_ble_eq_true rfl⟩ ⟨Nat.le_of_ble_eq_true rfl, Nat.le_of_ble_eq_true rfl⟩ hK hN hZ hP hD hS hA [] rfl rfl rfl hl.1 rfl (Nat.le_of_ble_eq_true rfl) dX8_as_38 (fun r_12 hw_r_12 => ?_)
      rcases hw_r_12 with rfl | rfl
      · skip
        refine lv_if_ne (tgt := 51) hx hb dX8_as_41 (by decide) (fun c_13 => ?_) (fun c_13 => absurd c_13 (by decide))
        refine lv_aload_n hx hb dX8_as_51 rfl (lv_at hl 0 rfl) ?_
        refine xg hF kf_X8_12 hK hP 0 rfl rfl dX8_as_52 ?_
        refine xg hF kf_X8_159 hK hP 1 rfl rfl dX8_as_55 ?_
        refine xg hF kf_X8_187 hK hP 2 rfl rfl dX8_as_58 ?_
        refine lv_iload_n hx hb dX8_as_61 rfl (lv_at hl 1 rfl) ?_
        refine va_iald hx hb hK hP 3 0 rfl rfl (vp_in_nI (show k_2 < 8 by omega) (by decide)) dX8_as_62 ?_
        refine xl_i (y := farn k_2) (congrArg farn (nI_clamp (show k_2 < 2 ^ 31 by omega))) ?_
        obtain ⟨q_14, hq_14, eq_14⟩ := harn k_2 (by omega)
        refine xl_i (y := nI (q_14)) eq_14 ?_
        exact W.iret (v := nI (q_14)) hx hb hr (fun t ht hW => ⟨⟨nI (q_14), ff, rfl, trivial, by rw [ht]; exact hP.sub [0, 1, 2, 3, 4, 5, 6] rfl, hD.sub [0, 1, 2, 3, 4, 5, 6] (by decide +kernel) rfl⟩, hS.F ht⟩) hS.2.2 dX8_as_63 hlk
      · skip
        refine lv_if_ne (tgt := 51) hx hb dX8_as_41 (by decide) (fun c_15 => absurd (by decide) c_15) (fun c_15 => ?_)
        refine lv_aload_n hx hb dX8_as_44 rfl (lv_at hl 0 rfl) ?_
        refine lv_ldc (v := (-1000000003)) hx hb hown (hu _ uw500) dX8_as_45 ?_
        refine xc_Vi (wr := [(qh, .inr (1, [.int (nI (Pa)), .ref ae, .ref al, .ref au, .ref ao, .ref ar, .ref ak, .ref aw, .ref att, .ref ass])), (ar, .inr (3, [.int (nI (Ra)), .ref aRn, .ref aRp])), (aRn, .inl (cI, 8, .inl farn)), (aRp, .inl (cI, 48, .inl farp)), (ak, .inl (cI, 8, .inl fak))]) hF (c_X8_finding_K l D cI cJ cZ cS ta sa sv s.heap.size h0 qh qk qd b0 qa qm qs qp ql qt qz qf ff ) kv_X8_80 ⟨rfl, rfl, Nat.le_of_ble_eq_true rfl, Nat.le_of_ble_eq_true rfl⟩ ⟨Nat.le_of_ble_eq_true rfl, Nat.le_of_ble_eq_true rfl⟩ hK hN hZ hP hD hS hA [0, 6] [1, 2, 3, 4, 5] rfl rfl rfl (by decide +kernel) (by decide +kernel) 0 rfl rfl rfl rfl hl.1 rfl (Nat.le_of_ble_eq_true rfl) dX8_as_47 (fun r_16 u_r_16 H locs hw_r_16 hP hD hS => ?_)
        obtain ⟨f2_17, rfl⟩ : ∃ z, z = u_r_16 := ⟨_, rfl⟩
        try dsimp only at hw_r_16
        have hP : va_P D vwCl [(qh, .inr (1, [.int (nI (Pa)), .ref ae, .ref al, .ref au, .ref ao, .ref ar, .ref ak, .ref aw, .ref att, .ref ass])), (ar, .inr (3, [.int (nI (Ra)), .ref aRn, .ref aRp])), (aRn, .inl (cI, 8, .inl farn)), (aRp, .inl (cI, 48, .inl farp)), (ak, .inl (cI, 8, .inl fak)), (h0, .inr (8, [.ref qh, .ref qk, .ref qd, .int b0, .ref qa, .ref qm, .ref qs, .ref qp, .ref ql, .ref qt, .ref qz, .ref qf])), (qf, .inl (cI, 7, .inl f2_17))] H := hP
        have hD : va_D A [(qh, .inr (1, [.int (nI (Pa)), .ref ae, .ref al, .ref au, .ref ao, .ref ar, .ref ak, .ref aw, .ref att, .ref ass])), (ar, .inr (3, [.int (nI (Ra)), .ref aRn, .ref aRp])), (aRn, .inl (cI, 8, .inl farn)), (aRp, .inl (cI, 48, .inl farp)), (ak, .inl (cI, 8, .inl fak)), (h0, .inr (8, [.ref qh, .ref qk, .ref qd, .int b0, .ref qa, .ref qm, .ref qs, .ref qp, .ref ql, .ref qt, .ref qz, .ref qf])), (qf, .inl (cI, 7, .inl f2_17))] := hD
        subst hw_r_16
        exact W.iret (v := (-1000000003)) hx hb hr (fun t ht hW => ⟨⟨(-1000000003), f2_17, rfl, trivial, by rw [ht]; exact hP.sub [5, 0, 1, 2, 3, 4, 6] rfl, hD.sub [5, 0, 1, 2, 3, 4, 6] (by decide +kernel) rfl⟩, hS.F ht⟩) hS.2.2 dX8_as_50 hlk
    · skip
      refine lv_if_ne (tgt := 28) hx hb dX8_as_18 (by decide) (fun c_18 => absurd (by decide) c_18) (fun c_18 => ?_)
      refine lv_aload_n hx hb dX8_as_21 rfl (lv_at hl 0 rfl) ?_
      refine lv_ldc (v := (-1000000001)) hx hb hown (hu _ uw396) dX8_as_22 ?_
      refine xc_Vi (wr := [(qh, .inr (1, [.int (nI (Pa)), .ref ae, .ref al, .ref au, .ref ao, .ref ar, .ref ak, .ref aw, .ref att, .ref ass])), (ar, .inr (3, [.int (nI (Ra)), .ref aRn, .ref aRp])), (aRn, .inl (cI, 8, .inl farn)), (aRp, .inl (cI, 48, .inl farp)), (ak, .inl (cI, 8, .inl fak))]) hF (c_X8_finding_B l D cI cJ cZ cS ta sa sv s.heap.size h0 qh qk qd b0 qa qm qs qp ql qt qz qf ff ) kv_X8_80 ⟨rfl, rfl, Nat.le_of_ble_eq_true rfl, Nat.le_of_ble_eq_true rfl⟩ ⟨Nat.le_of_ble_eq_true rfl, Nat.le_of_ble_eq_true rfl⟩ hK hN hZ hP hD hS hA [0, 6] [1, 2, 3, 4, 5] rfl rfl rfl (by decide +kernel) (by decide +kernel) 0 rfl rfl rfl rfl hl.1 rfl (Nat.le_of_ble_eq_true rfl) dX8_as_24 (fun r_19 u_r_19 H locs hw_r_19 hP hD hS => ?_)
      obtain ⟨f2_20, rfl⟩ : ∃ z, z = u_r_19 := ⟨_, rfl⟩
      try dsimp only at hw_r_19
      have hP : va_P D vwCl [(qh, .inr (1, [.int (nI (Pa)), .ref ae, .ref al, .ref au, .ref ao, .ref ar, .ref ak, .ref aw, .ref att, .ref ass])), (ar, .inr (3, [.int (nI (Ra)), .ref aRn, .ref aRp])), (aRn, .inl (cI, 8, .inl farn)), (aRp, .inl (cI, 48, .inl farp)), (ak, .inl (cI, 8, .inl fak)), (h0, .inr (8, [.ref qh, .ref qk, .ref qd, .int b0, .ref qa, .ref qm, .ref qs, .ref qp, .ref ql, .ref qt, .ref qz, .ref qf])), (qf, .inl (cI, 7, .inl f2_20))] H := hP
      have hD : va_D A [(qh, .inr (1, [.int (nI (Pa)), .ref ae, .ref al, .ref au, .ref ao, .ref ar, .ref ak, .ref aw, .ref att, .ref ass])), (ar, .inr (3, [.int (nI (Ra)), .ref aRn, .ref aRp])), (aRn, .inl (cI, 8, .inl farn)), (aRp, .inl (cI, 48, .inl farp)), (ak, .inl (cI, 8, .inl fak)), (h0, .inr (8, [.ref qh, .ref qk, .ref qd, .int b0, .ref qa, .ref qm, .ref qs, .ref qp, .ref ql, .ref qt, .ref qz, .ref qf])), (qf, .inl (cI, 7, .inl f2_20))] := hD
      subst hw_r_19
      exact W.iret (v := (-1000000001)) hx hb hr (fun t ht hW => ⟨⟨(-1000000001), f2_20, rfl, trivial, by rw [ht]; exact hP.sub [5, 0, 1, 2, 3, 4, 6] rfl, hD.sub [5, 0, 1, 2, 3, 4, 6] (by decide +kernel) rfl⟩, hS.F ht⟩) hS.2.2 dX8_as_27 hlk
  · skip
    refine lv_if_eq (tgt := 21) hx hb dX8_as_11 (by decide) (fun c_21 => ?_) (fun c_21 => absurd (by decide) c_21)
    refine lv_aload_n hx hb dX8_as_21 rfl (lv_at hl 0 rfl) ?_
    refine lv_ldc (v := (-1000000001)) hx hb hown (hu _ uw396) dX8_as_22 ?_
    refine xc_Vi (wr := [(qh, .inr (1, [.int (nI (Pa)), .ref ae, .ref al, .ref au, .ref ao, .ref ar, .ref ak, .ref aw, .ref att, .ref ass])), (ar, .inr (3, [.int (nI (Ra)), .ref aRn, .ref aRp])), (aRn, .inl (cI, 8, .inl farn)), (aRp, .inl (cI, 48, .inl farp)), (ak, .inl (cI, 8, .inl fak))]) hF (c_X8_finding_B l D cI cJ cZ cS ta sa sv s.heap.size h0 qh qk qd b0 qa qm qs qp ql qt qz qf ff ) kv_X8_80 ⟨rfl, rfl, Nat.le_of_ble_eq_true rfl, Nat.le_of_ble_eq_true rfl⟩ ⟨Nat.le_of_ble_eq_true rfl, Nat.le_of_ble_eq_true rfl⟩ hK hN hZ hP hD hS hA [0, 6] [1, 2, 3, 4, 5] rfl rfl rfl (by decide +kernel) (by decide +kernel) 0 rfl rfl rfl rfl hl.1 rfl (Nat.le_of_ble_eq_true rfl) dX8_as_24 (fun r_22 u_r_22 H locs hw_r_22 hP hD hS => ?_)
    obtain ⟨f2_23, rfl⟩ : ∃ z, z = u_r_22 := ⟨_, rfl⟩
    try dsimp only at hw_r_22
    have hP : va_P D vwCl [(qh, .inr (1, [.int (nI (Pa)), .ref ae, .ref al, .ref au, .ref ao, .ref ar, .ref ak, .ref aw, .ref att, .ref ass])), (ar, .inr (3, [.int (nI (Ra)), .ref aRn, .ref aRp])), (aRn, .inl (cI, 8, .inl farn)), (aRp, .inl (cI, 48, .inl farp)), (ak, .inl (cI, 8, .inl fak)), (h0, .inr (8, [.ref qh, .ref qk, .ref qd, .int b0, .ref qa, .ref qm, .ref qs, .ref qp, .ref ql, .ref qt, .ref qz, .ref qf])), (qf, .inl (cI, 7, .inl f2_23))] H := hP
    have hD : va_D A [(qh, .inr (1, [.int (nI (Pa)), .ref ae, .ref al, .ref au, .ref ao, .ref ar, .ref ak, .ref aw, .ref att, .ref ass])), (ar, .inr (3, [.int (nI (Ra)), .ref aRn, .ref aRp])), (aRn, .inl (cI, 8, .inl farn)), (aRp, .inl (cI, 48, .inl farp)), (ak, .inl (cI, 8, .inl fak)), (h0, .inr (8, [.ref qh, .ref qk, .ref qd, .int b0, .ref qa, .ref qm, .ref qs, .ref qp, .ref ql, .ref qt, .ref qz, .ref qf])), (qf, .inl (cI, 7, .inl f2_23))] := hD
    subst hw_r_22
    exact W.iret (v := (-1000000001)) hx hb hr (fun t ht hW => ⟨⟨(-1000000001), f2_23, rfl, trivial, by rw [ht]; exact hP.sub [5, 0, 1, 2, 3, 4, 6] rfl, hD.sub [5, 0, 1, 2, 3, 4, 6] (by decide +kernel) rfl⟩, hS.F ht⟩) hS.2.2 dX8_as_27 hlk
set_option maxHeartbeats 4000000 in
set_option maxRecDepth 100000 in
theorem c_X8_fit (l : Launch) (D : va_G) (cI cJ cZ cS : ClassId) (ta : Nat) (sa sv : Nat → Nat) (sz : Nat) (h0 : Nat) (qh : Nat) (qk : Nat) (qd : Nat) (b0 : Int32) (qa : Nat) (qm : Nat) (qs : Nat) (qp : Nat) (ql : Nat) (qt : Nat) (qz : Nat) (qf : Nat) (Pa : Nat) (ae : Nat) (al : Nat) (au : Nat) (ao : Nat) (ar : Nat) (ak : Nat) (aw : Nat) (att : Nat) (ass : Nat) (fal : Nat → Int32) (fao : Nat → Int32) (sh : Nat) (sc : Nat) (sq : Nat) (hh9 : Nat → Int32) (cl9 : Nat → Int32) (qu9 : Nat → Int32) (hP0 : Pa ≤ 10) (hqu9 : BA 10 10 qu9) : Met l yX8_fit (Cond.code yX8_fit cX8_fit 1 (some .int) :: wsU) ({ frames := 5, cells := 0, slots := 0, locals := 113 }) (va_Pc [.ref h0] (XW D (xT cI cJ cZ cS) ta sa sv [(h0, .inr (8, [.ref qh, .ref qk, .ref qd, .int b0, .ref qa, .ref qm, .ref qs, .ref qp, .ref ql, .ref qt, .ref qz, .ref qf])), (qh, .inr (1, [.int (nI (Pa)), .ref ae, .ref al, .ref au, .ref ao, .ref ar, .ref ak, .ref aw, .ref att, .ref ass])), (al, .inl (cI, 100, .inl fal)), (ao, .inl (cI, 100, .inl fao)), (qp, .inr (5, [.ref sh, .ref sc, .ref sq])), (sh, .inl (cI, 10, .inl hh9)), (sc, .inl (cZ, 10, .inl cl9)), (sq, .inl (cI, 10, .inl qu9))] sz)) (XQi (fun (r : Int32) (u : (Nat → Int32) × (Nat → Int32) × (Nat → Int32)) => match u with | (h2, c2, q2) => (True) ∧ (BA 10 10 q2)) D (fun (u : (Nat → Int32) × (Nat → Int32) × (Nat → Int32)) => match u with | (h2, c2, q2) => [(h0, .inr (8, [.ref qh, .ref qk, .ref qd, .int b0, .ref qa, .ref qm, .ref qs, .ref qp, .ref ql, .ref qt, .ref qz, .ref qf])), (qh, .inr (1, [.int (nI (Pa)), .ref ae, .ref al, .ref au, .ref ao, .ref ar, .ref ak, .ref aw, .ref att, .ref ass])), (al, .inl (cI, 100, .inl fal)), (ao, .inl (cI, 100, .inl fao)), (qp, .inr (5, [.ref sh, .ref sc, .ref sq])), (sh, .inl (cI, 10, .inl h2)), (sc, .inl (cZ, 10, .inl c2)), (sq, .inl (cI, 10, .inl q2))]) (va_A [(h0, .inr (8, [.ref qh, .ref qk, .ref qd, .int b0, .ref qa, .ref qm, .ref qs, .ref qp, .ref ql, .ref qt, .ref qz, .ref qf])), (qh, .inr (1, [.int (nI (Pa)), .ref ae, .ref al, .ref au, .ref ao, .ref ar, .ref ak, .ref aw, .ref att, .ref ass])), (al, .inl (cI, 100, .inl fal)), (ao, .inl (cI, 100, .inl fao)), (qp, .inr (5, [.ref sh, .ref sc, .ref sq])), (sh, .inl (cI, 10, .inl hh9)), (sc, .inl (cZ, 10, .inl cl9)), (sq, .inl (cI, 10, .inl qu9))] sz)) 0 0 (va_A [(h0, .inr (8, [.ref qh, .ref qk, .ref qd, .int b0, .ref qa, .ref qm, .ref qs, .ref qp, .ref ql, .ref qt, .ref qz, .ref qf])), (qh, .inr (1, [.int (nI (Pa)), .ref ae, .ref al, .ref au, .ref ao, .ref ar, .ref ak, .ref aw, .ref att, .ref ass])), (al, .inl (cI, 100, .inl fal)), (ao, .inl (cI, 100, .inl fao)), (qp, .inr (5, [.ref sh, .ref sc, .ref sq])), (sh, .inl (cI, 10, .inl hh9)), (sc, .inl (cZ, 10, .inl cl9)), (sq, .inl (cI, 10, .inl qu9))] sz) := by
  refine xh (QA := fun A => XQi (fun (r : Int32) (u : (Nat → Int32) × (Nat → Int32) × (Nat → Int32)) => match u with | (h2, c2, q2) => (True) ∧ (BA 10 10 q2)) D (fun (u : (Nat → Int32) × (Nat → Int32) × (Nat → Int32)) => match u with | (h2, c2, q2) => [(h0, .inr (8, [.ref qh, .ref qk, .ref qd, .int b0, .ref qa, .ref qm, .ref qs, .ref qp, .ref ql, .ref qt, .ref qz, .ref qf])), (qh, .inr (1, [.int (nI (Pa)), .ref ae, .ref al, .ref au, .ref ao, .ref ar, .ref ak, .ref aw, .ref att, .ref ass])), (al, .inl (cI, 100, .inl fal)), (ao, .inl (cI, 100, .inl fao)), (qp, .inr (5, [.ref sh, .ref sc, .ref sq])), (sh, .inl (cI, 10, .inl h2)), (sc, .inl (cZ, 10, .inl c2)), (sq, .inl (cI, 10, .inl q2))]) A) (fr := fun A => A) (by decide) (Nat.le_of_ble_eq_true rfl) ?_
  intro p e s m below meth c ls A hF hr hlk hin hsz hP hK hD hN hZ hA hS hl
  have hF : CallFix p m c cX8_fit 1 s _ _ RX8 := hF
  have hx := hF.1
  have hb := hF.2.1
  have hml := hF.2.2.1
  have hown := hF.2.2.2.1
  have hu : ∀ w ∈ wsU, w.before _ s = true := fun w h => hF.2.2.2.2 w (List.mem_cons_of_mem _ h)
  have hl : lv_has ls 1 [(0, .ref h0)] := hl
  refine lv_aload_n hx hb dX8_fit_0 rfl (lv_at hl 0 rfl) ?_
  refine xg hF kf_X8_46 hK hP 0 rfl rfl dX8_fit_1 ?_
  refine lv_aload_n hx hb dX8_fit_4 rfl (lv_at hl 0 rfl) ?_
  refine xg hF kf_X8_12 hK hP 0 rfl rfl dX8_fit_5 ?_
  refine xc_Vv (wr := [(h0, .inr (8, [.ref qh, .ref qk, .ref qd, .int b0, .ref qa, .ref qm, .ref qs, .ref qp, .ref ql, .ref qt, .ref qz, .ref qf]))]) hF (c_X5_climb l D cI cJ cZ cS ta sa sv s.heap.size qp sh sc sq hh9 cl9 qu9 qh ae al au ao ar ak aw att ass Pa fal fao (by omega) hqu9) kv_X8_209 ⟨rfl, rfl, Nat.le_of_ble_eq_true rfl, Nat.le_of_ble_eq_true rfl⟩ ⟨Nat.le_of_ble_eq_true rfl, Nat.le_of_ble_eq_true rfl⟩ hK hN hZ hP hD hS hA [4, 5, 6, 7, 1, 2, 3] [0] rfl rfl (by decide +kernel) rfl (by decide +kernel) 0 rfl rfl rfl rfl hl.1 rfl (Nat.le_of_ble_eq_true rfl) dX8_fit_8 (fun u_r_1 H locs hw_r_1 hP hD hS => ?_)
  obtain ⟨h2_2, c2_3, q9_4⟩ := u_r_1
  try dsimp only at hw_r_1
  have i_5 := hw_r_1
  have hP : va_P D vwCl [(h0, .inr (8, [.ref qh, .ref qk, .ref qd, .int b0, .ref qa, .ref qm, .ref qs, .ref qp, .ref ql, .ref qt, .ref qz, .ref qf])), (qp, .inr (5, [.ref sh, .ref sc, .ref sq])), (sh, .inl (cI, 10, .inl h2_2)), (sc, .inl (cZ, 10, .inl c2_3)), (sq, .inl (cI, 10, .inl q9_4)), (qh, .inr (1, [.int (nI (Pa)), .ref ae, .ref al, .ref au, .ref ao, .ref ar, .ref ak, .ref aw, .ref att, .ref ass])), (al, .inl (cI, 100, .inl fal)), (ao, .inl (cI, 100, .inl fao))] H := hP
  have hD : va_D A [(h0, .inr (8, [.ref qh, .ref qk, .ref qd, .int b0, .ref qa, .ref qm, .ref qs, .ref qp, .ref ql, .ref qt, .ref qz, .ref qf])), (qp, .inr (5, [.ref sh, .ref sc, .ref sq])), (sh, .inl (cI, 10, .inl h2_2)), (sc, .inl (cZ, 10, .inl c2_3)), (sq, .inl (cI, 10, .inl q9_4)), (qh, .inr (1, [.int (nI (Pa)), .ref ae, .ref al, .ref au, .ref ao, .ref ar, .ref ak, .ref aw, .ref att, .ref ass])), (al, .inl (cI, 100, .inl fal)), (ao, .inl (cI, 100, .inl fao))] := hD
  refine lv_aload_n hx hb dX8_fit_11 rfl (lv_at hl 0 rfl) ?_
  refine xg hF kf_X8_46 hK hP 0 rfl rfl dX8_fit_12 ?_
  refine lv_aload_n hx hb dX8_fit_15 rfl (lv_at hl 0 rfl) ?_
  refine xg hF kf_X8_12 hK hP 0 rfl rfl dX8_fit_16 ?_
  refine xc_Vr hF (c_X5_doFit l D cI cJ cZ cS ta sa sv H.size qp sh sc sq h2_2 qh ae al au ao ar ak aw att ass Pa fal fao (by omega)) kv_X8_212 ⟨rfl, rfl, Nat.le_of_ble_eq_true rfl, Nat.le_of_ble_eq_true rfl⟩ ⟨Nat.le_of_ble_eq_true rfl, Nat.le_of_ble_eq_true rfl⟩ hK hN hZ hP hD hS hA [1, 2, 5, 6, 7] rfl rfl 0 rfl rfl rfl rfl hl.1 rfl (Nat.le_of_ble_eq_true rfl) dX8_fit_19 (fun r_6 hw_r_6 => ?_)
  rcases hw_r_6 with rfl | rfl
  · skip
    refine lv_if_eq (tgt := 29) hx hb dX8_fit_22 (by decide) (fun c_7 => absurd c_7 (by decide)) (fun c_7 => ?_)
    refine lv_iconst (v := 1) hx hb dX8_fit_25 (by decide) ?_
    refine lv_goto (tgt := 30) hx hb dX8_fit_26 (by decide) ?_
    exact W.iret (v := 1) hx hb hr (fun t ht hW => ⟨⟨1, (h2_2, c2_3, q9_4), rfl, ⟨trivial, i_5⟩, by rw [ht]; exact hP.sub [0, 5, 6, 7, 1, 2, 3, 4] rfl, hD.sub [0, 5, 6, 7, 1, 2, 3, 4] (by decide +kernel) rfl⟩, hS.F ht⟩) hS.2.2 dX8_fit_30 hlk
  · skip
    refine lv_if_eq (tgt := 29) hx hb dX8_fit_22 (by decide) (fun c_8 => ?_) (fun c_8 => absurd (by decide) c_8)
    refine lv_iconst (v := 0) hx hb dX8_fit_29 (by decide) ?_
    exact W.iret (v := 0) hx hb hr (fun t ht hW => ⟨⟨0, (h2_2, c2_3, q9_4), rfl, ⟨trivial, i_5⟩, by rw [ht]; exact hP.sub [0, 5, 6, 7, 1, 2, 3, 4] rfl, hD.sub [0, 5, 6, 7, 1, 2, 3, 4] (by decide +kernel) rfl⟩, hS.F ht⟩) hS.2.2 dX8_fit_30 hlk
set_option maxHeartbeats 4000000 in
set_option maxRecDepth 100000 in
theorem c_X8_height (l : Launch) (D : va_G) (cI cJ cZ cS : ClassId) (ta : Nat) (sa sv : Nat → Nat) (sz : Nat) (h0 : Nat) (qh : Nat) (qk : Nat) (qd : Nat) (b0 : Int32) (qa : Nat) (qm : Nat) (qs : Nat) (qp : Nat) (ql : Nat) (qt : Nat) (qz : Nat) (qf : Nat) (Pa : Nat) (ae : Nat) (al : Nat) (au : Nat) (ao : Nat) (ar : Nat) (ak : Nat) (aw : Nat) (att : Nat) (ass : Nat) (fal : Nat → Int32) (fao : Nat → Int32) (sh : Nat) (sc : Nat) (sq : Nat) (hh9 : Nat → Int32) (cl9 : Nat → Int32) (qu9 : Nat → Int32) (ff : Nat → Int32) (p0 : Int32) (hP0 : Pa ≤ 10) (hqu9 : BA 10 10 qu9) : Met l yX8_height (Cond.code yX8_height cX8_height 2 (some .int) :: wsU) ({ frames := 5, cells := 0, slots := 0, locals := 113 }) (va_Pc [.ref h0, .int p0] (XW D (xT cI cJ cZ cS) ta sa sv [(h0, .inr (8, [.ref qh, .ref qk, .ref qd, .int b0, .ref qa, .ref qm, .ref qs, .ref qp, .ref ql, .ref qt, .ref qz, .ref qf])), (qh, .inr (1, [.int (nI (Pa)), .ref ae, .ref al, .ref au, .ref ao, .ref ar, .ref ak, .ref aw, .ref att, .ref ass])), (al, .inl (cI, 100, .inl fal)), (ao, .inl (cI, 100, .inl fao)), (qp, .inr (5, [.ref sh, .ref sc, .ref sq])), (sh, .inl (cI, 10, .inl hh9)), (sc, .inl (cZ, 10, .inl cl9)), (sq, .inl (cI, 10, .inl qu9)), (qf, .inl (cI, 7, .inl ff))] sz)) (XQi (fun (r : Int32) (u : (Nat → Int32) × (Nat → Int32) × (Nat → Int32) × (Nat → Int32)) => match u with | (h2, c2, q2, f2) => (True) ∧ (BA 10 10 q2)) D (fun (u : (Nat → Int32) × (Nat → Int32) × (Nat → Int32) × (Nat → Int32)) => match u with | (h2, c2, q2, f2) => [(h0, .inr (8, [.ref qh, .ref qk, .ref qd, .int b0, .ref qa, .ref qm, .ref qs, .ref qp, .ref ql, .ref qt, .ref qz, .ref qf])), (qh, .inr (1, [.int (nI (Pa)), .ref ae, .ref al, .ref au, .ref ao, .ref ar, .ref ak, .ref aw, .ref att, .ref ass])), (al, .inl (cI, 100, .inl fal)), (ao, .inl (cI, 100, .inl fao)), (qp, .inr (5, [.ref sh, .ref sc, .ref sq])), (sh, .inl (cI, 10, .inl h2)), (sc, .inl (cZ, 10, .inl c2)), (sq, .inl (cI, 10, .inl q2)), (qf, .inl (cI, 7, .inl f2))]) (va_A [(h0, .inr (8, [.ref qh, .ref qk, .ref qd, .int b0, .ref qa, .ref qm, .ref qs, .ref qp, .ref ql, .ref qt, .ref qz, .ref qf])), (qh, .inr (1, [.int (nI (Pa)), .ref ae, .ref al, .ref au, .ref ao, .ref ar, .ref ak, .ref aw, .ref att, .ref ass])), (al, .inl (cI, 100, .inl fal)), (ao, .inl (cI, 100, .inl fao)), (qp, .inr (5, [.ref sh, .ref sc, .ref sq])), (sh, .inl (cI, 10, .inl hh9)), (sc, .inl (cZ, 10, .inl cl9)), (sq, .inl (cI, 10, .inl qu9)), (qf, .inl (cI, 7, .inl ff))] sz)) 0 0 (va_A [(h0, .inr (8, [.ref qh, .ref qk, .ref qd, .int b0, .ref qa, .ref qm, .ref qs, .ref qp, .ref ql, .ref qt, .ref qz, .ref qf])), (qh, .inr (1, [.int (nI (Pa)), .ref ae, .ref al, .ref au, .ref ao, .ref ar, .ref ak, .ref aw, .ref att, .ref ass])), (al, .inl (cI, 100, .inl fal)), (ao, .inl (cI, 100, .inl fao)), (qp, .inr (5, [.ref sh, .ref sc, .ref sq])), (sh, .inl (cI, 10, .inl hh9)), (sc, .inl (cZ, 10, .inl cl9)), (sq, .inl (cI, 10, .inl qu9)), (qf, .inl (cI, 7, .inl ff))] sz) := by
  refine xh (QA := fun A => XQi (fun (r : Int32) (u : (Nat → Int32) × (Nat → Int32) × (Nat → Int32) × (Nat → Int32)) => match u with | (h2, c2, q2, f2) => (True) ∧ (BA 10 10 q2)) D (fun (u : (Nat → Int32) × (Nat → Int32) × (Nat → Int32) × (Nat → Int32)) => match u with | (h2, c2, q2, f2) => [(h0, .inr (8, [.ref qh, .ref qk, .ref qd, .int b0, .ref qa, .ref qm, .ref qs, .ref qp, .ref ql, .ref qt, .ref qz, .ref qf])), (qh, .inr (1, [.int (nI (Pa)), .ref ae, .ref al, .ref au, .ref ao, .ref ar, .ref ak, .ref aw, .ref att, .ref ass])), (al, .inl (cI, 100, .inl fal)), (ao, .inl (cI, 100, .inl fao)), (qp, .inr (5, [.ref sh, .ref sc, .ref sq])), (sh, .inl (cI, 10, .inl h2)), (sc, .inl (cZ, 10, .inl c2)), (sq, .inl (cI, 10, .inl q2)), (qf, .inl (cI, 7, .inl f2))]) A) (fr := fun A => A) (by decide) (Nat.le_of_ble_eq_true rfl) ?_
  intro p e s m below meth c ls A hF hr hlk hin hsz hP hK hD hN hZ hA hS hl
  have hF : CallFix p m c cX8_height 2 s _ _ RX8 := hF
  have hx := hF.1
  have hb := hF.2.1
  have hml := hF.2.2.1
  have hown := hF.2.2.2.1
  have hu : ∀ w ∈ wsU, w.before _ s = true := fun w h => hF.2.2.2.2 w (List.mem_cons_of_mem _ h)
  have hl : lv_has ls 2 [(0, .ref h0), (1, .int p0)] := hl
  refine lv_aload_n hx hb dX8_height_0 rfl (lv_at hl 0 rfl) ?_
  refine xg hF kf_X8_12 hK hP 0 rfl rfl dX8_height_1 ?_
  refine lv_iload_n hx hb dX8_height_4 rfl (lv_at hl 1 rfl) ?_
  refine lv_i2l (v := p0.toInt64) hx hb dX8_height_5 rfl ?_
  refine xc_Vr hF (c_X1_isPlace l D cI cJ cZ cS ta sa sv s.heap.size qh ae al au ao ar ak aw att ass Pa p0 (by omega)) kv_X8_87 ⟨rfl, rfl, Nat.le_of_ble_eq_true rfl, Nat.le_of_ble_eq_true rfl⟩ ⟨Nat.le_of_ble_eq_true rfl, Nat.le_of_ble_eq_true rfl⟩ hK hN hZ hP hD hS hA [1] rfl rfl 0 rfl rfl rfl rfl hl.1 rfl (Nat.le_of_ble_eq_true rfl) dX8_height_6 (fun r_1 hw_r_1 => ?_)
  rcases hw_r_1 with ⟨k_2, rfl, rfl, h_4⟩ | ⟨rfl, h_5⟩
  · skip
    refine lv_if_ne (tgt := 19) hx hb dX8_height_9 (by decide) (fun c_6 => ?_) (fun c_6 => absurd c_6 (by decide))
    refine lv_aload_n hx hb dX8_height_19 rfl (lv_at hl 0 rfl) ?_
    refine xg hF kf_X8_46 hK hP 0 rfl rfl dX8_height_20 ?_
    refine lv_aload_n hx hb dX8_height_23 rfl (lv_at hl 0 rfl) ?_
    refine xg hF kf_X8_12 hK hP 0 rfl rfl dX8_height_24 ?_
    refine xc_Vv (wr := [(h0, .inr (8, [.ref qh, .ref qk, .ref qd, .int b0, .ref qa, .ref qm, .ref qs, .ref qp, .ref ql, .ref qt, .ref qz, .ref qf])), (qf, .inl (cI, 7, .inl ff))]) hF (c_X5_climb l D cI cJ cZ cS ta sa sv s.heap.size qp sh sc sq hh9 cl9 qu9 qh ae al au ao ar ak aw att ass Pa fal fao (by omega) hqu9) kv_X8_209 ⟨rfl, rfl, Nat.le_of_ble_eq_true rfl, Nat.le_of_ble_eq_true rfl⟩ ⟨Nat.le_of_ble_eq_true rfl, Nat.le_of_ble_eq_true rfl⟩ hK hN hZ hP hD hS hA [4, 5, 6, 7, 1, 2, 3] [0, 8] rfl rfl (by decide +kernel) rfl (by decide +kernel) 0 rfl rfl rfl rfl hl.1 rfl (Nat.le_of_ble_eq_true rfl) dX8_height_27 (fun u_r_7 H locs hw_r_7 hP hD hS => ?_)
    obtain ⟨h2_8, c2_9, q9_10⟩ := u_r_7
    try dsimp only at hw_r_7
    have i_11 := hw_r_7
    have hP : va_P D vwCl [(h0, .inr (8, [.ref qh, .ref qk, .ref qd, .int b0, .ref qa, .ref qm, .ref qs, .ref qp, .ref ql, .ref qt, .ref qz, .ref qf])), (qf, .inl (cI, 7, .inl ff)), (qp, .inr (5, [.ref sh, .ref sc, .ref sq])), (sh, .inl (cI, 10, .inl h2_8)), (sc, .inl (cZ, 10, .inl c2_9)), (sq, .inl (cI, 10, .inl q9_10)), (qh, .inr (1, [.int (nI (Pa)), .ref ae, .ref al, .ref au, .ref ao, .ref ar, .ref ak, .ref aw, .ref att, .ref ass])), (al, .inl (cI, 100, .inl fal)), (ao, .inl (cI, 100, .inl fao))] H := hP
    have hD : va_D A [(h0, .inr (8, [.ref qh, .ref qk, .ref qd, .int b0, .ref qa, .ref qm, .ref qs, .ref qp, .ref ql, .ref qt, .ref qz, .ref qf])), (qf, .inl (cI, 7, .inl ff)), (qp, .inr (5, [.ref sh, .ref sc, .ref sq])), (sh, .inl (cI, 10, .inl h2_8)), (sc, .inl (cZ, 10, .inl c2_9)), (sq, .inl (cI, 10, .inl q9_10)), (qh, .inr (1, [.int (nI (Pa)), .ref ae, .ref al, .ref au, .ref ao, .ref ar, .ref ak, .ref aw, .ref att, .ref ass])), (al, .inl (cI, 100, .inl fal)), (ao, .inl (cI, 100, .inl fao))] := hD
    refine lv_aload_n hx hb dX8_height_30 rfl (lv_at hl 0 rfl) ?_
    refine xg hF kf_X8_46 hK hP 0 rfl rfl dX8_height_31 ?_
    refine lv_aload_n hx hb dX8_height_34 rfl (lv_at hl 0 rfl) ?_
    refine xg hF kf_X8_12 hK hP 0 rfl rfl dX8_height_35 ?_
    refine xc_Vr hF (c_X5_doFit l D cI cJ cZ cS ta sa sv H.size qp sh sc sq h2_8 qh ae al au ao ar ak aw att ass Pa fal fao (by omega)) kv_X8_212 ⟨rfl, rfl, Nat.le_of_ble_eq_true rfl, Nat.le_of_ble_eq_true rfl⟩ ⟨Nat.le_of_ble_eq_true rfl, Nat.le_of_ble_eq_true rfl⟩ hK hN hZ hP hD hS hA [2, 3, 6, 7, 8] rfl rfl 0 rfl rfl rfl rfl hl.1 rfl (Nat.le_of_ble_eq_true rfl) dX8_height_38 (fun r_12 hw_r_12 => ?_)
    rcases hw_r_12 with rfl | rfl
    · skip
      refine lv_if_ne (tgt := 51) hx hb dX8_height_41 (by decide) (fun c_13 => ?_) (fun c_13 => absurd c_13 (by decide))
      refine lv_aload_n hx hb dX8_height_51 rfl (lv_at hl 0 rfl) ?_
      refine xg hF kf_X8_46 hK hP 0 rfl rfl dX8_height_52 ?_
      refine xg hF kf_X8_216 hK hP 2 rfl rfl dX8_height_55 ?_
      refine lv_iload_n hx hb dX8_height_58 rfl (lv_at hl 1 rfl) ?_
      refine va_iald hx hb hK hP 3 0 rfl rfl (vp_in_nI (show k_2 < 10 by omega) (by decide)) dX8_height_59 ?_
      refine xl_i (y := h2_8 k_2) (congrArg h2_8 (nI_clamp (show k_2 < 2 ^ 31 by omega))) ?_
      exact W.iret (v := h2_8 k_2) hx hb hr (fun t ht hW => ⟨⟨h2_8 k_2, (h2_8, c2_9, q9_10, ff), rfl, ⟨trivial, i_11⟩, by rw [ht]; exact hP.sub [0, 6, 7, 8, 2, 3, 4, 5, 1] rfl, hD.sub [0, 6, 7, 8, 2, 3, 4, 5, 1] (by decide +kernel) rfl⟩, hS.F ht⟩) hS.2.2 dX8_height_60 hlk
    · skip
      refine lv_if_ne (tgt := 51) hx hb dX8_height_41 (by decide) (fun c_14 => absurd (by decide) c_14) (fun c_14 => ?_)
      refine lv_aload_n hx hb dX8_height_44 rfl (lv_at hl 0 rfl) ?_
      refine lv_ldc (v := (-1000000005)) hx hb hown (hu _ uw452) dX8_height_45 ?_
      refine xc_Vi (wr := [(qp, .inr (5, [.ref sh, .ref sc, .ref sq])), (sh, .inl (cI, 10, .inl h2_8)), (sc, .inl (cZ, 10, .inl c2_9)), (sq, .inl (cI, 10, .inl q9_10)), (qh, .inr (1, [.int (nI (Pa)), .ref ae, .ref al, .ref au, .ref ao, .ref ar, .ref ak, .ref aw, .ref att, .ref ass])), (al, .inl (cI, 100, .inl fal)), (ao, .inl (cI, 100, .inl fao))]) hF (c_X8_finding_T l D cI cJ cZ cS ta sa sv H.size h0 qh qk qd b0 qa qm qs qp ql qt qz qf ff ) kv_X8_80 ⟨rfl, rfl, Nat.le_of_ble_eq_true rfl, Nat.le_of_ble_eq_true rfl⟩ ⟨Nat.le_of_ble_eq_true rfl, Nat.le_of_ble_eq_true rfl⟩ hK hN hZ hP hD hS hA [0, 1] [2, 3, 4, 5, 6, 7, 8] rfl rfl rfl (by decide +kernel) (by decide +kernel) 0 rfl rfl rfl rfl hl.1 rfl (Nat.le_of_ble_eq_true rfl) dX8_height_47 (fun r_15 u_r_15 H locs hw_r_15 hP hD hS => ?_)
      obtain ⟨f2_16, rfl⟩ : ∃ z, z = u_r_15 := ⟨_, rfl⟩
      try dsimp only at hw_r_15
      have hP : va_P D vwCl [(qp, .inr (5, [.ref sh, .ref sc, .ref sq])), (sh, .inl (cI, 10, .inl h2_8)), (sc, .inl (cZ, 10, .inl c2_9)), (sq, .inl (cI, 10, .inl q9_10)), (qh, .inr (1, [.int (nI (Pa)), .ref ae, .ref al, .ref au, .ref ao, .ref ar, .ref ak, .ref aw, .ref att, .ref ass])), (al, .inl (cI, 100, .inl fal)), (ao, .inl (cI, 100, .inl fao)), (h0, .inr (8, [.ref qh, .ref qk, .ref qd, .int b0, .ref qa, .ref qm, .ref qs, .ref qp, .ref ql, .ref qt, .ref qz, .ref qf])), (qf, .inl (cI, 7, .inl f2_16))] H := hP
      have hD : va_D A [(qp, .inr (5, [.ref sh, .ref sc, .ref sq])), (sh, .inl (cI, 10, .inl h2_8)), (sc, .inl (cZ, 10, .inl c2_9)), (sq, .inl (cI, 10, .inl q9_10)), (qh, .inr (1, [.int (nI (Pa)), .ref ae, .ref al, .ref au, .ref ao, .ref ar, .ref ak, .ref aw, .ref att, .ref ass])), (al, .inl (cI, 100, .inl fal)), (ao, .inl (cI, 100, .inl fao)), (h0, .inr (8, [.ref qh, .ref qk, .ref qd, .int b0, .ref qa, .ref qm, .ref qs, .ref qp, .ref ql, .ref qt, .ref qz, .ref qf])), (qf, .inl (cI, 7, .inl f2_16))] := hD
      subst hw_r_15
      exact W.iret (v := (-1000000005)) hx hb hr (fun t ht hW => ⟨⟨(-1000000005), (h2_8, c2_9, q9_10, f2_16), rfl, ⟨trivial, i_11⟩, by rw [ht]; exact hP.sub [7, 4, 5, 6, 0, 1, 2, 3, 8] rfl, hD.sub [7, 4, 5, 6, 0, 1, 2, 3, 8] (by decide +kernel) rfl⟩, hS.F ht⟩) hS.2.2 dX8_height_50 hlk
  · skip
    refine lv_if_ne (tgt := 19) hx hb dX8_height_9 (by decide) (fun c_17 => absurd (by decide) c_17) (fun c_17 => ?_)
    refine lv_aload_n hx hb dX8_height_12 rfl (lv_at hl 0 rfl) ?_
    refine lv_ldc (v := (-1000000001)) hx hb hown (hu _ uw396) dX8_height_13 ?_
    refine xc_Vi (wr := [(qh, .inr (1, [.int (nI (Pa)), .ref ae, .ref al, .ref au, .ref ao, .ref ar, .ref ak, .ref aw, .ref att, .ref ass])), (al, .inl (cI, 100, .inl fal)), (ao, .inl (cI, 100, .inl fao)), (qp, .inr (5, [.ref sh, .ref sc, .ref sq])), (sh, .inl (cI, 10, .inl hh9)), (sc, .inl (cZ, 10, .inl cl9)), (sq, .inl (cI, 10, .inl qu9))]) hF (c_X8_finding_B l D cI cJ cZ cS ta sa sv s.heap.size h0 qh qk qd b0 qa qm qs qp ql qt qz qf ff ) kv_X8_80 ⟨rfl, rfl, Nat.le_of_ble_eq_true rfl, Nat.le_of_ble_eq_true rfl⟩ ⟨Nat.le_of_ble_eq_true rfl, Nat.le_of_ble_eq_true rfl⟩ hK hN hZ hP hD hS hA [0, 8] [1, 2, 3, 4, 5, 6, 7] rfl rfl rfl (by decide +kernel) (by decide +kernel) 0 rfl rfl rfl rfl hl.1 rfl (Nat.le_of_ble_eq_true rfl) dX8_height_15 (fun r_18 u_r_18 H locs hw_r_18 hP hD hS => ?_)
    obtain ⟨f2_19, rfl⟩ : ∃ z, z = u_r_18 := ⟨_, rfl⟩
    try dsimp only at hw_r_18
    have hP : va_P D vwCl [(qh, .inr (1, [.int (nI (Pa)), .ref ae, .ref al, .ref au, .ref ao, .ref ar, .ref ak, .ref aw, .ref att, .ref ass])), (al, .inl (cI, 100, .inl fal)), (ao, .inl (cI, 100, .inl fao)), (qp, .inr (5, [.ref sh, .ref sc, .ref sq])), (sh, .inl (cI, 10, .inl hh9)), (sc, .inl (cZ, 10, .inl cl9)), (sq, .inl (cI, 10, .inl qu9)), (h0, .inr (8, [.ref qh, .ref qk, .ref qd, .int b0, .ref qa, .ref qm, .ref qs, .ref qp, .ref ql, .ref qt, .ref qz, .ref qf])), (qf, .inl (cI, 7, .inl f2_19))] H := hP
    have hD : va_D A [(qh, .inr (1, [.int (nI (Pa)), .ref ae, .ref al, .ref au, .ref ao, .ref ar, .ref ak, .ref aw, .ref att, .ref ass])), (al, .inl (cI, 100, .inl fal)), (ao, .inl (cI, 100, .inl fao)), (qp, .inr (5, [.ref sh, .ref sc, .ref sq])), (sh, .inl (cI, 10, .inl hh9)), (sc, .inl (cZ, 10, .inl cl9)), (sq, .inl (cI, 10, .inl qu9)), (h0, .inr (8, [.ref qh, .ref qk, .ref qd, .int b0, .ref qa, .ref qm, .ref qs, .ref qp, .ref ql, .ref qt, .ref qz, .ref qf])), (qf, .inl (cI, 7, .inl f2_19))] := hD
    subst hw_r_18
    exact W.iret (v := (-1000000001)) hx hb hr (fun t ht hW => ⟨⟨(-1000000001), (hh9, cl9, qu9, f2_19), rfl, ⟨trivial, hqu9⟩, by rw [ht]; exact hP.sub [7, 0, 1, 2, 3, 4, 5, 6, 8] rfl, hD.sub [7, 0, 1, 2, 3, 4, 5, 6, 8] (by decide +kernel) rfl⟩, hS.F ht⟩) hS.2.2 dX8_height_18 hlk
set_option maxHeartbeats 4000000 in
set_option maxRecDepth 100000 in
theorem c_X8_paper (l : Launch) (D : va_G) (cI cJ cZ cS : ClassId) (ta : Nat) (sa sv : Nat → Nat) (sz : Nat) (h0 : Nat) (qh : Nat) (qk : Nat) (qd : Nat) (b0 : Int32) (qa : Nat) (qm : Nat) (qs : Nat) (qp : Nat) (ql : Nat) (qt : Nat) (qz : Nat) (qf : Nat) (Pa : Nat) (ae : Nat) (al : Nat) (au : Nat) (ao : Nat) (ar : Nat) (ak : Nat) (aw : Nat) (att : Nat) (ass : Nat) (fal : Nat → Int32) (fao : Nat → Int32) (ff : Nat → Int32) (p0 : Int32) (p1 : Int32) (hP0 : Pa ≤ 10) : Met l yX8_paper (Cond.code yX8_paper cX8_paper 3 (some .int) :: wsU) ({ frames := 3, cells := 0, slots := 0, locals := 65 }) (va_Pc [.ref h0, .int p0, .int p1] (XW D (xT cI cJ cZ cS) ta sa sv [(h0, .inr (8, [.ref qh, .ref qk, .ref qd, .int b0, .ref qa, .ref qm, .ref qs, .ref qp, .ref ql, .ref qt, .ref qz, .ref qf])), (qh, .inr (1, [.int (nI (Pa)), .ref ae, .ref al, .ref au, .ref ao, .ref ar, .ref ak, .ref aw, .ref att, .ref ass])), (al, .inl (cI, 100, .inl fal)), (ao, .inl (cI, 100, .inl fao)), (qf, .inl (cI, 7, .inl ff))] sz)) (XQi (fun (r : Int32) (f2 : (Nat → Int32)) => (True)) D (fun (f2 : Nat → Int32) => [(h0, .inr (8, [.ref qh, .ref qk, .ref qd, .int b0, .ref qa, .ref qm, .ref qs, .ref qp, .ref ql, .ref qt, .ref qz, .ref qf])), (qh, .inr (1, [.int (nI (Pa)), .ref ae, .ref al, .ref au, .ref ao, .ref ar, .ref ak, .ref aw, .ref att, .ref ass])), (al, .inl (cI, 100, .inl fal)), (ao, .inl (cI, 100, .inl fao)), (qf, .inl (cI, 7, .inl f2))]) (va_A [(h0, .inr (8, [.ref qh, .ref qk, .ref qd, .int b0, .ref qa, .ref qm, .ref qs, .ref qp, .ref ql, .ref qt, .ref qz, .ref qf])), (qh, .inr (1, [.int (nI (Pa)), .ref ae, .ref al, .ref au, .ref ao, .ref ar, .ref ak, .ref aw, .ref att, .ref ass])), (al, .inl (cI, 100, .inl fal)), (ao, .inl (cI, 100, .inl fao)), (qf, .inl (cI, 7, .inl ff))] sz)) 0 0 (va_A [(h0, .inr (8, [.ref qh, .ref qk, .ref qd, .int b0, .ref qa, .ref qm, .ref qs, .ref qp, .ref ql, .ref qt, .ref qz, .ref qf])), (qh, .inr (1, [.int (nI (Pa)), .ref ae, .ref al, .ref au, .ref ao, .ref ar, .ref ak, .ref aw, .ref att, .ref ass])), (al, .inl (cI, 100, .inl fal)), (ao, .inl (cI, 100, .inl fao)), (qf, .inl (cI, 7, .inl ff))] sz) := by
  refine xh (QA := fun A => XQi (fun (r : Int32) (f2 : (Nat → Int32)) => (True)) D (fun (f2 : Nat → Int32) => [(h0, .inr (8, [.ref qh, .ref qk, .ref qd, .int b0, .ref qa, .ref qm, .ref qs, .ref qp, .ref ql, .ref qt, .ref qz, .ref qf])), (qh, .inr (1, [.int (nI (Pa)), .ref ae, .ref al, .ref au, .ref ao, .ref ar, .ref ak, .ref aw, .ref att, .ref ass])), (al, .inl (cI, 100, .inl fal)), (ao, .inl (cI, 100, .inl fao)), (qf, .inl (cI, 7, .inl f2))]) A) (fr := fun A => A) (by decide) (Nat.le_of_ble_eq_true rfl) ?_
  intro p e s m below meth c ls A hF hr hlk hin hsz hP hK hD hN hZ hA hS hl
  have hF : CallFix p m c cX8_paper 3 s _ _ RX8 := hF
  have hx := hF.1
  have hb := hF.2.1
  have hml := hF.2.2.1
  have hown := hF.2.2.2.1
  have hu : ∀ w ∈ wsU, w.before _ s = true := fun w h => hF.2.2.2.2 w (List.mem_cons_of_mem _ h)
  have hl : lv_has ls 3 [(0, .ref h0), (1, .int p0), (2, .int p1)] := hl
  refine lv_aload_n hx hb dX8_paper_0 rfl (lv_at hl 0 rfl) ?_
  refine xg hF kf_X8_12 hK hP 0 rfl rfl dX8_paper_1 ?_
  refine lv_iload_n hx hb dX8_paper_4 rfl (lv_at hl 1 rfl) ?_
  refine lv_iload_n hx hb dX8_paper_5 rfl (lv_at hl 2 rfl) ?_
  refine xc_Vr hF (c_X1_areTwo l D cI cJ cZ cS ta sa sv s.heap.size qh ae al au ao ar ak aw att ass Pa p0 p1 (by omega)) kv_X8_99 ⟨rfl, rfl, Nat.le_of_ble_eq_true rfl, Nat.le_of_ble_eq_true rfl⟩ ⟨Nat.le_of_ble_eq_true rfl, Nat.le_of_ble_eq_true rfl⟩ hK hN hZ hP hD hS hA [1] rfl rfl 0 rfl rfl rfl rfl hl.1 rfl (Nat.le_of_ble_eq_true rfl) dX8_paper_6 (fun r_1 hw_r_1 => ?_)
  rcases hw_r_1 with ⟨j_2, k_3, rfl, rfl, rfl, h_6, h_7, h_8⟩ | ⟨rfl, h_9⟩
  · skip
    refine lv_if_ne (tgt := 19) hx hb dX8_paper_9 (by decide) (fun c_10 => ?_) (fun c_10 => absurd c_10 (by decide))
    refine lv_aload_n hx hb dX8_paper_19 rfl (lv_at hl 0 rfl) ?_
    refine xg hF kf_X8_12 hK hP 0 rfl rfl dX8_paper_20 ?_
    refine lv_iload_n hx hb dX8_paper_23 rfl (lv_at hl 1 rfl) ?_
    refine lv_iload_n hx hb dX8_paper_24 rfl (lv_at hl 2 rfl) ?_
    refine xc_Vr hF (c_X1_areBothWays l D cI cJ cZ cS ta sa sv s.heap.size qh ae al au ao ar ak aw att ass Pa j_2 k_3 fao (by omega) (by omega)) kv_X8_219 ⟨rfl, rfl, Nat.le_of_ble_eq_true rfl, Nat.le_of_ble_eq_true rfl⟩ ⟨Nat.le_of_ble_eq_true rfl, Nat.le_of_ble_eq_true rfl⟩ hK hN hZ hP hD hS hA [1, 3] rfl rfl 0 rfl rfl rfl rfl hl.1 rfl (Nat.le_of_ble_eq_true rfl) dX8_paper_25 (fun r_11 hw_r_11 => ?_)
    rcases hw_r_11 with rfl | rfl
    · skip
      refine lv_if_ne (tgt := 38) hx hb dX8_paper_28 (by decide) (fun c_12 => ?_) (fun c_12 => absurd c_12 (by decide))
      refine lv_aload_n hx hb dX8_paper_38 rfl (lv_at hl 0 rfl) ?_
      refine xg hF kf_X8_12 hK hP 0 rfl rfl dX8_paper_39 ?_
      refine lv_iload_n hx hb dX8_paper_42 rfl (lv_at hl 1 rfl) ?_
      refine lv_iload_n hx hb dX8_paper_43 rfl (lv_at hl 2 rfl) ?_
      refine xc_Sr hF (c_X5_paperOf l D cI cJ cZ cS ta sa sv s.heap.size qh ae al au ao ar ak aw att ass Pa j_2 k_3 fal (by omega) (by omega)) ks_X8_222 ⟨rfl, rfl, Nat.le_of_ble_eq_true rfl, Nat.le_of_ble_eq_true rfl⟩ ⟨Nat.le_of_ble_eq_true rfl, Nat.le_of_ble_eq_true rfl⟩ hK hN hZ hP hD hS hA [1, 2] rfl rfl rfl hl.1 rfl (Nat.le_of_ble_eq_true rfl) dX8_paper_44 (fun r_13 hw_r_13 => ?_)
      exact W.iret (v := r_13) hx hb hr (fun t ht hW => ⟨⟨r_13, ff, rfl, trivial, by rw [ht]; exact hP.sub [0, 1, 2, 3, 4] rfl, hD.sub [0, 1, 2, 3, 4] (by decide +kernel) rfl⟩, hS.F ht⟩) hS.2.2 dX8_paper_47 hlk
    · skip
      refine lv_if_ne (tgt := 38) hx hb dX8_paper_28 (by decide) (fun c_14 => absurd (by decide) c_14) (fun c_14 => ?_)
      refine lv_aload_n hx hb dX8_paper_31 rfl (lv_at hl 0 rfl) ?_
      refine lv_ldc (v := (-1000000004)) hx hb hown (hu _ uw410) dX8_paper_32 ?_
      refine xc_Vi (wr := [(qh, .inr (1, [.int (nI (Pa)), .ref ae, .ref al, .ref au, .ref ao, .ref ar, .ref ak, .ref aw, .ref att, .ref ass])), (al, .inl (cI, 100, .inl fal)), (ao, .inl (cI, 100, .inl fao))]) hF (c_X8_finding_N l D cI cJ cZ cS ta sa sv s.heap.size h0 qh qk qd b0 qa qm qs qp ql qt qz qf ff ) kv_X8_80 ⟨rfl, rfl, Nat.le_of_ble_eq_true rfl, Nat.le_of_ble_eq_true rfl⟩ ⟨Nat.le_of_ble_eq_true rfl, Nat.le_of_ble_eq_true rfl⟩ hK hN hZ hP hD hS hA [0, 4] [1, 2, 3] rfl rfl rfl rfl (by decide) 0 rfl rfl rfl rfl hl.1 rfl (Nat.le_of_ble_eq_true rfl) dX8_paper_34 (fun r_15 u_r_15 H locs hw_r_15 hP hD hS => ?_)
      obtain ⟨f2_16, rfl⟩ : ∃ z, z = u_r_15 := ⟨_, rfl⟩
      try dsimp only at hw_r_15
      have hP : va_P D vwCl [(qh, .inr (1, [.int (nI (Pa)), .ref ae, .ref al, .ref au, .ref ao, .ref ar, .ref ak, .ref aw, .ref att, .ref ass])), (al, .inl (cI, 100, .inl fal)), (ao, .inl (cI, 100, .inl fao)), (h0, .inr (8, [.ref qh, .ref qk, .ref qd, .int b0, .ref qa, .ref qm, .ref qs, .ref qp, .ref ql, .ref qt, .ref qz, .ref qf])), (qf, .inl (cI, 7, .inl f2_16))] H := hP
      have hD : va_D A [(qh, .inr (1, [.int (nI (Pa)), .ref ae, .ref al, .ref au, .ref ao, .ref ar, .ref ak, .ref aw, .ref att, .ref ass])), (al, .inl (cI, 100, .inl fal)), (ao, .inl (cI, 100, .inl fao)), (h0, .inr (8, [.ref qh, .ref qk, .ref qd, .int b0, .ref qa, .ref qm, .ref qs, .ref qp, .ref ql, .ref qt, .ref qz, .ref qf])), (qf, .inl (cI, 7, .inl f2_16))] := hD
      subst hw_r_15
      exact W.iret (v := (-1000000004)) hx hb hr (fun t ht hW => ⟨⟨(-1000000004), f2_16, rfl, trivial, by rw [ht]; exact hP.sub [3, 0, 1, 2, 4] rfl, hD.sub [3, 0, 1, 2, 4] (by decide +kernel) rfl⟩, hS.F ht⟩) hS.2.2 dX8_paper_37 hlk
  · skip
    refine lv_if_ne (tgt := 19) hx hb dX8_paper_9 (by decide) (fun c_17 => absurd (by decide) c_17) (fun c_17 => ?_)
    refine lv_aload_n hx hb dX8_paper_12 rfl (lv_at hl 0 rfl) ?_
    refine lv_ldc (v := (-1000000001)) hx hb hown (hu _ uw396) dX8_paper_13 ?_
    refine xc_Vi (wr := [(qh, .inr (1, [.int (nI (Pa)), .ref ae, .ref al, .ref au, .ref ao, .ref ar, .ref ak, .ref aw, .ref att, .ref ass])), (al, .inl (cI, 100, .inl fal)), (ao, .inl (cI, 100, .inl fao))]) hF (c_X8_finding_B l D cI cJ cZ cS ta sa sv s.heap.size h0 qh qk qd b0 qa qm qs qp ql qt qz qf ff ) kv_X8_80 ⟨rfl, rfl, Nat.le_of_ble_eq_true rfl, Nat.le_of_ble_eq_true rfl⟩ ⟨Nat.le_of_ble_eq_true rfl, Nat.le_of_ble_eq_true rfl⟩ hK hN hZ hP hD hS hA [0, 4] [1, 2, 3] rfl rfl rfl rfl (by decide) 0 rfl rfl rfl rfl hl.1 rfl (Nat.le_of_ble_eq_true rfl) dX8_paper_15 (fun r_18 u_r_18 H locs hw_r_18 hP hD hS => ?_)
    obtain ⟨f2_19, rfl⟩ : ∃ z, z = u_r_18 := ⟨_, rfl⟩
    try dsimp only at hw_r_18
    have hP : va_P D vwCl [(qh, .inr (1, [.int (nI (Pa)), .ref ae, .ref al, .ref au, .ref ao, .ref ar, .ref ak, .ref aw, .ref att, .ref ass])), (al, .inl (cI, 100, .inl fal)), (ao, .inl (cI, 100, .inl fao)), (h0, .inr (8, [.ref qh, .ref qk, .ref qd, .int b0, .ref qa, .ref qm, .ref qs, .ref qp, .ref ql, .ref qt, .ref qz, .ref qf])), (qf, .inl (cI, 7, .inl f2_19))] H := hP
    have hD : va_D A [(qh, .inr (1, [.int (nI (Pa)), .ref ae, .ref al, .ref au, .ref ao, .ref ar, .ref ak, .ref aw, .ref att, .ref ass])), (al, .inl (cI, 100, .inl fal)), (ao, .inl (cI, 100, .inl fao)), (h0, .inr (8, [.ref qh, .ref qk, .ref qd, .int b0, .ref qa, .ref qm, .ref qs, .ref qp, .ref ql, .ref qt, .ref qz, .ref qf])), (qf, .inl (cI, 7, .inl f2_19))] := hD
    subst hw_r_18
    exact W.iret (v := (-1000000001)) hx hb hr (fun t ht hW => ⟨⟨(-1000000001), f2_19, rfl, trivial, by rw [ht]; exact hP.sub [3, 0, 1, 2, 4] rfl, hD.sub [3, 0, 1, 2, 4] (by decide +kernel) rfl⟩, hS.F ht⟩) hS.2.2 dX8_paper_18 hlk
set_option maxHeartbeats 4000000 in
set_option maxRecDepth 100000 in
theorem c_X8_worst (l : Launch) (D : va_G) (cI cJ cZ cS : ClassId) (ta : Nat) (sa sv : Nat → Nat) (sz : Nat) (h0 : Nat) (qh : Nat) (qk : Nat) (qd : Nat) (b0 : Int32) (qa : Nat) (qm : Nat) (qs : Nat) (qp : Nat) (ql : Nat) (qt : Nat) (qz : Nat) (qf : Nat) (Pa : Nat) (ae : Nat) (al : Nat) (au : Nat) (ao : Nat) (ar : Nat) (ak : Nat) (aw : Nat) (att : Nat) (ass : Nat) (fal : Nat → Int32) (fao : Nat → Int32) (ff : Nat → Int32) (hP0 : Pa ≤ 10) : Met l yX8_worst (Cond.code yX8_worst cX8_worst 2 (some .int) :: wsU) ({ frames := 4, cells := 0, slots := 0, locals := 88 }) (va_Pc [.ref h0] (XW D (xT cI cJ cZ cS) ta sa sv [(h0, .inr (8, [.ref qh, .ref qk, .ref qd, .int b0, .ref qa, .ref qm, .ref qs, .ref qp, .ref ql, .ref qt, .ref qz, .ref qf])), (qh, .inr (1, [.int (nI (Pa)), .ref ae, .ref al, .ref au, .ref ao, .ref ar, .ref ak, .ref aw, .ref att, .ref ass])), (al, .inl (cI, 100, .inl fal)), (ao, .inl (cI, 100, .inl fao)), (qf, .inl (cI, 7, .inl ff))] sz)) (XQi (fun (r : Int32) (f2 : (Nat → Int32)) => (True)) D (fun (f2 : Nat → Int32) => [(h0, .inr (8, [.ref qh, .ref qk, .ref qd, .int b0, .ref qa, .ref qm, .ref qs, .ref qp, .ref ql, .ref qt, .ref qz, .ref qf])), (qh, .inr (1, [.int (nI (Pa)), .ref ae, .ref al, .ref au, .ref ao, .ref ar, .ref ak, .ref aw, .ref att, .ref ass])), (al, .inl (cI, 100, .inl fal)), (ao, .inl (cI, 100, .inl fao)), (qf, .inl (cI, 7, .inl f2))]) (va_A [(h0, .inr (8, [.ref qh, .ref qk, .ref qd, .int b0, .ref qa, .ref qm, .ref qs, .ref qp, .ref ql, .ref qt, .ref qz, .ref qf])), (qh, .inr (1, [.int (nI (Pa)), .ref ae, .ref al, .ref au, .ref ao, .ref ar, .ref ak, .ref aw, .ref att, .ref ass])), (al, .inl (cI, 100, .inl fal)), (ao, .inl (cI, 100, .inl fao)), (qf, .inl (cI, 7, .inl ff))] sz)) 0 0 (va_A [(h0, .inr (8, [.ref qh, .ref qk, .ref qd, .int b0, .ref qa, .ref qm, .ref qs, .ref qp, .ref ql, .ref qt, .ref qz, .ref qf])), (qh, .inr (1, [.int (nI (Pa)), .ref ae, .ref al, .ref au, .ref ao, .ref ar, .ref ak, .ref aw, .ref att, .ref ass])), (al, .inl (cI, 100, .inl fal)), (ao, .inl (cI, 100, .inl fao)), (qf, .inl (cI, 7, .inl ff))] sz) := by
  refine xh (QA := fun A => XQi (fun (r : Int32) (f2 : (Nat → Int32)) => (True)) D (fun (f2 : Nat → Int32) => [(h0, .inr (8, [.ref qh, .ref qk, .ref qd, .int b0, .ref qa, .ref qm, .ref qs, .ref qp, .ref ql, .ref qt, .ref qz, .ref qf])), (qh, .inr (1, [.int (nI (Pa)), .ref ae, .ref al, .ref au, .ref ao, .ref ar, .ref ak, .ref aw, .ref att, .ref ass])), (al, .inl (cI, 100, .inl fal)), (ao, .inl (cI, 100, .inl fao)), (qf, .inl (cI, 7, .inl f2))]) A) (fr := fun A => A) (by decide) (Nat.le_of_ble_eq_true rfl) ?_
  intro p e s m below meth c ls A hF hr hlk hin hsz hP hK hD hN hZ hA hS hl
  have hF : CallFix p m c cX8_worst 2 s _ _ RX8 := hF
  have hx := hF.1
  have hb := hF.2.1
  have hml := hF.2.2.1
  have hown := hF.2.2.2.1
  have hu : ∀ w ∈ wsU, w.before _ s = true := fun w h => hF.2.2.2.2 w (List.mem_cons_of_mem _ h)
  have hl : lv_has ls 2 [(0, .ref h0)] := hl
  refine lv_aload_n hx hb dX8_worst_0 rfl (lv_at hl 0 rfl) ?_
  refine xg hF kf_X8_12 hK hP 0 rfl rfl dX8_worst_1 ?_
  refine xc_Sr hF (c_X5_mostOffPaper l D cI cJ cZ cS ta sa sv s.heap.size qh ae al au ao ar ak aw att ass Pa fal fao (by omega)) ks_X8_226 ⟨rfl, rfl, Nat.le_of_ble_eq_true rfl, Nat.le_of_ble_eq_true rfl⟩ ⟨Nat.le_of_ble_eq_true rfl, Nat.le_of_ble_eq_true rfl⟩ hK hN hZ hP hD hS hA [1, 2, 3] rfl rfl rfl hl.1 rfl (Nat.le_of_ble_eq_true rfl) dX8_worst_4 (fun r_1 hw_r_1 => ?_)
  refine lv_istore_n (lv' := [(1, .int r_1), (0, .ref h0)]) hx hb dX8_worst_7 rfl hl (by decide) rfl (fun ls hl => ?_)
  refine lv_iload_n hx hb dX8_worst_8 rfl (lv_at hl 0 rfl) ?_
  refine lv_if_ge (tgt := 21) hx hb dX8_worst_9 (by decide) (fun c_2 => ?_) (fun c_2 => ?_)
  · skip
    refine lv_iload_n hx hb dX8_worst_21 rfl (lv_at hl 0 rfl) ?_
    exact W.iret (v := r_1) hx hb hr (fun t ht hW => ⟨⟨r_1, ff, rfl, trivial, by rw [ht]; exact hP.sub [0, 1, 2, 3, 4] rfl, hD.sub [0, 1, 2, 3, 4] (by decide +kernel) rfl⟩, hS.F ht⟩) hS.2.2 dX8_worst_22 hlk
  · skip
    refine lv_aload_n hx hb dX8_worst_12 rfl (lv_at hl 1 rfl) ?_
    refine lv_ldc (v := (-1000000004)) hx hb hown (hu _ uw410) dX8_worst_13 ?_
    refine xc_Vi (wr := [(qh, .inr (1, [.int (nI (Pa)), .ref ae, .ref al, .ref au, .ref ao, .ref ar, .ref ak, .ref aw, .ref att, .ref ass])), (al, .inl (cI, 100, .inl fal)), (ao, .inl (cI, 100, .inl fao))]) hF (c_X8_finding_N l D cI cJ cZ cS ta sa sv s.heap.size h0 qh qk qd b0 qa qm qs qp ql qt qz qf ff ) kv_X8_80 ⟨rfl, rfl, Nat.le_of_ble_eq_true rfl, Nat.le_of_ble_eq_true rfl⟩ ⟨Nat.le_of_ble_eq_true rfl, Nat.le_of_ble_eq_true rfl⟩ hK hN hZ hP hD hS hA [0, 4] [1, 2, 3] rfl rfl rfl rfl (by decide) 0 rfl rfl rfl rfl hl.1 rfl (Nat.le_of_ble_eq_true rfl) dX8_worst_15 (fun r_3 u_r_3 H locs hw_r_3 hP hD hS => ?_)
    obtain ⟨f2_4, rfl⟩ : ∃ z, z = u_r_3 := ⟨_, rfl⟩
    try dsimp only at hw_r_3
    have hP : va_P D vwCl [(qh, .inr (1, [.int (nI (Pa)), .ref ae, .ref al, .ref au, .ref ao, .ref ar, .ref ak, .ref aw, .ref att, .ref ass])), (al, .inl (cI, 100, .inl fal)), (ao, .inl (cI, 100, .inl fao)), (h0, .inr (8, [.ref qh, .ref qk, .ref qd, .int b0, .ref qa, .ref qm, .ref qs, .ref qp, .ref ql, .ref qt, .ref qz, .ref qf])), (qf, .inl (cI, 7, .inl f2_4))] H := hP
    have hD : va_D A [(qh, .inr (1, [.int (nI (Pa)), .ref ae, .ref al, .ref au, .ref ao, .ref ar, .ref ak, .ref aw, .ref att, .ref ass])), (al, .inl (cI, 100, .inl fal)), (ao, .inl (cI, 100, .inl fao)), (h0, .inr (8, [.ref qh, .ref qk, .ref qd, .int b0, .ref qa, .ref qm, .ref qs, .ref qp, .ref ql, .ref qt, .ref qz, .ref qf])), (qf, .inl (cI, 7, .inl f2_4))] := hD
    subst hw_r_3
    refine lv_goto (tgt := 22) hx hb dX8_worst_18 (by decide) ?_
    exact W.iret (v := (-1000000004)) hx hb hr (fun t ht hW => ⟨⟨(-1000000004), f2_4, rfl, trivial, by rw [ht]; exact hP.sub [3, 0, 1, 2, 4] rfl, hD.sub [3, 0, 1, 2, 4] (by decide +kernel) rfl⟩, hS.F ht⟩) hS.2.2 dX8_worst_22 hlk
set_option maxHeartbeats 4000000 in
set_option maxRecDepth 100000 in
theorem c_X8_walk (l : Launch) (D : va_G) (cI cJ cZ cS : ClassId) (ta : Nat) (sa sv : Nat → Nat) (sz : Nat) (h0 : Nat) (qh : Nat) (qk : Nat) (qd : Nat) (b0 : Int32) (qa : Nat) (qm : Nat) (qs : Nat) (qp : Nat) (ql : Nat) (qt : Nat) (qz : Nat) (qf : Nat) (Pa : Nat) (ae : Nat) (al : Nat) (au : Nat) (ao : Nat) (ar : Nat) (ak : Nat) (aw : Nat) (att : Nat) (ass : Nat) (Wa : Nat) (aWn : Nat) (aWp : Nat) (fawn : Nat → Int32) (fawp : Nat → Int32) (fat : Nat → Int32) (fas : Nat → Int32) (ff : Nat → Int32) (p0 : Int32) (p1 : Int32) (p2 : Int32) (p3 : Int32) (hP0 : Pa ≤ 10) (hWa : Wa ≤ 8) (hLLw : LL Wa fawn) (hawn : BA 8 7 fawn) (hawp : BA 48 10 fawp) : Met l yX8_walk (Cond.code yX8_walk cX8_walk 6 (some .int) :: wsU) ({ frames := 3, cells := 0, slots := 0, locals := 68 }) (va_Pc [.ref h0, .int p0, .int p1, .int p2, .int p3] (XW D (xT cI cJ cZ cS) ta sa sv [(h0, .inr (8, [.ref qh, .ref qk, .ref qd, .int b0, .ref qa, .ref qm, .ref qs, .ref qp, .ref ql, .ref qt, .ref qz, .ref qf])), (qh, .inr (1, [.int (nI (Pa)), .ref ae, .ref al, .ref au, .ref ao, .ref ar, .ref ak, .ref aw, .ref att, .ref ass])), (aw, .inr (3, [.int (nI (Wa)), .ref aWn, .ref aWp])), (aWn, .inl (cI, 8, .inl fawn)), (aWp, .inl (cI, 48, .inl fawp)), (att, .inl (cI, 8, .inl fat)), (ass, .inl (cI, 8, .inl fas)), (qf, .inl (cI, 7, .inl ff))] sz)) (XQi (fun (r : Int32) (u : Nat × (Nat → Int32) × (Nat → Int32) × (Nat → Int32) × (Nat → Int32) × (Nat → Int32)) => match u with | (W2, wn2, wp2, t2, z2, f2) => ((r = sp_wkr Pa Wa p0 p1 p2 p3)) ∧ (W2 = sp_wk Pa Wa p0 p1 p2 p3) ∧ (wn2 = wkN Pa Wa p0 p1 p2 p3 fawn) ∧ (wp2 = wkS Pa Wa p0 p1 p2 p3 fawp) ∧ (t2 = wkT Pa Wa p0 p1 p2 p3 p2 fat) ∧ (z2 = wkT Pa Wa p0 p1 p2 p3 p3 fas) ∧ (W2 ≤ 8) ∧ (LL W2 wn2) ∧ (BA 8 7 wn2) ∧ (BA 48 10 wp2)) D (fun (u : Nat × (Nat → Int32) × (Nat → Int32) × (Nat → Int32) × (Nat → Int32) × (Nat → Int32)) => match u with | (W2, wn2, wp2, t2, z2, f2) => [(h0, .inr (8, [.ref qh, .ref qk, .ref qd, .int b0, .ref qa, .ref qm, .ref qs, .ref qp, .ref ql, .ref qt, .ref qz, .ref qf])), (qh, .inr (1, [.int (nI (Pa)), .ref ae, .ref al, .ref au, .ref ao, .ref ar, .ref ak, .ref aw, .ref att, .ref ass])), (aw, .inr (3, [.int (nI (W2)), .ref aWn, .ref aWp])), (aWn, .inl (cI, 8, .inl wn2)), (aWp, .inl (cI, 48, .inl wp2)), (att, .inl (cI, 8, .inl t2)), (ass, .inl (cI, 8, .inl z2)), (qf, .inl (cI, 7, .inl f2))]) (va_A [(h0, .inr (8, [.ref qh, .ref qk, .ref qd, .int b0, .ref qa, .ref qm, .ref qs, .ref qp, .ref ql, .ref qt, .ref qz, .ref qf])), (qh, .inr (1, [.int (nI (Pa)), .ref ae, .ref al, .ref au, .ref ao, .ref ar, .ref ak, .ref aw, .ref att, .ref ass])), (aw, .inr (3, [.int (nI (Wa)), .ref aWn, .ref aWp])), (aWn, .inl (cI, 8, .inl fawn)), (aWp, .inl (cI, 48, .inl fawp)), (att, .inl (cI, 8, .inl fat)), (ass, .inl (cI, 8, .inl fas)), (qf, .inl (cI, 7, .inl ff))] sz)) 0 0 (va_A [(h0, .inr (8, [.ref qh, .ref qk, .ref qd, .int b0, .ref qa, .ref qm, .ref qs, .ref qp, .ref ql, .ref qt, .ref qz, .ref qf])), (qh, .inr (1, [.int (nI (Pa)), .ref ae, .ref al, .ref au, .ref ao, .ref ar, .ref ak, .ref aw, .ref att, .ref ass])), (aw, .inr (3, [.int (nI (Wa)), .ref aWn, .ref aWp])), (aWn, .inl (cI, 8, .inl fawn)), (aWp, .inl (cI, 48, .inl fawp)), (att, .inl (cI, 8, .inl fat)), (ass, .inl (cI, 8, .inl fas)), (qf, .inl (cI, 7, .inl ff))] sz) := by
  refine xh (QA := fun A => XQi (fun (r : Int32) (u : Nat × (Nat → Int32) × (Nat → Int32) × (Nat → Int32) × (Nat → Int32) × (Nat → Int32)) => match u with | (W2, wn2, wp2, t2, z2, f2) => ((r = sp_wkr Pa Wa p0 p1 p2 p3)) ∧ (W2 = sp_wk Pa Wa p0 p1 p2 p3) ∧ (wn2 = wkN Pa Wa p0 p1 p2 p3 fawn) ∧ (wp2 = wkS Pa Wa p0 p1 p2 p3 fawp) ∧ (t2 = wkT Pa Wa p0 p1 p2 p3 p2 fat) ∧ (z2 = wkT Pa Wa p0 p1 p2 p3 p3 fas) ∧ (W2 ≤ 8) ∧ (LL W2 wn2) ∧ (BA 8 7 wn2) ∧ (BA 48 10 wp2)) D (fun (u : Nat × (Nat → Int32) × (Nat → Int32) × (Nat → Int32) × (Nat → Int32) × (Nat → Int32)) => match u with | (W2, wn2, wp2, t2, z2, f2) => [(h0, .inr (8, [.ref qh, .ref qk, .ref qd, .int b0, .ref qa, .ref qm, .ref qs, .ref qp, .ref ql, .ref qt, .ref qz, .ref qf])), (qh, .inr (1, [.int (nI (Pa)), .ref ae, .ref al, .ref au, .ref ao, .ref ar, .ref ak, .ref aw, .ref att, .ref ass])), (aw, .inr (3, [.int (nI (W2)), .ref aWn, .ref aWp])), (aWn, .inl (cI, 8, .inl wn2)), (aWp, .inl (cI, 48, .inl wp2)), (att, .inl (cI, 8, .inl t2)), (ass, .inl (cI, 8, .inl z2)), (qf, .inl (cI, 7, .inl f2))]) A) (fr := fun A => A) (by decide) (Nat.le_of_ble_eq_true rfl) ?_
  intro p e s m below meth c ls A hF hr hlk hin hsz hP hK hD hN hZ hA hS hl
  have hF : CallFix p m c cX8_walk 6 s _ _ RX8 := hF
  have hx := hF.1
  have hb := hF.2.1
  have hml := hF.2.2.1
  have hown := hF.2.2.2.1
  have hu : ∀ w ∈ wsU, w.before _ s = true := fun w h => hF.2.2.2.2 w (List.mem_cons_of_mem _ h)
  have hl : lv_has ls 6 [(0, .ref h0), (1, .int p0), (2, .int p1), (3, .int p2), (4, .int p3)] := hl
  refine lv_aload_n hx hb dX8_walk_0 rfl (lv_at hl 0 rfl) ?_
  refine xg hF kf_X8_12 hK hP 0 rfl rfl dX8_walk_1 ?_
  refine lv_iload_n hx hb dX8_walk_4 rfl (lv_at hl 1 rfl) ?_
  refine lv_iload_n hx hb dX8_walk_5 rfl (lv_at hl 2 rfl) ?_
  refine xc_Vr hF (c_X1_areTwo l D cI cJ cZ cS ta sa sv s.heap.size qh ae al au ao ar ak aw att ass Pa p0 p1 (by omega)) kv_X8_99 ⟨rfl, rfl, Nat.le_of_ble_eq_true rfl, Nat.le_of_ble_eq_true rfl⟩ ⟨Nat.le_of_ble_eq_true rfl, Nat.le_of_ble_eq_true rfl⟩ hK hN hZ hP hD hS hA [1] rfl rfl 0 rfl rfl rfl rfl hl.1 rfl (Nat.le_of_ble_eq_true rfl) dX8_walk_6 (fun r_1 hw_r_1 => ?_)
  rcases hw_r_1 with ⟨j_2, k_3, rfl, rfl, rfl, h_6, h_7, h_8⟩ | ⟨rfl, h_9⟩
  · skip
    refine lv_if_eq (tgt := 36) hx hb dX8_walk_9 (by decide) (fun c_10 => absurd c_10 (by decide)) (fun c_10 => ?_)
    refine lv_iload_n hx hb dX8_walk_12 rfl (lv_at hl 3 rfl) ?_
    refine lv_sipush (v := (-9999)) hx hb dX8_walk_13 (by decide) ?_
    refine lv_sipush (v := 9999) hx hb dX8_walk_16 (by decide) ?_
    refine xc_Sr hF (c_X8_isWithin l D cI cJ cZ cS ta sa sv s.heap.size p2 (-9999) 9999 ) ks_X8_91 ⟨rfl, rfl, Nat.le_of_ble_eq_true rfl, Nat.le_of_ble_eq_true rfl⟩ ⟨Nat.le_of_ble_eq_true rfl, Nat.le_of_ble_eq_true rfl⟩ hK hN hZ hP hD hS hA [] rfl rfl rfl hl.1 rfl (Nat.le_of_ble_eq_true rfl) dX8_walk_19 (fun r_11 hw_r_11 => ?_)
    rcases hw_r_11 with ⟨rfl, h_12, h_13⟩ | ⟨rfl, h_14⟩
    · skip
      refine lv_if_eq (tgt := 36) hx hb dX8_walk_22 (by decide) (fun c_15 => absurd c_15 (by decide)) (fun c_15 => ?_)
      refine lv_iload hx hb dX8_walk_25 (lv_at hl 4 rfl) ?_
      refine lv_iconst (v := 0) hx hb dX8_walk_27 (by decide) ?_
      refine lv_bipush (v := 99) hx hb dX8_walk_28 (by decide) ?_
      refine xc_Sr hF (c_X8_isWithin l D cI cJ cZ cS ta sa sv s.heap.size p3 0 99 ) ks_X8_91 ⟨rfl, rfl, Nat.le_of_ble_eq_true rfl, Nat.le_of_ble_eq_true rfl⟩ ⟨Nat.le_of_ble_eq_true rfl, Nat.le_of_ble_eq_true rfl⟩ hK hN hZ hP hD hS hA [] rfl rfl rfl hl.1 rfl (Nat.le_of_ble_eq_true rfl) dX8_walk_30 (fun r_16 hw_r_16 => ?_)
      rcases hw_r_16 with ⟨rfl, h_17, h_18⟩ | ⟨rfl, h_19⟩
      · skip
        refine lv_if_ne (tgt := 43) hx hb dX8_walk_33 (by decide) (fun c_20 => ?_) (fun c_20 => absurd c_20 (by decide))
        refine lv_aload_n hx hb dX8_walk_43 rfl (lv_at hl 0 rfl) ?_
        refine xg hF kf_X8_12 hK hP 0 rfl rfl dX8_walk_44 ?_
        refine xg hF kf_X8_229 hK hP 1 rfl rfl dX8_walk_47 ?_
        refine xc_Vr hF (c_X3_isFull l D cI cJ cZ cS ta sa sv s.heap.size aw aWn aWp Wa (by omega)) kv_X8_163 ⟨rfl, rfl, Nat.le_of_ble_eq_true rfl, Nat.le_of_ble_eq_true rfl⟩ ⟨Nat.le_of_ble_eq_true rfl, Nat.le_of_ble_eq_true rfl⟩ hK hN hZ hP hD hS hA [2] rfl rfl 0 rfl rfl rfl rfl hl.1 rfl (Nat.le_of_ble_eq_true rfl) dX8_walk_50 (fun r_21 hw_r_21 => ?_)
        rcases hw_r_21 with ⟨rfl, h_22⟩ | ⟨rfl, h_23⟩
        · skip
          refine lv_if_eq (tgt := 63) hx hb dX8_walk_53 (by decide) (fun c_24 => absurd c_24 (by decide)) (fun c_24 => ?_)
          refine lv_aload_n hx hb dX8_walk_56 rfl (lv_at hl 0 rfl) ?_
          refine lv_ldc (v := (-1000000002)) hx hb hown (hu _ uw419) dX8_walk_57 ?_
          refine xc_Vi (wr := [(qh, .inr (1, [.int (nI (Pa)), .ref ae, .ref al, .ref au, .ref ao, .ref ar, .ref ak, .ref aw, .ref att, .ref ass])), (aw, .inr (3, [.int (nI (Wa)), .ref aWn, .ref aWp])), (aWn, .inl (cI, 8, .inl fawn)), (aWp, .inl (cI, 48, .inl fawp)), (att, .inl (cI, 8, .inl fat)), (ass, .inl (cI, 8, .inl fas))]) hF (c_X8_finding_F l D cI cJ cZ cS ta sa sv s.heap.size h0 qh qk qd b0 qa qm qs qp ql qt qz qf ff ) kv_X8_80 ⟨rfl, rfl, Nat.le_of_ble_eq_true rfl, Nat.le_of_ble_eq_true rfl⟩ ⟨Nat.le_of_ble_eq_true rfl, Nat.le_of_ble_eq_true rfl⟩ hK hN hZ hP hD hS hA [0, 7] [1, 2, 3, 4, 5, 6] rfl rfl rfl (by decide +kernel) (by decide +kernel) 0 rfl rfl rfl rfl hl.1 rfl (Nat.le_of_ble_eq_true rfl) dX8_walk_59 (fun r_25 u_r_25 H locs hw_r_25 hP hD hS => ?_)
          obtain ⟨f2_26, rfl⟩ : ∃ z, z = u_r_25 := ⟨_, rfl⟩
          try dsimp only at hw_r_25
          have hP : va_P D vwCl [(qh, .inr (1, [.int (nI (Pa)), .ref ae, .ref al, .ref au, .ref ao, .ref ar, .ref ak, .ref aw, .ref att, .ref ass])), (aw, .inr (3, [.int (nI (Wa)), .ref aWn, .ref aWp])), (aWn, .inl (cI, 8, .inl fawn)), (aWp, .inl (cI, 48, .inl fawp)), (att, .inl (cI, 8, .inl fat)), (ass, .inl (cI, 8, .inl fas)), (h0, .inr (8, [.ref qh, .ref qk, .ref qd, .int b0, .ref qa, .ref qm, .ref qs, .ref qp, .ref ql, .ref qt, .ref qz, .ref qf])), (qf, .inl (cI, 7, .inl f2_26))] H := hP
          have hD : va_D A [(qh, .inr (1, [.int (nI (Pa)), .ref ae, .ref al, .ref au, .ref ao, .ref ar, .ref ak, .ref aw, .ref att, .ref ass])), (aw, .inr (3, [.int (nI (Wa)), .ref aWn, .ref aWp])), (aWn, .inl (cI, 8, .inl fawn)), (aWp, .inl (cI, 48, .inl fawp)), (att, .inl (cI, 8, .inl fat)), (ass, .inl (cI, 8, .inl fas)), (h0, .inr (8, [.ref qh, .ref qk, .ref qd, .int b0, .ref qa, .ref qm, .ref qs, .ref qp, .ref ql, .ref qt, .ref qz, .ref qf])), (qf, .inl (cI, 7, .inl f2_26))] := hD
          subst hw_r_25
          exact W.iret (v := (-1000000002)) hx hb hr (fun t ht hW => ⟨⟨(-1000000002), (Wa, fawn, fawp, fat, fas, f2_26), rfl, ⟨(sp_wk2 ⟨⟨isP_nI (by omega) (by omega), isP_nI (by omega) (by omega), fun h => absurd (xn_eq (by omega) (by omega) h) (by omega)⟩, ⟨h_12, h_13⟩, ⟨h_17, h_18⟩⟩ (by omega)).2, (sp_wk2 ⟨⟨isP_nI (by omega) (by omega), isP_nI (by omega) (by omega), fun h => absurd (xn_eq (by omega) (by omega) h) (by omega)⟩, ⟨h_12, h_13⟩, ⟨h_17, h_18⟩⟩ (by omega)).1, ((wk_no (P := Pa) (W := Wa) (fun h => absurd h.2 (by omega))).1 _), ((wk_no (P := Pa) (W := Wa) (fun h => absurd h.2 (by omega))).2.1 _), ((wk_no (P := Pa) (W := Wa) (fun h => absurd h.2 (by omega))).2.2 _ _), ((wk_no (P := Pa) (W := Wa) (fun h => absurd h.2 (by omega))).2.2 _ _), (by first | assumption | omega), hLLw, hawn, hawp⟩, by rw [ht]; exact hP.sub [6, 0, 1, 2, 3, 4, 5, 7] rfl, hD.sub [6, 0, 1, 2, 3, 4, 5, 7] (by decide +kernel) rfl⟩, hS.F ht⟩) hS.2.2 dX8_walk_62 hlk
        · skip
          refine lv_if_eq (tgt := 63) hx hb dX8_walk_53 (by decide) (fun c_27 => ?_) (fun c_27 => absurd (by decide) c_27)
          refine lv_aload_n hx hb dX8_walk_63 rfl (lv_at hl 0 rfl) ?_
          refine xg hF kf_X8_12 hK hP 0 rfl rfl dX8_walk_64 ?_
          refine lv_iload_n hx hb dX8_walk_67 rfl (lv_at hl 1 rfl) ?_
          refine lv_iload_n hx hb dX8_walk_68 rfl (lv_at hl 3 rfl) ?_
          refine lv_iload hx hb dX8_walk_69 (lv_at hl 4 rfl) ?_
          refine xc_Vi (wr := [(h0, .inr (8, [.ref qh, .ref qk, .ref qd, .int b0, .ref qa, .ref qm, .ref qs, .ref qp, .ref ql, .ref qt, .ref qz, .ref qf])), (qf, .inl (cI, 7, .inl ff))]) hF (c_X1_addWalk l D cI cJ cZ cS ta sa sv s.heap.size qh ae al au ao ar ak aw att ass Pa aWn aWp Wa j_2 fawn fawp fat fas p2 p3 (by omega) (by omega) hawn hawp) kv_X8_232 ⟨rfl, rfl, Nat.le_of_ble_eq_true rfl, Nat.le_of_ble_eq_true rfl⟩ ⟨Nat.le_of_ble_eq_true rfl, Nat.le_of_ble_eq_true rfl⟩ hK hN hZ hP hD hS hA [1, 2, 3, 4, 5, 6] [0, 7] rfl rfl (by decide +kernel) rfl (by decide +kernel) 0 rfl rfl rfl rfl hl.1 rfl (Nat.le_of_ble_eq_true rfl) dX8_walk_71 (fun r_28 u_r_28 H locs hw_r_28 hP hD hS => ?_)
          obtain ⟨l2_29, s2_30, t2_31, z2_32⟩ := u_r_28
          try dsimp only at hw_r_28
          obtain ⟨hw_r_28, i_33, i_34, i_35, i_36, i_37, i_38⟩ := hw_r_28
          have hP : va_P D vwCl [(h0, .inr (8, [.ref qh, .ref qk, .ref qd, .int b0, .ref qa, .ref qm, .ref qs, .ref qp, .ref ql, .ref qt, .ref qz, .ref qf])), (qf, .inl (cI, 7, .inl ff)), (qh, .inr (1, [.int (nI (Pa)), .ref ae, .ref al, .ref au, .ref ao, .ref ar, .ref ak, .ref aw, .ref att, .ref ass])), (aw, .inr (3, [.int (nI (Wa + 1)), .ref aWn, .ref aWp])), (aWn, .inl (cI, 8, .inl l2_29)), (aWp, .inl (cI, 48, .inl s2_30)), (att, .inl (cI, 8, .inl t2_31)), (ass, .inl (cI, 8, .inl z2_32))] H := hP
          have hD : va_D A [(h0, .inr (8, [.ref qh, .ref qk, .ref qd, .int b0, .ref qa, .ref qm, .ref qs, .ref qp, .ref ql, .ref qt, .ref qz, .ref qf])), (qf, .inl (cI, 7, .inl ff)), (qh, .inr (1, [.int (nI (Pa)), .ref ae, .ref al, .ref au, .ref ao, .ref ar, .ref ak, .ref aw, .ref att, .ref ass])), (aw, .inr (3, [.int (nI (Wa + 1)), .ref aWn, .ref aWp])), (aWn, .inl (cI, 8, .inl l2_29)), (aWp, .inl (cI, 48, .inl s2_30)), (att, .inl (cI, 8, .inl t2_31)), (ass, .inl (cI, 8, .inl z2_32))] := hD
          subst hw_r_28
          refine lv_istore (lv' := [(5, .int (nI (Wa))), (0, .ref h0), (1, .int (nI (j_2))), (2, .int (nI (k_3))), (3, .int p2), (4, .int p3)]) hx hb dX8_walk_74 hl (by decide) rfl (fun ls hl => ?_)
          refine lv_aload_n hx hb dX8_walk_76 rfl (lv_at hl 1 rfl) ?_
          refine xg hF kf_X8_12 hK hP 0 rfl rfl dX8_walk_77 ?_
          refine xg hF kf_X8_229 hK hP 2 rfl rfl dX8_walk_80 ?_
          refine lv_iload hx hb dX8_walk_83 (lv_at hl 0 rfl) ?_
          refine lv_iload_n hx hb dX8_walk_85 rfl (lv_at hl 3 rfl) ?_
          refine xc_Vi (wr := [(h0, .inr (8, [.ref qh, .ref qk, .ref qd, .int b0, .ref qa, .ref qm, .ref qs, .ref qp, .ref ql, .ref qt, .ref qz, .ref qf])), (qf, .inl (cI, 7, .inl ff)), (qh, .inr (1, [.int (nI (Pa)), .ref ae, .ref al, .ref au, .ref ao, .ref ar, .ref ak, .ref aw, .ref att, .ref ass])), (att, .inl (cI, 8, .inl t2_31)), (ass, .inl (cI, 8, .inl z2_32))]) hF (c_X3_append l D cI cJ cZ cS ta sa sv H.size aw aWn aWp (Wa + 1) Wa k_3 1 l2_29 s2_30 (by omega) (by omega) (by omega) (by rw [i_35]; exact pk_us) i_33 i_34) kv_X8_177 ⟨rfl, rfl, Nat.le_of_ble_eq_true rfl, Nat.le_of_ble_eq_true rfl⟩ ⟨Nat.le_of_ble_eq_true rfl, Nat.le_of_ble_eq_true rfl⟩ hK hN hZ hP hD hS hA [3, 4, 5] [0, 1, 2, 6, 7] rfl rfl rfl (by decide +kernel) (by decide +kernel) 0 rfl rfl rfl rfl hl.1 rfl (Nat.le_of_ble_eq_true rfl) dX8_walk_86 (fun r_39 u_r_39 H locs hw_r_39 hP hD hS => ?_)
          obtain ⟨l2_40, s2_41⟩ := u_r_39
          try dsimp only at hw_r_39
          obtain ⟨hw_r_39, i_42, i_43, i_44, i_45⟩ := hw_r_39
          have hP : va_P D vwCl [(h0, .inr (8, [.ref qh, .ref qk, .ref qd, .int b0, .ref qa, .ref qm, .ref qs, .ref qp, .ref ql, .ref qt, .ref qz, .ref qf])), (qf, .inl (cI, 7, .inl ff)), (qh, .inr (1, [.int (nI (Pa)), .ref ae, .ref al, .ref au, .ref ao, .ref ar, .ref ak, .ref aw, .ref att, .ref ass])), (att, .inl (cI, 8, .inl t2_31)), (ass, .inl (cI, 8, .inl z2_32)), (aw, .inr (3, [.int (nI ((Wa + 1))), .ref aWn, .ref aWp])), (aWn, .inl (cI, 8, .inl l2_40)), (aWp, .inl (cI, 48, .inl s2_41))] H := hP
          have hD : va_D A [(h0, .inr (8, [.ref qh, .ref qk, .ref qd, .int b0, .ref qa, .ref qm, .ref qs, .ref qp, .ref ql, .ref qt, .ref qz, .ref qf])), (qf, .inl (cI, 7, .inl ff)), (qh, .inr (1, [.int (nI (Pa)), .ref ae, .ref al, .ref au, .ref ao, .ref ar, .ref ak, .ref aw, .ref att, .ref ass])), (att, .inl (cI, 8, .inl t2_31)), (ass, .inl (cI, 8, .inl z2_32)), (aw, .inr (3, [.int (nI ((Wa + 1))), .ref aWn, .ref aWp])), (aWn, .inl (cI, 8, .inl l2_40)), (aWp, .inl (cI, 48, .inl s2_41))] := hD
          subst hw_r_39
          refine lv_pop hx hb dX8_walk_89 rfl ?_
          refine lv_iload hx hb dX8_walk_90 (lv_at hl 0 rfl) ?_
          exact W.iret (v := nI (Wa)) hx hb hr (fun t ht hW => ⟨⟨nI (Wa), ((Wa + 1), l2_40, s2_41, t2_31, z2_32, ff), rfl, ⟨(sp_wk1 ⟨⟨isP_nI (by omega) (by omega), isP_nI (by omega) (by omega), fun h => absurd (xn_eq (by omega) (by omega) h) (by omega)⟩, ⟨h_12, h_13⟩, ⟨h_17, h_18⟩⟩ (by omega)).2, (sp_wk1 ⟨⟨isP_nI (by omega) (by omega), isP_nI (by omega) (by omega), fun h => absurd (xn_eq (by omega) (by omega) h) (by omega)⟩, ⟨h_12, h_13⟩, ⟨h_17, h_18⟩⟩ (by omega)).1, (by rw [i_44, i_35, wk_n2]; exact (wk_yes (P := Pa) (W := Wa) (p := nI j_2) (q := nI k_3) (t := p2) (s := p3) ⟨⟨⟨isP_nI (by omega) (by omega), isP_nI (by omega) (by omega), fun h => absurd (xn_eq (by omega) (by omega) h) (by omega)⟩, ⟨h_12, h_13⟩, ⟨h_17, h_18⟩⟩, by omega⟩).1 _), (by rw [i_45, i_36]; exact (wk_yes (P := Pa) (W := Wa) (p := nI j_2) (q := nI k_3) (t := p2) (s := p3) ⟨⟨⟨isP_nI (by omega) (by omega), isP_nI (by omega) (by omega), fun h => absurd (xn_eq (by omega) (by omega) h) (by omega)⟩, ⟨h_12, h_13⟩, ⟨h_17, h_18⟩⟩, by omega⟩).2.1 _), (i_37.trans ((wk_yes (P := Pa) (W := Wa) (p := nI j_2) (q := nI k_3) (t := p2) (s := p3) ⟨⟨⟨isP_nI (by omega) (by omega), isP_nI (by omega) (by omega), fun h => absurd (xn_eq (by omega) (by omega) h) (by omega)⟩, ⟨h_12, h_13⟩, ⟨h_17, h_18⟩⟩, by omega⟩).2.2 _ _)), (i_38.trans ((wk_yes (P := Pa) (W := Wa) (p := nI j_2) (q := nI k_3) (t := p2) (s := p3) ⟨⟨⟨isP_nI (by omega) (by omega), isP_nI (by omega) (by omega), fun h => absurd (xn_eq (by omega) (by omega) h) (by omega)⟩, ⟨h_12, h_13⟩, ⟨h_17, h_18⟩⟩, by omega⟩).2.2 _ _)), (by first | assumption | omega), (by rw [i_44]; exact LL.put (by rw [i_35]; exact LL.new hLLw) (by omega) (by omega)), i_42, i_43⟩, by rw [ht]; exact hP.sub [0, 2, 5, 6, 7, 3, 4, 1] rfl, hD.sub [0, 2, 5, 6, 7, 3, 4, 1] (by decide +kernel) rfl⟩, hS.F ht⟩) hS.2.2 dX8_walk_92 hlk
      · skip
        refine lv_if_ne (tgt := 43) hx hb dX8_walk_33 (by decide) (fun c_46 => absurd (by decide) c_46) (fun c_46 => ?_)
        refine lv_aload_n hx hb dX8_walk_36 rfl (lv_at hl 0 rfl) ?_
        refine lv_ldc (v := (-1000000001)) hx hb hown (hu _ uw396) dX8_walk_37 ?_
        refine xc_Vi (wr := [(qh, .inr (1, [.int (nI (Pa)), .ref ae, .ref al, .ref au, .ref ao, .ref ar, .ref ak, .ref aw, .ref att, .ref ass])), (aw, .inr (3, [.int (nI (Wa)), .ref aWn, .ref aWp])), (aWn, .inl (cI, 8, .inl fawn)), (aWp, .inl (cI, 48, .inl fawp)), (att, .inl (cI, 8, .inl fat)), (ass, .inl (cI, 8, .inl fas))]) hF (c_X8_finding_B l D cI cJ cZ cS ta sa sv s.heap.size h0 qh qk qd b0 qa qm qs qp ql qt qz qf ff ) kv_X8_80 ⟨rfl, rfl, Nat.le_of_ble_eq_true rfl, Nat.le_of_ble_eq_true rfl⟩ ⟨Nat.le_of_ble_eq_true rfl, Nat.le_of_ble_eq_true rfl⟩ hK hN hZ hP hD hS hA [0, 7] [1, 2, 3, 4, 5, 6] rfl rfl rfl (by decide +kernel) (by decide +kernel) 0 rfl rfl rfl rfl hl.1 rfl (Nat.le_of_ble_eq_true rfl) dX8_walk_39 (fun r_47 u_r_47 H locs hw_r_47 hP hD hS => ?_)
        obtain ⟨f2_48, rfl⟩ : ∃ z, z = u_r_47 := ⟨_, rfl⟩
        try dsimp only at hw_r_47
        have hP : va_P D vwCl [(qh, .inr (1, [.int (nI (Pa)), .ref ae, .ref al, .ref au, .ref ao, .ref ar, .ref ak, .ref aw, .ref att, .ref ass])), (aw, .inr (3, [.int (nI (Wa)), .ref aWn, .ref aWp])), (aWn, .inl (cI, 8, .inl fawn)), (aWp, .inl (cI, 48, .inl fawp)), (att, .inl (cI, 8, .inl fat)), (ass, .inl (cI, 8, .inl fas)), (h0, .inr (8, [.ref qh, .ref qk, .ref qd, .int b0, .ref qa, .ref qm, .ref qs, .ref qp, .ref ql, .ref qt, .ref qz, .ref qf])), (qf, .inl (cI, 7, .inl f2_48))] H := hP
        have hD : va_D A [(qh, .inr (1, [.int (nI (Pa)), .ref ae, .ref al, .ref au, .ref ao, .ref ar, .ref ak, .ref aw, .ref att, .ref ass])), (aw, .inr (3, [.int (nI (Wa)), .ref aWn, .ref aWp])), (aWn, .inl (cI, 8, .inl fawn)), (aWp, .inl (cI, 48, .inl fawp)), (att, .inl (cI, 8, .inl fat)), (ass, .inl (cI, 8, .inl fas)), (h0, .inr (8, [.ref qh, .ref qk, .ref qd, .int b0, .ref qa, .ref qm, .ref qs, .ref qp, .ref ql, .ref qt, .ref qz, .ref qf])), (qf, .inl (cI, 7, .inl f2_48))] := hD
        subst hw_r_47
        exact W.iret (v := (-1000000001)) hx hb hr (fun t ht hW => ⟨⟨(-1000000001), (Wa, fawn, fawp, fat, fas, f2_48), rfl, ⟨(sp_wk3 (P := Pa) (W := Wa) (fun h => h_19.elim h.2.2.1 h.2.2.2)).2, (sp_wk3 (P := Pa) (W := Wa) (fun h => h_19.elim h.2.2.1 h.2.2.2)).1, ((wk_no (P := Pa) (W := Wa) (fun h => h_19.elim h.1.2.2.1 h.1.2.2.2)).1 _), ((wk_no (P := Pa) (W := Wa) (fun h => h_19.elim h.1.2.2.1 h.1.2.2.2)).2.1 _), ((wk_no (P := Pa) (W := Wa) (fun h => h_19.elim h.1.2.2.1 h.1.2.2.2)).2.2 _ _), ((wk_no (P := Pa) (W := Wa) (fun h => h_19.elim h.1.2.2.1 h.1.2.2.2)).2.2 _ _), (by first | assumption | omega), hLLw, hawn, hawp⟩, by rw [ht]; exact hP.sub [6, 0, 1, 2, 3, 4, 5, 7] rfl, hD.sub [6, 0, 1, 2, 3, 4, 5, 7] (by decide +kernel) rfl⟩, hS.F ht⟩) hS.2.2 dX8_walk_42 hlk
    · skip
      refine lv_if_eq (tgt := 36) hx hb dX8_walk_22 (by decide) (fun c_49 => ?_) (fun c_49 => absurd (by decide) c_49)
      refine lv_aload_n hx hb dX8_walk_36 rfl (lv_at hl 0 rfl) ?_
      refine lv_ldc (v := (-1000000001)) hx hb hown (hu _ uw396) dX8_walk_37 ?_
      refine xc_Vi (wr := [(qh, .inr (1, [.int (nI (Pa)), .ref ae, .ref al, .ref au, .ref ao, .ref ar, .ref ak, .ref aw, .ref att, .ref ass])), (aw, .inr (3, [.int (nI (Wa)), .ref aWn, .ref aWp])), (aWn, .inl (cI, 8, .inl fawn)), (aWp, .inl (cI, 48, .inl fawp)), (att, .inl (cI, 8, .inl fat)), (ass, .inl (cI, 8, .inl fas))]) hF (c_X8_finding_B l D cI cJ cZ cS ta sa sv s.heap.size h0 qh qk qd b0 qa qm qs qp ql qt qz qf ff ) kv_X8_80 ⟨rfl, rfl, Nat.le_of_ble_eq_true rfl, Nat.le_of_ble_eq_true rfl⟩ ⟨Nat.le_of_ble_eq_true rfl, Nat.le_of_ble_eq_true rfl⟩ hK hN hZ hP hD hS hA [0, 7] [1, 2, 3, 4, 5, 6] rfl rfl rfl (by decide +kernel) (by decide +kernel) 0 rfl rfl rfl rfl hl.1 rfl (Nat.le_of_ble_eq_true rfl) dX8_walk_39 (fun r_50 u_r_50 H locs hw_r_50 hP hD hS => ?_)
      obtain ⟨f2_51, rfl⟩ : ∃ z, z = u_r_50 := ⟨_, rfl⟩
      try dsimp only at hw_r_50
      have hP : va_P D vwCl [(qh, .inr (1, [.int (nI (Pa)), .ref ae, .ref al, .ref au, .ref ao, .ref ar, .ref ak, .ref aw, .ref att, .ref ass])), (aw, .inr (3, [.int (nI (Wa)), .ref aWn, .ref aWp])), (aWn, .inl (cI, 8, .inl fawn)), (aWp, .inl (cI, 48, .inl fawp)), (att, .inl (cI, 8, .inl fat)), (ass, .inl (cI, 8, .inl fas)), (h0, .inr (8, [.ref qh, .ref qk, .ref qd, .int b0, .ref qa, .ref qm, .ref qs, .ref qp, .ref ql, .ref qt, .ref qz, .ref qf])), (qf, .inl (cI, 7, .inl f2_51))] H := hP
      have hD : va_D A [(qh, .inr (1, [.int (nI (Pa)), .ref ae, .ref al, .ref au, .ref ao, .ref ar, .ref ak, .ref aw, .ref att, .ref ass])), (aw, .inr (3, [.int (nI (Wa)), .ref aWn, .ref aWp])), (aWn, .inl (cI, 8, .inl fawn)), (aWp, .inl (cI, 48, .inl fawp)), (att, .inl (cI, 8, .inl fat)), (ass, .inl (cI, 8, .inl fas)), (h0, .inr (8, [.ref qh, .ref qk, .ref qd, .int b0, .ref qa, .ref qm, .ref qs, .ref qp, .ref ql, .ref qt, .ref qz, .ref qf])), (qf, .inl (cI, 7, .inl f2_51))] := hD
      subst hw_r_50
      exact W.iret (v := (-1000000001)) hx hb hr (fun t ht hW => ⟨⟨(-1000000001), (Wa, fawn, fawp, fat, fas, f2_51), rfl, ⟨(sp_wk3 (P := Pa) (W := Wa) (fun h => h_14.elim h.2.1.1 h.2.1.2)).2, (sp_wk3 (P := Pa) (W := Wa) (fun h => h_14.elim h.2.1.1 h.2.1.2)).1, ((wk_no (P := Pa) (W := Wa) (fun h => h_14.elim h.1.2.1.1 h.1.2.1.2)).1 _), ((wk_no (P := Pa) (W := Wa) (fun h => h_14.elim h.1.2.1.1 h.1.2.1.2)).2.1 _), ((wk_no (P := Pa) (W := Wa) (fun h => h_14.elim h.1.2.1.1 h.1.2.1.2)).2.2 _ _), ((wk_no (P := Pa) (W := Wa) (fun h => h_14.elim h.1.2.1.1 h.1.2.1.2)).2.2 _ _), (by first | assumption | omega), hLLw, hawn, hawp⟩, by rw [ht]; exact hP.sub [6, 0, 1, 2, 3, 4, 5, 7] rfl, hD.sub [6, 0, 1, 2, 3, 4, 5, 7] (by decide +kernel) rfl⟩, hS.F ht⟩) hS.2.2 dX8_walk_42 hlk
  · skip
    refine lv_if_eq (tgt := 36) hx hb dX8_walk_9 (by decide) (fun c_52 => ?_) (fun c_52 => absurd (by decide) c_52)
    refine lv_aload_n hx hb dX8_walk_36 rfl (lv_at hl 0 rfl) ?_
    refine lv_ldc (v := (-1000000001)) hx hb hown (hu _ uw396) dX8_walk_37 ?_
    refine xc_Vi (wr := [(qh, .inr (1, [.int (nI (Pa)), .ref ae, .ref al, .ref au, .ref ao, .ref ar, .ref ak, .ref aw, .ref att, .ref ass])), (aw, .inr (3, [.int (nI (Wa)), .ref aWn, .ref aWp])), (aWn, .inl (cI, 8, .inl fawn)), (aWp, .inl (cI, 48, .inl fawp)), (att, .inl (cI, 8, .inl fat)), (ass, .inl (cI, 8, .inl fas))]) hF (c_X8_finding_B l D cI cJ cZ cS ta sa sv s.heap.size h0 qh qk qd b0 qa qm qs qp ql qt qz qf ff ) kv_X8_80 ⟨rfl, rfl, Nat.le_of_ble_eq_true rfl, Nat.le_of_ble_eq_true rfl⟩ ⟨Nat.le_of_ble_eq_true rfl, Nat.le_of_ble_eq_true rfl⟩ hK hN hZ hP hD hS hA [0, 7] [1, 2, 3, 4, 5, 6] rfl rfl rfl (by decide +kernel) (by decide +kernel) 0 rfl rfl rfl rfl hl.1 rfl (Nat.le_of_ble_eq_true rfl) dX8_walk_39 (fun r_53 u_r_53 H locs hw_r_53 hP hD hS => ?_)
    obtain ⟨f2_54, rfl⟩ : ∃ z, z = u_r_53 := ⟨_, rfl⟩
    try dsimp only at hw_r_53
    have hP : va_P D vwCl [(qh, .inr (1, [.int (nI (Pa)), .ref ae, .ref al, .ref au, .ref ao, .ref ar, .ref ak, .ref aw, .ref att, .ref ass])), (aw, .inr (3, [.int (nI (Wa)), .ref aWn, .ref aWp])), (aWn, .inl (cI, 8, .inl fawn)), (aWp, .inl (cI, 48, .inl fawp)), (att, .inl (cI, 8, .inl fat)), (ass, .inl (cI, 8, .inl fas)), (h0, .inr (8, [.ref qh, .ref qk, .ref qd, .int b0, .ref qa, .ref qm, .ref qs, .ref qp, .ref ql, .ref qt, .ref qz, .ref qf])), (qf, .inl (cI, 7, .inl f2_54))] H := hP
    have hD : va_D A [(qh, .inr (1, [.int (nI (Pa)), .ref ae, .ref al, .ref au, .ref ao, .ref ar, .ref ak, .ref aw, .ref att, .ref ass])), (aw, .inr (3, [.int (nI (Wa)), .ref aWn, .ref aWp])), (aWn, .inl (cI, 8, .inl fawn)), (aWp, .inl (cI, 48, .inl fawp)), (att, .inl (cI, 8, .inl fat)), (ass, .inl (cI, 8, .inl fas)), (h0, .inr (8, [.ref qh, .ref qk, .ref qd, .int b0, .ref qa, .ref qm, .ref qs, .ref qp, .ref ql, .ref qt, .ref qz, .ref qf])), (qf, .inl (cI, 7, .inl f2_54))] := hD
    subst hw_r_53
    exact W.iret (v := (-1000000001)) hx hb hr (fun t ht hW => ⟨⟨(-1000000001), (Wa, fawn, fawp, fat, fas, f2_54), rfl, ⟨(sp_wk3 (P := Pa) (W := Wa) (fun h => h_9 h.1)).2, (sp_wk3 (P := Pa) (W := Wa) (fun h => h_9 h.1)).1, ((wk_no (P := Pa) (W := Wa) (fun h => h_9 h.1.1)).1 _), ((wk_no (P := Pa) (W := Wa) (fun h => h_9 h.1.1)).2.1 _), ((wk_no (P := Pa) (W := Wa) (fun h => h_9 h.1.1)).2.2 _ _), ((wk_no (P := Pa) (W := Wa) (fun h => h_9 h.1.1)).2.2 _ _), (by first | assumption | omega), hLLw, hawn, hawp⟩, by rw [ht]; exact hP.sub [6, 0, 1, 2, 3, 4, 5, 7] rfl, hD.sub [6, 0, 1, 2, 3, 4, 5, 7] (by decide +kernel) rfl⟩, hS.F ht⟩) hS.2.2 dX8_walk_42 hlk
set_option maxHeartbeats 4000000 in
set_option maxRecDepth 100000 in
theorem c_X8_on (l : Launch) (D : va_G) (cI cJ cZ cS : ClassId) (ta : Nat) (sa sv : Nat → Nat) (sz : Nat) (h0 : Nat) (qh : Nat) (qk : Nat) (qd : Nat) (b0 : Int32) (qa : Nat) (qm : Nat) (qs : Nat) (qp : Nat) (ql : Nat) (qt : Nat) (qz : Nat) (qf : Nat) (Pa : Nat) (ae : Nat) (al : Nat) (au : Nat) (ao : Nat) (ar : Nat) (ak : Nat) (aw : Nat) (att : Nat) (ass : Nat) (Wa : Nat) (aWn : Nat) (aWp : Nat) (fawn : Nat → Int32) (fawp : Nat → Int32) (ff : Nat → Int32) (p0 : Int32) (p1 : Int32) (hP0 : Pa ≤ 10) (hWa : Wa ≤ 8) (hLLw : LL Wa fawn) (hawn : BA 8 7 fawn) (hawp : BA 48 10 fawp) : Met l yX8_on (Cond.code yX8_on cX8_on 3 (some .int) :: wsU) ({ frames := 2, cells := 0, slots := 0, locals := 43 }) (va_Pc [.ref h0, .int p0, .int p1] (XW D (xT cI cJ cZ cS) ta sa sv [(h0, .inr (8, [.ref qh, .ref qk, .ref qd, .int b0, .ref qa, .ref qm, .ref qs, .ref qp, .ref ql, .ref qt, .ref qz, .ref qf])), (qh, .inr (1, [.int (nI (Pa)), .ref ae, .ref al, .ref au, .ref ao, .ref ar, .ref ak, .ref aw, .ref att, .ref ass])), (aw, .inr (3, [.int (nI (Wa)), .ref aWn, .ref aWp])), (aWn, .inl (cI, 8, .inl fawn)), (aWp, .inl (cI, 48, .inl fawp)), (qf, .inl (cI, 7, .inl ff))] sz)) (XQi (fun (r : Int32) (u : (Nat → Int32) × (Nat → Int32) × (Nat → Int32)) => match u with | (wn2, wp2, f2) => ((r = onR Pa Wa p0 p1 fawn fawp)) ∧ (wn2 = onN Pa Wa p0 p1 fawn fawp) ∧ (wp2 = onS Pa Wa p0 p1 fawn fawp) ∧ (LL Wa wn2) ∧ (BA 8 7 wn2) ∧ (BA 48 10 wp2)) D (fun (u : (Nat → Int32) × (Nat → Int32) × (Nat → Int32)) => match u with | (wn2, wp2, f2) => [(h0, .inr (8, [.ref qh, .ref qk, .ref qd, .int b0, .ref qa, .ref qm, .ref qs, .ref qp, .ref ql, .ref qt, .ref qz, .ref qf])), (qh, .inr (1, [.int (nI (Pa)), .ref ae, .ref al, .ref au, .ref ao, .ref ar, .ref ak, .ref aw, .ref att, .ref ass])), (aw, .inr (3, [.int (nI (Wa)), .ref aWn, .ref aWp])), (aWn, .inl (cI, 8, .inl wn2)), (aWp, .inl (cI, 48, .inl wp2)), (qf, .inl (cI, 7, .inl f2))]) (va_A [(h0, .inr (8, [.ref qh, .ref qk, .ref qd, .int b0, .ref qa, .ref qm, .ref qs, .ref qp, .ref ql, .ref qt, .ref qz, .ref qf])), (qh, .inr (1, [.int (nI (Pa)), .ref ae, .ref al, .ref au, .ref ao, .ref ar, .ref ak, .ref aw, .ref att, .ref ass])), (aw, .inr (3, [.int (nI (Wa)), .ref aWn, .ref aWp])), (aWn, .inl (cI, 8, .inl fawn)), (aWp, .inl (cI, 48, .inl fawp)), (qf, .inl (cI, 7, .inl ff))] sz)) 0 0 (va_A [(h0, .inr (8, [.ref qh, .ref qk, .ref qd, .int b0, .ref qa, .ref qm, .ref qs, .ref qp, .ref ql, .ref qt, .ref qz, .ref qf])), (qh, .inr (1, [.int (nI (Pa)), .ref ae, .ref al, .ref au, .ref ao, .ref ar, .ref ak, .ref aw, .ref att, .ref ass])), (aw, .inr (3, [.int (nI (Wa)), .ref aWn, .ref aWp])), (aWn, .inl (cI, 8, .inl fawn)), (aWp, .inl (cI, 48, .inl fawp)), (qf, .inl (cI, 7, .inl ff))] sz) := by
  refine xh (QA := fun A => XQi (fun (r : Int32) (u : (Nat → Int32) × (Nat → Int32) × (Nat → Int32)) => match u with | (wn2, wp2, f2) => ((r = onR Pa Wa p0 p1 fawn fawp)) ∧ (wn2 = onN Pa Wa p0 p1 fawn fawp) ∧ (wp2 = onS Pa Wa p0 p1 fawn fawp) ∧ (LL Wa wn2) ∧ (BA 8 7 wn2) ∧ (BA 48 10 wp2)) D (fun (u : (Nat → Int32) × (Nat → Int32) × (Nat → Int32)) => match u with | (wn2, wp2, f2) => [(h0, .inr (8, [.ref qh, .ref qk, .ref qd, .int b0, .ref qa, .ref qm, .ref qs, .ref qp, .ref ql, .ref qt, .ref qz, .ref qf])), (qh, .inr (1, [.int (nI (Pa)), .ref ae, .ref al, .ref au, .ref ao, .ref ar, .ref ak, .ref aw, .ref att, .ref ass])), (aw, .inr (3, [.int (nI (Wa)), .ref aWn, .ref aWp])), (aWn, .inl (cI, 8, .inl wn2)), (aWp, .inl (cI, 48, .inl wp2)), (qf, .inl (cI, 7, .inl f2))]) A) (fr := fun A => A) (by decide) (Nat.le_of_ble_eq_true rfl) ?_
  intro p e s m below meth c ls A hF hr hlk hin hsz hP hK hD hN hZ hA hS hl
  have hF : CallFix p m c cX8_on 3 s _ _ RX8 := hF
  have hx := hF.1
  have hb := hF.2.1
  have hml := hF.2.2.1
  have hown := hF.2.2.2.1
  have hu : ∀ w ∈ wsU, w.before _ s = true := fun w h => hF.2.2.2.2 w (List.mem_cons_of_mem _ h)
  have hl : lv_has ls 3 [(0, .ref h0), (1, .int p0), (2, .int p1)] := hl
  refine lv_aload_n hx hb dX8_on_0 rfl (lv_at hl 0 rfl) ?_
  refine xg hF kf_X8_12 hK hP 0 rfl rfl dX8_on_1 ?_
  refine xg hF kf_X8_229 hK hP 1 rfl rfl dX8_on_4 ?_
  refine lv_iload_n hx hb dX8_on_7 rfl (lv_at hl 1 rfl) ?_
  refine xc_Vr hF (c_X3_has l D cI cJ cZ cS ta sa sv s.heap.size aw aWn aWp Wa p0 (by omega)) kv_X8_171 ⟨rfl, rfl, Nat.le_of_ble_eq_true rfl, Nat.le_of_ble_eq_true rfl⟩ ⟨Nat.le_of_ble_eq_true rfl, Nat.le_of_ble_eq_true rfl⟩ hK hN hZ hP hD hS hA [2] rfl rfl 0 rfl rfl rfl rfl hl.1 rfl (Nat.le_of_ble_eq_true rfl) dX8_on_8 (fun r_1 hw_r_1 => ?_)
  rcases hw_r_1 with ⟨k_2, rfl, rfl, h_4⟩ | ⟨rfl, h_5⟩
  · skip
    refine lv_if_eq (tgt := 41) hx hb dX8_on_11 (by decide) (fun c_6 => absurd c_6 (by decide)) (fun c_6 => ?_)
    refine lv_aload_n hx hb dX8_on_14 rfl (lv_at hl 0 rfl) ?_
    refine xg hF kf_X8_12 hK hP 0 rfl rfl dX8_on_15 ?_
    refine lv_iload_n hx hb dX8_on_18 rfl (lv_at hl 2 rfl) ?_
    refine lv_i2l (v := p1.toInt64) hx hb dX8_on_19 rfl ?_
    refine xc_Vr hF (c_X1_isPlace l D cI cJ cZ cS ta sa sv s.heap.size qh ae al au ao ar ak aw att ass Pa p1 (by omega)) kv_X8_87 ⟨rfl, rfl, Nat.le_of_ble_eq_true rfl, Nat.le_of_ble_eq_true rfl⟩ ⟨Nat.le_of_ble_eq_true rfl, Nat.le_of_ble_eq_true rfl⟩ hK hN hZ hP hD hS hA [1] rfl rfl 0 rfl rfl rfl rfl hl.1 rfl (Nat.le_of_ble_eq_true rfl) dX8_on_20 (fun r_7 hw_r_7 => ?_)
    rcases hw_r_7 with ⟨k_8, rfl, rfl, h_10⟩ | ⟨rfl, h_11⟩
    · skip
      refine lv_if_eq (tgt := 41) hx hb dX8_on_23 (by decide) (fun c_12 => absurd c_12 (by decide)) (fun c_12 => ?_)
      refine lv_aload_n hx hb dX8_on_26 rfl (lv_at hl 0 rfl) ?_
      refine xg hF kf_X8_12 hK hP 0 rfl rfl dX8_on_27 ?_
      refine xg hF kf_X8_229 hK hP 1 rfl rfl dX8_on_30 ?_
      refine lv_iload_n hx hb dX8_on_33 rfl (lv_at hl 1 rfl) ?_
      obtain ⟨q9, hq91, hq92, eq9⟩ := hLLw k_2 (by omega)
      refine xc_Vr hF (c_X3_lastStop l D cI cJ cZ cS ta sa sv s.heap.size aw aWn aWp Wa k_2 q9 fawn fawp (by omega) hq91 hq92 eq9 hawp) kv_X8_235 ⟨rfl, rfl, Nat.le_of_ble_eq_true rfl, Nat.le_of_ble_eq_true rfl⟩ ⟨Nat.le_of_ble_eq_true rfl, Nat.le_of_ble_eq_true rfl⟩ hK hN hZ hP hD hS hA [2, 3, 4] rfl rfl 0 rfl rfl rfl rfl hl.1 rfl (Nat.le_of_ble_eq_true rfl) dX8_on_34 (fun r_13 hw_r_13 => ?_)
      obtain ⟨y_14, rfl, h_15, h_16⟩ := hw_r_13
      refine lv_iload_n hx hb dX8_on_37 rfl (lv_at hl 2 rfl) ?_
      refine lv_icmp_ne (tgt := 48) hx hb dX8_on_38 (by decide) (fun c_17 => ?_) (fun c_17 => ?_)
      · skip
        have nc_17 : y_14 ≠ k_8 := xn_ne (a := y_14) (b := k_8) (by omega) (by omega) c_17
        refine lv_aload_n hx hb dX8_on_48 rfl (lv_at hl 0 rfl) ?_
        refine xg hF kf_X8_12 hK hP 0 rfl rfl dX8_on_49 ?_
        refine xg hF kf_X8_229 hK hP 1 rfl rfl dX8_on_52 ?_
        refine lv_iload_n hx hb dX8_on_55 rfl (lv_at hl 1 rfl) ?_
        refine xc_Vr hF (c_X3_isFullRow l D cI cJ cZ cS ta sa sv s.heap.size aw aWn aWp Wa k_2 fawn (by omega) hawn) kv_X8_174 ⟨rfl, rfl, Nat.le_of_ble_eq_true rfl, Nat.le_of_ble_eq_true rfl⟩ ⟨Nat.le_of_ble_eq_true rfl, Nat.le_of_ble_eq_true rfl⟩ hK hN hZ hP hD hS hA [2, 3] rfl rfl 0 rfl rfl rfl rfl hl.1 rfl (Nat.le_of_ble_eq_true rfl) dX8_on_56 (fun r_18 hw_r_18 => ?_)
        rcases hw_r_18 with ⟨q_19, rfl, h_20, h_21, h_22⟩ | ⟨q_23, rfl, h_24, h_25⟩
        · skip
          refine lv_if_eq (tgt := 69) hx hb dX8_on_59 (by decide) (fun c_26 => absurd c_26 (by decide)) (fun c_26 => ?_)
          refine lv_aload_n hx hb dX8_on_62 rfl (lv_at hl 0 rfl) ?_
          refine lv_ldc (v := (-1000000002)) hx hb hown (hu _ uw419) dX8_on_63 ?_
          refine xc_Vi (wr := [(qh, .inr (1, [.int (nI (Pa)), .ref ae, .ref al, .ref au, .ref ao, .ref ar, .ref ak, .ref aw, .ref att, .ref ass])), (aw, .inr (3, [.int (nI (Wa)), .ref aWn, .ref aWp])), (aWn, .inl (cI, 8, .inl fawn)), (aWp, .inl (cI, 48, .inl fawp))]) hF (c_X8_finding_F l D cI cJ cZ cS ta sa sv s.heap.size h0 qh qk qd b0 qa qm qs qp ql qt qz qf ff ) kv_X8_80 ⟨rfl, rfl, Nat.le_of_ble_eq_true rfl, Nat.le_of_ble_eq_true rfl⟩ ⟨Nat.le_of_ble_eq_true rfl, Nat.le_of_ble_eq_true rfl⟩ hK hN hZ hP hD hS hA [0, 5] [1, 2, 3, 4] rfl rfl rfl rfl (by decide) 0 rfl rfl rfl rfl hl.1 rfl (Nat.le_of_ble_eq_true rfl) dX8_on_65 (fun r_27 u_r_27 H locs hw_r_27 hP hD hS => ?_)
          obtain ⟨f2_28, rfl⟩ : ∃ z, z = u_r_27 := ⟨_, rfl⟩
          try dsimp only at hw_r_27
          have hP : va_P D vwCl [(qh, .inr (1, [.int (nI (Pa)), .ref ae, .ref al, .ref au, .ref ao, .ref ar, .ref ak, .ref aw, .ref att, .ref ass])), (aw, .inr (3, [.int (nI (Wa)), .ref aWn, .ref aWp])), (aWn, .inl (cI, 8, .inl fawn)), (aWp, .inl (cI, 48, .inl fawp)), (h0, .inr (8, [.ref qh, .ref qk, .ref qd, .int b0, .ref qa, .ref qm, .ref qs, .ref qp, .ref ql, .ref qt, .ref qz, .ref qf])), (qf, .inl (cI, 7, .inl f2_28))] H := hP
          have hD : va_D A [(qh, .inr (1, [.int (nI (Pa)), .ref ae, .ref al, .ref au, .ref ao, .ref ar, .ref ak, .ref aw, .ref att, .ref ass])), (aw, .inr (3, [.int (nI (Wa)), .ref aWn, .ref aWp])), (aWn, .inl (cI, 8, .inl fawn)), (aWp, .inl (cI, 48, .inl fawp)), (h0, .inr (8, [.ref qh, .ref qk, .ref qd, .int b0, .ref qa, .ref qm, .ref qs, .ref qp, .ref ql, .ref qt, .ref qz, .ref qf])), (qf, .inl (cI, 7, .inl f2_28))] := hD
          subst hw_r_27
          have hq7 : q9 = q_19 := xn_eq (by omega) (by omega) (eq9.symm.trans h_22)
          have es7 : ¬ fawp (k_2 * 6 + (q_19 - 1)) = nI k_8 := by rw [← hq7]; exact fun h => absurd (xn_eq (by omega) (by omega) (h_16.symm.trans h)) (by omega)
          exact W.iret (v := (-1000000002)) hx hb hr (fun t ht hW => ⟨⟨(-1000000002), (fawn, fawp, f2_28), rfl, ⟨(on_full (P := Pa) (W := Wa) (k := k_2) (j := k_8) (q := q_19) (by omega) (by omega) (by omega) (by omega) h_22 (by omega) (by omega) es7).1, (on_full (P := Pa) (W := Wa) (k := k_2) (j := k_8) (q := q_19) (by omega) (by omega) (by omega) (by omega) h_22 (by omega) (by omega) es7).2.1, (on_full (P := Pa) (W := Wa) (k := k_2) (j := k_8) (q := q_19) (by omega) (by omega) (by omega) (by omega) h_22 (by omega) (by omega) es7).2.2, hLLw, hawn, hawp⟩, by rw [ht]; exact hP.sub [4, 0, 1, 2, 3, 5] rfl, hD.sub [4, 0, 1, 2, 3, 5] (by decide +kernel) rfl⟩, hS.F ht⟩) hS.2.2 dX8_on_68 hlk
        · skip
          refine lv_if_eq (tgt := 69) hx hb dX8_on_59 (by decide) (fun c_29 => ?_) (fun c_29 => absurd (by decide) c_29)
          refine lv_aload_n hx hb dX8_on_69 rfl (lv_at hl 0 rfl) ?_
          refine xg hF kf_X8_12 hK hP 0 rfl rfl dX8_on_70 ?_
          refine xg hF kf_X8_229 hK hP 1 rfl rfl dX8_on_73 ?_
          refine lv_iload_n hx hb dX8_on_76 rfl (lv_at hl 1 rfl) ?_
          refine lv_iload_n hx hb dX8_on_77 rfl (lv_at hl 2 rfl) ?_
          refine xc_Vi (wr := [(h0, .inr (8, [.ref qh, .ref qk, .ref qd, .int b0, .ref qa, .ref qm, .ref qs, .ref qp, .ref ql, .ref qt, .ref qz, .ref qf])), (qh, .inr (1, [.int (nI (Pa)), .ref ae, .ref al, .ref au, .ref ao, .ref ar, .ref ak, .ref aw, .ref att, .ref ass])), (qf, .inl (cI, 7, .inl ff))]) hF (c_X3_append l D cI cJ cZ cS ta sa sv s.heap.size aw aWn aWp Wa k_2 k_8 q_23 fawn fawp (by omega) (by omega) (by omega) h_25 hawn hawp) kv_X8_177 ⟨rfl, rfl, Nat.le_of_ble_eq_true rfl, Nat.le_of_ble_eq_true rfl⟩ ⟨Nat.le_of_ble_eq_true rfl, Nat.le_of_ble_eq_true rfl⟩ hK hN hZ hP hD hS hA [2, 3, 4] [0, 1, 5] rfl rfl rfl rfl (by decide) 0 rfl rfl rfl rfl hl.1 rfl (Nat.le_of_ble_eq_true rfl) dX8_on_78 (fun r_30 u_r_30 H locs hw_r_30 hP hD hS => ?_)
          obtain ⟨l2_31, s2_32⟩ := u_r_30
          try dsimp only at hw_r_30
          obtain ⟨hw_r_30, i_33, i_34, i_35, i_36⟩ := hw_r_30
          have hP : va_P D vwCl [(h0, .inr (8, [.ref qh, .ref qk, .ref qd, .int b0, .ref qa, .ref qm, .ref qs, .ref qp, .ref ql, .ref qt, .ref qz, .ref qf])), (qh, .inr (1, [.int (nI (Pa)), .ref ae, .ref al, .ref au, .ref ao, .ref ar, .ref ak, .ref aw, .ref att, .ref ass])), (qf, .inl (cI, 7, .inl ff)), (aw, .inr (3, [.int (nI (Wa)), .ref aWn, .ref aWp])), (aWn, .inl (cI, 8, .inl l2_31)), (aWp, .inl (cI, 48, .inl s2_32))] H := hP
          have hD : va_D A [(h0, .inr (8, [.ref qh, .ref qk, .ref qd, .int b0, .ref qa, .ref qm, .ref qs, .ref qp, .ref ql, .ref qt, .ref qz, .ref qf])), (qh, .inr (1, [.int (nI (Pa)), .ref ae, .ref al, .ref au, .ref ao, .ref ar, .ref ak, .ref aw, .ref att, .ref ass])), (qf, .inl (cI, 7, .inl ff)), (aw, .inr (3, [.int (nI (Wa)), .ref aWn, .ref aWp])), (aWn, .inl (cI, 8, .inl l2_31)), (aWp, .inl (cI, 48, .inl s2_32))] := hD
          subst hw_r_30
          have hq7 : q9 = q_23 := xn_eq (by omega) (by omega) (eq9.symm.trans h_25)
          have es7 : ¬ fawp (k_2 * 6 + (q_23 - 1)) = nI k_8 := by rw [← hq7]; exact fun h => absurd (xn_eq (by omega) (by omega) (h_16.symm.trans h)) (by omega)
          exact W.iret (v := nI (q_23 + 1)) hx hb hr (fun t ht hW => ⟨⟨nI (q_23 + 1), (l2_31, s2_32, ff), rfl, ⟨(on_yes (P := Pa) (W := Wa) (k := k_2) (j := k_8) (q := q_23) (by omega) (by omega) (by omega) (by omega) h_25 (by omega) es7).1, (i_35.trans (on_yes (P := Pa) (W := Wa) (k := k_2) (j := k_8) (q := q_23) (by omega) (by omega) (by omega) (by omega) h_25 (by omega) es7).2.1), (i_36.trans (on_yes (P := Pa) (W := Wa) (k := k_2) (j := k_8) (q := q_23) (by omega) (by omega) (by omega) (by omega) h_25 (by omega) es7).2.2), (by rw [i_35]; exact LL.put hLLw (by omega) (by omega)), i_33, i_34⟩, by rw [ht]; exact hP.sub [0, 1, 3, 4, 5, 2] rfl, hD.sub [0, 1, 3, 4, 5, 2] (by decide +kernel) rfl⟩, hS.F ht⟩) hS.2.2 dX8_on_81 hlk
      · skip
        have nc_17 : y_14 = k_8 := xn_eq (a := y_14) (b := k_8) (by omega) (by omega) c_17
        refine lv_aload_n hx hb dX8_on_41 rfl (lv_at hl 0 rfl) ?_
        refine lv_ldc (v := (-1000000001)) hx hb hown (hu _ uw396) dX8_on_42 ?_
        refine xc_Vi (wr := [(qh, .inr (1, [.int (nI (Pa)), .ref ae, .ref al, .ref au, .ref ao, .ref ar, .ref ak, .ref aw, .ref att, .ref ass])), (aw, .inr (3, [.int (nI (Wa)), .ref aWn, .ref aWp])), (aWn, .inl (cI, 8, .inl fawn)), (aWp, .inl (cI, 48, .inl fawp))]) hF (c_X8_finding_B l D cI cJ cZ cS ta sa sv s.heap.size h0 qh qk qd b0 qa qm qs qp ql qt qz qf ff ) kv_X8_80 ⟨rfl, rfl, Nat.le_of_ble_eq_true rfl, Nat.le_of_ble_eq_true rfl⟩ ⟨Nat.le_of_ble_eq_true rfl, Nat.le_of_ble_eq_true rfl⟩ hK hN hZ hP hD hS hA [0, 5] [1, 2, 3, 4] rfl rfl rfl rfl (by decide) 0 rfl rfl rfl rfl hl.1 rfl (Nat.le_of_ble_eq_true rfl) dX8_on_44 (fun r_37 u_r_37 H locs hw_r_37 hP hD hS => ?_)
        obtain ⟨f2_38, rfl⟩ : ∃ z, z = u_r_37 := ⟨_, rfl⟩
        try dsimp only at hw_r_37
        have hP : va_P D vwCl [(qh, .inr (1, [.int (nI (Pa)), .ref ae, .ref al, .ref au, .ref ao, .ref ar, .ref ak, .ref aw, .ref att, .ref ass])), (aw, .inr (3, [.int (nI (Wa)), .ref aWn, .ref aWp])), (aWn, .inl (cI, 8, .inl fawn)), (aWp, .inl (cI, 48, .inl fawp)), (h0, .inr (8, [.ref qh, .ref qk, .ref qd, .int b0, .ref qa, .ref qm, .ref qs, .ref qp, .ref ql, .ref qt, .ref qz, .ref qf])), (qf, .inl (cI, 7, .inl f2_38))] H := hP
        have hD : va_D A [(qh, .inr (1, [.int (nI (Pa)), .ref ae, .ref al, .ref au, .ref ao, .ref ar, .ref ak, .ref aw, .ref att, .ref ass])), (aw, .inr (3, [.int (nI (Wa)), .ref aWn, .ref aWp])), (aWn, .inl (cI, 8, .inl fawn)), (aWp, .inl (cI, 48, .inl fawp)), (h0, .inr (8, [.ref qh, .ref qk, .ref qd, .int b0, .ref qa, .ref qm, .ref qs, .ref qp, .ref ql, .ref qt, .ref qz, .ref qf])), (qf, .inl (cI, 7, .inl f2_38))] := hD
        subst hw_r_37
        exact W.iret (v := (-1000000001)) hx hb hr (fun t ht hW => ⟨⟨(-1000000001), (fawn, fawp, f2_38), rfl, ⟨(on_no (P := Pa) (W := Wa) (wn := fawn) (wp := fawp) (on_same (P := Pa) (q := q9) (by omega) (by omega) (by omega) eq9 (by omega) (h_16.trans (congrArg nI (show y_14 = k_8 by omega))))).1, (on_no (P := Pa) (W := Wa) (wn := fawn) (wp := fawp) (on_same (P := Pa) (q := q9) (by omega) (by omega) (by omega) eq9 (by omega) (h_16.trans (congrArg nI (show y_14 = k_8 by omega))))).2.1, (on_no (P := Pa) (W := Wa) (wn := fawn) (wp := fawp) (on_same (P := Pa) (q := q9) (by omega) (by omega) (by omega) eq9 (by omega) (h_16.trans (congrArg nI (show y_14 = k_8 by omega))))).2.2, hLLw, hawn, hawp⟩, by rw [ht]; exact hP.sub [4, 0, 1, 2, 3, 5] rfl, hD.sub [4, 0, 1, 2, 3, 5] (by decide +kernel) rfl⟩, hS.F ht⟩) hS.2.2 dX8_on_47 hlk
    · skip
      refine lv_if_eq (tgt := 41) hx hb dX8_on_23 (by decide) (fun c_39 => ?_) (fun c_39 => absurd (by decide) c_39)
      refine lv_aload_n hx hb dX8_on_41 rfl (lv_at hl 0 rfl) ?_
      refine lv_ldc (v := (-1000000001)) hx hb hown (hu _ uw396) dX8_on_42 ?_
      refine xc_Vi (wr := [(qh, .inr (1, [.int (nI (Pa)), .ref ae, .ref al, .ref au, .ref ao, .ref ar, .ref ak, .ref aw, .ref att, .ref ass])), (aw, .inr (3, [.int (nI (Wa)), .ref aWn, .ref aWp])), (aWn, .inl (cI, 8, .inl fawn)), (aWp, .inl (cI, 48, .inl fawp))]) hF (c_X8_finding_B l D cI cJ cZ cS ta sa sv s.heap.size h0 qh qk qd b0 qa qm qs qp ql qt qz qf ff ) kv_X8_80 ⟨rfl, rfl, Nat.le_of_ble_eq_true rfl, Nat.le_of_ble_eq_true rfl⟩ ⟨Nat.le_of_ble_eq_true rfl, Nat.le_of_ble_eq_true rfl⟩ hK hN hZ hP hD hS hA [0, 5] [1, 2, 3, 4] rfl rfl rfl rfl (by decide) 0 rfl rfl rfl rfl hl.1 rfl (Nat.le_of_ble_eq_true rfl) dX8_on_44 (fun r_40 u_r_40 H locs hw_r_40 hP hD hS => ?_)
      obtain ⟨f2_41, rfl⟩ : ∃ z, z = u_r_40 := ⟨_, rfl⟩
      try dsimp only at hw_r_40
      have hP : va_P D vwCl [(qh, .inr (1, [.int (nI (Pa)), .ref ae, .ref al, .ref au, .ref ao, .ref ar, .ref ak, .ref aw, .ref att, .ref ass])), (aw, .inr (3, [.int (nI (Wa)), .ref aWn, .ref aWp])), (aWn, .inl (cI, 8, .inl fawn)), (aWp, .inl (cI, 48, .inl fawp)), (h0, .inr (8, [.ref qh, .ref qk, .ref qd, .int b0, .ref qa, .ref qm, .ref qs, .ref qp, .ref ql, .ref qt, .ref qz, .ref qf])), (qf, .inl (cI, 7, .inl f2_41))] H := hP
      have hD : va_D A [(qh, .inr (1, [.int (nI (Pa)), .ref ae, .ref al, .ref au, .ref ao, .ref ar, .ref ak, .ref aw, .ref att, .ref ass])), (aw, .inr (3, [.int (nI (Wa)), .ref aWn, .ref aWp])), (aWn, .inl (cI, 8, .inl fawn)), (aWp, .inl (cI, 48, .inl fawp)), (h0, .inr (8, [.ref qh, .ref qk, .ref qd, .int b0, .ref qa, .ref qm, .ref qs, .ref qp, .ref ql, .ref qt, .ref qz, .ref qf])), (qf, .inl (cI, 7, .inl f2_41))] := hD
      subst hw_r_40
      exact W.iret (v := (-1000000001)) hx hb hr (fun t ht hW => ⟨⟨(-1000000001), (fawn, fawp, f2_41), rfl, ⟨(on_no (P := Pa) (W := Wa) (wn := fawn) (wp := fawp) (fun h => h_11 h.1.2)).1, (on_no (P := Pa) (W := Wa) (wn := fawn) (wp := fawp) (fun h => h_11 h.1.2)).2.1, (on_no (P := Pa) (W := Wa) (wn := fawn) (wp := fawp) (fun h => h_11 h.1.2)).2.2, hLLw, hawn, hawp⟩, by rw [ht]; exact hP.sub [4, 0, 1, 2, 3, 5] rfl, hD.sub [4, 0, 1, 2, 3, 5] (by decide +kernel) rfl⟩, hS.F ht⟩) hS.2.2 dX8_on_47 hlk
  · skip
    refine lv_if_eq (tgt := 41) hx hb dX8_on_11 (by decide) (fun c_42 => ?_) (fun c_42 => absurd (by decide) c_42)
    refine lv_aload_n hx hb dX8_on_41 rfl (lv_at hl 0 rfl) ?_
    refine lv_ldc (v := (-1000000001)) hx hb hown (hu _ uw396) dX8_on_42 ?_
    refine xc_Vi (wr := [(qh, .inr (1, [.int (nI (Pa)), .ref ae, .ref al, .ref au, .ref ao, .ref ar, .ref ak, .ref aw, .ref att, .ref ass])), (aw, .inr (3, [.int (nI (Wa)), .ref aWn, .ref aWp])), (aWn, .inl (cI, 8, .inl fawn)), (aWp, .inl (cI, 48, .inl fawp))]) hF (c_X8_finding_B l D cI cJ cZ cS ta sa sv s.heap.size h0 qh qk qd b0 qa qm qs qp ql qt qz qf ff ) kv_X8_80 ⟨rfl, rfl, Nat.le_of_ble_eq_true rfl, Nat.le_of_ble_eq_true rfl⟩ ⟨Nat.le_of_ble_eq_true rfl, Nat.le_of_ble_eq_true rfl⟩ hK hN hZ hP hD hS hA [0, 5] [1, 2, 3, 4] rfl rfl rfl rfl (by decide) 0 rfl rfl rfl rfl hl.1 rfl (Nat.le_of_ble_eq_true rfl) dX8_on_44 (fun r_43 u_r_43 H locs hw_r_43 hP hD hS => ?_)
    obtain ⟨f2_44, rfl⟩ : ∃ z, z = u_r_43 := ⟨_, rfl⟩
    try dsimp only at hw_r_43
    have hP : va_P D vwCl [(qh, .inr (1, [.int (nI (Pa)), .ref ae, .ref al, .ref au, .ref ao, .ref ar, .ref ak, .ref aw, .ref att, .ref ass])), (aw, .inr (3, [.int (nI (Wa)), .ref aWn, .ref aWp])), (aWn, .inl (cI, 8, .inl fawn)), (aWp, .inl (cI, 48, .inl fawp)), (h0, .inr (8, [.ref qh, .ref qk, .ref qd, .int b0, .ref qa, .ref qm, .ref qs, .ref qp, .ref ql, .ref qt, .ref qz, .ref qf])), (qf, .inl (cI, 7, .inl f2_44))] H := hP
    have hD : va_D A [(qh, .inr (1, [.int (nI (Pa)), .ref ae, .ref al, .ref au, .ref ao, .ref ar, .ref ak, .ref aw, .ref att, .ref ass])), (aw, .inr (3, [.int (nI (Wa)), .ref aWn, .ref aWp])), (aWn, .inl (cI, 8, .inl fawn)), (aWp, .inl (cI, 48, .inl fawp)), (h0, .inr (8, [.ref qh, .ref qk, .ref qd, .int b0, .ref qa, .ref qm, .ref qs, .ref qp, .ref ql, .ref qt, .ref qz, .ref qf])), (qf, .inl (cI, 7, .inl f2_44))] := hD
    subst hw_r_43
    exact W.iret (v := (-1000000001)) hx hb hr (fun t ht hW => ⟨⟨(-1000000001), (fawn, fawp, f2_44), rfl, ⟨(on_no (P := Pa) (W := Wa) (wn := fawn) (wp := fawp) (fun h => h_5 h.1.1)).1, (on_no (P := Pa) (W := Wa) (wn := fawn) (wp := fawp) (fun h => h_5 h.1.1)).2.1, (on_no (P := Pa) (W := Wa) (wn := fawn) (wp := fawp) (fun h => h_5 h.1.1)).2.2, hLLw, hawn, hawp⟩, by rw [ht]; exact hP.sub [4, 0, 1, 2, 3, 5] rfl, hD.sub [4, 0, 1, 2, 3, 5] (by decide +kernel) rfl⟩, hS.F ht⟩) hS.2.2 dX8_on_47 hlk
set_option maxHeartbeats 4000000 in
set_option maxRecDepth 100000 in
theorem c_X8_learn (l : Launch) (D : va_G) (cI cJ cZ cS : ClassId) (ta : Nat) (sa sv : Nat → Nat) (sz : Nat) (h0 : Nat) (qh : Nat) (qk : Nat) (qd : Nat) (b0 : Int32) (qa : Nat) (qm : Nat) (qs : Nat) (qp : Nat) (ql : Nat) (qt : Nat) (qz : Nat) (qf : Nat) (Pa : Nat) (ae : Nat) (al : Nat) (au : Nat) (ao : Nat) (ar : Nat) (ak : Nat) (aw : Nat) (att : Nat) (ass : Nat) (fal : Nat → Int32) (fau : Nat → Int32) (fao : Nat → Int32) (Wa : Nat) (aWn : Nat) (aWp : Nat) (fawn : Nat → Int32) (fawp : Nat → Int32) (fat : Nat → Int32) (fas : Nat → Int32) (i0 : Int32) (i1 : Int32) (hP0 : Pa ≤ 10) (hWa : Wa ≤ 8) (hLLw : LL Wa fawn) (hawn : BA 8 7 fawn) (hawp : BA 48 10 fawp) : Met l yX8_learn (Cond.code yX8_learn cX8_learn 1 (some .int) :: wsU) ({ frames := 5, cells := 0, slots := 0, locals := 121 }) (va_Pc [.ref h0] (XW D (xT cI cJ cZ cS) ta sa sv [(h0, .inr (8, [.ref qh, .ref qk, .ref qd, .int b0, .ref qa, .ref qm, .ref qs, .ref qp, .ref ql, .ref qt, .ref qz, .ref qf])), (qh, .inr (1, [.int (nI (Pa)), .ref ae, .ref al, .ref au, .ref ao, .ref ar, .ref ak, .ref aw, .ref att, .ref ass])), (al, .inl (cI, 100, .inl fal)), (au, .inl (cI, 100, .inl fau)), (ao, .inl (cI, 100, .inl fao)), (aw, .inr (3, [.int (nI (Wa)), .ref aWn, .ref aWp])), (aWn, .inl (cI, 8, .inl fawn)), (aWp, .inl (cI, 48, .inl fawp)), (att, .inl (cI, 8, .inl fat)), (ass, .inl (cI, 8, .inl fas)), (ql, .inr (2, [.int i0, .int i1]))] sz)) (XQi (fun (r : Int32) (u : (Nat → Int32) × (Nat → Int32) × Int32 × Int32) => match u with | (l2, u2, j0, j1) => ((r = nI ((lrn fao fawn fawp fat fas Wa 50 0 fal fau 0).1))) ∧ (l2 = (lrn fao fawn fawp fat fas Wa 50 0 fal fau 0).2.1) ∧ (u2 = (lrn fao fawn fawp fat fas Wa 50 0 fal fau 0).2.2.1)) D (fun (u : (Nat → Int32) × (Nat → Int32) × Int32 × Int32) => match u with | (l2, u2, j0, j1) => [(h0, .inr (8, [.ref qh, .ref qk, .ref qd, .int b0, .ref qa, .ref qm, .ref qs, .ref qp, .ref ql, .ref qt, .ref qz, .ref qf])), (qh, .inr (1, [.int (nI (Pa)), .ref ae, .ref al, .ref au, .ref ao, .ref ar, .ref ak, .ref aw, .ref att, .ref ass])), (al, .inl (cI, 100, .inl l2)), (au, .inl (cI, 100, .inl u2)), (ao, .inl (cI, 100, .inl fao)), (aw, .inr (3, [.int (nI (Wa)), .ref aWn, .ref aWp])), (aWn, .inl (cI, 8, .inl fawn)), (aWp, .inl (cI, 48, .inl fawp)), (att, .inl (cI, 8, .inl fat)), (ass, .inl (cI, 8, .inl fas)), (ql, .inr (2, [.int j0, .int j1]))]) (va_A [(h0, .inr (8, [.ref qh, .ref qk, .ref qd, .int b0, .ref qa, .ref qm, .ref qs, .ref qp, .ref ql, .ref qt, .ref qz, .ref qf])), (qh, .inr (1, [.int (nI (Pa)), .ref ae, .ref al, .ref au, .ref ao, .ref ar, .ref ak, .ref aw, .ref att, .ref ass])), (al, .inl (cI, 100, .inl fal)), (au, .inl (cI, 100, .inl fau)), (ao, .inl (cI, 100, .inl fao)), (aw, .inr (3, [.int (nI (Wa)), .ref aWn, .ref aWp])), (aWn, .inl (cI, 8, .inl fawn)), (aWp, .inl (cI, 48, .inl fawp)), (att, .inl (cI, 8, .inl fat)), (ass, .inl (cI, 8, .inl fas)), (ql, .inr (2, [.int i0, .int i1]))] sz)) 0 0 (va_A [(h0, .inr (8, [.ref qh, .ref qk, .ref qd, .int b0, .ref qa, .ref qm, .ref qs, .ref qp, .ref ql, .ref qt, .ref qz, .ref qf])), (qh, .inr (1, [.int (nI (Pa)), .ref ae, .ref al, .ref au, .ref ao, .ref ar, .ref ak, .ref aw, .ref att, .ref ass])), (al, .inl (cI, 100, .inl fal)), (au, .inl (cI, 100, .inl fau)), (ao, .inl (cI, 100, .inl fao)), (aw, .inr (3, [.int (nI (Wa)), .ref aWn, .ref aWp])), (aWn, .inl (cI, 8, .inl fawn)), (aWp, .inl (cI, 48, .inl fawp)), (att, .inl (cI, 8, .inl fat)), (ass, .inl (cI, 8, .inl fas)), (ql, .inr (2, [.int i0, .int i1]))] sz) := by
  refine xh (QA := fun A => XQi (fun (r : Int32) (u : (Nat → Int32) × (Nat → Int32) × Int32 × Int32) => match u with | (l2, u2, j0, j1) => ((r = nI ((lrn fao fawn fawp fat fas Wa 50 0 fal fau 0).1))) ∧ (l2 = (lrn fao fawn fawp fat fas Wa 50 0 fal fau 0).2.1) ∧ (u2 = (lrn fao fawn fawp fat fas Wa 50 0 fal fau 0).2.2.1)) D (fun (u : (Nat → Int32) × (Nat → Int32) × Int32 × Int32) => match u with | (l2, u2, j0, j1) => [(h0, .inr (8, [.ref qh, .ref qk, .ref qd, .int b0, .ref qa, .ref qm, .ref qs, .ref qp, .ref ql, .ref qt, .ref qz, .ref qf])), (qh, .inr (1, [.int (nI (Pa)), .ref ae, .ref al, .ref au, .ref ao, .ref ar, .ref ak, .ref aw, .ref att, .ref ass])), (al, .inl (cI, 100, .inl l2)), (au, .inl (cI, 100, .inl u2)), (ao, .inl (cI, 100, .inl fao)), (aw, .inr (3, [.int (nI (Wa)), .ref aWn, .ref aWp])), (aWn, .inl (cI, 8, .inl fawn)), (aWp, .inl (cI, 48, .inl fawp)), (att, .inl (cI, 8, .inl fat)), (ass, .inl (cI, 8, .inl fas)), (ql, .inr (2, [.int j0, .int j1]))]) A) (fr := fun A => A) (by decide) (Nat.le_of_ble_eq_true rfl) ?_
  intro p e s m below meth c ls A hF hr hlk hin hsz hP hK hD hN hZ hA hS hl
  have hF : CallFix p m c cX8_learn 1 s _ _ RX8 := hF
  have hx := hF.1
  have hb := hF.2.1
  have hml := hF.2.2.1
  have hown := hF.2.2.2.1
  have hu : ∀ w ∈ wsU, w.before _ s = true := fun w h => hF.2.2.2.2 w (List.mem_cons_of_mem _ h)
  have hl : lv_has ls 1 [(0, .ref h0)] := hl
  refine lv_aload_n hx hb dX8_learn_0 rfl (lv_at hl 0 rfl) ?_
  refine xg hF kf_X8_53 hK hP 0 rfl rfl dX8_learn_1 ?_
  refine lv_aload_n hx hb dX8_learn_4 rfl (lv_at hl 0 rfl) ?_
  refine xg hF kf_X8_12 hK hP 0 rfl rfl dX8_learn_5 ?_
  refine xc_Vi (wr := [(h0, .inr (8, [.ref qh, .ref qk, .ref qd, .int b0, .ref qa, .ref qm, .ref qs, .ref qp, .ref ql, .ref qt, .ref qz, .ref qf]))]) hF (c_X2_learnIn l D cI cJ cZ cS ta sa sv s.heap.size ql i0 i1 qh ae al au ao ar ak aw att ass Pa aWn aWp Wa fal fau fao fawn fawp fat fas (by omega) hLLw hawn hawp) kv_X8_238 ⟨rfl, rfl, Nat.le_of_ble_eq_true rfl, Nat.le_of_ble_eq_true rfl⟩ ⟨Nat.le_of_ble_eq_true rfl, Nat.le_of_ble_eq_true rfl⟩ hK hN hZ hP hD hS hA [10, 1, 2, 3, 4, 5, 6, 7, 8, 9] [0] rfl rfl (by decide +kernel) rfl (by decide +kernel) 0 rfl rfl rfl rfl hl.1 rfl (Nat.le_of_ble_eq_true rfl) dX8_learn_8 (fun r_1 u_r_1 H locs hw_r_1 hP hD hS => ?_)
  obtain ⟨b8_2, b9_3, l2_4, u2_5⟩ := u_r_1
  try dsimp only at hw_r_1
  obtain ⟨hw_r_1, i_6, i_7, i_8⟩ := hw_r_1
  have hP : va_P D vwCl [(h0, .inr (8, [.ref qh, .ref qk, .ref qd, .int b0, .ref qa, .ref qm, .ref qs, .ref qp, .ref ql, .ref qt, .ref qz, .ref qf])), (ql, .inr (2, [.int b8_2, .int b9_3])), (qh, .inr (1, [.int (nI (Pa)), .ref ae, .ref al, .ref au, .ref ao, .ref ar, .ref ak, .ref aw, .ref att, .ref ass])), (al, .inl (cI, 100, .inl l2_4)), (au, .inl (cI, 100, .inl u2_5)), (ao, .inl (cI, 100, .inl fao)), (aw, .inr (3, [.int (nI (Wa)), .ref aWn, .ref aWp])), (aWn, .inl (cI, 8, .inl fawn)), (aWp, .inl (cI, 48, .inl fawp)), (att, .inl (cI, 8, .inl fat)), (ass, .inl (cI, 8, .inl fas))] H := hP
  have hD : va_D A [(h0, .inr (8, [.ref qh, .ref qk, .ref qd, .int b0, .ref qa, .ref qm, .ref qs, .ref qp, .ref ql, .ref qt, .ref qz, .ref qf])), (ql, .inr (2, [.int b8_2, .int b9_3])), (qh, .inr (1, [.int (nI (Pa)), .ref ae, .ref al, .ref au, .ref ao, .ref ar, .ref ak, .ref aw, .ref att, .ref ass])), (al, .inl (cI, 100, .inl l2_4)), (au, .inl (cI, 100, .inl u2_5)), (ao, .inl (cI, 100, .inl fao)), (aw, .inr (3, [.int (nI (Wa)), .ref aWn, .ref aWp])), (aWn, .inl (cI, 8, .inl fawn)), (aWp, .inl (cI, 48, .inl fawp)), (att, .inl (cI, 8, .inl fat)), (ass, .inl (cI, 8, .inl fas))] := hD
  subst hw_r_1
  exact W.iret (v := nI ((lrn fao fawn fawp fat fas Wa 50 0 fal fau 0).1)) hx hb hr (fun t ht hW => ⟨⟨nI ((lrn fao fawn fawp fat fas Wa 50 0 fal fau 0).1), (l2_4, u2_5, b8_2, b9_3), rfl, ⟨(by first | exact rfl), (by first | assumption | omega), (by first | assumption | omega)⟩, by rw [ht]; exact hP.sub [0, 2, 3, 4, 5, 6, 7, 8, 9, 10, 1] rfl, hD.sub [0, 2, 3, 4, 5, 6, 7, 8, 9, 10, 1] (by decide +kernel) rfl⟩, hS.F ht⟩) hS.2.2 dX8_learn_11 hlk
