theorem dX8_isWithin_0 : decode cX8_isWithin 0 = .ok (.iload_n 0, 1) := dk_26_ (show cX8_isWithin.data.toList[0]? = some 0x1a from by decide +kernel)
theorem dX8_isWithin_1 : decode cX8_isWithin 1 = .ok (.iload_n 1, 1) := dk_27_ (show cX8_isWithin.data.toList[1]? = some 0x1b from by decide +kernel)
theorem dX8_isWithin_2 : decode cX8_isWithin 2 = .ok (.if_icmp .lt 12, 3) := dk_161_ (show cX8_isWithin.data.toList[2]? = some 0xa1 from by decide +kernel) (show cX8_isWithin.data.toList[3]? = some 0x00 from by decide +kernel) (show cX8_isWithin.data.toList[4]? = some 0x0c from by decide +kernel) (by decide)
theorem dX8_isWithin_5 : decode cX8_isWithin 5 = .ok (.iload_n 0, 1) := dk_26_ (show cX8_isWithin.data.toList[5]? = some 0x1a from by decide +kernel)
theorem dX8_isWithin_6 : decode cX8_isWithin 6 = .ok (.iload_n 2, 1) := dk_28_ (show cX8_isWithin.data.toList[6]? = some 0x1c from by decide +kernel)
theorem dX8_isWithin_7 : decode cX8_isWithin 7 = .ok (.if_icmp .gt 7, 3) := dk_163_ (show cX8_isWithin.data.toList[7]? = some 0xa3 from by decide +kernel) (show cX8_isWithin.data.toList[8]? = some 0x00 from by decide +kernel) (show cX8_isWithin.data.toList[9]? = some 0x07 from by decide +kernel) (by decide)
theorem dX8_isWithin_10 : decode cX8_isWithin 10 = .ok (.iconst 1, 1) := dk_4_ (show cX8_isWithin.data.toList[10]? = some 0x04 from by decide +kernel)
theorem dX8_isWithin_11 : decode cX8_isWithin 11 = .ok (.goto 4, 3) := dk_167_ (show cX8_isWithin.data.toList[11]? = some 0xa7 from by decide +kernel) (show cX8_isWithin.data.toList[12]? = some 0x00 from by decide +kernel) (show cX8_isWithin.data.toList[13]? = some 0x04 from by decide +kernel) (by decide)
theorem dX8_isWithin_14 : decode cX8_isWithin 14 = .ok (.iconst 0, 1) := dk_3_ (show cX8_isWithin.data.toList[14]? = some 0x03 from by decide +kernel)
theorem dX8_isWithin_15 : decode cX8_isWithin 15 = .ok (.ireturn, 1) := dk_172_ (show cX8_isWithin.data.toList[15]? = some 0xac from by decide +kernel)
theorem dX8_isKind_0 : decode cX8_isKind 0 = .ok (.iload_n 0, 1) := dk_26_ (show cX8_isKind.data.toList[0]? = some 0x1a from by decide +kernel)
theorem dX8_isKind_1 : decode cX8_isKind 1 = .ok (.iconst 0, 1) := dk_3_ (show cX8_isKind.data.toList[1]? = some 0x03 from by decide +kernel)
theorem dX8_isKind_2 : decode cX8_isKind 2 = .ok (.bipush 6, 2) := dk_16_ (show cX8_isKind.data.toList[2]? = some 0x10 from by decide +kernel) (show cX8_isKind.data.toList[3]? = some 0x06 from by decide +kernel) (by decide)
theorem dX8_isKind_4 : decode cX8_isKind 4 = .ok (.invokestatic 91, 3) := dk_184_ (show cX8_isKind.data.toList[4]? = some 0xb8 from by decide +kernel) (show cX8_isKind.data.toList[5]? = some 0x00 from by decide +kernel) (show cX8_isKind.data.toList[6]? = some 0x5b from by decide +kernel) (by decide)
theorem dX8_isKind_7 : decode cX8_isKind 7 = .ok (.ireturn, 1) := dk_172_ (show cX8_isKind.data.toList[7]? = some 0xac from by decide +kernel)
theorem dX8_isSheet_0 : decode cX8_isSheet 0 = .ok (.iload_n 0, 1) := dk_26_ (show cX8_isSheet.data.toList[0]? = some 0x1a from by decide +kernel)
theorem dX8_isSheet_1 : decode cX8_isSheet 1 = .ok (.iconst 0, 1) := dk_3_ (show cX8_isSheet.data.toList[1]? = some 0x03 from by decide +kernel)
theorem dX8_isSheet_2 : decode cX8_isSheet 2 = .ok (.iconst 3, 1) := dk_6_ (show cX8_isSheet.data.toList[2]? = some 0x06 from by decide +kernel)
theorem dX8_isSheet_3 : decode cX8_isSheet 3 = .ok (.invokestatic 91, 3) := dk_184_ (show cX8_isSheet.data.toList[3]? = some 0xb8 from by decide +kernel) (show cX8_isSheet.data.toList[4]? = some 0x00 from by decide +kernel) (show cX8_isSheet.data.toList[5]? = some 0x5b from by decide +kernel) (by decide)
theorem dX8_isSheet_6 : decode cX8_isSheet 6 = .ok (.ireturn, 1) := dk_172_ (show cX8_isSheet.data.toList[6]? = some 0xac from by decide +kernel)
def LRX8_areEnds_2 : List UInt8 := []
def LBX8_areEnds_1 : List UInt8 := [0x00, 0x07, 0x04, 0xa7, 0x00, 0x04, 0x03, 0xac]
def LRX8_areEnds_1 : List UInt8 := LBX8_areEnds_1 ++ LRX8_areEnds_2
def LBX8_areEnds_0 : List UInt8 := [0x1a, 0x10, 0x9d, 0xa1, 0x00, 0x13, 0x1a, 0x1b, 0xa3, 0x00, 0x0e, 0x1b, 0x11, 0x03, 0xe7, 0xa3]
def LRX8_areEnds_0 : List UInt8 := LBX8_areEnds_0 ++ LRX8_areEnds_1
set_option maxRecDepth 100000 in
theorem LBX8_areEnds_eq : cX8_areEnds.data.toList = LRX8_areEnds_0 := by decide +kernel
theorem LBX8_areEndsr_0 (k : Nat) : cX8_areEnds.data.toList[0 + k]? = LRX8_areEnds_0[k]? := by rw [LBX8_areEnds_eq, Nat.zero_add]
theorem LBX8_areEndsr_1 (k : Nat) : cX8_areEnds.data.toList[16 + k]? = LRX8_areEnds_1[k]? := by
  have h := LBX8_areEndsr_0 (16 + k)
  rw [show 0 + (16 + k) = 16 + k by omega] at h
  rw [h]
  exact (List.getElem?_append_right (l₁ := LBX8_areEnds_0) (l₂ := LRX8_areEnds_1) (show 16 ≤ 16 + k by omega)).trans (congrArg (fun i => LRX8_areEnds_1[i]?) (show 16 + k - 16 = k by omega))
theorem dX8_areEnds_0 : decode cX8_areEnds 0 = .ok (.iload_n 0, 1) := dk_26_ (show cX8_areEnds.data.toList[0]? = some 0x1a from (LBX8_areEndsr_0 0).trans (by decide +kernel))
theorem dX8_areEnds_1 : decode cX8_areEnds 1 = .ok (.bipush (-99), 2) := dk_16_ (show cX8_areEnds.data.toList[1]? = some 0x10 from (LBX8_areEndsr_0 1).trans (by decide +kernel)) (show cX8_areEnds.data.toList[2]? = some 0x9d from (LBX8_areEndsr_0 2).trans (by decide +kernel)) (by decide)
theorem dX8_areEnds_3 : decode cX8_areEnds 3 = .ok (.if_icmp .lt 19, 3) := dk_161_ (show cX8_areEnds.data.toList[3]? = some 0xa1 from (LBX8_areEndsr_0 3).trans (by decide +kernel)) (show cX8_areEnds.data.toList[4]? = some 0x00 from (LBX8_areEndsr_0 4).trans (by decide +kernel)) (show cX8_areEnds.data.toList[5]? = some 0x13 from (LBX8_areEndsr_0 5).trans (by decide +kernel)) (by decide)
theorem dX8_areEnds_6 : decode cX8_areEnds 6 = .ok (.iload_n 0, 1) := dk_26_ (show cX8_areEnds.data.toList[6]? = some 0x1a from (LBX8_areEndsr_0 6).trans (by decide +kernel))
theorem dX8_areEnds_7 : decode cX8_areEnds 7 = .ok (.iload_n 1, 1) := dk_27_ (show cX8_areEnds.data.toList[7]? = some 0x1b from (LBX8_areEndsr_0 7).trans (by decide +kernel))
theorem dX8_areEnds_8 : decode cX8_areEnds 8 = .ok (.if_icmp .gt 14, 3) := dk_163_ (show cX8_areEnds.data.toList[8]? = some 0xa3 from (LBX8_areEndsr_0 8).trans (by decide +kernel)) (show cX8_areEnds.data.toList[9]? = some 0x00 from (LBX8_areEndsr_0 9).trans (by decide +kernel)) (show cX8_areEnds.data.toList[10]? = some 0x0e from (LBX8_areEndsr_0 10).trans (by decide +kernel)) (by decide)
theorem dX8_areEnds_11 : decode cX8_areEnds 11 = .ok (.iload_n 1, 1) := dk_27_ (show cX8_areEnds.data.toList[11]? = some 0x1b from (LBX8_areEndsr_0 11).trans (by decide +kernel))
theorem dX8_areEnds_12 : decode cX8_areEnds 12 = .ok (.sipush 999, 3) := dk_17_ (show cX8_areEnds.data.toList[12]? = some 0x11 from (LBX8_areEndsr_0 12).trans (by decide +kernel)) (show cX8_areEnds.data.toList[13]? = some 0x03 from (LBX8_areEndsr_0 13).trans (by decide +kernel)) (show cX8_areEnds.data.toList[14]? = some 0xe7 from (LBX8_areEndsr_0 14).trans (by decide +kernel)) (by decide)
theorem dX8_areEnds_15 : decode cX8_areEnds 15 = .ok (.if_icmp .gt 7, 3) := dk_163_ (show cX8_areEnds.data.toList[15]? = some 0xa3 from (LBX8_areEndsr_0 15).trans (by decide +kernel)) (show cX8_areEnds.data.toList[16]? = some 0x00 from (LBX8_areEndsr_1 0).trans (by decide +kernel)) (show cX8_areEnds.data.toList[17]? = some 0x07 from (LBX8_areEndsr_1 1).trans (by decide +kernel)) (by decide)
theorem dX8_areEnds_18 : decode cX8_areEnds 18 = .ok (.iconst 1, 1) := dk_4_ (show cX8_areEnds.data.toList[18]? = some 0x04 from (LBX8_areEndsr_1 2).trans (by decide +kernel))
theorem dX8_areEnds_19 : decode cX8_areEnds 19 = .ok (.goto 4, 3) := dk_167_ (show cX8_areEnds.data.toList[19]? = some 0xa7 from (LBX8_areEndsr_1 3).trans (by decide +kernel)) (show cX8_areEnds.data.toList[20]? = some 0x00 from (LBX8_areEndsr_1 4).trans (by decide +kernel)) (show cX8_areEnds.data.toList[21]? = some 0x04 from (LBX8_areEndsr_1 5).trans (by decide +kernel)) (by decide)
theorem dX8_areEnds_22 : decode cX8_areEnds 22 = .ok (.iconst 0, 1) := dk_3_ (show cX8_areEnds.data.toList[22]? = some 0x03 from (LBX8_areEndsr_1 6).trans (by decide +kernel))
theorem dX8_areEnds_23 : decode cX8_areEnds 23 = .ok (.ireturn, 1) := dk_172_ (show cX8_areEnds.data.toList[23]? = some 0xac from (LBX8_areEndsr_1 7).trans (by decide +kernel))
def LRX8_together_2 : List UInt8 := []
def LBX8_together_1 : List UInt8 := [0x06, 0x1a, 0x1b, 0x60, 0xac]
def LRX8_together_1 : List UInt8 := LBX8_together_1 ++ LRX8_together_2
def LBX8_together_0 : List UInt8 := [0x1a, 0x12, 0x9a, 0x9f, 0x00, 0x09, 0x1b, 0x12, 0x9a, 0xa0, 0x00, 0x08, 0x12, 0x9a, 0xa7, 0x00]
def LRX8_together_0 : List UInt8 := LBX8_together_0 ++ LRX8_together_1
set_option maxRecDepth 100000 in
theorem LBX8_together_eq : cX8_together.data.toList = LRX8_together_0 := by decide +kernel
theorem LBX8_togetherr_0 (k : Nat) : cX8_together.data.toList[0 + k]? = LRX8_together_0[k]? := by rw [LBX8_together_eq, Nat.zero_add]
theorem LBX8_togetherr_1 (k : Nat) : cX8_together.data.toList[16 + k]? = LRX8_together_1[k]? := by
  have h := LBX8_togetherr_0 (16 + k)
  rw [show 0 + (16 + k) = 16 + k by omega] at h
  rw [h]
  exact (List.getElem?_append_right (l₁ := LBX8_together_0) (l₂ := LRX8_together_1) (show 16 ≤ 16 + k by omega)).trans (congrArg (fun i => LRX8_together_1[i]?) (show 16 + k - 16 = k by omega))
theorem dX8_together_0 : decode cX8_together 0 = .ok (.iload_n 0, 1) := dk_26_ (show cX8_together.data.toList[0]? = some 0x1a from (LBX8_togetherr_0 0).trans (by decide +kernel))
theorem dX8_together_1 : decode cX8_together 1 = .ok (.ldc 154, 2) := dk_18_ (show cX8_together.data.toList[1]? = some 0x12 from (LBX8_togetherr_0 1).trans (by decide +kernel)) (show cX8_together.data.toList[2]? = some 0x9a from (LBX8_togetherr_0 2).trans (by decide +kernel)) (by decide)
theorem dX8_together_3 : decode cX8_together 3 = .ok (.if_icmp .eq 9, 3) := dk_159_ (show cX8_together.data.toList[3]? = some 0x9f from (LBX8_togetherr_0 3).trans (by decide +kernel)) (show cX8_together.data.toList[4]? = some 0x00 from (LBX8_togetherr_0 4).trans (by decide +kernel)) (show cX8_together.data.toList[5]? = some 0x09 from (LBX8_togetherr_0 5).trans (by decide +kernel)) (by decide)
theorem dX8_together_6 : decode cX8_together 6 = .ok (.iload_n 1, 1) := dk_27_ (show cX8_together.data.toList[6]? = some 0x1b from (LBX8_togetherr_0 6).trans (by decide +kernel))
theorem dX8_together_7 : decode cX8_together 7 = .ok (.ldc 154, 2) := dk_18_ (show cX8_together.data.toList[7]? = some 0x12 from (LBX8_togetherr_0 7).trans (by decide +kernel)) (show cX8_together.data.toList[8]? = some 0x9a from (LBX8_togetherr_0 8).trans (by decide +kernel)) (by decide)
theorem dX8_together_9 : decode cX8_together 9 = .ok (.if_icmp .ne 8, 3) := dk_160_ (show cX8_together.data.toList[9]? = some 0xa0 from (LBX8_togetherr_0 9).trans (by decide +kernel)) (show cX8_together.data.toList[10]? = some 0x00 from (LBX8_togetherr_0 10).trans (by decide +kernel)) (show cX8_together.data.toList[11]? = some 0x08 from (LBX8_togetherr_0 11).trans (by decide +kernel)) (by decide)
theorem dX8_together_12 : decode cX8_together 12 = .ok (.ldc 154, 2) := dk_18_ (show cX8_together.data.toList[12]? = some 0x12 from (LBX8_togetherr_0 12).trans (by decide +kernel)) (show cX8_together.data.toList[13]? = some 0x9a from (LBX8_togetherr_0 13).trans (by decide +kernel)) (by decide)
theorem dX8_together_14 : decode cX8_together 14 = .ok (.goto 6, 3) := dk_167_ (show cX8_together.data.toList[14]? = some 0xa7 from (LBX8_togetherr_0 14).trans (by decide +kernel)) (show cX8_together.data.toList[15]? = some 0x00 from (LBX8_togetherr_0 15).trans (by decide +kernel)) (show cX8_together.data.toList[16]? = some 0x06 from (LBX8_togetherr_1 0).trans (by decide +kernel)) (by decide)
theorem dX8_together_17 : decode cX8_together 17 = .ok (.iload_n 0, 1) := dk_26_ (show cX8_together.data.toList[17]? = some 0x1a from (LBX8_togetherr_1 1).trans (by decide +kernel))
theorem dX8_together_18 : decode cX8_together 18 = .ok (.iload_n 1, 1) := dk_27_ (show cX8_together.data.toList[18]? = some 0x1b from (LBX8_togetherr_1 2).trans (by decide +kernel))
theorem dX8_together_19 : decode cX8_together 19 = .ok (.iadd, 1) := dk_96_ (show cX8_together.data.toList[19]? = some 0x60 from (LBX8_togetherr_1 3).trans (by decide +kernel))
theorem dX8_together_20 : decode cX8_together 20 = .ok (.ireturn, 1) := dk_172_ (show cX8_together.data.toList[20]? = some 0xac from (LBX8_togetherr_1 4).trans (by decide +kernel))
def LRJ9_floorDiv_7cf53_2 : List UInt8 := []
def LBJ9_floorDiv_7cf53_1 : List UInt8 := [0x07, 0x1c, 0x04, 0x64, 0xac, 0x1c, 0xac]
def LRJ9_floorDiv_7cf53_1 : List UInt8 := LBJ9_floorDiv_7cf53_1 ++ LRJ9_floorDiv_7cf53_2
def LBJ9_floorDiv_7cf53_0 : List UInt8 := [0x1a, 0x1b, 0x6c, 0x3d, 0x1a, 0x1b, 0x82, 0x9c, 0x00, 0x0e, 0x1c, 0x1b, 0x68, 0x1a, 0x9f, 0x00]
def LRJ9_floorDiv_7cf53_0 : List UInt8 := LBJ9_floorDiv_7cf53_0 ++ LRJ9_floorDiv_7cf53_1
set_option maxRecDepth 100000 in
theorem LBJ9_floorDiv_7cf53_eq : cJ9_floorDiv_7cf53.data.toList = LRJ9_floorDiv_7cf53_0 := by decide +kernel
theorem LBJ9_floorDiv_7cf53r_0 (k : Nat) : cJ9_floorDiv_7cf53.data.toList[0 + k]? = LRJ9_floorDiv_7cf53_0[k]? := by rw [LBJ9_floorDiv_7cf53_eq, Nat.zero_add]
theorem LBJ9_floorDiv_7cf53r_1 (k : Nat) : cJ9_floorDiv_7cf53.data.toList[16 + k]? = LRJ9_floorDiv_7cf53_1[k]? := by
  have h := LBJ9_floorDiv_7cf53r_0 (16 + k)
  rw [show 0 + (16 + k) = 16 + k by omega] at h
  rw [h]
  exact (List.getElem?_append_right (l₁ := LBJ9_floorDiv_7cf53_0) (l₂ := LRJ9_floorDiv_7cf53_1) (show 16 ≤ 16 + k by omega)).trans (congrArg (fun i => LRJ9_floorDiv_7cf53_1[i]?) (show 16 + k - 16 = k by omega))
theorem dJ9_floorDiv_7cf53_0 : decode cJ9_floorDiv_7cf53 0 = .ok (.iload_n 0, 1) := dk_26_ (show cJ9_floorDiv_7cf53.data.toList[0]? = some 0x1a from (LBJ9_floorDiv_7cf53r_0 0).trans (by decide +kernel))
theorem dJ9_floorDiv_7cf53_1 : decode cJ9_floorDiv_7cf53 1 = .ok (.iload_n 1, 1) := dk_27_ (show cJ9_floorDiv_7cf53.data.toList[1]? = some 0x1b from (LBJ9_floorDiv_7cf53r_0 1).trans (by decide +kernel))
theorem dJ9_floorDiv_7cf53_2 : decode cJ9_floorDiv_7cf53 2 = .ok (.idiv, 1) := dk_108_ (show cJ9_floorDiv_7cf53.data.toList[2]? = some 0x6c from (LBJ9_floorDiv_7cf53r_0 2).trans (by decide +kernel))
theorem dJ9_floorDiv_7cf53_3 : decode cJ9_floorDiv_7cf53 3 = .ok (.istore_n 2, 1) := dk_61_ (show cJ9_floorDiv_7cf53.data.toList[3]? = some 0x3d from (LBJ9_floorDiv_7cf53r_0 3).trans (by decide +kernel))
theorem dJ9_floorDiv_7cf53_4 : decode cJ9_floorDiv_7cf53 4 = .ok (.iload_n 0, 1) := dk_26_ (show cJ9_floorDiv_7cf53.data.toList[4]? = some 0x1a from (LBJ9_floorDiv_7cf53r_0 4).trans (by decide +kernel))
theorem dJ9_floorDiv_7cf53_5 : decode cJ9_floorDiv_7cf53 5 = .ok (.iload_n 1, 1) := dk_27_ (show cJ9_floorDiv_7cf53.data.toList[5]? = some 0x1b from (LBJ9_floorDiv_7cf53r_0 5).trans (by decide +kernel))
theorem dJ9_floorDiv_7cf53_6 : decode cJ9_floorDiv_7cf53 6 = .ok (.ixor, 1) := dk_130_ (show cJ9_floorDiv_7cf53.data.toList[6]? = some 0x82 from (LBJ9_floorDiv_7cf53r_0 6).trans (by decide +kernel))
theorem dJ9_floorDiv_7cf53_7 : decode cJ9_floorDiv_7cf53 7 = .ok (.ifCond .ge 14, 3) := dk_156_ (show cJ9_floorDiv_7cf53.data.toList[7]? = some 0x9c from (LBJ9_floorDiv_7cf53r_0 7).trans (by decide +kernel)) (show cJ9_floorDiv_7cf53.data.toList[8]? = some 0x00 from (LBJ9_floorDiv_7cf53r_0 8).trans (by decide +kernel)) (show cJ9_floorDiv_7cf53.data.toList[9]? = some 0x0e from (LBJ9_floorDiv_7cf53r_0 9).trans (by decide +kernel)) (by decide)
theorem dJ9_floorDiv_7cf53_10 : decode cJ9_floorDiv_7cf53 10 = .ok (.iload_n 2, 1) := dk_28_ (show cJ9_floorDiv_7cf53.data.toList[10]? = some 0x1c from (LBJ9_floorDiv_7cf53r_0 10).trans (by decide +kernel))
theorem dJ9_floorDiv_7cf53_11 : decode cJ9_floorDiv_7cf53 11 = .ok (.iload_n 1, 1) := dk_27_ (show cJ9_floorDiv_7cf53.data.toList[11]? = some 0x1b from (LBJ9_floorDiv_7cf53r_0 11).trans (by decide +kernel))
theorem dJ9_floorDiv_7cf53_12 : decode cJ9_floorDiv_7cf53 12 = .ok (.imul, 1) := dk_104_ (show cJ9_floorDiv_7cf53.data.toList[12]? = some 0x68 from (LBJ9_floorDiv_7cf53r_0 12).trans (by decide +kernel))
theorem dJ9_floorDiv_7cf53_13 : decode cJ9_floorDiv_7cf53 13 = .ok (.iload_n 0, 1) := dk_26_ (show cJ9_floorDiv_7cf53.data.toList[13]? = some 0x1a from (LBJ9_floorDiv_7cf53r_0 13).trans (by decide +kernel))
theorem dJ9_floorDiv_7cf53_14 : decode cJ9_floorDiv_7cf53 14 = .ok (.if_icmp .eq 7, 3) := dk_159_ (show cJ9_floorDiv_7cf53.data.toList[14]? = some 0x9f from (LBJ9_floorDiv_7cf53r_0 14).trans (by decide +kernel)) (show cJ9_floorDiv_7cf53.data.toList[15]? = some 0x00 from (LBJ9_floorDiv_7cf53r_0 15).trans (by decide +kernel)) (show cJ9_floorDiv_7cf53.data.toList[16]? = some 0x07 from (LBJ9_floorDiv_7cf53r_1 0).trans (by decide +kernel)) (by decide)
theorem dJ9_floorDiv_7cf53_17 : decode cJ9_floorDiv_7cf53 17 = .ok (.iload_n 2, 1) := dk_28_ (show cJ9_floorDiv_7cf53.data.toList[17]? = some 0x1c from (LBJ9_floorDiv_7cf53r_1 1).trans (by decide +kernel))
theorem dJ9_floorDiv_7cf53_18 : decode cJ9_floorDiv_7cf53 18 = .ok (.iconst 1, 1) := dk_4_ (show cJ9_floorDiv_7cf53.data.toList[18]? = some 0x04 from (LBJ9_floorDiv_7cf53r_1 2).trans (by decide +kernel))
theorem dJ9_floorDiv_7cf53_19 : decode cJ9_floorDiv_7cf53 19 = .ok (.isub, 1) := dk_100_ (show cJ9_floorDiv_7cf53.data.toList[19]? = some 0x64 from (LBJ9_floorDiv_7cf53r_1 3).trans (by decide +kernel))
theorem dJ9_floorDiv_7cf53_20 : decode cJ9_floorDiv_7cf53 20 = .ok (.ireturn, 1) := dk_172_ (show cJ9_floorDiv_7cf53.data.toList[20]? = some 0xac from (LBJ9_floorDiv_7cf53r_1 4).trans (by decide +kernel))
theorem dJ9_floorDiv_7cf53_21 : decode cJ9_floorDiv_7cf53 21 = .ok (.iload_n 2, 1) := dk_28_ (show cJ9_floorDiv_7cf53.data.toList[21]? = some 0x1c from (LBJ9_floorDiv_7cf53r_1 5).trans (by decide +kernel))
theorem dJ9_floorDiv_7cf53_22 : decode cJ9_floorDiv_7cf53 22 = .ok (.ireturn, 1) := dk_172_ (show cJ9_floorDiv_7cf53.data.toList[22]? = some 0xac from (LBJ9_floorDiv_7cf53r_1 6).trans (by decide +kernel))
def LRJ9_floorMod_7cf53_2 : List UInt8 := []
def LBJ9_floorMod_7cf53_1 : List UInt8 := [0x60, 0xac, 0x1c, 0xac]
def LRJ9_floorMod_7cf53_1 : List UInt8 := LBJ9_floorMod_7cf53_1 ++ LRJ9_floorMod_7cf53_2
def LBJ9_floorMod_7cf53_0 : List UInt8 := [0x1a, 0x1b, 0x70, 0x3d, 0x1a, 0x1b, 0x82, 0x9c, 0x00, 0x0b, 0x1c, 0x99, 0x00, 0x07, 0x1c, 0x1b]
def LRJ9_floorMod_7cf53_0 : List UInt8 := LBJ9_floorMod_7cf53_0 ++ LRJ9_floorMod_7cf53_1
set_option maxRecDepth 100000 in
theorem LBJ9_floorMod_7cf53_eq : cJ9_floorMod_7cf53.data.toList = LRJ9_floorMod_7cf53_0 := by decide +kernel
theorem LBJ9_floorMod_7cf53r_0 (k : Nat) : cJ9_floorMod_7cf53.data.toList[0 + k]? = LRJ9_floorMod_7cf53_0[k]? := by rw [LBJ9_floorMod_7cf53_eq, Nat.zero_add]
theorem LBJ9_floorMod_7cf53r_1 (k : Nat) : cJ9_floorMod_7cf53.data.toList[16 + k]? = LRJ9_floorMod_7cf53_1[k]? := by
  have h := LBJ9_floorMod_7cf53r_0 (16 + k)
  rw [show 0 + (16 + k) = 16 + k by omega] at h
  rw [h]
  exact (List.getElem?_append_right (l₁ := LBJ9_floorMod_7cf53_0) (l₂ := LRJ9_floorMod_7cf53_1) (show 16 ≤ 16 + k by omega)).trans (congrArg (fun i => LRJ9_floorMod_7cf53_1[i]?) (show 16 + k - 16 = k by omega))
theorem dJ9_floorMod_7cf53_0 : decode cJ9_floorMod_7cf53 0 = .ok (.iload_n 0, 1) := dk_26_ (show cJ9_floorMod_7cf53.data.toList[0]? = some 0x1a from (LBJ9_floorMod_7cf53r_0 0).trans (by decide +kernel))
theorem dJ9_floorMod_7cf53_1 : decode cJ9_floorMod_7cf53 1 = .ok (.iload_n 1, 1) := dk_27_ (show cJ9_floorMod_7cf53.data.toList[1]? = some 0x1b from (LBJ9_floorMod_7cf53r_0 1).trans (by decide +kernel))
theorem dJ9_floorMod_7cf53_2 : decode cJ9_floorMod_7cf53 2 = .ok (.irem, 1) := dk_112_ (show cJ9_floorMod_7cf53.data.toList[2]? = some 0x70 from (LBJ9_floorMod_7cf53r_0 2).trans (by decide +kernel))
theorem dJ9_floorMod_7cf53_3 : decode cJ9_floorMod_7cf53 3 = .ok (.istore_n 2, 1) := dk_61_ (show cJ9_floorMod_7cf53.data.toList[3]? = some 0x3d from (LBJ9_floorMod_7cf53r_0 3).trans (by decide +kernel))
theorem dJ9_floorMod_7cf53_4 : decode cJ9_floorMod_7cf53 4 = .ok (.iload_n 0, 1) := dk_26_ (show cJ9_floorMod_7cf53.data.toList[4]? = some 0x1a from (LBJ9_floorMod_7cf53r_0 4).trans (by decide +kernel))
theorem dJ9_floorMod_7cf53_5 : decode cJ9_floorMod_7cf53 5 = .ok (.iload_n 1, 1) := dk_27_ (show cJ9_floorMod_7cf53.data.toList[5]? = some 0x1b from (LBJ9_floorMod_7cf53r_0 5).trans (by decide +kernel))
theorem dJ9_floorMod_7cf53_6 : decode cJ9_floorMod_7cf53 6 = .ok (.ixor, 1) := dk_130_ (show cJ9_floorMod_7cf53.data.toList[6]? = some 0x82 from (LBJ9_floorMod_7cf53r_0 6).trans (by decide +kernel))
theorem dJ9_floorMod_7cf53_7 : decode cJ9_floorMod_7cf53 7 = .ok (.ifCond .ge 11, 3) := dk_156_ (show cJ9_floorMod_7cf53.data.toList[7]? = some 0x9c from (LBJ9_floorMod_7cf53r_0 7).trans (by decide +kernel)) (show cJ9_floorMod_7cf53.data.toList[8]? = some 0x00 from (LBJ9_floorMod_7cf53r_0 8).trans (by decide +kernel)) (show cJ9_floorMod_7cf53.data.toList[9]? = some 0x0b from (LBJ9_floorMod_7cf53r_0 9).trans (by decide +kernel)) (by decide)
theorem dJ9_floorMod_7cf53_10 : decode cJ9_floorMod_7cf53 10 = .ok (.iload_n 2, 1) := dk_28_ (show cJ9_floorMod_7cf53.data.toList[10]? = some 0x1c from (LBJ9_floorMod_7cf53r_0 10).trans (by decide +kernel))
theorem dJ9_floorMod_7cf53_11 : decode cJ9_floorMod_7cf53 11 = .ok (.ifCond .eq 7, 3) := dk_153_ (show cJ9_floorMod_7cf53.data.toList[11]? = some 0x99 from (LBJ9_floorMod_7cf53r_0 11).trans (by decide +kernel)) (show cJ9_floorMod_7cf53.data.toList[12]? = some 0x00 from (LBJ9_floorMod_7cf53r_0 12).trans (by decide +kernel)) (show cJ9_floorMod_7cf53.data.toList[13]? = some 0x07 from (LBJ9_floorMod_7cf53r_0 13).trans (by decide +kernel)) (by decide)
theorem dJ9_floorMod_7cf53_14 : decode cJ9_floorMod_7cf53 14 = .ok (.iload_n 2, 1) := dk_28_ (show cJ9_floorMod_7cf53.data.toList[14]? = some 0x1c from (LBJ9_floorMod_7cf53r_0 14).trans (by decide +kernel))
theorem dJ9_floorMod_7cf53_15 : decode cJ9_floorMod_7cf53 15 = .ok (.iload_n 1, 1) := dk_27_ (show cJ9_floorMod_7cf53.data.toList[15]? = some 0x1b from (LBJ9_floorMod_7cf53r_0 15).trans (by decide +kernel))
theorem dJ9_floorMod_7cf53_16 : decode cJ9_floorMod_7cf53 16 = .ok (.iadd, 1) := dk_96_ (show cJ9_floorMod_7cf53.data.toList[16]? = some 0x60 from (LBJ9_floorMod_7cf53r_1 0).trans (by decide +kernel))
theorem dJ9_floorMod_7cf53_17 : decode cJ9_floorMod_7cf53 17 = .ok (.ireturn, 1) := dk_172_ (show cJ9_floorMod_7cf53.data.toList[17]? = some 0xac from (LBJ9_floorMod_7cf53r_1 1).trans (by decide +kernel))
theorem dJ9_floorMod_7cf53_18 : decode cJ9_floorMod_7cf53 18 = .ok (.iload_n 2, 1) := dk_28_ (show cJ9_floorMod_7cf53.data.toList[18]? = some 0x1c from (LBJ9_floorMod_7cf53r_1 2).trans (by decide +kernel))
theorem dJ9_floorMod_7cf53_19 : decode cJ9_floorMod_7cf53 19 = .ok (.ireturn, 1) := dk_172_ (show cJ9_floorMod_7cf53.data.toList[19]? = some 0xac from (LBJ9_floorMod_7cf53r_1 3).trans (by decide +kernel))
def LRX1_isPlace_2 : List UInt8 := []
def LBX1_isPlace_1 : List UInt8 := [0x04, 0xa7, 0x00, 0x04, 0x03, 0xac]
def LRX1_isPlace_1 : List UInt8 := LBX1_isPlace_1 ++ LRX1_isPlace_2
def LBX1_isPlace_0 : List UInt8 := [0x1f, 0x09, 0x94, 0x9b, 0x00, 0x11, 0x1f, 0x2a, 0xb4, 0x00, 0x09, 0x85, 0x94, 0x9c, 0x00, 0x07]
def LRX1_isPlace_0 : List UInt8 := LBX1_isPlace_0 ++ LRX1_isPlace_1
set_option maxRecDepth 100000 in
theorem LBX1_isPlace_eq : cX1_isPlace.data.toList = LRX1_isPlace_0 := by decide +kernel
theorem LBX1_isPlacer_0 (k : Nat) : cX1_isPlace.data.toList[0 + k]? = LRX1_isPlace_0[k]? := by rw [LBX1_isPlace_eq, Nat.zero_add]
theorem LBX1_isPlacer_1 (k : Nat) : cX1_isPlace.data.toList[16 + k]? = LRX1_isPlace_1[k]? := by
  have h := LBX1_isPlacer_0 (16 + k)
  rw [show 0 + (16 + k) = 16 + k by omega] at h
  rw [h]
  exact (List.getElem?_append_right (l₁ := LBX1_isPlace_0) (l₂ := LRX1_isPlace_1) (show 16 ≤ 16 + k by omega)).trans (congrArg (fun i => LRX1_isPlace_1[i]?) (show 16 + k - 16 = k by omega))
theorem dX1_isPlace_0 : decode cX1_isPlace 0 = .ok (.lload_n 1, 1) := dk_31_ (show cX1_isPlace.data.toList[0]? = some 0x1f from (LBX1_isPlacer_0 0).trans (by decide +kernel))
theorem dX1_isPlace_1 : decode cX1_isPlace 1 = .ok (.lconst 0, 1) := dk_9_ (show cX1_isPlace.data.toList[1]? = some 0x09 from (LBX1_isPlacer_0 1).trans (by decide +kernel))
theorem dX1_isPlace_2 : decode cX1_isPlace 2 = .ok (.lcmp, 1) := dk_148_ (show cX1_isPlace.data.toList[2]? = some 0x94 from (LBX1_isPlacer_0 2).trans (by decide +kernel))
theorem dX1_isPlace_3 : decode cX1_isPlace 3 = .ok (.ifCond .lt 17, 3) := dk_155_ (show cX1_isPlace.data.toList[3]? = some 0x9b from (LBX1_isPlacer_0 3).trans (by decide +kernel)) (show cX1_isPlace.data.toList[4]? = some 0x00 from (LBX1_isPlacer_0 4).trans (by decide +kernel)) (show cX1_isPlace.data.toList[5]? = some 0x11 from (LBX1_isPlacer_0 5).trans (by decide +kernel)) (by decide)
theorem dX1_isPlace_6 : decode cX1_isPlace 6 = .ok (.lload_n 1, 1) := dk_31_ (show cX1_isPlace.data.toList[6]? = some 0x1f from (LBX1_isPlacer_0 6).trans (by decide +kernel))
theorem dX1_isPlace_7 : decode cX1_isPlace 7 = .ok (.aload_n 0, 1) := dk_42_ (show cX1_isPlace.data.toList[7]? = some 0x2a from (LBX1_isPlacer_0 7).trans (by decide +kernel))
theorem dX1_isPlace_8 : decode cX1_isPlace 8 = .ok (.getfield 9, 3) := dk_180_ (show cX1_isPlace.data.toList[8]? = some 0xb4 from (LBX1_isPlacer_0 8).trans (by decide +kernel)) (show cX1_isPlace.data.toList[9]? = some 0x00 from (LBX1_isPlacer_0 9).trans (by decide +kernel)) (show cX1_isPlace.data.toList[10]? = some 0x09 from (LBX1_isPlacer_0 10).trans (by decide +kernel)) (by decide)
theorem dX1_isPlace_11 : decode cX1_isPlace 11 = .ok (.i2l, 1) := dk_133_ (show cX1_isPlace.data.toList[11]? = some 0x85 from (LBX1_isPlacer_0 11).trans (by decide +kernel))
theorem dX1_isPlace_12 : decode cX1_isPlace 12 = .ok (.lcmp, 1) := dk_148_ (show cX1_isPlace.data.toList[12]? = some 0x94 from (LBX1_isPlacer_0 12).trans (by decide +kernel))
theorem dX1_isPlace_13 : decode cX1_isPlace 13 = .ok (.ifCond .ge 7, 3) := dk_156_ (show cX1_isPlace.data.toList[13]? = some 0x9c from (LBX1_isPlacer_0 13).trans (by decide +kernel)) (show cX1_isPlace.data.toList[14]? = some 0x00 from (LBX1_isPlacer_0 14).trans (by decide +kernel)) (show cX1_isPlace.data.toList[15]? = some 0x07 from (LBX1_isPlacer_0 15).trans (by decide +kernel)) (by decide)
theorem dX1_isPlace_16 : decode cX1_isPlace 16 = .ok (.iconst 1, 1) := dk_4_ (show cX1_isPlace.data.toList[16]? = some 0x04 from (LBX1_isPlacer_1 0).trans (by decide +kernel))
theorem dX1_isPlace_17 : decode cX1_isPlace 17 = .ok (.goto 4, 3) := dk_167_ (show cX1_isPlace.data.toList[17]? = some 0xa7 from (LBX1_isPlacer_1 1).trans (by decide +kernel)) (show cX1_isPlace.data.toList[18]? = some 0x00 from (LBX1_isPlacer_1 2).trans (by decide +kernel)) (show cX1_isPlace.data.toList[19]? = some 0x04 from (LBX1_isPlacer_1 3).trans (by decide +kernel)) (by decide)
theorem dX1_isPlace_20 : decode cX1_isPlace 20 = .ok (.iconst 0, 1) := dk_3_ (show cX1_isPlace.data.toList[20]? = some 0x03 from (LBX1_isPlacer_1 4).trans (by decide +kernel))
theorem dX1_isPlace_21 : decode cX1_isPlace 21 = .ok (.ireturn, 1) := dk_172_ (show cX1_isPlace.data.toList[21]? = some 0xac from (LBX1_isPlacer_1 5).trans (by decide +kernel))
def LRX1_areTwo_2 : List UInt8 := []
def LBX1_areTwo_1 : List UInt8 := [0x00, 0x0c, 0x1b, 0x1c, 0x9f, 0x00, 0x07, 0x04, 0xa7, 0x00, 0x04, 0x03, 0xac]
def LRX1_areTwo_1 : List UInt8 := LBX1_areTwo_1 ++ LRX1_areTwo_2
def LBX1_areTwo_0 : List UInt8 := [0x2a, 0x1b, 0x85, 0xb6, 0x00, 0x39, 0x99, 0x00, 0x15, 0x2a, 0x1c, 0x85, 0xb6, 0x00, 0x39, 0x99]
def LRX1_areTwo_0 : List UInt8 := LBX1_areTwo_0 ++ LRX1_areTwo_1
set_option maxRecDepth 100000 in
theorem LBX1_areTwo_eq : cX1_areTwo.data.toList = LRX1_areTwo_0 := by decide +kernel
theorem LBX1_areTwor_0 (k : Nat) : cX1_areTwo.data.toList[0 + k]? = LRX1_areTwo_0[k]? := by rw [LBX1_areTwo_eq, Nat.zero_add]
theorem LBX1_areTwor_1 (k : Nat) : cX1_areTwo.data.toList[16 + k]? = LRX1_areTwo_1[k]? := by
  have h := LBX1_areTwor_0 (16 + k)
  rw [show 0 + (16 + k) = 16 + k by omega] at h
  rw [h]
  exact (List.getElem?_append_right (l₁ := LBX1_areTwo_0) (l₂ := LRX1_areTwo_1) (show 16 ≤ 16 + k by omega)).trans (congrArg (fun i => LRX1_areTwo_1[i]?) (show 16 + k - 16 = k by omega))
theorem dX1_areTwo_0 : decode cX1_areTwo 0 = .ok (.aload_n 0, 1) := dk_42_ (show cX1_areTwo.data.toList[0]? = some 0x2a from (LBX1_areTwor_0 0).trans (by decide +kernel))
theorem dX1_areTwo_1 : decode cX1_areTwo 1 = .ok (.iload_n 1, 1) := dk_27_ (show cX1_areTwo.data.toList[1]? = some 0x1b from (LBX1_areTwor_0 1).trans (by decide +kernel))
theorem dX1_areTwo_2 : decode cX1_areTwo 2 = .ok (.i2l, 1) := dk_133_ (show cX1_areTwo.data.toList[2]? = some 0x85 from (LBX1_areTwor_0 2).trans (by decide +kernel))
theorem dX1_areTwo_3 : decode cX1_areTwo 3 = .ok (.invokevirtual 57, 3) := dk_182_ (show cX1_areTwo.data.toList[3]? = some 0xb6 from (LBX1_areTwor_0 3).trans (by decide +kernel)) (show cX1_areTwo.data.toList[4]? = some 0x00 from (LBX1_areTwor_0 4).trans (by decide +kernel)) (show cX1_areTwo.data.toList[5]? = some 0x39 from (LBX1_areTwor_0 5).trans (by decide +kernel)) (by decide)
theorem dX1_areTwo_6 : decode cX1_areTwo 6 = .ok (.ifCond .eq 21, 3) := dk_153_ (show cX1_areTwo.data.toList[6]? = some 0x99 from (LBX1_areTwor_0 6).trans (by decide +kernel)) (show cX1_areTwo.data.toList[7]? = some 0x00 from (LBX1_areTwor_0 7).trans (by decide +kernel)) (show cX1_areTwo.data.toList[8]? = some 0x15 from (LBX1_areTwor_0 8).trans (by decide +kernel)) (by decide)
theorem dX1_areTwo_9 : decode cX1_areTwo 9 = .ok (.aload_n 0, 1) := dk_42_ (show cX1_areTwo.data.toList[9]? = some 0x2a from (LBX1_areTwor_0 9).trans (by decide +kernel))
theorem dX1_areTwo_10 : decode cX1_areTwo 10 = .ok (.iload_n 2, 1) := dk_28_ (show cX1_areTwo.data.toList[10]? = some 0x1c from (LBX1_areTwor_0 10).trans (by decide +kernel))
theorem dX1_areTwo_11 : decode cX1_areTwo 11 = .ok (.i2l, 1) := dk_133_ (show cX1_areTwo.data.toList[11]? = some 0x85 from (LBX1_areTwor_0 11).trans (by decide +kernel))
theorem dX1_areTwo_12 : decode cX1_areTwo 12 = .ok (.invokevirtual 57, 3) := dk_182_ (show cX1_areTwo.data.toList[12]? = some 0xb6 from (LBX1_areTwor_0 12).trans (by decide +kernel)) (show cX1_areTwo.data.toList[13]? = some 0x00 from (LBX1_areTwor_0 13).trans (by decide +kernel)) (show cX1_areTwo.data.toList[14]? = some 0x39 from (LBX1_areTwor_0 14).trans (by decide +kernel)) (by decide)
theorem dX1_areTwo_15 : decode cX1_areTwo 15 = .ok (.ifCond .eq 12, 3) := dk_153_ (show cX1_areTwo.data.toList[15]? = some 0x99 from (LBX1_areTwor_0 15).trans (by decide +kernel)) (show cX1_areTwo.data.toList[16]? = some 0x00 from (LBX1_areTwor_1 0).trans (by decide +kernel)) (show cX1_areTwo.data.toList[17]? = some 0x0c from (LBX1_areTwor_1 1).trans (by decide +kernel)) (by decide)
theorem dX1_areTwo_18 : decode cX1_areTwo 18 = .ok (.iload_n 1, 1) := dk_27_ (show cX1_areTwo.data.toList[18]? = some 0x1b from (LBX1_areTwor_1 2).trans (by decide +kernel))
theorem dX1_areTwo_19 : decode cX1_areTwo 19 = .ok (.iload_n 2, 1) := dk_28_ (show cX1_areTwo.data.toList[19]? = some 0x1c from (LBX1_areTwor_1 3).trans (by decide +kernel))
theorem dX1_areTwo_20 : decode cX1_areTwo 20 = .ok (.if_icmp .eq 7, 3) := dk_159_ (show cX1_areTwo.data.toList[20]? = some 0x9f from (LBX1_areTwor_1 4).trans (by decide +kernel)) (show cX1_areTwo.data.toList[21]? = some 0x00 from (LBX1_areTwor_1 5).trans (by decide +kernel)) (show cX1_areTwo.data.toList[22]? = some 0x07 from (LBX1_areTwor_1 6).trans (by decide +kernel)) (by decide)
theorem dX1_areTwo_23 : decode cX1_areTwo 23 = .ok (.iconst 1, 1) := dk_4_ (show cX1_areTwo.data.toList[23]? = some 0x04 from (LBX1_areTwor_1 7).trans (by decide +kernel))
theorem dX1_areTwo_24 : decode cX1_areTwo 24 = .ok (.goto 4, 3) := dk_167_ (show cX1_areTwo.data.toList[24]? = some 0xa7 from (LBX1_areTwor_1 8).trans (by decide +kernel)) (show cX1_areTwo.data.toList[25]? = some 0x00 from (LBX1_areTwor_1 9).trans (by decide +kernel)) (show cX1_areTwo.data.toList[26]? = some 0x04 from (LBX1_areTwor_1 10).trans (by decide +kernel)) (by decide)
theorem dX1_areTwo_27 : decode cX1_areTwo 27 = .ok (.iconst 0, 1) := dk_3_ (show cX1_areTwo.data.toList[27]? = some 0x03 from (LBX1_areTwor_1 11).trans (by decide +kernel))
theorem dX1_areTwo_28 : decode cX1_areTwo 28 = .ok (.ireturn, 1) := dk_172_ (show cX1_areTwo.data.toList[28]? = some 0xac from (LBX1_areTwor_1 12).trans (by decide +kernel))
theorem dX1_wayAt_0 : decode cX1_wayAt 0 = .ok (.bipush 10, 2) := dk_16_ (show cX1_wayAt.data.toList[0]? = some 0x10 from by decide +kernel) (show cX1_wayAt.data.toList[1]? = some 0x0a from by decide +kernel) (by decide)
theorem dX1_wayAt_2 : decode cX1_wayAt 2 = .ok (.iload_n 0, 1) := dk_26_ (show cX1_wayAt.data.toList[2]? = some 0x1a from by decide +kernel)
theorem dX1_wayAt_3 : decode cX1_wayAt 3 = .ok (.imul, 1) := dk_104_ (show cX1_wayAt.data.toList[3]? = some 0x68 from by decide +kernel)
theorem dX1_wayAt_4 : decode cX1_wayAt 4 = .ok (.iload_n 1, 1) := dk_27_ (show cX1_wayAt.data.toList[4]? = some 0x1b from by decide +kernel)
theorem dX1_wayAt_5 : decode cX1_wayAt 5 = .ok (.iadd, 1) := dk_96_ (show cX1_wayAt.data.toList[5]? = some 0x60 from by decide +kernel)
theorem dX1_wayAt_6 : decode cX1_wayAt 6 = .ok (.ireturn, 1) := dk_172_ (show cX1_wayAt.data.toList[6]? = some 0xac from by decide +kernel)
def LRX1_isThere_2 : List UInt8 := []
def LBX1_isThere_1 : List UInt8 := [0x04, 0x03, 0xac]
def LRX1_isThere_1 : List UInt8 := LBX1_isThere_1 ++ LRX1_isThere_2
def LBX1_isThere_0 : List UInt8 := [0x2a, 0xb4, 0x00, 0x19, 0x1b, 0x1c, 0xb8, 0x00, 0x3d, 0x2e, 0x99, 0x00, 0x07, 0x04, 0xa7, 0x00]
def LRX1_isThere_0 : List UInt8 := LBX1_isThere_0 ++ LRX1_isThere_1
set_option maxRecDepth 100000 in
theorem LBX1_isThere_eq : cX1_isThere.data.toList = LRX1_isThere_0 := by decide +kernel
theorem LBX1_isTherer_0 (k : Nat) : cX1_isThere.data.toList[0 + k]? = LRX1_isThere_0[k]? := by rw [LBX1_isThere_eq, Nat.zero_add]
theorem LBX1_isTherer_1 (k : Nat) : cX1_isThere.data.toList[16 + k]? = LRX1_isThere_1[k]? := by
  have h := LBX1_isTherer_0 (16 + k)
  rw [show 0 + (16 + k) = 16 + k by omega] at h
  rw [h]
  exact (List.getElem?_append_right (l₁ := LBX1_isThere_0) (l₂ := LRX1_isThere_1) (show 16 ≤ 16 + k by omega)).trans (congrArg (fun i => LRX1_isThere_1[i]?) (show 16 + k - 16 = k by omega))
theorem dX1_isThere_0 : decode cX1_isThere 0 = .ok (.aload_n 0, 1) := dk_42_ (show cX1_isThere.data.toList[0]? = some 0x2a from (LBX1_isTherer_0 0).trans (by decide +kernel))
theorem dX1_isThere_1 : decode cX1_isThere 1 = .ok (.getfield 25, 3) := dk_180_ (show cX1_isThere.data.toList[1]? = some 0xb4 from (LBX1_isTherer_0 1).trans (by decide +kernel)) (show cX1_isThere.data.toList[2]? = some 0x00 from (LBX1_isTherer_0 2).trans (by decide +kernel)) (show cX1_isThere.data.toList[3]? = some 0x19 from (LBX1_isTherer_0 3).trans (by decide +kernel)) (by decide)
theorem dX1_isThere_4 : decode cX1_isThere 4 = .ok (.iload_n 1, 1) := dk_27_ (show cX1_isThere.data.toList[4]? = some 0x1b from (LBX1_isTherer_0 4).trans (by decide +kernel))
theorem dX1_isThere_5 : decode cX1_isThere 5 = .ok (.iload_n 2, 1) := dk_28_ (show cX1_isThere.data.toList[5]? = some 0x1c from (LBX1_isTherer_0 5).trans (by decide +kernel))
theorem dX1_isThere_6 : decode cX1_isThere 6 = .ok (.invokestatic 61, 3) := dk_184_ (show cX1_isThere.data.toList[6]? = some 0xb8 from (LBX1_isTherer_0 6).trans (by decide +kernel)) (show cX1_isThere.data.toList[7]? = some 0x00 from (LBX1_isTherer_0 7).trans (by decide +kernel)) (show cX1_isThere.data.toList[8]? = some 0x3d from (LBX1_isTherer_0 8).trans (by decide +kernel)) (by decide)
theorem dX1_isThere_9 : decode cX1_isThere 9 = .ok (.iaload, 1) := dk_46_ (show cX1_isThere.data.toList[9]? = some 0x2e from (LBX1_isTherer_0 9).trans (by decide +kernel))
theorem dX1_isThere_10 : decode cX1_isThere 10 = .ok (.ifCond .eq 7, 3) := dk_153_ (show cX1_isThere.data.toList[10]? = some 0x99 from (LBX1_isTherer_0 10).trans (by decide +kernel)) (show cX1_isThere.data.toList[11]? = some 0x00 from (LBX1_isTherer_0 11).trans (by decide +kernel)) (show cX1_isThere.data.toList[12]? = some 0x07 from (LBX1_isTherer_0 12).trans (by decide +kernel)) (by decide)
theorem dX1_isThere_13 : decode cX1_isThere 13 = .ok (.iconst 1, 1) := dk_4_ (show cX1_isThere.data.toList[13]? = some 0x04 from (LBX1_isTherer_0 13).trans (by decide +kernel))
theorem dX1_isThere_14 : decode cX1_isThere 14 = .ok (.goto 4, 3) := dk_167_ (show cX1_isThere.data.toList[14]? = some 0xa7 from (LBX1_isTherer_0 14).trans (by decide +kernel)) (show cX1_isThere.data.toList[15]? = some 0x00 from (LBX1_isTherer_0 15).trans (by decide +kernel)) (show cX1_isThere.data.toList[16]? = some 0x04 from (LBX1_isTherer_1 0).trans (by decide +kernel)) (by decide)
theorem dX1_isThere_17 : decode cX1_isThere 17 = .ok (.iconst 0, 1) := dk_3_ (show cX1_isThere.data.toList[17]? = some 0x03 from (LBX1_isTherer_1 1).trans (by decide +kernel))
theorem dX1_isThere_18 : decode cX1_isThere 18 = .ok (.ireturn, 1) := dk_172_ (show cX1_isThere.data.toList[18]? = some 0xac from (LBX1_isTherer_1 2).trans (by decide +kernel))
def LRX1_isOpen_2 : List UInt8 := []
def LBX1_isOpen_1 : List UInt8 := [0x00, 0x04, 0x03, 0xac]
def LRX1_isOpen_1 : List UInt8 := LBX1_isOpen_1 ++ LRX1_isOpen_2
def LBX1_isOpen_0 : List UInt8 := [0x2a, 0xb4, 0x00, 0x19, 0x1b, 0x1c, 0xb8, 0x00, 0x3d, 0x2e, 0x04, 0xa0, 0x00, 0x07, 0x04, 0xa7]
def LRX1_isOpen_0 : List UInt8 := LBX1_isOpen_0 ++ LRX1_isOpen_1
set_option maxRecDepth 100000 in
theorem LBX1_isOpen_eq : cX1_isOpen.data.toList = LRX1_isOpen_0 := by decide +kernel
theorem LBX1_isOpenr_0 (k : Nat) : cX1_isOpen.data.toList[0 + k]? = LRX1_isOpen_0[k]? := by rw [LBX1_isOpen_eq, Nat.zero_add]
theorem LBX1_isOpenr_1 (k : Nat) : cX1_isOpen.data.toList[16 + k]? = LRX1_isOpen_1[k]? := by
  have h := LBX1_isOpenr_0 (16 + k)
  rw [show 0 + (16 + k) = 16 + k by omega] at h
  rw [h]
  exact (List.getElem?_append_right (l₁ := LBX1_isOpen_0) (l₂ := LRX1_isOpen_1) (show 16 ≤ 16 + k by omega)).trans (congrArg (fun i => LRX1_isOpen_1[i]?) (show 16 + k - 16 = k by omega))
theorem dX1_isOpen_0 : decode cX1_isOpen 0 = .ok (.aload_n 0, 1) := dk_42_ (show cX1_isOpen.data.toList[0]? = some 0x2a from (LBX1_isOpenr_0 0).trans (by decide +kernel))
theorem dX1_isOpen_1 : decode cX1_isOpen 1 = .ok (.getfield 25, 3) := dk_180_ (show cX1_isOpen.data.toList[1]? = some 0xb4 from (LBX1_isOpenr_0 1).trans (by decide +kernel)) (show cX1_isOpen.data.toList[2]? = some 0x00 from (LBX1_isOpenr_0 2).trans (by decide +kernel)) (show cX1_isOpen.data.toList[3]? = some 0x19 from (LBX1_isOpenr_0 3).trans (by decide +kernel)) (by decide)
theorem dX1_isOpen_4 : decode cX1_isOpen 4 = .ok (.iload_n 1, 1) := dk_27_ (show cX1_isOpen.data.toList[4]? = some 0x1b from (LBX1_isOpenr_0 4).trans (by decide +kernel))
theorem dX1_isOpen_5 : decode cX1_isOpen 5 = .ok (.iload_n 2, 1) := dk_28_ (show cX1_isOpen.data.toList[5]? = some 0x1c from (LBX1_isOpenr_0 5).trans (by decide +kernel))
theorem dX1_isOpen_6 : decode cX1_isOpen 6 = .ok (.invokestatic 61, 3) := dk_184_ (show cX1_isOpen.data.toList[6]? = some 0xb8 from (LBX1_isOpenr_0 6).trans (by decide +kernel)) (show cX1_isOpen.data.toList[7]? = some 0x00 from (LBX1_isOpenr_0 7).trans (by decide +kernel)) (show cX1_isOpen.data.toList[8]? = some 0x3d from (LBX1_isOpenr_0 8).trans (by decide +kernel)) (by decide)
theorem dX1_isOpen_9 : decode cX1_isOpen 9 = .ok (.iaload, 1) := dk_46_ (show cX1_isOpen.data.toList[9]? = some 0x2e from (LBX1_isOpenr_0 9).trans (by decide +kernel))
theorem dX1_isOpen_10 : decode cX1_isOpen 10 = .ok (.iconst 1, 1) := dk_4_ (show cX1_isOpen.data.toList[10]? = some 0x04 from (LBX1_isOpenr_0 10).trans (by decide +kernel))
theorem dX1_isOpen_11 : decode cX1_isOpen 11 = .ok (.if_icmp .ne 7, 3) := dk_160_ (show cX1_isOpen.data.toList[11]? = some 0xa0 from (LBX1_isOpenr_0 11).trans (by decide +kernel)) (show cX1_isOpen.data.toList[12]? = some 0x00 from (LBX1_isOpenr_0 12).trans (by decide +kernel)) (show cX1_isOpen.data.toList[13]? = some 0x07 from (LBX1_isOpenr_0 13).trans (by decide +kernel)) (by decide)
theorem dX1_isOpen_14 : decode cX1_isOpen 14 = .ok (.iconst 1, 1) := dk_4_ (show cX1_isOpen.data.toList[14]? = some 0x04 from (LBX1_isOpenr_0 14).trans (by decide +kernel))
theorem dX1_isOpen_15 : decode cX1_isOpen 15 = .ok (.goto 4, 3) := dk_167_ (show cX1_isOpen.data.toList[15]? = some 0xa7 from (LBX1_isOpenr_0 15).trans (by decide +kernel)) (show cX1_isOpen.data.toList[16]? = some 0x00 from (LBX1_isOpenr_1 0).trans (by decide +kernel)) (show cX1_isOpen.data.toList[17]? = some 0x04 from (LBX1_isOpenr_1 1).trans (by decide +kernel)) (by decide)
theorem dX1_isOpen_18 : decode cX1_isOpen 18 = .ok (.iconst 0, 1) := dk_3_ (show cX1_isOpen.data.toList[18]? = some 0x03 from (LBX1_isOpenr_1 2).trans (by decide +kernel))
theorem dX1_isOpen_19 : decode cX1_isOpen 19 = .ok (.ireturn, 1) := dk_172_ (show cX1_isOpen.data.toList[19]? = some 0xac from (LBX1_isOpenr_1 3).trans (by decide +kernel))
theorem dX1_lowOf_0 : decode cX1_lowOf 0 = .ok (.aload_n 0, 1) := dk_42_ (show cX1_lowOf.data.toList[0]? = some 0x2a from by decide +kernel)
theorem dX1_lowOf_1 : decode cX1_lowOf 1 = .ok (.getfield 19, 3) := dk_180_ (show cX1_lowOf.data.toList[1]? = some 0xb4 from by decide +kernel) (show cX1_lowOf.data.toList[2]? = some 0x00 from by decide +kernel) (show cX1_lowOf.data.toList[3]? = some 0x13 from by decide +kernel) (by decide)
theorem dX1_lowOf_4 : decode cX1_lowOf 4 = .ok (.iload_n 1, 1) := dk_27_ (show cX1_lowOf.data.toList[4]? = some 0x1b from by decide +kernel)
theorem dX1_lowOf_5 : decode cX1_lowOf 5 = .ok (.iload_n 2, 1) := dk_28_ (show cX1_lowOf.data.toList[5]? = some 0x1c from by decide +kernel)
theorem dX1_lowOf_6 : decode cX1_lowOf 6 = .ok (.invokestatic 61, 3) := dk_184_ (show cX1_lowOf.data.toList[6]? = some 0xb8 from by decide +kernel) (show cX1_lowOf.data.toList[7]? = some 0x00 from by decide +kernel) (show cX1_lowOf.data.toList[8]? = some 0x3d from by decide +kernel) (by decide)
theorem dX1_lowOf_9 : decode cX1_lowOf 9 = .ok (.iaload, 1) := dk_46_ (show cX1_lowOf.data.toList[9]? = some 0x2e from by decide +kernel)
theorem dX1_lowOf_10 : decode cX1_lowOf 10 = .ok (.ireturn, 1) := dk_172_ (show cX1_lowOf.data.toList[10]? = some 0xac from by decide +kernel)
theorem dX1_highOf_0 : decode cX1_highOf 0 = .ok (.aload_n 0, 1) := dk_42_ (show cX1_highOf.data.toList[0]? = some 0x2a from by decide +kernel)
theorem dX1_highOf_1 : decode cX1_highOf 1 = .ok (.getfield 22, 3) := dk_180_ (show cX1_highOf.data.toList[1]? = some 0xb4 from by decide +kernel) (show cX1_highOf.data.toList[2]? = some 0x00 from by decide +kernel) (show cX1_highOf.data.toList[3]? = some 0x16 from by decide +kernel) (by decide)
theorem dX1_highOf_4 : decode cX1_highOf 4 = .ok (.iload_n 1, 1) := dk_27_ (show cX1_highOf.data.toList[4]? = some 0x1b from by decide +kernel)
theorem dX1_highOf_5 : decode cX1_highOf 5 = .ok (.iload_n 2, 1) := dk_28_ (show cX1_highOf.data.toList[5]? = some 0x1c from by decide +kernel)
theorem dX1_highOf_6 : decode cX1_highOf 6 = .ok (.invokestatic 61, 3) := dk_184_ (show cX1_highOf.data.toList[6]? = some 0xb8 from by decide +kernel) (show cX1_highOf.data.toList[7]? = some 0x00 from by decide +kernel) (show cX1_highOf.data.toList[8]? = some 0x3d from by decide +kernel) (by decide)
theorem dX1_highOf_9 : decode cX1_highOf 9 = .ok (.iaload, 1) := dk_46_ (show cX1_highOf.data.toList[9]? = some 0x2e from by decide +kernel)
theorem dX1_highOf_10 : decode cX1_highOf 10 = .ok (.ireturn, 1) := dk_172_ (show cX1_highOf.data.toList[10]? = some 0xac from by decide +kernel)
def LRX1_areBothWays_2 : List UInt8 := []
def LBX1_areBothWays_1 : List UInt8 := [0x00, 0x07, 0x04, 0xa7, 0x00, 0x04, 0x03, 0xac]
def LRX1_areBothWays_1 : List UInt8 := LBX1_areBothWays_1 ++ LRX1_areBothWays_2
def LBX1_areBothWays_0 : List UInt8 := [0x2a, 0x1b, 0x1c, 0xb6, 0x00, 0x41, 0x99, 0x00, 0x10, 0x2a, 0x1c, 0x1b, 0xb6, 0x00, 0x41, 0x99]
def LRX1_areBothWays_0 : List UInt8 := LBX1_areBothWays_0 ++ LRX1_areBothWays_1
set_option maxRecDepth 100000 in
theorem LBX1_areBothWays_eq : cX1_areBothWays.data.toList = LRX1_areBothWays_0 := by decide +kernel
theorem LBX1_areBothWaysr_0 (k : Nat) : cX1_areBothWays.data.toList[0 + k]? = LRX1_areBothWays_0[k]? := by rw [LBX1_areBothWays_eq, Nat.zero_add]
theorem LBX1_areBothWaysr_1 (k : Nat) : cX1_areBothWays.data.toList[16 + k]? = LRX1_areBothWays_1[k]? := by
  have h := LBX1_areBothWaysr_0 (16 + k)
  rw [show 0 + (16 + k) = 16 + k by omega] at h
  rw [h]
  exact (List.getElem?_append_right (l₁ := LBX1_areBothWays_0) (l₂ := LRX1_areBothWays_1) (show 16 ≤ 16 + k by omega)).trans (congrArg (fun i => LRX1_areBothWays_1[i]?) (show 16 + k - 16 = k by omega))
theorem dX1_areBothWays_0 : decode cX1_areBothWays 0 = .ok (.aload_n 0, 1) := dk_42_ (show cX1_areBothWays.data.toList[0]? = some 0x2a from (LBX1_areBothWaysr_0 0).trans (by decide +kernel))
theorem dX1_areBothWays_1 : decode cX1_areBothWays 1 = .ok (.iload_n 1, 1) := dk_27_ (show cX1_areBothWays.data.toList[1]? = some 0x1b from (LBX1_areBothWaysr_0 1).trans (by decide +kernel))
theorem dX1_areBothWays_2 : decode cX1_areBothWays 2 = .ok (.iload_n 2, 1) := dk_28_ (show cX1_areBothWays.data.toList[2]? = some 0x1c from (LBX1_areBothWaysr_0 2).trans (by decide +kernel))
theorem dX1_areBothWays_3 : decode cX1_areBothWays 3 = .ok (.invokevirtual 65, 3) := dk_182_ (show cX1_areBothWays.data.toList[3]? = some 0xb6 from (LBX1_areBothWaysr_0 3).trans (by decide +kernel)) (show cX1_areBothWays.data.toList[4]? = some 0x00 from (LBX1_areBothWaysr_0 4).trans (by decide +kernel)) (show cX1_areBothWays.data.toList[5]? = some 0x41 from (LBX1_areBothWaysr_0 5).trans (by decide +kernel)) (by decide)
theorem dX1_areBothWays_6 : decode cX1_areBothWays 6 = .ok (.ifCond .eq 16, 3) := dk_153_ (show cX1_areBothWays.data.toList[6]? = some 0x99 from (LBX1_areBothWaysr_0 6).trans (by decide +kernel)) (show cX1_areBothWays.data.toList[7]? = some 0x00 from (LBX1_areBothWaysr_0 7).trans (by decide +kernel)) (show cX1_areBothWays.data.toList[8]? = some 0x10 from (LBX1_areBothWaysr_0 8).trans (by decide +kernel)) (by decide)
theorem dX1_areBothWays_9 : decode cX1_areBothWays 9 = .ok (.aload_n 0, 1) := dk_42_ (show cX1_areBothWays.data.toList[9]? = some 0x2a from (LBX1_areBothWaysr_0 9).trans (by decide +kernel))
theorem dX1_areBothWays_10 : decode cX1_areBothWays 10 = .ok (.iload_n 2, 1) := dk_28_ (show cX1_areBothWays.data.toList[10]? = some 0x1c from (LBX1_areBothWaysr_0 10).trans (by decide +kernel))
theorem dX1_areBothWays_11 : decode cX1_areBothWays 11 = .ok (.iload_n 1, 1) := dk_27_ (show cX1_areBothWays.data.toList[11]? = some 0x1b from (LBX1_areBothWaysr_0 11).trans (by decide +kernel))
theorem dX1_areBothWays_12 : decode cX1_areBothWays 12 = .ok (.invokevirtual 65, 3) := dk_182_ (show cX1_areBothWays.data.toList[12]? = some 0xb6 from (LBX1_areBothWaysr_0 12).trans (by decide +kernel)) (show cX1_areBothWays.data.toList[13]? = some 0x00 from (LBX1_areBothWaysr_0 13).trans (by decide +kernel)) (show cX1_areBothWays.data.toList[14]? = some 0x41 from (LBX1_areBothWaysr_0 14).trans (by decide +kernel)) (by decide)
theorem dX1_areBothWays_15 : decode cX1_areBothWays 15 = .ok (.ifCond .eq 7, 3) := dk_153_ (show cX1_areBothWays.data.toList[15]? = some 0x99 from (LBX1_areBothWaysr_0 15).trans (by decide +kernel)) (show cX1_areBothWays.data.toList[16]? = some 0x00 from (LBX1_areBothWaysr_1 0).trans (by decide +kernel)) (show cX1_areBothWays.data.toList[17]? = some 0x07 from (LBX1_areBothWaysr_1 1).trans (by decide +kernel)) (by decide)
theorem dX1_areBothWays_18 : decode cX1_areBothWays 18 = .ok (.iconst 1, 1) := dk_4_ (show cX1_areBothWays.data.toList[18]? = some 0x04 from (LBX1_areBothWaysr_1 2).trans (by decide +kernel))
theorem dX1_areBothWays_19 : decode cX1_areBothWays 19 = .ok (.goto 4, 3) := dk_167_ (show cX1_areBothWays.data.toList[19]? = some 0xa7 from (LBX1_areBothWaysr_1 3).trans (by decide +kernel)) (show cX1_areBothWays.data.toList[20]? = some 0x00 from (LBX1_areBothWaysr_1 4).trans (by decide +kernel)) (show cX1_areBothWays.data.toList[21]? = some 0x04 from (LBX1_areBothWaysr_1 5).trans (by decide +kernel)) (by decide)
theorem dX1_areBothWays_22 : decode cX1_areBothWays 22 = .ok (.iconst 0, 1) := dk_3_ (show cX1_areBothWays.data.toList[22]? = some 0x03 from (LBX1_areBothWaysr_1 6).trans (by decide +kernel))
theorem dX1_areBothWays_23 : decode cX1_areBothWays 23 = .ok (.ireturn, 1) := dk_172_ (show cX1_areBothWays.data.toList[23]? = some 0xac from (LBX1_areBothWaysr_1 7).trans (by decide +kernel))
def LRX1_addPlace_2 : List UInt8 := []
def LBX1_addPlace_1 : List UInt8 := [0xb4, 0x00, 0x0f, 0x1c, 0x1b, 0x4f, 0x1c, 0xac]
def LRX1_addPlace_1 : List UInt8 := LBX1_addPlace_1 ++ LRX1_addPlace_2
def LBX1_addPlace_0 : List UInt8 := [0x2a, 0xb4, 0x00, 0x09, 0x3d, 0x2a, 0x59, 0xb4, 0x00, 0x09, 0x04, 0x60, 0xb5, 0x00, 0x09, 0x2a]
def LRX1_addPlace_0 : List UInt8 := LBX1_addPlace_0 ++ LRX1_addPlace_1
set_option maxRecDepth 100000 in
theorem LBX1_addPlace_eq : cX1_addPlace.data.toList = LRX1_addPlace_0 := by decide +kernel
theorem LBX1_addPlacer_0 (k : Nat) : cX1_addPlace.data.toList[0 + k]? = LRX1_addPlace_0[k]? := by rw [LBX1_addPlace_eq, Nat.zero_add]
theorem LBX1_addPlacer_1 (k : Nat) : cX1_addPlace.data.toList[16 + k]? = LRX1_addPlace_1[k]? := by
  have h := LBX1_addPlacer_0 (16 + k)
  rw [show 0 + (16 + k) = 16 + k by omega] at h
  rw [h]
  exact (List.getElem?_append_right (l₁ := LBX1_addPlace_0) (l₂ := LRX1_addPlace_1) (show 16 ≤ 16 + k by omega)).trans (congrArg (fun i => LRX1_addPlace_1[i]?) (show 16 + k - 16 = k by omega))
theorem dX1_addPlace_0 : decode cX1_addPlace 0 = .ok (.aload_n 0, 1) := dk_42_ (show cX1_addPlace.data.toList[0]? = some 0x2a from (LBX1_addPlacer_0 0).trans (by decide +kernel))
theorem dX1_addPlace_1 : decode cX1_addPlace 1 = .ok (.getfield 9, 3) := dk_180_ (show cX1_addPlace.data.toList[1]? = some 0xb4 from (LBX1_addPlacer_0 1).trans (by decide +kernel)) (show cX1_addPlace.data.toList[2]? = some 0x00 from (LBX1_addPlacer_0 2).trans (by decide +kernel)) (show cX1_addPlace.data.toList[3]? = some 0x09 from (LBX1_addPlacer_0 3).trans (by decide +kernel)) (by decide)
theorem dX1_addPlace_4 : decode cX1_addPlace 4 = .ok (.istore_n 2, 1) := dk_61_ (show cX1_addPlace.data.toList[4]? = some 0x3d from (LBX1_addPlacer_0 4).trans (by decide +kernel))
theorem dX1_addPlace_5 : decode cX1_addPlace 5 = .ok (.aload_n 0, 1) := dk_42_ (show cX1_addPlace.data.toList[5]? = some 0x2a from (LBX1_addPlacer_0 5).trans (by decide +kernel))
theorem dX1_addPlace_6 : decode cX1_addPlace 6 = .ok (.dup, 1) := dk_89_ (show cX1_addPlace.data.toList[6]? = some 0x59 from (LBX1_addPlacer_0 6).trans (by decide +kernel))
theorem dX1_addPlace_7 : decode cX1_addPlace 7 = .ok (.getfield 9, 3) := dk_180_ (show cX1_addPlace.data.toList[7]? = some 0xb4 from (LBX1_addPlacer_0 7).trans (by decide +kernel)) (show cX1_addPlace.data.toList[8]? = some 0x00 from (LBX1_addPlacer_0 8).trans (by decide +kernel)) (show cX1_addPlace.data.toList[9]? = some 0x09 from (LBX1_addPlacer_0 9).trans (by decide +kernel)) (by decide)
theorem dX1_addPlace_10 : decode cX1_addPlace 10 = .ok (.iconst 1, 1) := dk_4_ (show cX1_addPlace.data.toList[10]? = some 0x04 from (LBX1_addPlacer_0 10).trans (by decide +kernel))
theorem dX1_addPlace_11 : decode cX1_addPlace 11 = .ok (.iadd, 1) := dk_96_ (show cX1_addPlace.data.toList[11]? = some 0x60 from (LBX1_addPlacer_0 11).trans (by decide +kernel))
theorem dX1_addPlace_12 : decode cX1_addPlace 12 = .ok (.putfield 9, 3) := dk_181_ (show cX1_addPlace.data.toList[12]? = some 0xb5 from (LBX1_addPlacer_0 12).trans (by decide +kernel)) (show cX1_addPlace.data.toList[13]? = some 0x00 from (LBX1_addPlacer_0 13).trans (by decide +kernel)) (show cX1_addPlace.data.toList[14]? = some 0x09 from (LBX1_addPlacer_0 14).trans (by decide +kernel)) (by decide)
theorem dX1_addPlace_15 : decode cX1_addPlace 15 = .ok (.aload_n 0, 1) := dk_42_ (show cX1_addPlace.data.toList[15]? = some 0x2a from (LBX1_addPlacer_0 15).trans (by decide +kernel))
theorem dX1_addPlace_16 : decode cX1_addPlace 16 = .ok (.getfield 15, 3) := dk_180_ (show cX1_addPlace.data.toList[16]? = some 0xb4 from (LBX1_addPlacer_1 0).trans (by decide +kernel)) (show cX1_addPlace.data.toList[17]? = some 0x00 from (LBX1_addPlacer_1 1).trans (by decide +kernel)) (show cX1_addPlace.data.toList[18]? = some 0x0f from (LBX1_addPlacer_1 2).trans (by decide +kernel)) (by decide)
theorem dX1_addPlace_19 : decode cX1_addPlace 19 = .ok (.iload_n 2, 1) := dk_28_ (show cX1_addPlace.data.toList[19]? = some 0x1c from (LBX1_addPlacer_1 3).trans (by decide +kernel))
theorem dX1_addPlace_20 : decode cX1_addPlace 20 = .ok (.iload_n 1, 1) := dk_27_ (show cX1_addPlace.data.toList[20]? = some 0x1b from (LBX1_addPlacer_1 4).trans (by decide +kernel))
theorem dX1_addPlace_21 : decode cX1_addPlace 21 = .ok (.iastore, 1) := dk_79_ (show cX1_addPlace.data.toList[21]? = some 0x4f from (LBX1_addPlacer_1 5).trans (by decide +kernel))
theorem dX1_addPlace_22 : decode cX1_addPlace 22 = .ok (.iload_n 2, 1) := dk_28_ (show cX1_addPlace.data.toList[22]? = some 0x1c from (LBX1_addPlacer_1 6).trans (by decide +kernel))
theorem dX1_addPlace_23 : decode cX1_addPlace 23 = .ok (.ireturn, 1) := dk_172_ (show cX1_addPlace.data.toList[23]? = some 0xac from (LBX1_addPlacer_1 7).trans (by decide +kernel))
def LRX1_setWay_3 : List UInt8 := []
def LBX1_setWay_2 : List UInt8 := [0xb1]
def LRX1_setWay_2 : List UInt8 := LBX1_setWay_2 ++ LRX1_setWay_3
def LBX1_setWay_1 : List UInt8 := [0xb4, 0x00, 0x16, 0x15, 0x05, 0x15, 0x04, 0x4f, 0x2a, 0xb4, 0x00, 0x19, 0x15, 0x05, 0x04, 0x4f]
def LRX1_setWay_1 : List UInt8 := LBX1_setWay_1 ++ LRX1_setWay_2
def LBX1_setWay_0 : List UInt8 := [0x1b, 0x1c, 0xb8, 0x00, 0x3d, 0x36, 0x05, 0x2a, 0xb4, 0x00, 0x13, 0x15, 0x05, 0x1d, 0x4f, 0x2a]
def LRX1_setWay_0 : List UInt8 := LBX1_setWay_0 ++ LRX1_setWay_1
set_option maxRecDepth 100000 in
theorem LBX1_setWay_eq : cX1_setWay.data.toList = LRX1_setWay_0 := by decide +kernel
theorem LBX1_setWayr_0 (k : Nat) : cX1_setWay.data.toList[0 + k]? = LRX1_setWay_0[k]? := by rw [LBX1_setWay_eq, Nat.zero_add]
theorem LBX1_setWayr_1 (k : Nat) : cX1_setWay.data.toList[16 + k]? = LRX1_setWay_1[k]? := by
  have h := LBX1_setWayr_0 (16 + k)
  rw [show 0 + (16 + k) = 16 + k by omega] at h
  rw [h]
  exact (List.getElem?_append_right (l₁ := LBX1_setWay_0) (l₂ := LRX1_setWay_1) (show 16 ≤ 16 + k by omega)).trans (congrArg (fun i => LRX1_setWay_1[i]?) (show 16 + k - 16 = k by omega))
theorem LBX1_setWayr_2 (k : Nat) : cX1_setWay.data.toList[32 + k]? = LRX1_setWay_2[k]? := by
  have h := LBX1_setWayr_1 (16 + k)
  rw [show 16 + (16 + k) = 32 + k by omega] at h
  rw [h]
  exact (List.getElem?_append_right (l₁ := LBX1_setWay_1) (l₂ := LRX1_setWay_2) (show 16 ≤ 16 + k by omega)).trans (congrArg (fun i => LRX1_setWay_2[i]?) (show 16 + k - 16 = k by omega))
theorem dX1_setWay_0 : decode cX1_setWay 0 = .ok (.iload_n 1, 1) := dk_27_ (show cX1_setWay.data.toList[0]? = some 0x1b from (LBX1_setWayr_0 0).trans (by decide +kernel))
theorem dX1_setWay_1 : decode cX1_setWay 1 = .ok (.iload_n 2, 1) := dk_28_ (show cX1_setWay.data.toList[1]? = some 0x1c from (LBX1_setWayr_0 1).trans (by decide +kernel))
theorem dX1_setWay_2 : decode cX1_setWay 2 = .ok (.invokestatic 61, 3) := dk_184_ (show cX1_setWay.data.toList[2]? = some 0xb8 from (LBX1_setWayr_0 2).trans (by decide +kernel)) (show cX1_setWay.data.toList[3]? = some 0x00 from (LBX1_setWayr_0 3).trans (by decide +kernel)) (show cX1_setWay.data.toList[4]? = some 0x3d from (LBX1_setWayr_0 4).trans (by decide +kernel)) (by decide)
theorem dX1_setWay_5 : decode cX1_setWay 5 = .ok (.istore 5, 2) := dk_54_ (show cX1_setWay.data.toList[5]? = some 0x36 from (LBX1_setWayr_0 5).trans (by decide +kernel)) (show cX1_setWay.data.toList[6]? = some 0x05 from (LBX1_setWayr_0 6).trans (by decide +kernel)) (by decide)
theorem dX1_setWay_7 : decode cX1_setWay 7 = .ok (.aload_n 0, 1) := dk_42_ (show cX1_setWay.data.toList[7]? = some 0x2a from (LBX1_setWayr_0 7).trans (by decide +kernel))
theorem dX1_setWay_8 : decode cX1_setWay 8 = .ok (.getfield 19, 3) := dk_180_ (show cX1_setWay.data.toList[8]? = some 0xb4 from (LBX1_setWayr_0 8).trans (by decide +kernel)) (show cX1_setWay.data.toList[9]? = some 0x00 from (LBX1_setWayr_0 9).trans (by decide +kernel)) (show cX1_setWay.data.toList[10]? = some 0x13 from (LBX1_setWayr_0 10).trans (by decide +kernel)) (by decide)
theorem dX1_setWay_11 : decode cX1_setWay 11 = .ok (.iload 5, 2) := dk_21_ (show cX1_setWay.data.toList[11]? = some 0x15 from (LBX1_setWayr_0 11).trans (by decide +kernel)) (show cX1_setWay.data.toList[12]? = some 0x05 from (LBX1_setWayr_0 12).trans (by decide +kernel)) (by decide)
theorem dX1_setWay_13 : decode cX1_setWay 13 = .ok (.iload_n 3, 1) := dk_29_ (show cX1_setWay.data.toList[13]? = some 0x1d from (LBX1_setWayr_0 13).trans (by decide +kernel))
theorem dX1_setWay_14 : decode cX1_setWay 14 = .ok (.iastore, 1) := dk_79_ (show cX1_setWay.data.toList[14]? = some 0x4f from (LBX1_setWayr_0 14).trans (by decide +kernel))
theorem dX1_setWay_15 : decode cX1_setWay 15 = .ok (.aload_n 0, 1) := dk_42_ (show cX1_setWay.data.toList[15]? = some 0x2a from (LBX1_setWayr_0 15).trans (by decide +kernel))
theorem dX1_setWay_16 : decode cX1_setWay 16 = .ok (.getfield 22, 3) := dk_180_ (show cX1_setWay.data.toList[16]? = some 0xb4 from (LBX1_setWayr_1 0).trans (by decide +kernel)) (show cX1_setWay.data.toList[17]? = some 0x00 from (LBX1_setWayr_1 1).trans (by decide +kernel)) (show cX1_setWay.data.toList[18]? = some 0x16 from (LBX1_setWayr_1 2).trans (by decide +kernel)) (by decide)
theorem dX1_setWay_19 : decode cX1_setWay 19 = .ok (.iload 5, 2) := dk_21_ (show cX1_setWay.data.toList[19]? = some 0x15 from (LBX1_setWayr_1 3).trans (by decide +kernel)) (show cX1_setWay.data.toList[20]? = some 0x05 from (LBX1_setWayr_1 4).trans (by decide +kernel)) (by decide)
theorem dX1_setWay_21 : decode cX1_setWay 21 = .ok (.iload 4, 2) := dk_21_ (show cX1_setWay.data.toList[21]? = some 0x15 from (LBX1_setWayr_1 5).trans (by decide +kernel)) (show cX1_setWay.data.toList[22]? = some 0x04 from (LBX1_setWayr_1 6).trans (by decide +kernel)) (by decide)
theorem dX1_setWay_23 : decode cX1_setWay 23 = .ok (.iastore, 1) := dk_79_ (show cX1_setWay.data.toList[23]? = some 0x4f from (LBX1_setWayr_1 7).trans (by decide +kernel))
theorem dX1_setWay_24 : decode cX1_setWay 24 = .ok (.aload_n 0, 1) := dk_42_ (show cX1_setWay.data.toList[24]? = some 0x2a from (LBX1_setWayr_1 8).trans (by decide +kernel))
theorem dX1_setWay_25 : decode cX1_setWay 25 = .ok (.getfield 25, 3) := dk_180_ (show cX1_setWay.data.toList[25]? = some 0xb4 from (LBX1_setWayr_1 9).trans (by decide +kernel)) (show cX1_setWay.data.toList[26]? = some 0x00 from (LBX1_setWayr_1 10).trans (by decide +kernel)) (show cX1_setWay.data.toList[27]? = some 0x19 from (LBX1_setWayr_1 11).trans (by decide +kernel)) (by decide)
theorem dX1_setWay_28 : decode cX1_setWay 28 = .ok (.iload 5, 2) := dk_21_ (show cX1_setWay.data.toList[28]? = some 0x15 from (LBX1_setWayr_1 12).trans (by decide +kernel)) (show cX1_setWay.data.toList[29]? = some 0x05 from (LBX1_setWayr_1 13).trans (by decide +kernel)) (by decide)
theorem dX1_setWay_30 : decode cX1_setWay 30 = .ok (.iconst 1, 1) := dk_4_ (show cX1_setWay.data.toList[30]? = some 0x04 from (LBX1_setWayr_1 14).trans (by decide +kernel))
theorem dX1_setWay_31 : decode cX1_setWay 31 = .ok (.iastore, 1) := dk_79_ (show cX1_setWay.data.toList[31]? = some 0x4f from (LBX1_setWayr_1 15).trans (by decide +kernel))
theorem dX1_setWay_32 : decode cX1_setWay 32 = .ok (.return_, 1) := dk_177_ (show cX1_setWay.data.toList[32]? = some 0xb1 from (LBX1_setWayr_2 0).trans (by decide +kernel))
def LRX1_setShut_2 : List UInt8 := []
def LBX1_setShut_1 : List UInt8 := [0x04, 0x04, 0x4f, 0xb1]
def LRX1_setShut_1 : List UInt8 := LBX1_setShut_1 ++ LRX1_setShut_2
def LBX1_setShut_0 : List UInt8 := [0x2a, 0xb4, 0x00, 0x19, 0x1b, 0x1c, 0xb8, 0x00, 0x3d, 0x1d, 0x99, 0x00, 0x07, 0x05, 0xa7, 0x00]
def LRX1_setShut_0 : List UInt8 := LBX1_setShut_0 ++ LRX1_setShut_1
set_option maxRecDepth 100000 in
theorem LBX1_setShut_eq : cX1_setShut.data.toList = LRX1_setShut_0 := by decide +kernel
theorem LBX1_setShutr_0 (k : Nat) : cX1_setShut.data.toList[0 + k]? = LRX1_setShut_0[k]? := by rw [LBX1_setShut_eq, Nat.zero_add]
theorem LBX1_setShutr_1 (k : Nat) : cX1_setShut.data.toList[16 + k]? = LRX1_setShut_1[k]? := by
  have h := LBX1_setShutr_0 (16 + k)
  rw [show 0 + (16 + k) = 16 + k by omega] at h
  rw [h]
  exact (List.getElem?_append_right (l₁ := LBX1_setShut_0) (l₂ := LRX1_setShut_1) (show 16 ≤ 16 + k by omega)).trans (congrArg (fun i => LRX1_setShut_1[i]?) (show 16 + k - 16 = k by omega))
theorem dX1_setShut_0 : decode cX1_setShut 0 = .ok (.aload_n 0, 1) := dk_42_ (show cX1_setShut.data.toList[0]? = some 0x2a from (LBX1_setShutr_0 0).trans (by decide +kernel))
theorem dX1_setShut_1 : decode cX1_setShut 1 = .ok (.getfield 25, 3) := dk_180_ (show cX1_setShut.data.toList[1]? = some 0xb4 from (LBX1_setShutr_0 1).trans (by decide +kernel)) (show cX1_setShut.data.toList[2]? = some 0x00 from (LBX1_setShutr_0 2).trans (by decide +kernel)) (show cX1_setShut.data.toList[3]? = some 0x19 from (LBX1_setShutr_0 3).trans (by decide +kernel)) (by decide)
theorem dX1_setShut_4 : decode cX1_setShut 4 = .ok (.iload_n 1, 1) := dk_27_ (show cX1_setShut.data.toList[4]? = some 0x1b from (LBX1_setShutr_0 4).trans (by decide +kernel))
theorem dX1_setShut_5 : decode cX1_setShut 5 = .ok (.iload_n 2, 1) := dk_28_ (show cX1_setShut.data.toList[5]? = some 0x1c from (LBX1_setShutr_0 5).trans (by decide +kernel))
theorem dX1_setShut_6 : decode cX1_setShut 6 = .ok (.invokestatic 61, 3) := dk_184_ (show cX1_setShut.data.toList[6]? = some 0xb8 from (LBX1_setShutr_0 6).trans (by decide +kernel)) (show cX1_setShut.data.toList[7]? = some 0x00 from (LBX1_setShutr_0 7).trans (by decide +kernel)) (show cX1_setShut.data.toList[8]? = some 0x3d from (LBX1_setShutr_0 8).trans (by decide +kernel)) (by decide)
theorem dX1_setShut_9 : decode cX1_setShut 9 = .ok (.iload_n 3, 1) := dk_29_ (show cX1_setShut.data.toList[9]? = some 0x1d from (LBX1_setShutr_0 9).trans (by decide +kernel))
theorem dX1_setShut_10 : decode cX1_setShut 10 = .ok (.ifCond .eq 7, 3) := dk_153_ (show cX1_setShut.data.toList[10]? = some 0x99 from (LBX1_setShutr_0 10).trans (by decide +kernel)) (show cX1_setShut.data.toList[11]? = some 0x00 from (LBX1_setShutr_0 11).trans (by decide +kernel)) (show cX1_setShut.data.toList[12]? = some 0x07 from (LBX1_setShutr_0 12).trans (by decide +kernel)) (by decide)
theorem dX1_setShut_13 : decode cX1_setShut 13 = .ok (.iconst 2, 1) := dk_5_ (show cX1_setShut.data.toList[13]? = some 0x05 from (LBX1_setShutr_0 13).trans (by decide +kernel))
theorem dX1_setShut_14 : decode cX1_setShut 14 = .ok (.goto 4, 3) := dk_167_ (show cX1_setShut.data.toList[14]? = some 0xa7 from (LBX1_setShutr_0 14).trans (by decide +kernel)) (show cX1_setShut.data.toList[15]? = some 0x00 from (LBX1_setShutr_0 15).trans (by decide +kernel)) (show cX1_setShut.data.toList[16]? = some 0x04 from (LBX1_setShutr_1 0).trans (by decide +kernel)) (by decide)
theorem dX1_setShut_17 : decode cX1_setShut 17 = .ok (.iconst 1, 1) := dk_4_ (show cX1_setShut.data.toList[17]? = some 0x04 from (LBX1_setShutr_1 1).trans (by decide +kernel))
theorem dX1_setShut_18 : decode cX1_setShut 18 = .ok (.iastore, 1) := dk_79_ (show cX1_setShut.data.toList[18]? = some 0x4f from (LBX1_setShutr_1 2).trans (by decide +kernel))
theorem dX1_setShut_19 : decode cX1_setShut 19 = .ok (.return_, 1) := dk_177_ (show cX1_setShut.data.toList[19]? = some 0xb1 from (LBX1_setShutr_1 3).trans (by decide +kernel))
theorem uw0 : Cond.methodLink RX8 91 yX8_isWithin ∈ wsU := ut2 (List.mem_of_getElem? (i := 28) rfl) rfl
theorem uw1 : Cond.static yX8_isWithin ∈ wsU := ut2 (List.mem_of_getElem? (i := 29) rfl) rfl
theorem uw2 : Cond.initialized yX8_isWithin.cls ∈ wsU := ut1 (List.mem_of_getElem? (i := 1) rfl) rfl
theorem uw3 : Cond.code yX8_isWithin cX8_isWithin 3 (some .boolean) ∈ wsU := ut2 (List.mem_of_getElem? (i := 30) rfl) rfl
theorem uw4 : Cond.constant RX8 154 1000000000 ∈ wsU := ut2 (List.mem_of_getElem? (i := 108) rfl) rfl
theorem uw5 : Cond.fieldLink RX1 9 "LongerBack$Land" "places" "I" ∈ wsU := ut1 (List.mem_of_getElem? (i := 54) rfl) rfl
theorem uw6 : Cond.lays RX1 "LongerBack$Land" "places" "I" ∈ wsU := ut1 (List.mem_of_getElem? (i := 83) rfl) rfl
theorem uw7 : Cond.laysFinal RX1 "LongerBack$Land" "errands" "[I" ∈ wsU := ut1 (List.mem_of_getElem? (i := 85) rfl) rfl
theorem uw8 : Cond.laysFinal RX1 "LongerBack$Land" "low" "[I" ∈ wsU := ut1 (List.mem_of_getElem? (i := 87) rfl) rfl
theorem uw9 : Cond.laysFinal RX1 "LongerBack$Land" "high" "[I" ∈ wsU := ut1 (List.mem_of_getElem? (i := 89) rfl) rfl
theorem uw10 : Cond.laysFinal RX1 "LongerBack$Land" "doors" "[I" ∈ wsU := ut1 (List.mem_of_getElem? (i := 91) rfl) rfl
theorem uw11 : Cond.laysFinal RX1 "LongerBack$Land" "rounds" "LLongerBack$Rows;" ∈ wsU := ut1 (List.mem_of_getElem? (i := 93) rfl) rfl
theorem uw12 : Cond.laysFinal RX1 "LongerBack$Land" "kinds" "[I" ∈ wsU := ut1 (List.mem_of_getElem? (i := 95) rfl) rfl
theorem uw13 : Cond.laysFinal RX1 "LongerBack$Land" "walks" "LLongerBack$Rows;" ∈ wsU := ut1 (List.mem_of_getElem? (i := 97) rfl) rfl
theorem uw14 : Cond.laysFinal RX1 "LongerBack$Land" "totals" "[I" ∈ wsU := ut1 (List.mem_of_getElem? (i := 99) rfl) rfl
theorem uw15 : Cond.laysFinal RX1 "LongerBack$Land" "slacks" "[I" ∈ wsU := ut1 (List.mem_of_getElem? (i := 101) rfl) rfl
theorem uw16 : Cond.methodLink RX1 57 yX1_isPlace ∈ wsU := ut2 (List.mem_of_getElem? (i := 39) rfl) rfl
theorem uw17 : Cond.instanceMethod yX1_isPlace ∈ wsU := ut2 (List.mem_of_getElem? (i := 25) rfl) rfl
theorem uw18 : Cond.selects RX1 yX1_isPlace yX1_isPlace ∈ wsU := ut2 (List.mem_of_getElem? (i := 26) rfl) rfl
theorem uw19 : Cond.initialized RX1 ∈ wsU := ut1 (List.mem_of_getElem? (i := 2) rfl) rfl
theorem uw20 : Cond.code yX1_isPlace cX1_isPlace 3 (some .boolean) ∈ wsU := ut2 (List.mem_of_getElem? (i := 27) rfl) rfl
theorem uw21 : Cond.fieldLink RX1 25 "LongerBack$Land" "doors" "[I" ∈ wsU := ut1 (List.mem_of_getElem? (i := 66) rfl) rfl
theorem uw22 : Cond.methodLink RX1 61 yX1_wayAt ∈ wsU := ut2 (List.mem_of_getElem? (i := 47) rfl) rfl
theorem uw23 : Cond.static yX1_wayAt ∈ wsU := ut2 (List.mem_of_getElem? (i := 48) rfl) rfl
theorem uw24 : Cond.initialized yX1_wayAt.cls ∈ wsU := ut1 (List.mem_of_getElem? (i := 2) rfl) rfl
theorem uw25 : Cond.code yX1_wayAt cX1_wayAt 2 (some .int) ∈ wsU := ut2 (List.mem_of_getElem? (i := 49) rfl) rfl
theorem uw26 : Cond.fieldLink RX1 19 "LongerBack$Land" "low" "[I" ∈ wsU := ut1 (List.mem_of_getElem? (i := 62) rfl) rfl
theorem uw27 : Cond.fieldLink RX1 22 "LongerBack$Land" "high" "[I" ∈ wsU := ut1 (List.mem_of_getElem? (i := 64) rfl) rfl
theorem uw28 : Cond.methodLink RX1 65 yX1_isOpen ∈ wsU := ut3 (List.mem_of_getElem? (i := 78) rfl) rfl
theorem uw29 : Cond.instanceMethod yX1_isOpen ∈ wsU := ut2 (List.mem_of_getElem? (i := 68) rfl) rfl
theorem uw30 : Cond.selects RX1 yX1_isOpen yX1_isOpen ∈ wsU := ut2 (List.mem_of_getElem? (i := 69) rfl) rfl
theorem uw31 : Cond.code yX1_isOpen cX1_isOpen 3 (some .boolean) ∈ wsU := ut2 (List.mem_of_getElem? (i := 70) rfl) rfl
theorem uw32 : Cond.fieldLink RX1 15 "LongerBack$Land" "errands" "[I" ∈ wsU := ut1 (List.mem_of_getElem? (i := 59) rfl) rfl
theorem inUX1 : ∀ w ∈ u_ws RX1 TX1 10, w ∈ wsU := List.forall_mem_cons.mpr ⟨uw6, List.forall_mem_cons.mpr ⟨uw7, List.forall_mem_cons.mpr ⟨uw8, List.forall_mem_cons.mpr ⟨uw9, List.forall_mem_cons.mpr ⟨uw10, List.forall_mem_cons.mpr ⟨uw11, List.forall_mem_cons.mpr ⟨uw12, List.forall_mem_cons.mpr ⟨uw13, List.forall_mem_cons.mpr ⟨uw14, List.forall_mem_cons.mpr ⟨uw15, fun _ h => absurd h List.not_mem_nil⟩⟩⟩⟩⟩⟩⟩⟩⟩⟩
theorem ks_X8_91 : xWS RX8 91 yX8_isWithin cX8_isWithin 3 (some .boolean) 3 := ⟨⟨uw0, uw1, uw2, uw3⟩, by decide +kernel⟩
theorem kf_X1_9 : xWF RX1 9 1 0 RX1 TX1 10 := ⟨inUX1, rfl, by decide, uw5⟩
theorem kv_X1_57 : xWV RX1 57 RX1 yX1_isPlace cX1_isPlace 3 (some .boolean) 1 := ⟨⟨uw16, uw17, uw18, uw19, uw20⟩, by decide +kernel⟩
theorem kf_X1_25 : xWF RX1 25 1 4 RX1 TX1 10 := ⟨inUX1, rfl, by decide, uw21⟩
theorem ks_X1_61 : xWS RX1 61 yX1_wayAt cX1_wayAt 2 (some .int) 2 := ⟨⟨uw22, uw23, uw24, uw25⟩, by decide +kernel⟩
theorem kf_X1_19 : xWF RX1 19 1 2 RX1 TX1 10 := ⟨inUX1, rfl, by decide, uw26⟩
theorem kf_X1_22 : xWF RX1 22 1 3 RX1 TX1 10 := ⟨inUX1, rfl, by decide, uw27⟩
theorem kv_X1_65 : xWV RX1 65 RX1 yX1_isOpen cX1_isOpen 3 (some .boolean) 2 := ⟨⟨uw28, uw29, uw30, uw19, uw31⟩, by decide +kernel⟩
theorem kf_X1_15 : xWF RX1 15 1 1 RX1 TX1 10 := ⟨inUX1, rfl, by decide, uw32⟩
set_option maxHeartbeats 4000000 in
set_option maxRecDepth 100000 in
theorem c_X8_isWithin (l : Launch) (D : va_G) (cI cJ cZ cS : ClassId) (ta : Nat) (sa sv : Nat → Nat) (sz : Nat) (p0 : Int32) (p1 : Int32) (p2 : Int32) : Met l yX8_isWithin (Cond.code yX8_isWithin cX8_isWithin 3 (some .boolean) :: wsU) ({ frames := 0, cells := 0, slots := 0, locals := 0 }) (va_Pc [.int p0, .int p1, .int p2] (XW D (xT cI cJ cZ cS) ta sa sv [] sz)) (vp_Si (fun r : Int32 => (r = 1 ∧ (¬ p0 < p1) ∧ (¬ p2 < p0)) ∨ (r = 0 ∧ (p0 < p1 ∨ p2 < p0)))) 0 0 (fun _ => False) := by
  refine xh (QA := fun _ => vp_Si (fun r : Int32 => (r = 1 ∧ (¬ p0 < p1) ∧ (¬ p2 < p0)) ∨ (r = 0 ∧ (p0 < p1 ∨ p2 < p0)))) (fr := fun _ _ => False) (by decide) (Nat.le_of_ble_eq_true rfl) ?_
  intro p e s m below meth c ls A hF hr hlk hin hsz hP hK hD hN hZ hA hS hl
  have hF : CallFix p m c cX8_isWithin 3 s _ _ RX8 := hF
  have hx := hF.1
  have hb := hF.2.1
  have hml := hF.2.2.1
  have hown := hF.2.2.2.1
  have hu : ∀ w ∈ wsU, w.before _ s = true := fun w h => hF.2.2.2.2 w (List.mem_cons_of_mem _ h)
  have hl : lv_has ls 3 [(0, .int p0), (1, .int p1), (2, .int p2)] := hl
  refine lv_iload_n hx hb dX8_isWithin_0 rfl (lv_at hl 0 rfl) ?_
  refine lv_iload_n hx hb dX8_isWithin_1 rfl (lv_at hl 1 rfl) ?_
  refine lv_icmp_lt (tgt := 14) hx hb dX8_isWithin_2 (by decide) (fun c_1 => ?_) (fun c_1 => ?_)
  · skip
    refine lv_iconst (v := 0) hx hb dX8_isWithin_14 (by decide) ?_
    exact W.zret (v := 0) hx hb hr rfl (fun t ht hW => ⟨0, rfl, (by first | exact Or.inr (⟨rfl, (by first | assumption | omega | exact Or.inl (by first | assumption | omega) | exact Or.inr (by first | assumption | omega))⟩)), ht⟩) (fun q h => by cases h) dX8_isWithin_15 hlk
  · skip
    refine lv_iload_n hx hb dX8_isWithin_5 rfl (lv_at hl 0 rfl) ?_
    refine lv_iload_n hx hb dX8_isWithin_6 rfl (lv_at hl 2 rfl) ?_
    refine lv_icmp_gt (tgt := 14) hx hb dX8_isWithin_7 (by decide) (fun c_2 => ?_) (fun c_2 => ?_)
    · skip
      refine lv_iconst (v := 0) hx hb dX8_isWithin_14 (by decide) ?_
      exact W.zret (v := 0) hx hb hr rfl (fun t ht hW => ⟨0, rfl, (by first | exact Or.inr (⟨rfl, (by first | assumption | omega | exact Or.inl (by first | assumption | omega) | exact Or.inr (by first | assumption | omega))⟩)), ht⟩) (fun q h => by cases h) dX8_isWithin_15 hlk
    · skip
      refine lv_iconst (v := 1) hx hb dX8_isWithin_10 (by decide) ?_
      refine lv_goto (tgt := 15) hx hb dX8_isWithin_11 (by decide) ?_
      exact W.zret (v := 1) hx hb hr rfl (fun t ht hW => ⟨1, rfl, (by first | exact Or.inl ⟨rfl, (by first | assumption | omega | exact Or.inl (by first | assumption | omega) | exact Or.inr (by first | assumption | omega)), (by first | assumption | omega | exact Or.inl (by first | assumption | omega) | exact Or.inr (by first | assumption | omega))⟩), ht⟩) (fun q h => by cases h) dX8_isWithin_15 hlk
set_option maxHeartbeats 4000000 in
set_option maxRecDepth 100000 in
theorem c_X8_isKind (l : Launch) (D : va_G) (cI cJ cZ cS : ClassId) (ta : Nat) (sa sv : Nat → Nat) (sz : Nat) (p0 : Int32) : Met l yX8_isKind (Cond.code yX8_isKind cX8_isKind 1 (some .boolean) :: wsU) ({ frames := 1, cells := 0, slots := 0, locals := 22 }) (va_Pc [.int p0] (XW D (xT cI cJ cZ cS) ta sa sv [] sz)) (vp_Si (fun r : Int32 => (r = 1 ∧ (¬ p0 < 0) ∧ (¬ 6 < p0)) ∨ (r = 0 ∧ (p0 < 0 ∨ 6 < p0)))) 0 0 (fun _ => False) := by
  refine xh (QA := fun _ => vp_Si (fun r : Int32 => (r = 1 ∧ (¬ p0 < 0) ∧ (¬ 6 < p0)) ∨ (r = 0 ∧ (p0 < 0 ∨ 6 < p0)))) (fr := fun _ _ => False) (by decide) (Nat.le_of_ble_eq_true rfl) ?_
  intro p e s m below meth c ls A hF hr hlk hin hsz hP hK hD hN hZ hA hS hl
  have hF : CallFix p m c cX8_isKind 1 s _ _ RX8 := hF
  have hx := hF.1
  have hb := hF.2.1
  have hml := hF.2.2.1
  have hown := hF.2.2.2.1
  have hu : ∀ w ∈ wsU, w.before _ s = true := fun w h => hF.2.2.2.2 w (List.mem_cons_of_mem _ h)
  have hl : lv_has ls 1 [(0, .int p0)] := hl
  refine lv_iload_n hx hb dX8_isKind_0 rfl (lv_at hl 0 rfl) ?_
  refine lv_iconst (v := 0) hx hb dX8_isKind_1 (by decide) ?_
  refine lv_bipush (v := 6) hx hb dX8_isKind_2 (by decide) ?_
  refine xc_Sr hF (c_X8_isWithin l D cI cJ cZ cS ta sa sv s.heap.size p0 0 6 ) ks_X8_91 ⟨rfl, rfl, Nat.le_of_ble_eq_true rfl, Nat.le_of_ble_eq_true rfl⟩ ⟨Nat.le_of_ble_eq_true rfl, Nat.le_of_ble_eq_true rfl⟩ hK hN hZ hP hD hS hA [] rfl rfl rfl hl.1 rfl (Nat.le_of_ble_eq_true rfl) dX8_isKind_4 (fun r_1 hw_r_1 => ?_)
  rcases hw_r_1 with ⟨rfl, h_2, h_3⟩ | ⟨rfl, h_4⟩
  · skip
    exact W.zret (v := 1) hx hb hr rfl (fun t ht hW => ⟨1, rfl, (by first | exact Or.inl ⟨rfl, (by first | assumption | omega | exact Or.inl (by first | assumption | omega) | exact Or.inr (by first | assumption | omega)), (by first | assumption | omega | exact Or.inl (by first | assumption | omega) | exact Or.inr (by first | assumption | omega))⟩), ht⟩) (fun q h => by cases h) dX8_isKind_7 hlk
  · skip
    exact W.zret (v := 0) hx hb hr rfl (fun t ht hW => ⟨0, rfl, (by first | exact Or.inr (⟨rfl, (by first | assumption | omega | exact Or.inl (by first | assumption | omega) | exact Or.inr (by first | assumption | omega))⟩)), ht⟩) (fun q h => by cases h) dX8_isKind_7 hlk
set_option maxHeartbeats 4000000 in
set_option maxRecDepth 100000 in
theorem c_X8_isSheet (l : Launch) (D : va_G) (cI cJ cZ cS : ClassId) (ta : Nat) (sa sv : Nat → Nat) (sz : Nat) (p0 : Int32) : Met l yX8_isSheet (Cond.code yX8_isSheet cX8_isSheet 1 (some .boolean) :: wsU) ({ frames := 1, cells := 0, slots := 0, locals := 22 }) (va_Pc [.int p0] (XW D (xT cI cJ cZ cS) ta sa sv [] sz)) (vp_Si (fun r : Int32 => (r = 1 ∧ (¬ p0 < 0) ∧ (¬ 3 < p0)) ∨ (r = 0 ∧ (p0 < 0 ∨ 3 < p0)))) 0 0 (fun _ => False) := by
  refine xh (QA := fun _ => vp_Si (fun r : Int32 => (r = 1 ∧ (¬ p0 < 0) ∧ (¬ 3 < p0)) ∨ (r = 0 ∧ (p0 < 0 ∨ 3 < p0)))) (fr := fun _ _ => False) (by decide) (Nat.le_of_ble_eq_true rfl) ?_
  intro p e s m below meth c ls A hF hr hlk hin hsz hP hK hD hN hZ hA hS hl
  have hF : CallFix p m c cX8_isSheet 1 s _ _ RX8 := hF
  have hx := hF.1
  have hb := hF.2.1
  have hml := hF.2.2.1
  have hown := hF.2.2.2.1
  have hu : ∀ w ∈ wsU, w.before _ s = true := fun w h => hF.2.2.2.2 w (List.mem_cons_of_mem _ h)
  have hl : lv_has ls 1 [(0, .int p0)] := hl
  refine lv_iload_n hx hb dX8_isSheet_0 rfl (lv_at hl 0 rfl) ?_
  refine lv_iconst (v := 0) hx hb dX8_isSheet_1 (by decide) ?_
  refine lv_iconst (v := 3) hx hb dX8_isSheet_2 (by decide) ?_
  refine xc_Sr hF (c_X8_isWithin l D cI cJ cZ cS ta sa sv s.heap.size p0 0 3 ) ks_X8_91 ⟨rfl, rfl, Nat.le_of_ble_eq_true rfl, Nat.le_of_ble_eq_true rfl⟩ ⟨Nat.le_of_ble_eq_true rfl, Nat.le_of_ble_eq_true rfl⟩ hK hN hZ hP hD hS hA [] rfl rfl rfl hl.1 rfl (Nat.le_of_ble_eq_true rfl) dX8_isSheet_3 (fun r_1 hw_r_1 => ?_)
  rcases hw_r_1 with ⟨rfl, h_2, h_3⟩ | ⟨rfl, h_4⟩
  · skip
    exact W.zret (v := 1) hx hb hr rfl (fun t ht hW => ⟨1, rfl, (by first | exact Or.inl ⟨rfl, (by first | assumption | omega | exact Or.inl (by first | assumption | omega) | exact Or.inr (by first | assumption | omega)), (by first | assumption | omega | exact Or.inl (by first | assumption | omega) | exact Or.inr (by first | assumption | omega))⟩), ht⟩) (fun q h => by cases h) dX8_isSheet_6 hlk
  · skip
    exact W.zret (v := 0) hx hb hr rfl (fun t ht hW => ⟨0, rfl, (by first | exact Or.inr (⟨rfl, (by first | assumption | omega | exact Or.inl (by first | assumption | omega) | exact Or.inr (by first | assumption | omega))⟩)), ht⟩) (fun q h => by cases h) dX8_isSheet_6 hlk
set_option maxHeartbeats 4000000 in
set_option maxRecDepth 100000 in
theorem c_X8_areEnds (l : Launch) (D : va_G) (cI cJ cZ cS : ClassId) (ta : Nat) (sa sv : Nat → Nat) (sz : Nat) (p0 : Int32) (p1 : Int32) : Met l yX8_areEnds (Cond.code yX8_areEnds cX8_areEnds 2 (some .boolean) :: wsU) ({ frames := 0, cells := 0, slots := 0, locals := 0 }) (va_Pc [.int p0, .int p1] (XW D (xT cI cJ cZ cS) ta sa sv [] sz)) (vp_Si (fun r : Int32 => (r = 1 ∧ (ends p0 p1)) ∨ (r = 0 ∧ (¬ ends p0 p1)))) 0 0 (fun _ => False) := by
  refine xh (QA := fun _ => vp_Si (fun r : Int32 => (r = 1 ∧ (ends p0 p1)) ∨ (r = 0 ∧ (¬ ends p0 p1)))) (fr := fun _ _ => False) (by decide) (Nat.le_of_ble_eq_true rfl) ?_
  intro p e s m below meth c ls A hF hr hlk hin hsz hP hK hD hN hZ hA hS hl
  have hF : CallFix p m c cX8_areEnds 2 s _ _ RX8 := hF
  have hx := hF.1
  have hb := hF.2.1
  have hml := hF.2.2.1
  have hown := hF.2.2.2.1
  have hu : ∀ w ∈ wsU, w.before _ s = true := fun w h => hF.2.2.2.2 w (List.mem_cons_of_mem _ h)
  have hl : lv_has ls 2 [(0, .int p0), (1, .int p1)] := hl
  refine lv_iload_n hx hb dX8_areEnds_0 rfl (lv_at hl 0 rfl) ?_
  refine lv_bipush (v := (-99)) hx hb dX8_areEnds_1 (by decide) ?_
  refine lv_icmp_lt (tgt := 22) hx hb dX8_areEnds_3 (by decide) (fun c_1 => ?_) (fun c_1 => ?_)
  · skip
    refine lv_iconst (v := 0) hx hb dX8_areEnds_22 (by decide) ?_
    exact W.zret (v := 0) hx hb hr rfl (fun t ht hW => ⟨0, rfl, Or.inr ⟨rfl, fun h => by first | exact h.1 (by assumption) | exact h.2.1 (by assumption) | exact h.2.2 (by assumption)⟩, ht⟩) (fun q h => by cases h) dX8_areEnds_23 hlk
  · skip
    refine lv_iload_n hx hb dX8_areEnds_6 rfl (lv_at hl 0 rfl) ?_
    refine lv_iload_n hx hb dX8_areEnds_7 rfl (lv_at hl 1 rfl) ?_
    refine lv_icmp_gt (tgt := 22) hx hb dX8_areEnds_8 (by decide) (fun c_2 => ?_) (fun c_2 => ?_)
    · skip
      refine lv_iconst (v := 0) hx hb dX8_areEnds_22 (by decide) ?_
      exact W.zret (v := 0) hx hb hr rfl (fun t ht hW => ⟨0, rfl, Or.inr ⟨rfl, fun h => by first | exact h.1 (by assumption) | exact h.2.1 (by assumption) | exact h.2.2 (by assumption)⟩, ht⟩) (fun q h => by cases h) dX8_areEnds_23 hlk
    · skip
      refine lv_iload_n hx hb dX8_areEnds_11 rfl (lv_at hl 1 rfl) ?_
      refine lv_sipush (v := 999) hx hb dX8_areEnds_12 (by decide) ?_
      refine lv_icmp_gt (tgt := 22) hx hb dX8_areEnds_15 (by decide) (fun c_3 => ?_) (fun c_3 => ?_)
      · skip
        refine lv_iconst (v := 0) hx hb dX8_areEnds_22 (by decide) ?_
        exact W.zret (v := 0) hx hb hr rfl (fun t ht hW => ⟨0, rfl, Or.inr ⟨rfl, fun h => by first | exact h.1 (by assumption) | exact h.2.1 (by assumption) | exact h.2.2 (by assumption)⟩, ht⟩) (fun q h => by cases h) dX8_areEnds_23 hlk
      · skip
        refine lv_iconst (v := 1) hx hb dX8_areEnds_18 (by decide) ?_
        refine lv_goto (tgt := 23) hx hb dX8_areEnds_19 (by decide) ?_
        exact W.zret (v := 1) hx hb hr rfl (fun t ht hW => ⟨1, rfl, Or.inl ⟨rfl, c_1, c_2, c_3⟩, ht⟩) (fun q h => by cases h) dX8_areEnds_23 hlk
set_option maxHeartbeats 4000000 in
set_option maxRecDepth 100000 in
theorem c_X8_together (l : Launch) (D : va_G) (cI cJ cZ cS : ClassId) (ta : Nat) (sa sv : Nat → Nat) (sz : Nat) (p0 : Int32) (p1 : Int32) : Met l yX8_together (Cond.code yX8_together cX8_together 2 (some .int) :: wsU) ({ frames := 0, cells := 0, slots := 0, locals := 0 }) (va_Pc [.int p0, .int p1] (XW D (xT cI cJ cZ cS) ta sa sv [] sz)) (vp_Si (fun r : Int32 => True)) 0 0 (fun _ => False) := by
  refine xh (QA := fun _ => vp_Si (fun r : Int32 => True)) (fr := fun _ _ => False) (by decide) (Nat.le_of_ble_eq_true rfl) ?_
  intro p e s m below meth c ls A hF hr hlk hin hsz hP hK hD hN hZ hA hS hl
  have hF : CallFix p m c cX8_together 2 s _ _ RX8 := hF
  have hx := hF.1
  have hb := hF.2.1
  have hml := hF.2.2.1
  have hown := hF.2.2.2.1
  have hu : ∀ w ∈ wsU, w.before _ s = true := fun w h => hF.2.2.2.2 w (List.mem_cons_of_mem _ h)
  have hl : lv_has ls 2 [(0, .int p0), (1, .int p1)] := hl
  refine lv_iload_n hx hb dX8_together_0 rfl (lv_at hl 0 rfl) ?_
  refine lv_ldc (v := 1000000000) hx hb hown (hu _ uw4) dX8_together_1 ?_
  refine lv_icmp_eq (tgt := 12) hx hb dX8_together_3 (by decide) (fun c_1 => ?_) (fun c_1 => ?_)
  · skip
    refine lv_ldc (v := 1000000000) hx hb hown (hu _ uw4) dX8_together_12 ?_
    refine lv_goto (tgt := 20) hx hb dX8_together_14 (by decide) ?_
    exact W.iret (v := 1000000000) hx hb hr (fun t ht hW => ⟨1000000000, rfl, trivial, ht⟩) (fun q h => by cases h) dX8_together_20 hlk
  · skip
    refine lv_iload_n hx hb dX8_together_6 rfl (lv_at hl 1 rfl) ?_
    refine lv_ldc (v := 1000000000) hx hb hown (hu _ uw4) dX8_together_7 ?_
    refine lv_icmp_ne (tgt := 17) hx hb dX8_together_9 (by decide) (fun c_2 => ?_) (fun c_2 => ?_)
    · skip
      refine lv_iload_n hx hb dX8_together_17 rfl (lv_at hl 0 rfl) ?_
      refine lv_iload_n hx hb dX8_together_18 rfl (lv_at hl 1 rfl) ?_
      refine lv_iadd hx hb dX8_together_19 ?_
      refine lv_topi (fun x_3 ex_3 => ?_)
      exact W.iret (v := x_3) hx hb hr (fun t ht hW => ⟨x_3, rfl, trivial, ht⟩) (fun q h => by cases h) dX8_together_20 hlk
    · skip
      refine lv_ldc (v := 1000000000) hx hb hown (hu _ uw4) dX8_together_12 ?_
      refine lv_goto (tgt := 20) hx hb dX8_together_14 (by decide) ?_
      exact W.iret (v := 1000000000) hx hb hr (fun t ht hW => ⟨1000000000, rfl, trivial, ht⟩) (fun q h => by cases h) dX8_together_20 hlk
set_option maxHeartbeats 4000000 in
set_option maxRecDepth 100000 in
theorem c_J9_floorDiv_7cf53 (l : Launch) (D : va_G) (cI cJ cZ cS : ClassId) (ta : Nat) (sa sv : Nat → Nat) (sz : Nat) (p0 : Int32) : Met l yJ9_floorDiv_7cf53 (Cond.code yJ9_floorDiv_7cf53 cJ9_floorDiv_7cf53 3 (some .int) :: wsU) ({ frames := 0, cells := 0, slots := 0, locals := 0 }) (va_Pc [.int p0, .int 100] (XW D (xT cI cJ cZ cS) ta sa sv [] sz)) (vp_Si (fun r : Int32 => True)) 0 0 (fun _ => False) := by
  refine xh (QA := fun _ => vp_Si (fun r : Int32 => True)) (fr := fun _ _ => False) (by decide +kernel) (Nat.le_of_ble_eq_true rfl) ?_
  intro p e s m below meth c ls A hF hr hlk hin hsz hP hK hD hN hZ hA hS hl
  have hF : CallFix p m c cJ9_floorDiv_7cf53 3 s _ _ RJ9 := hF
  have hx := hF.1
  have hb := hF.2.1
  have hml := hF.2.2.1
  have hown := hF.2.2.2.1
  have hu : ∀ w ∈ wsU, w.before _ s = true := fun w h => hF.2.2.2.2 w (List.mem_cons_of_mem _ h)
  have hl : lv_has ls 3 [(0, .int p0), (1, .int 100)] := hl
  refine lv_iload_n hx hb dJ9_floorDiv_7cf53_0 rfl (lv_at hl 0 rfl) ?_
  refine lv_iload_n hx hb dJ9_floorDiv_7cf53_1 rfl (lv_at hl 1 rfl) ?_
  refine lv_idiv hx hb dJ9_floorDiv_7cf53_2 (by decide) ?_
  refine lv_topi (fun x_1 ex_1 => ?_)
  refine lv_istore_n (lv' := [(2, .int x_1), (0, .int p0), (1, .int 100)]) hx hb dJ9_floorDiv_7cf53_3 rfl hl (by decide) rfl (fun ls hl => ?_)
  refine lv_iload_n hx hb dJ9_floorDiv_7cf53_4 rfl (lv_at hl 1 rfl) ?_
  refine lv_iload_n hx hb dJ9_floorDiv_7cf53_5 rfl (lv_at hl 2 rfl) ?_
  refine lv_ixor hx hb dJ9_floorDiv_7cf53_6 ?_
  refine lv_topi (fun x_2 ex_2 => ?_)
  refine lv_if_ge (tgt := 21) hx hb dJ9_floorDiv_7cf53_7 (by decide) (fun c_3 => ?_) (fun c_3 => ?_)
  · skip
    refine lv_iload_n hx hb dJ9_floorDiv_7cf53_21 rfl (lv_at hl 0 rfl) ?_
    exact W.iret (v := x_1) hx hb hr (fun t ht hW => ⟨x_1, rfl, trivial, ht⟩) (fun q h => by cases h) dJ9_floorDiv_7cf53_22 hlk
  · skip
    refine lv_iload_n hx hb dJ9_floorDiv_7cf53_10 rfl (lv_at hl 0 rfl) ?_
    refine lv_iload_n hx hb dJ9_floorDiv_7cf53_11 rfl (lv_at hl 2 rfl) ?_
    refine lv_imul hx hb dJ9_floorDiv_7cf53_12 ?_
    refine lv_topi (fun x_4 ex_4 => ?_)
    refine lv_iload_n hx hb dJ9_floorDiv_7cf53_13 rfl (lv_at hl 1 rfl) ?_
    refine lv_icmp_eq (tgt := 21) hx hb dJ9_floorDiv_7cf53_14 (by decide) (fun c_5 => ?_) (fun c_5 => ?_)
    · skip
      refine lv_iload_n hx hb dJ9_floorDiv_7cf53_21 rfl (lv_at hl 0 rfl) ?_
      exact W.iret (v := x_1) hx hb hr (fun t ht hW => ⟨x_1, rfl, trivial, ht⟩) (fun q h => by cases h) dJ9_floorDiv_7cf53_22 hlk
    · skip
      refine lv_iload_n hx hb dJ9_floorDiv_7cf53_17 rfl (lv_at hl 0 rfl) ?_
      refine lv_iconst (v := 1) hx hb dJ9_floorDiv_7cf53_18 (by decide) ?_
      refine lv_isub hx hb dJ9_floorDiv_7cf53_19 ?_
      refine lv_topi (fun x_6 ex_6 => ?_)
      exact W.iret (v := x_6) hx hb hr (fun t ht hW => ⟨x_6, rfl, trivial, ht⟩) (fun q h => by cases h) dJ9_floorDiv_7cf53_20 hlk
set_option maxHeartbeats 4000000 in
set_option maxRecDepth 100000 in
theorem c_J9_floorMod_7cf53 (l : Launch) (D : va_G) (cI cJ cZ cS : ClassId) (ta : Nat) (sa sv : Nat → Nat) (sz : Nat) (p0 : Int32) : Met l yJ9_floorMod_7cf53 (Cond.code yJ9_floorMod_7cf53 cJ9_floorMod_7cf53 3 (some .int) :: wsU) ({ frames := 0, cells := 0, slots := 0, locals := 0 }) (va_Pc [.int p0, .int 100] (XW D (xT cI cJ cZ cS) ta sa sv [] sz)) (vp_Si (fun r : Int32 => True)) 0 0 (fun _ => False) := by
  refine xh (QA := fun _ => vp_Si (fun r : Int32 => True)) (fr := fun _ _ => False) (by decide +kernel) (Nat.le_of_ble_eq_true rfl) ?_
  intro p e s m below meth c ls A hF hr hlk hin hsz hP hK hD hN hZ hA hS hl
  have hF : CallFix p m c cJ9_floorMod_7cf53 3 s _ _ RJ9 := hF
  have hx := hF.1
  have hb := hF.2.1
  have hml := hF.2.2.1
  have hown := hF.2.2.2.1
  have hu : ∀ w ∈ wsU, w.before _ s = true := fun w h => hF.2.2.2.2 w (List.mem_cons_of_mem _ h)
  have hl : lv_has ls 3 [(0, .int p0), (1, .int 100)] := hl
  refine lv_iload_n hx hb dJ9_floorMod_7cf53_0 rfl (lv_at hl 0 rfl) ?_
  refine lv_iload_n hx hb dJ9_floorMod_7cf53_1 rfl (lv_at hl 1 rfl) ?_
  refine lv_irem hx hb dJ9_floorMod_7cf53_2 (by decide) ?_
  refine lv_topi (fun x_1 ex_1 => ?_)
  refine lv_istore_n (lv' := [(2, .int x_1), (0, .int p0), (1, .int 100)]) hx hb dJ9_floorMod_7cf53_3 rfl hl (by decide) rfl (fun ls hl => ?_)
  refine lv_iload_n hx hb dJ9_floorMod_7cf53_4 rfl (lv_at hl 1 rfl) ?_
  refine lv_iload_n hx hb dJ9_floorMod_7cf53_5 rfl (lv_at hl 2 rfl) ?_
  refine lv_ixor hx hb dJ9_floorMod_7cf53_6 ?_
  refine lv_topi (fun x_2 ex_2 => ?_)
  refine lv_if_ge (tgt := 18) hx hb dJ9_floorMod_7cf53_7 (by decide) (fun c_3 => ?_) (fun c_3 => ?_)
  · skip
    refine lv_iload_n hx hb dJ9_floorMod_7cf53_18 rfl (lv_at hl 0 rfl) ?_
    exact W.iret (v := x_1) hx hb hr (fun t ht hW => ⟨x_1, rfl, trivial, ht⟩) (fun q h => by cases h) dJ9_floorMod_7cf53_19 hlk
  · skip
    refine lv_iload_n hx hb dJ9_floorMod_7cf53_10 rfl (lv_at hl 0 rfl) ?_
    refine lv_if_eq (tgt := 18) hx hb dJ9_floorMod_7cf53_11 (by decide) (fun c_4 => ?_) (fun c_4 => ?_)
    · skip
      refine lv_iload_n hx hb dJ9_floorMod_7cf53_18 rfl (lv_at hl 0 rfl) ?_
      exact W.iret (v := x_1) hx hb hr (fun t ht hW => ⟨x_1, rfl, trivial, ht⟩) (fun q h => by cases h) dJ9_floorMod_7cf53_19 hlk
    · skip
      refine lv_iload_n hx hb dJ9_floorMod_7cf53_14 rfl (lv_at hl 0 rfl) ?_
      refine lv_iload_n hx hb dJ9_floorMod_7cf53_15 rfl (lv_at hl 2 rfl) ?_
      refine lv_iadd hx hb dJ9_floorMod_7cf53_16 ?_
      refine lv_topi (fun x_5 ex_5 => ?_)
      exact W.iret (v := x_5) hx hb hr (fun t ht hW => ⟨x_5, rfl, trivial, ht⟩) (fun q h => by cases h) dJ9_floorMod_7cf53_17 hlk
set_option maxHeartbeats 4000000 in
set_option maxRecDepth 100000 in
theorem c_X1_isPlaceL (l : Launch) (D : va_G) (cI cJ cZ cS : ClassId) (ta : Nat) (sa sv : Nat → Nat) (sz : Nat) (h0 : Nat) (ae : Nat) (al : Nat) (au : Nat) (ao : Nat) (ar : Nat) (ak : Nat) (aw : Nat) (att : Nat) (ass : Nat) (P : Nat) (p0 : Int64) (hP0 : P ≤ 10) : Met l yX1_isPlace (Cond.code yX1_isPlace cX1_isPlace 3 (some .boolean) :: wsU) ({ frames := 0, cells := 0, slots := 0, locals := 0 }) (va_Pc [.ref h0, .long p0] (XW D (xT cI cJ cZ cS) ta sa sv [(h0, .inr (1, [.int (nI (P)), .ref ae, .ref al, .ref au, .ref ao, .ref ar, .ref ak, .ref aw, .ref att, .ref ass]))] sz)) (vp_Si (fun r : Int32 => (∃ (k : Nat), r = 1 ∧ (p0 = lN k) ∧ (k < P)) ∨ (r = 0))) 0 0 (fun _ => False) := by
  refine xh (QA := fun _ => vp_Si (fun r : Int32 => (∃ (k : Nat), r = 1 ∧ (p0 = lN k) ∧ (k < P)) ∨ (r = 0))) (fr := fun _ _ => False) (by decide) (Nat.le_of_ble_eq_true rfl) ?_
  intro p e s m below meth c ls A hF hr hlk hin hsz hP hK hD hN hZ hA hS hl
  have hF : CallFix p m c cX1_isPlace 3 s _ _ RX1 := hF
  have hx := hF.1
  have hb := hF.2.1
  have hml := hF.2.2.1
  have hown := hF.2.2.2.1
  have hu : ∀ w ∈ wsU, w.before _ s = true := fun w h => hF.2.2.2.2 w (List.mem_cons_of_mem _ h)
  have hl : lv_has ls 3 [(0, .ref h0), (1, .long p0)] := hl
  refine lv_lload_n hx hb dX1_isPlace_0 rfl (lv_at hl 1 rfl) ?_
  refine lv_lconst (v := 0) hx hb dX1_isPlace_1 (by decide) ?_
  refine W.lcmp hx hb dX1_isPlace_2 ?_
  refine lv_if_lt (tgt := 20) hx hb dX1_isPlace_3 (by decide) (fun c_1 => ?_) (fun c_1 => ?_)
  · skip
    refine lv_iconst (v := 0) hx hb dX1_isPlace_20 (by decide) ?_
    exact W.zret (v := 0) hx hb hr rfl (fun t ht hW => ⟨0, rfl, Or.inr rfl, ht⟩) (fun q h => by cases h) dX1_isPlace_21 hlk
  · skip
    refine lv_lload_n hx hb dX1_isPlace_6 rfl (lv_at hl 1 rfl) ?_
    refine lv_aload_n hx hb dX1_isPlace_7 rfl (lv_at hl 0 rfl) ?_
    refine xg hF kf_X1_9 hK hP 0 rfl rfl dX1_isPlace_8 ?_
    refine lv_i2l (v := (nI (P)).toInt64) hx hb dX1_isPlace_11 rfl ?_
    refine W.lcmp hx hb dX1_isPlace_12 ?_
    refine lv_if_ge (tgt := 20) hx hb dX1_isPlace_13 (by decide) (fun c_2 => ?_) (fun c_2 => ?_)
    · skip
      refine lv_iconst (v := 0) hx hb dX1_isPlace_20 (by decide) ?_
      exact W.zret (v := 0) hx hb hr rfl (fun t ht hW => ⟨0, rfl, Or.inr rfl, ht⟩) (fun q h => by cases h) dX1_isPlace_21 hlk
    · skip
      refine lv_iconst (v := 1) hx hb dX1_isPlace_16 (by decide) ?_
      refine lv_goto (tgt := 21) hx hb dX1_isPlace_17 (by decide) ?_
      exact W.zret (v := 1) hx hb hr rfl (fun t ht hW => ⟨1, rfl, Or.inl ((x_numL (by omega) c_1 c_2).imp (fun _ h => ⟨rfl, h⟩)), ht⟩) (fun q h => by cases h) dX1_isPlace_21 hlk
set_option maxHeartbeats 4000000 in
set_option maxRecDepth 100000 in
theorem c_X1_isPlace (l : Launch) (D : va_G) (cI cJ cZ cS : ClassId) (ta : Nat) (sa sv : Nat → Nat) (sz : Nat) (h0 : Nat) (ae : Nat) (al : Nat) (au : Nat) (ao : Nat) (ar : Nat) (ak : Nat) (aw : Nat) (att : Nat) (ass : Nat) (P : Nat) (p0 : Int32) (hP0 : P ≤ 10) : Met l yX1_isPlace (Cond.code yX1_isPlace cX1_isPlace 3 (some .boolean) :: wsU) ({ frames := 0, cells := 0, slots := 0, locals := 0 }) (va_Pc [.ref h0, .long p0.toInt64] (XW D (xT cI cJ cZ cS) ta sa sv [(h0, .inr (1, [.int (nI (P)), .ref ae, .ref al, .ref au, .ref ao, .ref ar, .ref ak, .ref aw, .ref att, .ref ass]))] sz)) (vp_Si (fun r : Int32 => (∃ (k : Nat), r = 1 ∧ (p0 = nI k) ∧ (k < P)) ∨ (r = 0 ∧ (¬ isP P p0)))) 0 0 (fun _ => False) := by
  refine xh (QA := fun _ => vp_Si (fun r : Int32 => (∃ (k : Nat), r = 1 ∧ (p0 = nI k) ∧ (k < P)) ∨ (r = 0 ∧ (¬ isP P p0)))) (fr := fun _ _ => False) (by decide) (Nat.le_of_ble_eq_true rfl) ?_
  intro p e s m below meth c ls A hF hr hlk hin hsz hP hK hD hN hZ hA hS hl
  have hF : CallFix p m c cX1_isPlace 3 s _ _ RX1 := hF
  have hx := hF.1
  have hb := hF.2.1
  have hml := hF.2.2.1
  have hown := hF.2.2.2.1
  have hu : ∀ w ∈ wsU, w.before _ s = true := fun w h => hF.2.2.2.2 w (List.mem_cons_of_mem _ h)
  have hl : lv_has ls 3 [(0, .ref h0), (1, .long p0.toInt64)] := hl
  refine lv_lload_n hx hb dX1_isPlace_0 rfl (lv_at hl 1 rfl) ?_
  refine lv_lconst (v := 0) hx hb dX1_isPlace_1 (by decide) ?_
  refine W.lcmp hx hb dX1_isPlace_2 ?_
  refine lv_if_lt (tgt := 20) hx hb dX1_isPlace_3 (by decide) (fun c_1 => ?_) (fun c_1 => ?_)
  · skip
    refine lv_iconst (v := 0) hx hb dX1_isPlace_20 (by decide) ?_
    exact W.zret (v := 0) hx hb hr rfl (fun t ht hW => ⟨0, rfl, Or.inr ⟨rfl, (by first | exact x_np1 (by assumption) | exact x_np2 (by assumption))⟩, ht⟩) (fun q h => by cases h) dX1_isPlace_21 hlk
  · skip
    refine lv_lload_n hx hb dX1_isPlace_6 rfl (lv_at hl 1 rfl) ?_
    refine lv_aload_n hx hb dX1_isPlace_7 rfl (lv_at hl 0 rfl) ?_
    refine xg hF kf_X1_9 hK hP 0 rfl rfl dX1_isPlace_8 ?_
    refine lv_i2l (v := (nI (P)).toInt64) hx hb dX1_isPlace_11 rfl ?_
    refine W.lcmp hx hb dX1_isPlace_12 ?_
    refine lv_if_ge (tgt := 20) hx hb dX1_isPlace_13 (by decide) (fun c_2 => ?_) (fun c_2 => ?_)
    · skip
      refine lv_iconst (v := 0) hx hb dX1_isPlace_20 (by decide) ?_
      exact W.zret (v := 0) hx hb hr rfl (fun t ht hW => ⟨0, rfl, Or.inr ⟨rfl, (by first | exact x_np1 (by assumption) | exact x_np2 (by assumption))⟩, ht⟩) (fun q h => by cases h) dX1_isPlace_21 hlk
    · skip
      refine lv_iconst (v := 1) hx hb dX1_isPlace_16 (by decide) ?_
      refine lv_goto (tgt := 21) hx hb dX1_isPlace_17 (by decide) ?_
      exact W.zret (v := 1) hx hb hr rfl (fun t ht hW => ⟨1, rfl, Or.inl (x_place (by omega) c_1 c_2), ht⟩) (fun q h => by cases h) dX1_isPlace_21 hlk
set_option maxHeartbeats 4000000 in
set_option maxRecDepth 100000 in
theorem c_X1_areTwo (l : Launch) (D : va_G) (cI cJ cZ cS : ClassId) (ta : Nat) (sa sv : Nat → Nat) (sz : Nat) (h0 : Nat) (ae : Nat) (al : Nat) (au : Nat) (ao : Nat) (ar : Nat) (ak : Nat) (aw : Nat) (att : Nat) (ass : Nat) (P : Nat) (p0 : Int32) (p1 : Int32) (hP0 : P ≤ 10) : Met l yX1_areTwo (Cond.code yX1_areTwo cX1_areTwo 3 (some .boolean) :: wsU) ({ frames := 1, cells := 0, slots := 0, locals := 22 }) (va_Pc [.ref h0, .int p0, .int p1] (XW D (xT cI cJ cZ cS) ta sa sv [(h0, .inr (1, [.int (nI (P)), .ref ae, .ref al, .ref au, .ref ao, .ref ar, .ref ak, .ref aw, .ref att, .ref ass]))] sz)) (vp_Si (fun r : Int32 => (∃ (j : Nat) (k : Nat), r = 1 ∧ (p0 = nI j) ∧ (p1 = nI k) ∧ (j < P) ∧ (k < P) ∧ (j ≠ k)) ∨ (r = 0 ∧ (¬ twoP P p0 p1)))) 0 0 (fun _ => False) := by
  refine xh (QA := fun _ => vp_Si (fun r : Int32 => (∃ (j : Nat) (k : Nat), r = 1 ∧ (p0 = nI j) ∧ (p1 = nI k) ∧ (j < P) ∧ (k < P) ∧ (j ≠ k)) ∨ (r = 0 ∧ (¬ twoP P p0 p1)))) (fr := fun _ _ => False) (by decide) (Nat.le_of_ble_eq_true rfl) ?_
  intro p e s m below meth c ls A hF hr hlk hin hsz hP hK hD hN hZ hA hS hl
  have hF : CallFix p m c cX1_areTwo 3 s _ _ RX1 := hF
  have hx := hF.1
  have hb := hF.2.1
  have hml := hF.2.2.1
  have hown := hF.2.2.2.1
  have hu : ∀ w ∈ wsU, w.before _ s = true := fun w h => hF.2.2.2.2 w (List.mem_cons_of_mem _ h)
  have hl : lv_has ls 3 [(0, .ref h0), (1, .int p0), (2, .int p1)] := hl
  refine lv_aload_n hx hb dX1_areTwo_0 rfl (lv_at hl 0 rfl) ?_
  refine lv_iload_n hx hb dX1_areTwo_1 rfl (lv_at hl 1 rfl) ?_
  refine lv_i2l (v := p0.toInt64) hx hb dX1_areTwo_2 rfl ?_
  refine xc_Vr hF (c_X1_isPlace l D cI cJ cZ cS ta sa sv s.heap.size h0 ae al au ao ar ak aw att ass P p0 (by omega)) kv_X1_57 ⟨rfl, rfl, Nat.le_of_ble_eq_true rfl, Nat.le_of_ble_eq_true rfl⟩ ⟨Nat.le_of_ble_eq_true rfl, Nat.le_of_ble_eq_true rfl⟩ hK hN hZ hP hD hS hA [0] rfl rfl 0 rfl rfl rfl rfl hl.1 rfl (Nat.le_of_ble_eq_true rfl) dX1_areTwo_3 (fun r_1 hw_r_1 => ?_)
  rcases hw_r_1 with ⟨k_2, rfl, rfl, h_4⟩ | ⟨rfl, h_5⟩
  · skip
    refine lv_if_eq (tgt := 27) hx hb dX1_areTwo_6 (by decide) (fun c_6 => absurd c_6 (by decide)) (fun c_6 => ?_)
    refine lv_aload_n hx hb dX1_areTwo_9 rfl (lv_at hl 0 rfl) ?_
    refine lv_iload_n hx hb dX1_areTwo_10 rfl (lv_at hl 2 rfl) ?_
    refine lv_i2l (v := p1.toInt64) hx hb dX1_areTwo_11 rfl ?_
    refine xc_Vr hF (c_X1_isPlace l D cI cJ cZ cS ta sa sv s.heap.size h0 ae al au ao ar ak aw att ass P p1 (by omega)) kv_X1_57 ⟨rfl, rfl, Nat.le_of_ble_eq_true rfl, Nat.le_of_ble_eq_true rfl⟩ ⟨Nat.le_of_ble_eq_true rfl, Nat.le_of_ble_eq_true rfl⟩ hK hN hZ hP hD hS hA [0] rfl rfl 0 rfl rfl rfl rfl hl.1 rfl (Nat.le_of_ble_eq_true rfl) dX1_areTwo_12 (fun r_7 hw_r_7 => ?_)
    rcases hw_r_7 with ⟨k_8, rfl, rfl, h_10⟩ | ⟨rfl, h_11⟩
    · skip
      refine lv_if_eq (tgt := 27) hx hb dX1_areTwo_15 (by decide) (fun c_12 => absurd c_12 (by decide)) (fun c_12 => ?_)
      refine lv_iload_n hx hb dX1_areTwo_18 rfl (lv_at hl 1 rfl) ?_
      refine lv_iload_n hx hb dX1_areTwo_19 rfl (lv_at hl 2 rfl) ?_
      refine lv_icmp_eq (tgt := 27) hx hb dX1_areTwo_20 (by decide) (fun c_13 => ?_) (fun c_13 => ?_)
      · skip
        have nc_13 : k_2 = k_8 := xn_eq (a := k_2) (b := k_8) (by omega) (by omega) c_13
        refine lv_iconst (v := 0) hx hb dX1_areTwo_27 (by decide) ?_
        exact W.zret (v := 0) hx hb hr rfl (fun t ht hW => ⟨0, rfl, Or.inr ⟨rfl, fun h => by first | exact absurd h.1 (by assumption) | exact absurd h.2.1 (by assumption) | exact h.2.2 (by assumption)⟩, ht⟩) (fun q h => by cases h) dX1_areTwo_28 hlk
      · skip
        have nc_13 : k_2 ≠ k_8 := xn_ne (a := k_2) (b := k_8) (by omega) (by omega) c_13
        refine lv_iconst (v := 1) hx hb dX1_areTwo_23 (by decide) ?_
        refine lv_goto (tgt := 28) hx hb dX1_areTwo_24 (by decide) ?_
        exact W.zret (v := 1) hx hb hr rfl (fun t ht hW => ⟨1, rfl, Or.inl ⟨k_2, k_8, rfl, rfl, rfl, by omega, by omega, by omega⟩, ht⟩) (fun q h => by cases h) dX1_areTwo_28 hlk
    · skip
      refine lv_if_eq (tgt := 27) hx hb dX1_areTwo_15 (by decide) (fun c_14 => ?_) (fun c_14 => absurd (by decide) c_14)
      refine lv_iconst (v := 0) hx hb dX1_areTwo_27 (by decide) ?_
      exact W.zret (v := 0) hx hb hr rfl (fun t ht hW => ⟨0, rfl, Or.inr ⟨rfl, fun h => by first | exact absurd h.1 (by assumption) | exact absurd h.2.1 (by assumption) | exact h.2.2 (by assumption)⟩, ht⟩) (fun q h => by cases h) dX1_areTwo_28 hlk
  · skip
    refine lv_if_eq (tgt := 27) hx hb dX1_areTwo_6 (by decide) (fun c_15 => ?_) (fun c_15 => absurd (by decide) c_15)
    refine lv_iconst (v := 0) hx hb dX1_areTwo_27 (by decide) ?_
    exact W.zret (v := 0) hx hb hr rfl (fun t ht hW => ⟨0, rfl, Or.inr ⟨rfl, fun h => by first | exact absurd h.1 (by assumption) | exact absurd h.2.1 (by assumption) | exact h.2.2 (by assumption)⟩, ht⟩) (fun q h => by cases h) dX1_areTwo_28 hlk
set_option maxHeartbeats 4000000 in
set_option maxRecDepth 100000 in
theorem c_X1_wayAt (l : Launch) (D : va_G) (cI cJ cZ cS : ClassId) (ta : Nat) (sa sv : Nat → Nat) (sz : Nat) (j : Nat) (k : Nat) : Met l yX1_wayAt (Cond.code yX1_wayAt cX1_wayAt 2 (some .int) :: wsU) ({ frames := 0, cells := 0, slots := 0, locals := 0 }) (va_Pc [.int (nI (j)), .int (nI (k))] (XW D (xT cI cJ cZ cS) ta sa sv [] sz)) (vp_Si (fun r : Int32 => (r = nI (10 * j + k)))) 0 0 (fun _ => False) := by
  refine xh (QA := fun _ => vp_Si (fun r : Int32 => (r = nI (10 * j + k)))) (fr := fun _ _ => False) (by decide) (Nat.le_of_ble_eq_true rfl) ?_
  intro p e s m below meth c ls A hF hr hlk hin hsz hP hK hD hN hZ hA hS hl
  have hF : CallFix p m c cX1_wayAt 2 s _ _ RX1 := hF
  have hx := hF.1
  have hb := hF.2.1
  have hml := hF.2.2.1
  have hown := hF.2.2.2.1
  have hu : ∀ w ∈ wsU, w.before _ s = true := fun w h => hF.2.2.2.2 w (List.mem_cons_of_mem _ h)
  have hl : lv_has ls 2 [(0, .int (nI (j))), (1, .int (nI (k)))] := hl
  refine lv_bipush (v := 10) hx hb dX1_wayAt_0 (by decide) ?_
  refine lv_iload_n hx hb dX1_wayAt_2 rfl (lv_at hl 0 rfl) ?_
  refine lv_imul hx hb dX1_wayAt_3 ?_
  refine xl_i (y := nI (10 * j)) (pk_mul 10 j) ?_
  refine lv_iload_n hx hb dX1_wayAt_4 rfl (lv_at hl 1 rfl) ?_
  refine lv_iadd hx hb dX1_wayAt_5 ?_
  refine xl_i (y := nI (10 * j + k)) (nI_add (10 * j) k) ?_
  exact W.iret (v := nI (10 * j + k)) hx hb hr (fun t ht hW => ⟨nI (10 * j + k), rfl, (by first | exact rfl), ht⟩) (fun q h => by cases h) dX1_wayAt_6 hlk
set_option maxHeartbeats 4000000 in
set_option maxRecDepth 100000 in
theorem c_X1_isThere (l : Launch) (D : va_G) (cI cJ cZ cS : ClassId) (ta : Nat) (sa sv : Nat → Nat) (sz : Nat) (h0 : Nat) (ae : Nat) (al : Nat) (au : Nat) (ao : Nat) (ar : Nat) (ak : Nat) (aw : Nat) (att : Nat) (ass : Nat) (P : Nat) (j : Nat) (k : Nat) (d : Nat → Int32) (hj : j < 10) (hk : k < 10) : Met l yX1_isThere (Cond.code yX1_isThere cX1_isThere 3 (some .boolean) :: wsU) ({ frames := 1, cells := 0, slots := 0, locals := 21 }) (va_Pc [.ref h0, .int (nI (j)), .int (nI (k))] (XW D (xT cI cJ cZ cS) ta sa sv [(h0, .inr (1, [.int (nI (P)), .ref ae, .ref al, .ref au, .ref ao, .ref ar, .ref ak, .ref aw, .ref att, .ref ass])), (ao, .inl (cI, 100, .inl d))] sz)) (vp_Si (fun r : Int32 => (r = 1 ∧ (¬ d (10 * j + k) = 0)) ∨ (r = 0 ∧ (d (10 * j + k) = 0)))) 0 0 (fun _ => False) := by
  refine xh (QA := fun _ => vp_Si (fun r : Int32 => (r = 1 ∧ (¬ d (10 * j + k) = 0)) ∨ (r = 0 ∧ (d (10 * j + k) = 0)))) (fr := fun _ _ => False) (by decide) (Nat.le_of_ble_eq_true rfl) ?_
  intro p e s m below meth c ls A hF hr hlk hin hsz hP hK hD hN hZ hA hS hl
  have hF : CallFix p m c cX1_isThere 3 s _ _ RX1 := hF
  have hx := hF.1
  have hb := hF.2.1
  have hml := hF.2.2.1
  have hown := hF.2.2.2.1
  have hu : ∀ w ∈ wsU, w.before _ s = true := fun w h => hF.2.2.2.2 w (List.mem_cons_of_mem _ h)
  have hl : lv_has ls 3 [(0, .ref h0), (1, .int (nI (j))), (2, .int (nI (k)))] := hl
  refine lv_aload_n hx hb dX1_isThere_0 rfl (lv_at hl 0 rfl) ?_
  refine xg hF kf_X1_25 hK hP 0 rfl rfl dX1_isThere_1 ?_
  refine lv_iload_n hx hb dX1_isThere_4 rfl (lv_at hl 1 rfl) ?_
  refine lv_iload_n hx hb dX1_isThere_5 rfl (lv_at hl 2 rfl) ?_
  refine xc_Sr hF (c_X1_wayAt l D cI cJ cZ cS ta sa sv s.heap.size j k ) ks_X1_61 ⟨rfl, rfl, Nat.le_of_ble_eq_true rfl, Nat.le_of_ble_eq_true rfl⟩ ⟨Nat.le_of_ble_eq_true rfl, Nat.le_of_ble_eq_true rfl⟩ hK hN hZ hP hD hS hA [] rfl rfl rfl hl.1 rfl (Nat.le_of_ble_eq_true rfl) dX1_isThere_6 (fun r_1 hw_r_1 => ?_)
  subst hw_r_1
  refine va_iald hx hb hK hP 1 0 rfl rfl (vp_in_nI (show 10 * j + k < 100 by omega) (by decide)) dX1_isThere_9 ?_
  refine xl_i (y := d (10 * j + k)) (congrArg d (nI_clamp (show 10 * j + k < 2 ^ 31 by omega))) ?_
  refine lv_if_eq (tgt := 17) hx hb dX1_isThere_10 (by decide) (fun c_2 => ?_) (fun c_2 => ?_)
  · skip
    refine lv_iconst (v := 0) hx hb dX1_isThere_17 (by decide) ?_
    exact W.zret (v := 0) hx hb hr rfl (fun t ht hW => ⟨0, rfl, (by first | exact Or.inr (⟨rfl, (by first | assumption | omega | exact Or.inl (by first | assumption | omega) | exact Or.inr (by first | assumption | omega))⟩)), ht⟩) (fun q h => by cases h) dX1_isThere_18 hlk
  · skip
    refine lv_iconst (v := 1) hx hb dX1_isThere_13 (by decide) ?_
    refine lv_goto (tgt := 18) hx hb dX1_isThere_14 (by decide) ?_
    exact W.zret (v := 1) hx hb hr rfl (fun t ht hW => ⟨1, rfl, (by first | exact Or.inl ⟨rfl, (by first | assumption | omega | exact Or.inl (by first | assumption | omega) | exact Or.inr (by first | assumption | omega))⟩), ht⟩) (fun q h => by cases h) dX1_isThere_18 hlk
set_option maxHeartbeats 4000000 in
set_option maxRecDepth 100000 in
theorem c_X1_isOpen (l : Launch) (D : va_G) (cI cJ cZ cS : ClassId) (ta : Nat) (sa sv : Nat → Nat) (sz : Nat) (h0 : Nat) (ae : Nat) (al : Nat) (au : Nat) (ao : Nat) (ar : Nat) (ak : Nat) (aw : Nat) (att : Nat) (ass : Nat) (P : Nat) (j : Nat) (k : Nat) (d : Nat → Int32) (hj : j < 10) (hk : k < 10) : Met l yX1_isOpen (Cond.code yX1_isOpen cX1_isOpen 3 (some .boolean) :: wsU) ({ frames := 1, cells := 0, slots := 0, locals := 21 }) (va_Pc [.ref h0, .int (nI (j)), .int (nI (k))] (XW D (xT cI cJ cZ cS) ta sa sv [(h0, .inr (1, [.int (nI (P)), .ref ae, .ref al, .ref au, .ref ao, .ref ar, .ref ak, .ref aw, .ref att, .ref ass])), (ao, .inl (cI, 100, .inl d))] sz)) (vp_Si (fun r : Int32 => (r = 1 ∧ (d (10 * j + k) = 1)) ∨ (r = 0 ∧ (¬ d (10 * j + k) = 1)))) 0 0 (fun _ => False) := by
  refine xh (QA := fun _ => vp_Si (fun r : Int32 => (r = 1 ∧ (d (10 * j + k) = 1)) ∨ (r = 0 ∧ (¬ d (10 * j + k) = 1)))) (fr := fun _ _ => False) (by decide) (Nat.le_of_ble_eq_true rfl) ?_
  intro p e s m below meth c ls A hF hr hlk hin hsz hP hK hD hN hZ hA hS hl
  have hF : CallFix p m c cX1_isOpen 3 s _ _ RX1 := hF
  have hx := hF.1
  have hb := hF.2.1
  have hml := hF.2.2.1
  have hown := hF.2.2.2.1
  have hu : ∀ w ∈ wsU, w.before _ s = true := fun w h => hF.2.2.2.2 w (List.mem_cons_of_mem _ h)
  have hl : lv_has ls 3 [(0, .ref h0), (1, .int (nI (j))), (2, .int (nI (k)))] := hl
  refine lv_aload_n hx hb dX1_isOpen_0 rfl (lv_at hl 0 rfl) ?_
  refine xg hF kf_X1_25 hK hP 0 rfl rfl dX1_isOpen_1 ?_
  refine lv_iload_n hx hb dX1_isOpen_4 rfl (lv_at hl 1 rfl) ?_
  refine lv_iload_n hx hb dX1_isOpen_5 rfl (lv_at hl 2 rfl) ?_
  refine xc_Sr hF (c_X1_wayAt l D cI cJ cZ cS ta sa sv s.heap.size j k ) ks_X1_61 ⟨rfl, rfl, Nat.le_of_ble_eq_true rfl, Nat.le_of_ble_eq_true rfl⟩ ⟨Nat.le_of_ble_eq_true rfl, Nat.le_of_ble_eq_true rfl⟩ hK hN hZ hP hD hS hA [] rfl rfl rfl hl.1 rfl (Nat.le_of_ble_eq_true rfl) dX1_isOpen_6 (fun r_1 hw_r_1 => ?_)
  subst hw_r_1
  refine va_iald hx hb hK hP 1 0 rfl rfl (vp_in_nI (show 10 * j + k < 100 by omega) (by decide)) dX1_isOpen_9 ?_
  refine xl_i (y := d (10 * j + k)) (congrArg d (nI_clamp (show 10 * j + k < 2 ^ 31 by omega))) ?_
  refine lv_iconst (v := 1) hx hb dX1_isOpen_10 (by decide) ?_
  refine lv_icmp_ne (tgt := 18) hx hb dX1_isOpen_11 (by decide) (fun c_2 => ?_) (fun c_2 => ?_)
  · skip
    refine lv_iconst (v := 0) hx hb dX1_isOpen_18 (by decide) ?_
    exact W.zret (v := 0) hx hb hr rfl (fun t ht hW => ⟨0, rfl, (by first | exact Or.inr (⟨rfl, (by first | assumption | omega | exact Or.inl (by first | assumption | omega) | exact Or.inr (by first | assumption | omega))⟩)), ht⟩) (fun q h => by cases h) dX1_isOpen_19 hlk
  · skip
    refine lv_iconst (v := 1) hx hb dX1_isOpen_14 (by decide) ?_
    refine lv_goto (tgt := 19) hx hb dX1_isOpen_15 (by decide) ?_
    exact W.zret (v := 1) hx hb hr rfl (fun t ht hW => ⟨1, rfl, (by first | exact Or.inl ⟨rfl, (by first | assumption | omega | exact Or.inl (by first | assumption | omega) | exact Or.inr (by first | assumption | omega))⟩), ht⟩) (fun q h => by cases h) dX1_isOpen_19 hlk
set_option maxHeartbeats 4000000 in
set_option maxRecDepth 100000 in
theorem c_X1_lowOf (l : Launch) (D : va_G) (cI cJ cZ cS : ClassId) (ta : Nat) (sa sv : Nat → Nat) (sz : Nat) (h0 : Nat) (ae : Nat) (al : Nat) (au : Nat) (ao : Nat) (ar : Nat) (ak : Nat) (aw : Nat) (att : Nat) (ass : Nat) (P : Nat) (j : Nat) (k : Nat) (d : Nat → Int32) (hj : j < 10) (hk : k < 10) : Met l yX1_lowOf (Cond.code yX1_lowOf cX1_lowOf 3 (some .int) :: wsU) ({ frames := 1, cells := 0, slots := 0, locals := 21 }) (va_Pc [.ref h0, .int (nI (j)), .int (nI (k))] (XW D (xT cI cJ cZ cS) ta sa sv [(h0, .inr (1, [.int (nI (P)), .ref ae, .ref al, .ref au, .ref ao, .ref ar, .ref ak, .ref aw, .ref att, .ref ass])), (al, .inl (cI, 100, .inl d))] sz)) (vp_Si (fun r : Int32 => (r = d (10 * j + k)))) 0 0 (fun _ => False) := by
  refine xh (QA := fun _ => vp_Si (fun r : Int32 => (r = d (10 * j + k)))) (fr := fun _ _ => False) (by decide) (Nat.le_of_ble_eq_true rfl) ?_
  intro p e s m below meth c ls A hF hr hlk hin hsz hP hK hD hN hZ hA hS hl
  have hF : CallFix p m c cX1_lowOf 3 s _ _ RX1 := hF
  have hx := hF.1
  have hb := hF.2.1
  have hml := hF.2.2.1
  have hown := hF.2.2.2.1
  have hu : ∀ w ∈ wsU, w.before _ s = true := fun w h => hF.2.2.2.2 w (List.mem_cons_of_mem _ h)
  have hl : lv_has ls 3 [(0, .ref h0), (1, .int (nI (j))), (2, .int (nI (k)))] := hl
  refine lv_aload_n hx hb dX1_lowOf_0 rfl (lv_at hl 0 rfl) ?_
  refine xg hF kf_X1_19 hK hP 0 rfl rfl dX1_lowOf_1 ?_
  refine lv_iload_n hx hb dX1_lowOf_4 rfl (lv_at hl 1 rfl) ?_
  refine lv_iload_n hx hb dX1_lowOf_5 rfl (lv_at hl 2 rfl) ?_
  refine xc_Sr hF (c_X1_wayAt l D cI cJ cZ cS ta sa sv s.heap.size j k ) ks_X1_61 ⟨rfl, rfl, Nat.le_of_ble_eq_true rfl, Nat.le_of_ble_eq_true rfl⟩ ⟨Nat.le_of_ble_eq_true rfl, Nat.le_of_ble_eq_true rfl⟩ hK hN hZ hP hD hS hA [] rfl rfl rfl hl.1 rfl (Nat.le_of_ble_eq_true rfl) dX1_lowOf_6 (fun r_1 hw_r_1 => ?_)
  subst hw_r_1
  refine va_iald hx hb hK hP 1 0 rfl rfl (vp_in_nI (show 10 * j + k < 100 by omega) (by decide)) dX1_lowOf_9 ?_
  refine xl_i (y := d (10 * j + k)) (congrArg d (nI_clamp (show 10 * j + k < 2 ^ 31 by omega))) ?_
  exact W.iret (v := d (10 * j + k)) hx hb hr (fun t ht hW => ⟨d (10 * j + k), rfl, (by first | exact rfl), ht⟩) (fun q h => by cases h) dX1_lowOf_10 hlk
set_option maxHeartbeats 4000000 in
set_option maxRecDepth 100000 in
theorem c_X1_highOf (l : Launch) (D : va_G) (cI cJ cZ cS : ClassId) (ta : Nat) (sa sv : Nat → Nat) (sz : Nat) (h0 : Nat) (ae : Nat) (al : Nat) (au : Nat) (ao : Nat) (ar : Nat) (ak : Nat) (aw : Nat) (att : Nat) (ass : Nat) (P : Nat) (j : Nat) (k : Nat) (d : Nat → Int32) (hj : j < 10) (hk : k < 10) : Met l yX1_highOf (Cond.code yX1_highOf cX1_highOf 3 (some .int) :: wsU) ({ frames := 1, cells := 0, slots := 0, locals := 21 }) (va_Pc [.ref h0, .int (nI (j)), .int (nI (k))] (XW D (xT cI cJ cZ cS) ta sa sv [(h0, .inr (1, [.int (nI (P)), .ref ae, .ref al, .ref au, .ref ao, .ref ar, .ref ak, .ref aw, .ref att, .ref ass])), (au, .inl (cI, 100, .inl d))] sz)) (vp_Si (fun r : Int32 => (r = d (10 * j + k)))) 0 0 (fun _ => False) := by
  refine xh (QA := fun _ => vp_Si (fun r : Int32 => (r = d (10 * j + k)))) (fr := fun _ _ => False) (by decide) (Nat.le_of_ble_eq_true rfl) ?_
  intro p e s m below meth c ls A hF hr hlk hin hsz hP hK hD hN hZ hA hS hl
  have hF : CallFix p m c cX1_highOf 3 s _ _ RX1 := hF
  have hx := hF.1
  have hb := hF.2.1
  have hml := hF.2.2.1
  have hown := hF.2.2.2.1
  have hu : ∀ w ∈ wsU, w.before _ s = true := fun w h => hF.2.2.2.2 w (List.mem_cons_of_mem _ h)
  have hl : lv_has ls 3 [(0, .ref h0), (1, .int (nI (j))), (2, .int (nI (k)))] := hl
  refine lv_aload_n hx hb dX1_highOf_0 rfl (lv_at hl 0 rfl) ?_
  refine xg hF kf_X1_22 hK hP 0 rfl rfl dX1_highOf_1 ?_
  refine lv_iload_n hx hb dX1_highOf_4 rfl (lv_at hl 1 rfl) ?_
  refine lv_iload_n hx hb dX1_highOf_5 rfl (lv_at hl 2 rfl) ?_
  refine xc_Sr hF (c_X1_wayAt l D cI cJ cZ cS ta sa sv s.heap.size j k ) ks_X1_61 ⟨rfl, rfl, Nat.le_of_ble_eq_true rfl, Nat.le_of_ble_eq_true rfl⟩ ⟨Nat.le_of_ble_eq_true rfl, Nat.le_of_ble_eq_true rfl⟩ hK hN hZ hP hD hS hA [] rfl rfl rfl hl.1 rfl (Nat.le_of_ble_eq_true rfl) dX1_highOf_6 (fun r_1 hw_r_1 => ?_)
  subst hw_r_1
  refine va_iald hx hb hK hP 1 0 rfl rfl (vp_in_nI (show 10 * j + k < 100 by omega) (by decide)) dX1_highOf_9 ?_
  refine xl_i (y := d (10 * j + k)) (congrArg d (nI_clamp (show 10 * j + k < 2 ^ 31 by omega))) ?_
  exact W.iret (v := d (10 * j + k)) hx hb hr (fun t ht hW => ⟨d (10 * j + k), rfl, (by first | exact rfl), ht⟩) (fun q h => by cases h) dX1_highOf_10 hlk
set_option maxHeartbeats 4000000 in
set_option maxRecDepth 100000 in
theorem c_X1_areBothWays (l : Launch) (D : va_G) (cI cJ cZ cS : ClassId) (ta : Nat) (sa sv : Nat → Nat) (sz : Nat) (h0 : Nat) (ae : Nat) (al : Nat) (au : Nat) (ao : Nat) (ar : Nat) (ak : Nat) (aw : Nat) (att : Nat) (ass : Nat) (P : Nat) (j : Nat) (k : Nat) (d : Nat → Int32) (hj : j < 10) (hk : k < 10) : Met l yX1_areBothWays (Cond.code yX1_areBothWays cX1_areBothWays 3 (some .boolean) :: wsU) ({ frames := 2, cells := 0, slots := 0, locals := 43 }) (va_Pc [.ref h0, .int (nI (j)), .int (nI (k))] (XW D (xT cI cJ cZ cS) ta sa sv [(h0, .inr (1, [.int (nI (P)), .ref ae, .ref al, .ref au, .ref ao, .ref ar, .ref ak, .ref aw, .ref att, .ref ass])), (ao, .inl (cI, 100, .inl d))] sz)) (vp_Si (fun r : Int32 => (r = 1) ∨ (r = 0))) 0 0 (fun _ => False) := by
  refine xh (QA := fun _ => vp_Si (fun r : Int32 => (r = 1) ∨ (r = 0))) (fr := fun _ _ => False) (by decide) (Nat.le_of_ble_eq_true rfl) ?_
  intro p e s m below meth c ls A hF hr hlk hin hsz hP hK hD hN hZ hA hS hl
  have hF : CallFix p m c cX1_areBothWays 3 s _ _ RX1 := hF
  have hx := hF.1
  have hb := hF.2.1
  have hml := hF.2.2.1
  have hown := hF.2.2.2.1
  have hu : ∀ w ∈ wsU, w.before _ s = true := fun w h => hF.2.2.2.2 w (List.mem_cons_of_mem _ h)
  have hl : lv_has ls 3 [(0, .ref h0), (1, .int (nI (j))), (2, .int (nI (k)))] := hl
  refine lv_aload_n hx hb dX1_areBothWays_0 rfl (lv_at hl 0 rfl) ?_
  refine lv_iload_n hx hb dX1_areBothWays_1 rfl (lv_at hl 1 rfl) ?_
  refine lv_iload_n hx hb dX1_areBothWays_2 rfl (lv_at hl 2 rfl) ?_
  refine xc_Vr hF (c_X1_isOpen l D cI cJ cZ cS ta sa sv s.heap.size h0 ae al au ao ar ak aw att ass P j k d (by omega) (by omega)) kv_X1_65 ⟨rfl, rfl, Nat.le_of_ble_eq_true rfl, Nat.le_of_ble_eq_true rfl⟩ ⟨Nat.le_of_ble_eq_true rfl, Nat.le_of_ble_eq_true rfl⟩ hK hN hZ hP hD hS hA [0, 1] rfl rfl 0 rfl rfl rfl rfl hl.1 rfl (Nat.le_of_ble_eq_true rfl) dX1_areBothWays_3 (fun r_1 hw_r_1 => ?_)
  rcases hw_r_1 with ⟨rfl, h_2⟩ | ⟨rfl, h_3⟩
  · skip
    refine lv_if_eq (tgt := 22) hx hb dX1_areBothWays_6 (by decide) (fun c_4 => absurd c_4 (by decide)) (fun c_4 => ?_)
    refine lv_aload_n hx hb dX1_areBothWays_9 rfl (lv_at hl 0 rfl) ?_
    refine lv_iload_n hx hb dX1_areBothWays_10 rfl (lv_at hl 2 rfl) ?_
    refine lv_iload_n hx hb dX1_areBothWays_11 rfl (lv_at hl 1 rfl) ?_
    refine xc_Vr hF (c_X1_isOpen l D cI cJ cZ cS ta sa sv s.heap.size h0 ae al au ao ar ak aw att ass P k j d (by omega) (by omega)) kv_X1_65 ⟨rfl, rfl, Nat.le_of_ble_eq_true rfl, Nat.le_of_ble_eq_true rfl⟩ ⟨Nat.le_of_ble_eq_true rfl, Nat.le_of_ble_eq_true rfl⟩ hK hN hZ hP hD hS hA [0, 1] rfl rfl 0 rfl rfl rfl rfl hl.1 rfl (Nat.le_of_ble_eq_true rfl) dX1_areBothWays_12 (fun r_5 hw_r_5 => ?_)
    rcases hw_r_5 with ⟨rfl, h_6⟩ | ⟨rfl, h_7⟩
    · skip
      refine lv_if_eq (tgt := 22) hx hb dX1_areBothWays_15 (by decide) (fun c_8 => absurd c_8 (by decide)) (fun c_8 => ?_)
      refine lv_iconst (v := 1) hx hb dX1_areBothWays_18 (by decide) ?_
      refine lv_goto (tgt := 23) hx hb dX1_areBothWays_19 (by decide) ?_
      exact W.zret (v := 1) hx hb hr rfl (fun t ht hW => ⟨1, rfl, (by first | exact Or.inl rfl), ht⟩) (fun q h => by cases h) dX1_areBothWays_23 hlk
    · skip
      refine lv_if_eq (tgt := 22) hx hb dX1_areBothWays_15 (by decide) (fun c_9 => ?_) (fun c_9 => absurd (by decide) c_9)
      refine lv_iconst (v := 0) hx hb dX1_areBothWays_22 (by decide) ?_
      exact W.zret (v := 0) hx hb hr rfl (fun t ht hW => ⟨0, rfl, (by first | exact Or.inr (rfl)), ht⟩) (fun q h => by cases h) dX1_areBothWays_23 hlk
  · skip
    refine lv_if_eq (tgt := 22) hx hb dX1_areBothWays_6 (by decide) (fun c_10 => ?_) (fun c_10 => absurd (by decide) c_10)
    refine lv_iconst (v := 0) hx hb dX1_areBothWays_22 (by decide) ?_
    exact W.zret (v := 0) hx hb hr rfl (fun t ht hW => ⟨0, rfl, (by first | exact Or.inr (rfl)), ht⟩) (fun q h => by cases h) dX1_areBothWays_23 hlk
set_option maxHeartbeats 4000000 in
set_option maxRecDepth 100000 in
theorem c_X1_addPlace (l : Launch) (D : va_G) (cI cJ cZ cS : ClassId) (ta : Nat) (sa sv : Nat → Nat) (sz : Nat) (h0 : Nat) (ae : Nat) (al : Nat) (au : Nat) (ao : Nat) (ar : Nat) (ak : Nat) (aw : Nat) (att : Nat) (ass : Nat) (P : Nat) (er : Nat → Int32) (p0 : Int32) (hP0 : P < 10) : Met l yX1_addPlace (Cond.code yX1_addPlace cX1_addPlace 3 (some .int) :: wsU) ({ frames := 0, cells := 0, slots := 0, locals := 0 }) (va_Pc [.ref h0, .int p0] (XW D (xT cI cJ cZ cS) ta sa sv [(h0, .inr (1, [.int (nI (P)), .ref ae, .ref al, .ref au, .ref ao, .ref ar, .ref ak, .ref aw, .ref att, .ref ass])), (ae, .inl (cI, 10, .inl er))] sz)) (XQi (fun (r : Int32) (e2 : (Nat → Int32)) => ((r = nI (P))) ∧ (e2 = upd er P p0)) D (fun (e2 : Nat → Int32) => [(h0, .inr (1, [.int (nI (P + 1)), .ref ae, .ref al, .ref au, .ref ao, .ref ar, .ref ak, .ref aw, .ref att, .ref ass])), (ae, .inl (cI, 10, .inl e2))]) (va_A [(h0, .inr (1, [.int (nI (P)), .ref ae, .ref al, .ref au, .ref ao, .ref ar, .ref ak, .ref aw, .ref att, .ref ass])), (ae, .inl (cI, 10, .inl er))] sz)) 0 0 (va_A [(h0, .inr (1, [.int (nI (P)), .ref ae, .ref al, .ref au, .ref ao, .ref ar, .ref ak, .ref aw, .ref att, .ref ass])), (ae, .inl (cI, 10, .inl er))] sz) := by
  refine xh (QA := fun A => XQi (fun (r : Int32) (e2 : (Nat → Int32)) => ((r = nI (P))) ∧ (e2 = upd er P p0)) D (fun (e2 : Nat → Int32) => [(h0, .inr (1, [.int (nI (P + 1)), .ref ae, .ref al, .ref au, .ref ao, .ref ar, .ref ak, .ref aw, .ref att, .ref ass])), (ae, .inl (cI, 10, .inl e2))]) A) (fr := fun A => A) (by decide) (Nat.le_of_ble_eq_true rfl) ?_
  intro p e s m below meth c ls A hF hr hlk hin hsz hP hK hD hN hZ hA hS hl
  have hF : CallFix p m c cX1_addPlace 3 s _ _ RX1 := hF
  have hx := hF.1
  have hb := hF.2.1
  have hml := hF.2.2.1
  have hown := hF.2.2.2.1
  have hu : ∀ w ∈ wsU, w.before _ s = true := fun w h => hF.2.2.2.2 w (List.mem_cons_of_mem _ h)
  have hl : lv_has ls 3 [(0, .ref h0), (1, .int p0)] := hl
  refine lv_aload_n hx hb dX1_addPlace_0 rfl (lv_at hl 0 rfl) ?_
  refine xg hF kf_X1_9 hK hP 0 rfl rfl dX1_addPlace_1 ?_
  refine lv_istore_n (lv' := [(2, .int (nI (P))), (0, .ref h0), (1, .int p0)]) hx hb dX1_addPlace_4 rfl hl (by decide) rfl (fun ls hl => ?_)
  refine lv_aload_n hx hb dX1_addPlace_5 rfl (lv_at hl 1 rfl) ?_
  refine lv_dup hx hb dX1_addPlace_6 rfl ?_
  refine xg hF kf_X1_9 hK hP 0 rfl rfl dX1_addPlace_7 ?_
  refine lv_iconst (v := 1) hx hb dX1_addPlace_10 (by decide) ?_
  refine lv_iadd hx hb dX1_addPlace_11 ?_
  refine xl_i (y := nI (P + 1)) (nI_add P 1) ?_
  refine xp hF kf_X1_9 tyX1_ok nmX1 hK hP hD hS 0 rfl rfl rfl rfl (Nat.le_of_ble_eq_true rfl) dX1_addPlace_12 (fun H locs hP hD hS => ?_)
  have hP : va_P D vwCl [(h0, .inr (1, [.int (nI (P + 1)), .ref ae, .ref al, .ref au, .ref ao, .ref ar, .ref ak, .ref aw, .ref att, .ref ass])), (ae, .inl (cI, 10, .inl er))] H := hP
  have hD : va_D A [(h0, .inr (1, [.int (nI (P + 1)), .ref ae, .ref al, .ref au, .ref ao, .ref ar, .ref ak, .ref aw, .ref att, .ref ass])), (ae, .inl (cI, 10, .inl er))] := hD
  refine lv_aload_n hx hb dX1_addPlace_15 rfl (lv_at hl 1 rfl) ?_
  refine xg hF kf_X1_15 hK hP 0 rfl rfl dX1_addPlace_16 ?_
  refine lv_iload_n hx hb dX1_addPlace_19 rfl (lv_at hl 0 rfl) ?_
  refine lv_iload_n hx hb dX1_addPlace_20 rfl (lv_at hl 2 rfl) ?_
  refine va_iast hx hb hK hP hD hS 1 0 rfl rfl (vp_in_nI (show P < 10 by omega) (by decide)) dX1_addPlace_21 (fun H locs hP hD hS => ?_)
  rw [nI_clamp (show P < 2 ^ 31 by omega)] at hP hD
  obtain ⟨f_1, ef_1⟩ : ∃ g, g = upd er P p0 := ⟨_, rfl⟩
  rw [← ef_1] at hP hD
  have hP : va_P D vwCl [(h0, .inr (1, [.int (nI (P + 1)), .ref ae, .ref al, .ref au, .ref ao, .ref ar, .ref ak, .ref aw, .ref att, .ref ass])), (ae, .inl (cI, 10, .inl f_1))] H := hP
  have hD : va_D A [(h0, .inr (1, [.int (nI (P + 1)), .ref ae, .ref al, .ref au, .ref ao, .ref ar, .ref ak, .ref aw, .ref att, .ref ass])), (ae, .inl (cI, 10, .inl f_1))] := hD
  refine lv_iload_n hx hb dX1_addPlace_22 rfl (lv_at hl 0 rfl) ?_
  exact W.iret (v := nI (P)) hx hb hr (fun t ht hW => ⟨⟨nI (P), f_1, rfl, ⟨(by first | exact rfl), (by first | assumption | omega)⟩, by rw [ht]; exact hP.sub [0, 1] rfl, hD.sub [0, 1] (by decide) rfl⟩, hS.F ht⟩) hS.2.2 dX1_addPlace_23 hlk
set_option maxHeartbeats 4000000 in
set_option maxRecDepth 100000 in
theorem c_X1_setWay (l : Launch) (D : va_G) (cI cJ cZ cS : ClassId) (ta : Nat) (sa sv : Nat → Nat) (sz : Nat) (h0 : Nat) (ae : Nat) (al : Nat) (au : Nat) (ao : Nat) (ar : Nat) (ak : Nat) (aw : Nat) (att : Nat) (ass : Nat) (P : Nat) (j : Nat) (k : Nat) (p0 : Int32) (p1 : Int32) (lo : Nat → Int32) (hi : Nat → Int32) (d : Nat → Int32) (hj : j < 10) (hk : k < 10) : Met l yX1_setWay (Cond.code yX1_setWay cX1_setWay 6 none :: wsU) ({ frames := 1, cells := 0, slots := 0, locals := 21 }) (va_Pc [.ref h0, .int (nI (j)), .int (nI (k)), .int p0, .int p1] (XW D (xT cI cJ cZ cS) ta sa sv [(h0, .inr (1, [.int (nI (P)), .ref ae, .ref al, .ref au, .ref ao, .ref ar, .ref ak, .ref aw, .ref att, .ref ass])), (al, .inl (cI, 100, .inl lo)), (au, .inl (cI, 100, .inl hi)), (ao, .inl (cI, 100, .inl d))] sz)) (XQv (fun (u : (Nat → Int32) × (Nat → Int32) × (Nat → Int32)) => match u with | (l2, u2, d2) => (l2 = upd lo (10 * j + k) p0) ∧ (u2 = upd hi (10 * j + k) p1) ∧ (d2 = upd d (10 * j + k) 1)) D (fun (u : (Nat → Int32) × (Nat → Int32) × (Nat → Int32)) => match u with | (l2, u2, d2) => [(h0, .inr (1, [.int (nI (P)), .ref ae, .ref al, .ref au, .ref ao, .ref ar, .ref ak, .ref aw, .ref att, .ref ass])), (al, .inl (cI, 100, .inl l2)), (au, .inl (cI, 100, .inl u2)), (ao, .inl (cI, 100, .inl d2))]) (va_A [(h0, .inr (1, [.int (nI (P)), .ref ae, .ref al, .ref au, .ref ao, .ref ar, .ref ak, .ref aw, .ref att, .ref ass])), (al, .inl (cI, 100, .inl lo)), (au, .inl (cI, 100, .inl hi)), (ao, .inl (cI, 100, .inl d))] sz)) 0 0 (va_A [(h0, .inr (1, [.int (nI (P)), .ref ae, .ref al, .ref au, .ref ao, .ref ar, .ref ak, .ref aw, .ref att, .ref ass])), (al, .inl (cI, 100, .inl lo)), (au, .inl (cI, 100, .inl hi)), (ao, .inl (cI, 100, .inl d))] sz) := by
  refine xh (QA := fun A => XQv (fun (u : (Nat → Int32) × (Nat → Int32) × (Nat → Int32)) => match u with | (l2, u2, d2) => (l2 = upd lo (10 * j + k) p0) ∧ (u2 = upd hi (10 * j + k) p1) ∧ (d2 = upd d (10 * j + k) 1)) D (fun (u : (Nat → Int32) × (Nat → Int32) × (Nat → Int32)) => match u with | (l2, u2, d2) => [(h0, .inr (1, [.int (nI (P)), .ref ae, .ref al, .ref au, .ref ao, .ref ar, .ref ak, .ref aw, .ref att, .ref ass])), (al, .inl (cI, 100, .inl l2)), (au, .inl (cI, 100, .inl u2)), (ao, .inl (cI, 100, .inl d2))]) A) (fr := fun A => A) (by decide) (Nat.le_of_ble_eq_true rfl) ?_
  intro p e s m below meth c ls A hF hr hlk hin hsz hP hK hD hN hZ hA hS hl
  have hF : CallFix p m c cX1_setWay 6 s _ _ RX1 := hF
  have hx := hF.1
  have hb := hF.2.1
  have hml := hF.2.2.1
  have hown := hF.2.2.2.1
  have hu : ∀ w ∈ wsU, w.before _ s = true := fun w h => hF.2.2.2.2 w (List.mem_cons_of_mem _ h)
  have hl : lv_has ls 6 [(0, .ref h0), (1, .int (nI (j))), (2, .int (nI (k))), (3, .int p0), (4, .int p1)] := hl
  refine lv_iload_n hx hb dX1_setWay_0 rfl (lv_at hl 1 rfl) ?_
  refine lv_iload_n hx hb dX1_setWay_1 rfl (lv_at hl 2 rfl) ?_
  refine xc_Sr hF (c_X1_wayAt l D cI cJ cZ cS ta sa sv s.heap.size j k ) ks_X1_61 ⟨rfl, rfl, Nat.le_of_ble_eq_true rfl, Nat.le_of_ble_eq_true rfl⟩ ⟨Nat.le_of_ble_eq_true rfl, Nat.le_of_ble_eq_true rfl⟩ hK hN hZ hP hD hS hA [] rfl rfl rfl hl.1 rfl (Nat.le_of_ble_eq_true rfl) dX1_setWay_2 (fun r_1 hw_r_1 => ?_)
  subst hw_r_1
  refine lv_istore (lv' := [(5, .int (nI (10 * j + k))), (0, .ref h0), (1, .int (nI (j))), (2, .int (nI (k))), (3, .int p0), (4, .int p1)]) hx hb dX1_setWay_5 hl (by decide) rfl (fun ls hl => ?_)
  refine lv_aload_n hx hb dX1_setWay_7 rfl (lv_at hl 1 rfl) ?_
  refine xg hF kf_X1_19 hK hP 0 rfl rfl dX1_setWay_8 ?_
  refine lv_iload hx hb dX1_setWay_11 (lv_at hl 0 rfl) ?_
  refine lv_iload_n hx hb dX1_setWay_13 rfl (lv_at hl 4 rfl) ?_
  refine va_iast hx hb hK hP hD hS 1 0 rfl rfl (vp_in_nI (show 10 * j + k < 100 by omega) (by decide)) dX1_setWay_14 (fun H locs hP hD hS => ?_)
  rw [nI_clamp (show 10 * j + k < 2 ^ 31 by omega)] at hP hD
  obtain ⟨f_2, ef_2⟩ : ∃ g, g = upd lo (10 * j + k) p0 := ⟨_, rfl⟩
  rw [← ef_2] at hP hD
  have hP : va_P D vwCl [(h0, .inr (1, [.int (nI (P)), .ref ae, .ref al, .ref au, .ref ao, .ref ar, .ref ak, .ref aw, .ref att, .ref ass])), (al, .inl (cI, 100, .inl f_2)), (au, .inl (cI, 100, .inl hi)), (ao, .inl (cI, 100, .inl d))] H := hP
  have hD : va_D A [(h0, .inr (1, [.int (nI (P)), .ref ae, .ref al, .ref au, .ref ao, .ref ar, .ref ak, .ref aw, .ref att, .ref ass])), (al, .inl (cI, 100, .inl f_2)), (au, .inl (cI, 100, .inl hi)), (ao, .inl (cI, 100, .inl d))] := hD
  refine lv_aload_n hx hb dX1_setWay_15 rfl (lv_at hl 1 rfl) ?_
  refine xg hF kf_X1_22 hK hP 0 rfl rfl dX1_setWay_16 ?_
  refine lv_iload hx hb dX1_setWay_19 (lv_at hl 0 rfl) ?_
  refine lv_iload hx hb dX1_setWay_21 (lv_at hl 5 rfl) ?_
  refine va_iast hx hb hK hP hD hS 2 0 rfl rfl (vp_in_nI (show 10 * j + k < 100 by omega) (by decide)) dX1_setWay_23 (fun H locs hP hD hS => ?_)
  rw [nI_clamp (show 10 * j + k < 2 ^ 31 by omega)] at hP hD
  obtain ⟨f_3, ef_3⟩ : ∃ g, g = upd hi (10 * j + k) p1 := ⟨_, rfl⟩
  rw [← ef_3] at hP hD
  have hP : va_P D vwCl [(h0, .inr (1, [.int (nI (P)), .ref ae, .ref al, .ref au, .ref ao, .ref ar, .ref ak, .ref aw, .ref att, .ref ass])), (al, .inl (cI, 100, .inl f_2)), (au, .inl (cI, 100, .inl f_3)), (ao, .inl (cI, 100, .inl d))] H := hP
  have hD : va_D A [(h0, .inr (1, [.int (nI (P)), .ref ae, .ref al, .ref au, .ref ao, .ref ar, .ref ak, .ref aw, .ref att, .ref ass])), (al, .inl (cI, 100, .inl f_2)), (au, .inl (cI, 100, .inl f_3)), (ao, .inl (cI, 100, .inl d))] := hD
  refine lv_aload_n hx hb dX1_setWay_24 rfl (lv_at hl 1 rfl) ?_
  refine xg hF kf_X1_25 hK hP 0 rfl rfl dX1_setWay_25 ?_
  refine lv_iload hx hb dX1_setWay_28 (lv_at hl 0 rfl) ?_
  refine lv_iconst (v := 1) hx hb dX1_setWay_30 (by decide) ?_
  refine va_iast hx hb hK hP hD hS 3 0 rfl rfl (vp_in_nI (show 10 * j + k < 100 by omega) (by decide)) dX1_setWay_31 (fun H locs hP hD hS => ?_)
  rw [nI_clamp (show 10 * j + k < 2 ^ 31 by omega)] at hP hD
  obtain ⟨f_4, ef_4⟩ : ∃ g, g = upd d (10 * j + k) 1 := ⟨_, rfl⟩
  rw [← ef_4] at hP hD
  have hP : va_P D vwCl [(h0, .inr (1, [.int (nI (P)), .ref ae, .ref al, .ref au, .ref ao, .ref ar, .ref ak, .ref aw, .ref att, .ref ass])), (al, .inl (cI, 100, .inl f_2)), (au, .inl (cI, 100, .inl f_3)), (ao, .inl (cI, 100, .inl f_4))] H := hP
  have hD : va_D A [(h0, .inr (1, [.int (nI (P)), .ref ae, .ref al, .ref au, .ref ao, .ref ar, .ref ak, .ref aw, .ref att, .ref ass])), (al, .inl (cI, 100, .inl f_2)), (au, .inl (cI, 100, .inl f_3)), (ao, .inl (cI, 100, .inl f_4))] := hD
  exact W.vret hx hb hr (fun t ht hW => ⟨⟨(f_2, f_3, f_4), rfl, ⟨(by first | assumption | omega), (by first | assumption | omega), (by first | assumption | omega)⟩, by rw [ht]; exact hP.sub [0, 1, 2, 3] rfl, hD.sub [0, 1, 2, 3] (by decide) rfl⟩, hS.F ht⟩) hS.2.2 dX1_setWay_32 hlk
set_option maxHeartbeats 4000000 in
set_option maxRecDepth 100000 in
theorem c_X1_setShut (l : Launch) (D : va_G) (cI cJ cZ cS : ClassId) (ta : Nat) (sa sv : Nat → Nat) (sz : Nat) (h0 : Nat) (ae : Nat) (al : Nat) (au : Nat) (ao : Nat) (ar : Nat) (ak : Nat) (aw : Nat) (att : Nat) (ass : Nat) (P : Nat) (j : Nat) (k : Nat) (p0 : Int32) (d : Nat → Int32) (hj : j < 10) (hk : k < 10) : Met l yX1_setShut (Cond.code yX1_setShut cX1_setShut 4 none :: wsU) ({ frames := 1, cells := 0, slots := 0, locals := 21 }) (va_Pc [.ref h0, .int (nI (j)), .int (nI (k)), .int p0] (XW D (xT cI cJ cZ cS) ta sa sv [(h0, .inr (1, [.int (nI (P)), .ref ae, .ref al, .ref au, .ref ao, .ref ar, .ref ak, .ref aw, .ref att, .ref ass])), (ao, .inl (cI, 100, .inl d))] sz)) (XQv (fun (d2 : (Nat → Int32)) => (d2 = upd d (10 * j + k) (if p0 = 0 then 1 else 2))) D (fun (d2 : Nat → Int32) => [(h0, .inr (1, [.int (nI (P)), .ref ae, .ref al, .ref au, .ref ao, .ref ar, .ref ak, .ref aw, .ref att, .ref ass])), (ao, .inl (cI, 100, .inl d2))]) (va_A [(h0, .inr (1, [.int (nI (P)), .ref ae, .ref al, .ref au, .ref ao, .ref ar, .ref ak, .ref aw, .ref att, .ref ass])), (ao, .inl (cI, 100, .inl d))] sz)) 0 0 (va_A [(h0, .inr (1, [.int (nI (P)), .ref ae, .ref al, .ref au, .ref ao, .ref ar, .ref ak, .ref aw, .ref att, .ref ass])), (ao, .inl (cI, 100, .inl d))] sz) := by
  refine xh (QA := fun A => XQv (fun (d2 : (Nat → Int32)) => (d2 = upd d (10 * j + k) (if p0 = 0 then 1 else 2))) D (fun (d2 : Nat → Int32) => [(h0, .inr (1, [.int (nI (P)), .ref ae, .ref al, .ref au, .ref ao, .ref ar, .ref ak, .ref aw, .ref att, .ref ass])), (ao, .inl (cI, 100, .inl d2))]) A) (fr := fun A => A) (by decide) (Nat.le_of_ble_eq_true rfl) ?_
  intro p e s m below meth c ls A hF hr hlk hin hsz hP hK hD hN hZ hA hS hl
  have hF : CallFix p m c cX1_setShut 4 s _ _ RX1 := hF
  have hx := hF.1
  have hb := hF.2.1
  have hml := hF.2.2.1
  have hown := hF.2.2.2.1
  have hu : ∀ w ∈ wsU, w.before _ s = true := fun w h => hF.2.2.2.2 w (List.mem_cons_of_mem _ h)
  have hl : lv_has ls 4 [(0, .ref h0), (1, .int (nI (j))), (2, .int (nI (k))), (3, .int p0)] := hl
  refine lv_aload_n hx hb dX1_setShut_0 rfl (lv_at hl 0 rfl) ?_
  refine xg hF kf_X1_25 hK hP 0 rfl rfl dX1_setShut_1 ?_
  refine lv_iload_n hx hb dX1_setShut_4 rfl (lv_at hl 1 rfl) ?_
  refine lv_iload_n hx hb dX1_setShut_5 rfl (lv_at hl 2 rfl) ?_
  refine xc_Sr hF (c_X1_wayAt l D cI cJ cZ cS ta sa sv s.heap.size j k ) ks_X1_61 ⟨rfl, rfl, Nat.le_of_ble_eq_true rfl, Nat.le_of_ble_eq_true rfl⟩ ⟨Nat.le_of_ble_eq_true rfl, Nat.le_of_ble_eq_true rfl⟩ hK hN hZ hP hD hS hA [] rfl rfl rfl hl.1 rfl (Nat.le_of_ble_eq_true rfl) dX1_setShut_6 (fun r_1 hw_r_1 => ?_)
  subst hw_r_1
  refine lv_iload_n hx hb dX1_setShut_9 rfl (lv_at hl 3 rfl) ?_
  refine lv_if_eq (tgt := 17) hx hb dX1_setShut_10 (by decide) (fun c_2 => ?_) (fun c_2 => ?_)
  · skip
    refine lv_iconst (v := 1) hx hb dX1_setShut_17 (by decide) ?_
    refine va_iast hx hb hK hP hD hS 1 0 rfl rfl (vp_in_nI (show 10 * j + k < 100 by omega) (by decide)) dX1_setShut_18 (fun H locs hP hD hS => ?_)
    rw [nI_clamp (show 10 * j + k < 2 ^ 31 by omega)] at hP hD
    obtain ⟨f_3, ef_3⟩ : ∃ g, g = upd d (10 * j + k) 1 := ⟨_, rfl⟩
    rw [← ef_3] at hP hD
    have hP : va_P D vwCl [(h0, .inr (1, [.int (nI (P)), .ref ae, .ref al, .ref au, .ref ao, .ref ar, .ref ak, .ref aw, .ref att, .ref ass])), (ao, .inl (cI, 100, .inl f_3))] H := hP
    have hD : va_D A [(h0, .inr (1, [.int (nI (P)), .ref ae, .ref al, .ref au, .ref ao, .ref ar, .ref ak, .ref aw, .ref att, .ref ass])), (ao, .inl (cI, 100, .inl f_3))] := hD
    exact W.vret hx hb hr (fun t ht hW => ⟨⟨f_3, rfl, (by rw [ef_3]; congr 1; first | rw [if_pos (by assumption)] | rw [if_neg (by assumption)]), by rw [ht]; exact hP.sub [0, 1] rfl, hD.sub [0, 1] (by decide) rfl⟩, hS.F ht⟩) hS.2.2 dX1_setShut_19 hlk
  · skip
    refine lv_iconst (v := 2) hx hb dX1_setShut_13 (by decide) ?_
    refine lv_goto (tgt := 18) hx hb dX1_setShut_14 (by decide) ?_
    refine va_iast hx hb hK hP hD hS 1 0 rfl rfl (vp_in_nI (show 10 * j + k < 100 by omega) (by decide)) dX1_setShut_18 (fun H locs hP hD hS => ?_)
    rw [nI_clamp (show 10 * j + k < 2 ^ 31 by omega)] at hP hD
    obtain ⟨f_4, ef_4⟩ : ∃ g, g = upd d (10 * j + k) 2 := ⟨_, rfl⟩
    rw [← ef_4] at hP hD
    have hP : va_P D vwCl [(h0, .inr (1, [.int (nI (P)), .ref ae, .ref al, .ref au, .ref ao, .ref ar, .ref ak, .ref aw, .ref att, .ref ass])), (ao, .inl (cI, 100, .inl f_4))] H := hP
    have hD : va_D A [(h0, .inr (1, [.int (nI (P)), .ref ae, .ref al, .ref au, .ref ao, .ref ar, .ref ak, .ref aw, .ref att, .ref ass])), (ao, .inl (cI, 100, .inl f_4))] := hD
    exact W.vret hx hb hr (fun t ht hW => ⟨⟨f_4, rfl, (by rw [ef_4]; congr 1; first | rw [if_pos (by assumption)] | rw [if_neg (by assumption)]), by rw [ht]; exact hP.sub [0, 1] rfl, hD.sub [0, 1] (by decide) rfl⟩, hS.F ht⟩) hS.2.2 dX1_setShut_19 hlk
