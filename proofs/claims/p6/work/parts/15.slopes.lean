theorem dX5_riseOf_0 : decode cX5_riseOf 0 = .ok (.aload_n 0, 1) := dk_42_ (show cX5_riseOf.data.toList[0]? = some 0x2a from by decide +kernel)
theorem dX5_riseOf_1 : decode cX5_riseOf 1 = .ok (.iload_n 1, 1) := dk_27_ (show cX5_riseOf.data.toList[1]? = some 0x1b from by decide +kernel)
theorem dX5_riseOf_2 : decode cX5_riseOf 2 = .ok (.iload_n 2, 1) := dk_28_ (show cX5_riseOf.data.toList[2]? = some 0x1c from by decide +kernel)
theorem dX5_riseOf_3 : decode cX5_riseOf 3 = .ok (.invokevirtual 40, 3) := dk_182_ (show cX5_riseOf.data.toList[3]? = some 0xb6 from by decide +kernel) (show cX5_riseOf.data.toList[4]? = some 0x00 from by decide +kernel) (show cX5_riseOf.data.toList[5]? = some 0x28 from by decide +kernel) (by decide)
theorem dX5_riseOf_6 : decode cX5_riseOf 6 = .ok (.aload_n 0, 1) := dk_42_ (show cX5_riseOf.data.toList[6]? = some 0x2a from by decide +kernel)
theorem dX5_riseOf_7 : decode cX5_riseOf 7 = .ok (.iload_n 2, 1) := dk_28_ (show cX5_riseOf.data.toList[7]? = some 0x1c from by decide +kernel)
theorem dX5_riseOf_8 : decode cX5_riseOf 8 = .ok (.iload_n 1, 1) := dk_27_ (show cX5_riseOf.data.toList[8]? = some 0x1b from by decide +kernel)
theorem dX5_riseOf_9 : decode cX5_riseOf 9 = .ok (.invokevirtual 40, 3) := dk_182_ (show cX5_riseOf.data.toList[9]? = some 0xb6 from by decide +kernel) (show cX5_riseOf.data.toList[10]? = some 0x00 from by decide +kernel) (show cX5_riseOf.data.toList[11]? = some 0x28 from by decide +kernel) (by decide)
theorem dX5_riseOf_12 : decode cX5_riseOf 12 = .ok (.isub, 1) := dk_100_ (show cX5_riseOf.data.toList[12]? = some 0x64 from by decide +kernel)
theorem dX5_riseOf_13 : decode cX5_riseOf 13 = .ok (.ireturn, 1) := dk_172_ (show cX5_riseOf.data.toList[13]? = some 0xac from by decide +kernel)
theorem dX5_paperOf_0 : decode cX5_paperOf 0 = .ok (.aload_n 0, 1) := dk_42_ (show cX5_paperOf.data.toList[0]? = some 0x2a from by decide +kernel)
theorem dX5_paperOf_1 : decode cX5_paperOf 1 = .ok (.iload_n 1, 1) := dk_27_ (show cX5_paperOf.data.toList[1]? = some 0x1b from by decide +kernel)
theorem dX5_paperOf_2 : decode cX5_paperOf 2 = .ok (.iload_n 2, 1) := dk_28_ (show cX5_paperOf.data.toList[2]? = some 0x1c from by decide +kernel)
theorem dX5_paperOf_3 : decode cX5_paperOf 3 = .ok (.invokevirtual 40, 3) := dk_182_ (show cX5_paperOf.data.toList[3]? = some 0xb6 from by decide +kernel) (show cX5_paperOf.data.toList[4]? = some 0x00 from by decide +kernel) (show cX5_paperOf.data.toList[5]? = some 0x28 from by decide +kernel) (by decide)
theorem dX5_paperOf_6 : decode cX5_paperOf 6 = .ok (.aload_n 0, 1) := dk_42_ (show cX5_paperOf.data.toList[6]? = some 0x2a from by decide +kernel)
theorem dX5_paperOf_7 : decode cX5_paperOf 7 = .ok (.iload_n 2, 1) := dk_28_ (show cX5_paperOf.data.toList[7]? = some 0x1c from by decide +kernel)
theorem dX5_paperOf_8 : decode cX5_paperOf 8 = .ok (.iload_n 1, 1) := dk_27_ (show cX5_paperOf.data.toList[8]? = some 0x1b from by decide +kernel)
theorem dX5_paperOf_9 : decode cX5_paperOf 9 = .ok (.invokevirtual 40, 3) := dk_182_ (show cX5_paperOf.data.toList[9]? = some 0xb6 from by decide +kernel) (show cX5_paperOf.data.toList[10]? = some 0x00 from by decide +kernel) (show cX5_paperOf.data.toList[11]? = some 0x28 from by decide +kernel) (by decide)
theorem dX5_paperOf_12 : decode cX5_paperOf 12 = .ok (.iadd, 1) := dk_96_ (show cX5_paperOf.data.toList[12]? = some 0x60 from by decide +kernel)
theorem dX5_paperOf_13 : decode cX5_paperOf 13 = .ok (.iconst 2, 1) := dk_5_ (show cX5_paperOf.data.toList[13]? = some 0x05 from by decide +kernel)
theorem dX5_paperOf_14 : decode cX5_paperOf 14 = .ok (.idiv, 1) := dk_108_ (show cX5_paperOf.data.toList[14]? = some 0x6c from by decide +kernel)
theorem dX5_paperOf_15 : decode cX5_paperOf 15 = .ok (.ireturn, 1) := dk_172_ (show cX5_paperOf.data.toList[15]? = some 0xac from by decide +kernel)
def LRX5_mostOffPaper_5 : List UInt8 := []
def LBX5_mostOffPaper_4 : List UInt8 := [0x02, 0x01, 0xa7, 0xff, 0xc2, 0x1b, 0xac]
def LRX5_mostOffPaper_4 : List UInt8 := LBX5_mostOffPaper_4 ++ LRX5_mostOffPaper_5
def LBX5_mostOffPaper_3 : List UInt8 := [0x2c, 0x64, 0xb8, 0x00, 0x2f, 0xb8, 0x00, 0x35, 0x3c, 0x84, 0x03, 0x01, 0xa7, 0xff, 0xd2, 0x84]
def LRX5_mostOffPaper_3 : List UInt8 := LBX5_mostOffPaper_3 ++ LRX5_mostOffPaper_4
def LBX5_mostOffPaper_2 : List UInt8 := [0x20, 0x99, 0x00, 0x18, 0x1b, 0x2a, 0x1c, 0x1d, 0xb6, 0x00, 0x28, 0x2a, 0x1c, 0x1d, 0xb8, 0x00]
def LRX5_mostOffPaper_2 : List UInt8 := LBX5_mostOffPaper_2 ++ LRX5_mostOffPaper_3
def LBX5_mostOffPaper_1 : List UInt8 := [0xb4, 0x00, 0x16, 0xa2, 0x00, 0x2c, 0x1c, 0x1d, 0x9f, 0x00, 0x21, 0x2a, 0x1c, 0x1d, 0xb6, 0x00]
def LRX5_mostOffPaper_1 : List UInt8 := LBX5_mostOffPaper_1 ++ LRX5_mostOffPaper_2
def LBX5_mostOffPaper_0 : List UInt8 := [0x02, 0x3c, 0x03, 0x3d, 0x1c, 0x2a, 0xb4, 0x00, 0x16, 0xa2, 0x00, 0x3c, 0x03, 0x3e, 0x1d, 0x2a]
def LRX5_mostOffPaper_0 : List UInt8 := LBX5_mostOffPaper_0 ++ LRX5_mostOffPaper_1
set_option maxRecDepth 100000 in
theorem LBX5_mostOffPaper_eq : cX5_mostOffPaper.data.toList = LRX5_mostOffPaper_0 := by decide +kernel
theorem LBX5_mostOffPaperr_0 (k : Nat) : cX5_mostOffPaper.data.toList[0 + k]? = LRX5_mostOffPaper_0[k]? := by rw [LBX5_mostOffPaper_eq, Nat.zero_add]
theorem LBX5_mostOffPaperr_1 (k : Nat) : cX5_mostOffPaper.data.toList[16 + k]? = LRX5_mostOffPaper_1[k]? := by
  have h := LBX5_mostOffPaperr_0 (16 + k)
  rw [show 0 + (16 + k) = 16 + k by omega] at h
  rw [h]
  exact (List.getElem?_append_right (l₁ := LBX5_mostOffPaper_0) (l₂ := LRX5_mostOffPaper_1) (show 16 ≤ 16 + k by omega)).trans (congrArg (fun i => LRX5_mostOffPaper_1[i]?) (show 16 + k - 16 = k by omega))
theorem LBX5_mostOffPaperr_2 (k : Nat) : cX5_mostOffPaper.data.toList[32 + k]? = LRX5_mostOffPaper_2[k]? := by
  have h := LBX5_mostOffPaperr_1 (16 + k)
  rw [show 16 + (16 + k) = 32 + k by omega] at h
  rw [h]
  exact (List.getElem?_append_right (l₁ := LBX5_mostOffPaper_1) (l₂ := LRX5_mostOffPaper_2) (show 16 ≤ 16 + k by omega)).trans (congrArg (fun i => LRX5_mostOffPaper_2[i]?) (show 16 + k - 16 = k by omega))
theorem LBX5_mostOffPaperr_3 (k : Nat) : cX5_mostOffPaper.data.toList[48 + k]? = LRX5_mostOffPaper_3[k]? := by
  have h := LBX5_mostOffPaperr_2 (16 + k)
  rw [show 32 + (16 + k) = 48 + k by omega] at h
  rw [h]
  exact (List.getElem?_append_right (l₁ := LBX5_mostOffPaper_2) (l₂ := LRX5_mostOffPaper_3) (show 16 ≤ 16 + k by omega)).trans (congrArg (fun i => LRX5_mostOffPaper_3[i]?) (show 16 + k - 16 = k by omega))
theorem LBX5_mostOffPaperr_4 (k : Nat) : cX5_mostOffPaper.data.toList[64 + k]? = LRX5_mostOffPaper_4[k]? := by
  have h := LBX5_mostOffPaperr_3 (16 + k)
  rw [show 48 + (16 + k) = 64 + k by omega] at h
  rw [h]
  exact (List.getElem?_append_right (l₁ := LBX5_mostOffPaper_3) (l₂ := LRX5_mostOffPaper_4) (show 16 ≤ 16 + k by omega)).trans (congrArg (fun i => LRX5_mostOffPaper_4[i]?) (show 16 + k - 16 = k by omega))
theorem dX5_mostOffPaper_0 : decode cX5_mostOffPaper 0 = .ok (.iconst (-1), 1) := dk_2_ (show cX5_mostOffPaper.data.toList[0]? = some 0x02 from (LBX5_mostOffPaperr_0 0).trans (by decide +kernel))
theorem dX5_mostOffPaper_1 : decode cX5_mostOffPaper 1 = .ok (.istore_n 1, 1) := dk_60_ (show cX5_mostOffPaper.data.toList[1]? = some 0x3c from (LBX5_mostOffPaperr_0 1).trans (by decide +kernel))
theorem dX5_mostOffPaper_2 : decode cX5_mostOffPaper 2 = .ok (.iconst 0, 1) := dk_3_ (show cX5_mostOffPaper.data.toList[2]? = some 0x03 from (LBX5_mostOffPaperr_0 2).trans (by decide +kernel))
theorem dX5_mostOffPaper_3 : decode cX5_mostOffPaper 3 = .ok (.istore_n 2, 1) := dk_61_ (show cX5_mostOffPaper.data.toList[3]? = some 0x3d from (LBX5_mostOffPaperr_0 3).trans (by decide +kernel))
theorem dX5_mostOffPaper_4 : decode cX5_mostOffPaper 4 = .ok (.iload_n 2, 1) := dk_28_ (show cX5_mostOffPaper.data.toList[4]? = some 0x1c from (LBX5_mostOffPaperr_0 4).trans (by decide +kernel))
theorem dX5_mostOffPaper_5 : decode cX5_mostOffPaper 5 = .ok (.aload_n 0, 1) := dk_42_ (show cX5_mostOffPaper.data.toList[5]? = some 0x2a from (LBX5_mostOffPaperr_0 5).trans (by decide +kernel))
theorem dX5_mostOffPaper_6 : decode cX5_mostOffPaper 6 = .ok (.getfield 22, 3) := dk_180_ (show cX5_mostOffPaper.data.toList[6]? = some 0xb4 from (LBX5_mostOffPaperr_0 6).trans (by decide +kernel)) (show cX5_mostOffPaper.data.toList[7]? = some 0x00 from (LBX5_mostOffPaperr_0 7).trans (by decide +kernel)) (show cX5_mostOffPaper.data.toList[8]? = some 0x16 from (LBX5_mostOffPaperr_0 8).trans (by decide +kernel)) (by decide)
theorem dX5_mostOffPaper_9 : decode cX5_mostOffPaper 9 = .ok (.if_icmp .ge 60, 3) := dk_162_ (show cX5_mostOffPaper.data.toList[9]? = some 0xa2 from (LBX5_mostOffPaperr_0 9).trans (by decide +kernel)) (show cX5_mostOffPaper.data.toList[10]? = some 0x00 from (LBX5_mostOffPaperr_0 10).trans (by decide +kernel)) (show cX5_mostOffPaper.data.toList[11]? = some 0x3c from (LBX5_mostOffPaperr_0 11).trans (by decide +kernel)) (by decide)
theorem dX5_mostOffPaper_12 : decode cX5_mostOffPaper 12 = .ok (.iconst 0, 1) := dk_3_ (show cX5_mostOffPaper.data.toList[12]? = some 0x03 from (LBX5_mostOffPaperr_0 12).trans (by decide +kernel))
theorem dX5_mostOffPaper_13 : decode cX5_mostOffPaper 13 = .ok (.istore_n 3, 1) := dk_62_ (show cX5_mostOffPaper.data.toList[13]? = some 0x3e from (LBX5_mostOffPaperr_0 13).trans (by decide +kernel))
theorem dX5_mostOffPaper_14 : decode cX5_mostOffPaper 14 = .ok (.iload_n 3, 1) := dk_29_ (show cX5_mostOffPaper.data.toList[14]? = some 0x1d from (LBX5_mostOffPaperr_0 14).trans (by decide +kernel))
theorem dX5_mostOffPaper_15 : decode cX5_mostOffPaper 15 = .ok (.aload_n 0, 1) := dk_42_ (show cX5_mostOffPaper.data.toList[15]? = some 0x2a from (LBX5_mostOffPaperr_0 15).trans (by decide +kernel))
theorem dX5_mostOffPaper_16 : decode cX5_mostOffPaper 16 = .ok (.getfield 22, 3) := dk_180_ (show cX5_mostOffPaper.data.toList[16]? = some 0xb4 from (LBX5_mostOffPaperr_1 0).trans (by decide +kernel)) (show cX5_mostOffPaper.data.toList[17]? = some 0x00 from (LBX5_mostOffPaperr_1 1).trans (by decide +kernel)) (show cX5_mostOffPaper.data.toList[18]? = some 0x16 from (LBX5_mostOffPaperr_1 2).trans (by decide +kernel)) (by decide)
theorem dX5_mostOffPaper_19 : decode cX5_mostOffPaper 19 = .ok (.if_icmp .ge 44, 3) := dk_162_ (show cX5_mostOffPaper.data.toList[19]? = some 0xa2 from (LBX5_mostOffPaperr_1 3).trans (by decide +kernel)) (show cX5_mostOffPaper.data.toList[20]? = some 0x00 from (LBX5_mostOffPaperr_1 4).trans (by decide +kernel)) (show cX5_mostOffPaper.data.toList[21]? = some 0x2c from (LBX5_mostOffPaperr_1 5).trans (by decide +kernel)) (by decide)
theorem dX5_mostOffPaper_22 : decode cX5_mostOffPaper 22 = .ok (.iload_n 2, 1) := dk_28_ (show cX5_mostOffPaper.data.toList[22]? = some 0x1c from (LBX5_mostOffPaperr_1 6).trans (by decide +kernel))
theorem dX5_mostOffPaper_23 : decode cX5_mostOffPaper 23 = .ok (.iload_n 3, 1) := dk_29_ (show cX5_mostOffPaper.data.toList[23]? = some 0x1d from (LBX5_mostOffPaperr_1 7).trans (by decide +kernel))
theorem dX5_mostOffPaper_24 : decode cX5_mostOffPaper 24 = .ok (.if_icmp .eq 33, 3) := dk_159_ (show cX5_mostOffPaper.data.toList[24]? = some 0x9f from (LBX5_mostOffPaperr_1 8).trans (by decide +kernel)) (show cX5_mostOffPaper.data.toList[25]? = some 0x00 from (LBX5_mostOffPaperr_1 9).trans (by decide +kernel)) (show cX5_mostOffPaper.data.toList[26]? = some 0x21 from (LBX5_mostOffPaperr_1 10).trans (by decide +kernel)) (by decide)
theorem dX5_mostOffPaper_27 : decode cX5_mostOffPaper 27 = .ok (.aload_n 0, 1) := dk_42_ (show cX5_mostOffPaper.data.toList[27]? = some 0x2a from (LBX5_mostOffPaperr_1 11).trans (by decide +kernel))
theorem dX5_mostOffPaper_28 : decode cX5_mostOffPaper 28 = .ok (.iload_n 2, 1) := dk_28_ (show cX5_mostOffPaper.data.toList[28]? = some 0x1c from (LBX5_mostOffPaperr_1 12).trans (by decide +kernel))
theorem dX5_mostOffPaper_29 : decode cX5_mostOffPaper 29 = .ok (.iload_n 3, 1) := dk_29_ (show cX5_mostOffPaper.data.toList[29]? = some 0x1d from (LBX5_mostOffPaperr_1 13).trans (by decide +kernel))
theorem dX5_mostOffPaper_30 : decode cX5_mostOffPaper 30 = .ok (.invokevirtual 32, 3) := dk_182_ (show cX5_mostOffPaper.data.toList[30]? = some 0xb6 from (LBX5_mostOffPaperr_1 14).trans (by decide +kernel)) (show cX5_mostOffPaper.data.toList[31]? = some 0x00 from (LBX5_mostOffPaperr_1 15).trans (by decide +kernel)) (show cX5_mostOffPaper.data.toList[32]? = some 0x20 from (LBX5_mostOffPaperr_2 0).trans (by decide +kernel)) (by decide)
theorem dX5_mostOffPaper_33 : decode cX5_mostOffPaper 33 = .ok (.ifCond .eq 24, 3) := dk_153_ (show cX5_mostOffPaper.data.toList[33]? = some 0x99 from (LBX5_mostOffPaperr_2 1).trans (by decide +kernel)) (show cX5_mostOffPaper.data.toList[34]? = some 0x00 from (LBX5_mostOffPaperr_2 2).trans (by decide +kernel)) (show cX5_mostOffPaper.data.toList[35]? = some 0x18 from (LBX5_mostOffPaperr_2 3).trans (by decide +kernel)) (by decide)
theorem dX5_mostOffPaper_36 : decode cX5_mostOffPaper 36 = .ok (.iload_n 1, 1) := dk_27_ (show cX5_mostOffPaper.data.toList[36]? = some 0x1b from (LBX5_mostOffPaperr_2 4).trans (by decide +kernel))
theorem dX5_mostOffPaper_37 : decode cX5_mostOffPaper 37 = .ok (.aload_n 0, 1) := dk_42_ (show cX5_mostOffPaper.data.toList[37]? = some 0x2a from (LBX5_mostOffPaperr_2 5).trans (by decide +kernel))
theorem dX5_mostOffPaper_38 : decode cX5_mostOffPaper 38 = .ok (.iload_n 2, 1) := dk_28_ (show cX5_mostOffPaper.data.toList[38]? = some 0x1c from (LBX5_mostOffPaperr_2 6).trans (by decide +kernel))
theorem dX5_mostOffPaper_39 : decode cX5_mostOffPaper 39 = .ok (.iload_n 3, 1) := dk_29_ (show cX5_mostOffPaper.data.toList[39]? = some 0x1d from (LBX5_mostOffPaperr_2 7).trans (by decide +kernel))
theorem dX5_mostOffPaper_40 : decode cX5_mostOffPaper 40 = .ok (.invokevirtual 40, 3) := dk_182_ (show cX5_mostOffPaper.data.toList[40]? = some 0xb6 from (LBX5_mostOffPaperr_2 8).trans (by decide +kernel)) (show cX5_mostOffPaper.data.toList[41]? = some 0x00 from (LBX5_mostOffPaperr_2 9).trans (by decide +kernel)) (show cX5_mostOffPaper.data.toList[42]? = some 0x28 from (LBX5_mostOffPaperr_2 10).trans (by decide +kernel)) (by decide)
theorem dX5_mostOffPaper_43 : decode cX5_mostOffPaper 43 = .ok (.aload_n 0, 1) := dk_42_ (show cX5_mostOffPaper.data.toList[43]? = some 0x2a from (LBX5_mostOffPaperr_2 11).trans (by decide +kernel))
theorem dX5_mostOffPaper_44 : decode cX5_mostOffPaper 44 = .ok (.iload_n 2, 1) := dk_28_ (show cX5_mostOffPaper.data.toList[44]? = some 0x1c from (LBX5_mostOffPaperr_2 12).trans (by decide +kernel))
theorem dX5_mostOffPaper_45 : decode cX5_mostOffPaper 45 = .ok (.iload_n 3, 1) := dk_29_ (show cX5_mostOffPaper.data.toList[45]? = some 0x1d from (LBX5_mostOffPaperr_2 13).trans (by decide +kernel))
theorem dX5_mostOffPaper_46 : decode cX5_mostOffPaper 46 = .ok (.invokestatic 44, 3) := dk_184_ (show cX5_mostOffPaper.data.toList[46]? = some 0xb8 from (LBX5_mostOffPaperr_2 14).trans (by decide +kernel)) (show cX5_mostOffPaper.data.toList[47]? = some 0x00 from (LBX5_mostOffPaperr_2 15).trans (by decide +kernel)) (show cX5_mostOffPaper.data.toList[48]? = some 0x2c from (LBX5_mostOffPaperr_3 0).trans (by decide +kernel)) (by decide)
theorem dX5_mostOffPaper_49 : decode cX5_mostOffPaper 49 = .ok (.isub, 1) := dk_100_ (show cX5_mostOffPaper.data.toList[49]? = some 0x64 from (LBX5_mostOffPaperr_3 1).trans (by decide +kernel))
theorem dX5_mostOffPaper_50 : decode cX5_mostOffPaper 50 = .ok (.invokestatic 47, 3) := dk_184_ (show cX5_mostOffPaper.data.toList[50]? = some 0xb8 from (LBX5_mostOffPaperr_3 2).trans (by decide +kernel)) (show cX5_mostOffPaper.data.toList[51]? = some 0x00 from (LBX5_mostOffPaperr_3 3).trans (by decide +kernel)) (show cX5_mostOffPaper.data.toList[52]? = some 0x2f from (LBX5_mostOffPaperr_3 4).trans (by decide +kernel)) (by decide)
theorem dX5_mostOffPaper_53 : decode cX5_mostOffPaper 53 = .ok (.invokestatic 53, 3) := dk_184_ (show cX5_mostOffPaper.data.toList[53]? = some 0xb8 from (LBX5_mostOffPaperr_3 5).trans (by decide +kernel)) (show cX5_mostOffPaper.data.toList[54]? = some 0x00 from (LBX5_mostOffPaperr_3 6).trans (by decide +kernel)) (show cX5_mostOffPaper.data.toList[55]? = some 0x35 from (LBX5_mostOffPaperr_3 7).trans (by decide +kernel)) (by decide)
theorem dX5_mostOffPaper_56 : decode cX5_mostOffPaper 56 = .ok (.istore_n 1, 1) := dk_60_ (show cX5_mostOffPaper.data.toList[56]? = some 0x3c from (LBX5_mostOffPaperr_3 8).trans (by decide +kernel))
theorem dX5_mostOffPaper_57 : decode cX5_mostOffPaper 57 = .ok (.iinc 3 1, 3) := dk_132_ (show cX5_mostOffPaper.data.toList[57]? = some 0x84 from (LBX5_mostOffPaperr_3 9).trans (by decide +kernel)) (show cX5_mostOffPaper.data.toList[58]? = some 0x03 from (LBX5_mostOffPaperr_3 10).trans (by decide +kernel)) (show cX5_mostOffPaper.data.toList[59]? = some 0x01 from (LBX5_mostOffPaperr_3 11).trans (by decide +kernel)) (by decide) (by decide)
theorem dX5_mostOffPaper_60 : decode cX5_mostOffPaper 60 = .ok (.goto (-46), 3) := dk_167_ (show cX5_mostOffPaper.data.toList[60]? = some 0xa7 from (LBX5_mostOffPaperr_3 12).trans (by decide +kernel)) (show cX5_mostOffPaper.data.toList[61]? = some 0xff from (LBX5_mostOffPaperr_3 13).trans (by decide +kernel)) (show cX5_mostOffPaper.data.toList[62]? = some 0xd2 from (LBX5_mostOffPaperr_3 14).trans (by decide +kernel)) (by decide)
theorem dX5_mostOffPaper_63 : decode cX5_mostOffPaper 63 = .ok (.iinc 2 1, 3) := dk_132_ (show cX5_mostOffPaper.data.toList[63]? = some 0x84 from (LBX5_mostOffPaperr_3 15).trans (by decide +kernel)) (show cX5_mostOffPaper.data.toList[64]? = some 0x02 from (LBX5_mostOffPaperr_4 0).trans (by decide +kernel)) (show cX5_mostOffPaper.data.toList[65]? = some 0x01 from (LBX5_mostOffPaperr_4 1).trans (by decide +kernel)) (by decide) (by decide)
theorem dX5_mostOffPaper_66 : decode cX5_mostOffPaper 66 = .ok (.goto (-62), 3) := dk_167_ (show cX5_mostOffPaper.data.toList[66]? = some 0xa7 from (LBX5_mostOffPaperr_4 2).trans (by decide +kernel)) (show cX5_mostOffPaper.data.toList[67]? = some 0xff from (LBX5_mostOffPaperr_4 3).trans (by decide +kernel)) (show cX5_mostOffPaper.data.toList[68]? = some 0xc2 from (LBX5_mostOffPaperr_4 4).trans (by decide +kernel)) (by decide)
theorem dX5_mostOffPaper_69 : decode cX5_mostOffPaper 69 = .ok (.iload_n 1, 1) := dk_27_ (show cX5_mostOffPaper.data.toList[69]? = some 0x1b from (LBX5_mostOffPaperr_4 5).trans (by decide +kernel))
theorem dX5_mostOffPaper_70 : decode cX5_mostOffPaper 70 = .ok (.ireturn, 1) := dk_172_ (show cX5_mostOffPaper.data.toList[70]? = some 0xac from (LBX5_mostOffPaperr_4 6).trans (by decide +kernel))
def LRX5_doFit_5 : List UInt8 := []
def LBX5_doFit_4 : List UInt8 := [0xa7, 0xff, 0xc2, 0x04, 0xac]
def LRX5_doFit_4 : List UInt8 := LBX5_doFit_4 ++ LRX5_doFit_5
def LBX5_doFit_3 : List UInt8 := [0x00, 0x24, 0x9f, 0x00, 0x05, 0x03, 0xac, 0x84, 0x03, 0x01, 0xa7, 0xff, 0xd4, 0x84, 0x02, 0x01]
def LRX5_doFit_3 : List UInt8 := LBX5_doFit_3 ++ LRX5_doFit_4
def LBX5_doFit_2 : List UInt8 := [0xb4, 0x00, 0x09, 0x1d, 0x2e, 0x2a, 0xb4, 0x00, 0x09, 0x1c, 0x2e, 0x64, 0x2b, 0x1c, 0x1d, 0xb8]
def LRX5_doFit_2 : List UInt8 := LBX5_doFit_2 ++ LRX5_doFit_3
def LBX5_doFit_1 : List UInt8 := [0xb4, 0x00, 0x16, 0xa2, 0x00, 0x2a, 0x2b, 0x1c, 0x1d, 0xb6, 0x00, 0x20, 0x99, 0x00, 0x1b, 0x2a]
def LRX5_doFit_1 : List UInt8 := LBX5_doFit_1 ++ LRX5_doFit_2
def LBX5_doFit_0 : List UInt8 := [0x03, 0x3d, 0x1c, 0x2b, 0xb4, 0x00, 0x16, 0xa2, 0x00, 0x3c, 0x1c, 0x04, 0x60, 0x3e, 0x1d, 0x2b]
def LRX5_doFit_0 : List UInt8 := LBX5_doFit_0 ++ LRX5_doFit_1
set_option maxRecDepth 100000 in
theorem LBX5_doFit_eq : cX5_doFit.data.toList = LRX5_doFit_0 := by decide +kernel
theorem LBX5_doFitr_0 (k : Nat) : cX5_doFit.data.toList[0 + k]? = LRX5_doFit_0[k]? := by rw [LBX5_doFit_eq, Nat.zero_add]
theorem LBX5_doFitr_1 (k : Nat) : cX5_doFit.data.toList[16 + k]? = LRX5_doFit_1[k]? := by
  have h := LBX5_doFitr_0 (16 + k)
  rw [show 0 + (16 + k) = 16 + k by omega] at h
  rw [h]
  exact (List.getElem?_append_right (l₁ := LBX5_doFit_0) (l₂ := LRX5_doFit_1) (show 16 ≤ 16 + k by omega)).trans (congrArg (fun i => LRX5_doFit_1[i]?) (show 16 + k - 16 = k by omega))
theorem LBX5_doFitr_2 (k : Nat) : cX5_doFit.data.toList[32 + k]? = LRX5_doFit_2[k]? := by
  have h := LBX5_doFitr_1 (16 + k)
  rw [show 16 + (16 + k) = 32 + k by omega] at h
  rw [h]
  exact (List.getElem?_append_right (l₁ := LBX5_doFit_1) (l₂ := LRX5_doFit_2) (show 16 ≤ 16 + k by omega)).trans (congrArg (fun i => LRX5_doFit_2[i]?) (show 16 + k - 16 = k by omega))
theorem LBX5_doFitr_3 (k : Nat) : cX5_doFit.data.toList[48 + k]? = LRX5_doFit_3[k]? := by
  have h := LBX5_doFitr_2 (16 + k)
  rw [show 32 + (16 + k) = 48 + k by omega] at h
  rw [h]
  exact (List.getElem?_append_right (l₁ := LBX5_doFit_2) (l₂ := LRX5_doFit_3) (show 16 ≤ 16 + k by omega)).trans (congrArg (fun i => LRX5_doFit_3[i]?) (show 16 + k - 16 = k by omega))
theorem LBX5_doFitr_4 (k : Nat) : cX5_doFit.data.toList[64 + k]? = LRX5_doFit_4[k]? := by
  have h := LBX5_doFitr_3 (16 + k)
  rw [show 48 + (16 + k) = 64 + k by omega] at h
  rw [h]
  exact (List.getElem?_append_right (l₁ := LBX5_doFit_3) (l₂ := LRX5_doFit_4) (show 16 ≤ 16 + k by omega)).trans (congrArg (fun i => LRX5_doFit_4[i]?) (show 16 + k - 16 = k by omega))
theorem dX5_doFit_0 : decode cX5_doFit 0 = .ok (.iconst 0, 1) := dk_3_ (show cX5_doFit.data.toList[0]? = some 0x03 from (LBX5_doFitr_0 0).trans (by decide +kernel))
theorem dX5_doFit_1 : decode cX5_doFit 1 = .ok (.istore_n 2, 1) := dk_61_ (show cX5_doFit.data.toList[1]? = some 0x3d from (LBX5_doFitr_0 1).trans (by decide +kernel))
theorem dX5_doFit_2 : decode cX5_doFit 2 = .ok (.iload_n 2, 1) := dk_28_ (show cX5_doFit.data.toList[2]? = some 0x1c from (LBX5_doFitr_0 2).trans (by decide +kernel))
theorem dX5_doFit_3 : decode cX5_doFit 3 = .ok (.aload_n 1, 1) := dk_43_ (show cX5_doFit.data.toList[3]? = some 0x2b from (LBX5_doFitr_0 3).trans (by decide +kernel))
theorem dX5_doFit_4 : decode cX5_doFit 4 = .ok (.getfield 22, 3) := dk_180_ (show cX5_doFit.data.toList[4]? = some 0xb4 from (LBX5_doFitr_0 4).trans (by decide +kernel)) (show cX5_doFit.data.toList[5]? = some 0x00 from (LBX5_doFitr_0 5).trans (by decide +kernel)) (show cX5_doFit.data.toList[6]? = some 0x16 from (LBX5_doFitr_0 6).trans (by decide +kernel)) (by decide)
theorem dX5_doFit_7 : decode cX5_doFit 7 = .ok (.if_icmp .ge 60, 3) := dk_162_ (show cX5_doFit.data.toList[7]? = some 0xa2 from (LBX5_doFitr_0 7).trans (by decide +kernel)) (show cX5_doFit.data.toList[8]? = some 0x00 from (LBX5_doFitr_0 8).trans (by decide +kernel)) (show cX5_doFit.data.toList[9]? = some 0x3c from (LBX5_doFitr_0 9).trans (by decide +kernel)) (by decide)
theorem dX5_doFit_10 : decode cX5_doFit 10 = .ok (.iload_n 2, 1) := dk_28_ (show cX5_doFit.data.toList[10]? = some 0x1c from (LBX5_doFitr_0 10).trans (by decide +kernel))
theorem dX5_doFit_11 : decode cX5_doFit 11 = .ok (.iconst 1, 1) := dk_4_ (show cX5_doFit.data.toList[11]? = some 0x04 from (LBX5_doFitr_0 11).trans (by decide +kernel))
theorem dX5_doFit_12 : decode cX5_doFit 12 = .ok (.iadd, 1) := dk_96_ (show cX5_doFit.data.toList[12]? = some 0x60 from (LBX5_doFitr_0 12).trans (by decide +kernel))
theorem dX5_doFit_13 : decode cX5_doFit 13 = .ok (.istore_n 3, 1) := dk_62_ (show cX5_doFit.data.toList[13]? = some 0x3e from (LBX5_doFitr_0 13).trans (by decide +kernel))
theorem dX5_doFit_14 : decode cX5_doFit 14 = .ok (.iload_n 3, 1) := dk_29_ (show cX5_doFit.data.toList[14]? = some 0x1d from (LBX5_doFitr_0 14).trans (by decide +kernel))
theorem dX5_doFit_15 : decode cX5_doFit 15 = .ok (.aload_n 1, 1) := dk_43_ (show cX5_doFit.data.toList[15]? = some 0x2b from (LBX5_doFitr_0 15).trans (by decide +kernel))
theorem dX5_doFit_16 : decode cX5_doFit 16 = .ok (.getfield 22, 3) := dk_180_ (show cX5_doFit.data.toList[16]? = some 0xb4 from (LBX5_doFitr_1 0).trans (by decide +kernel)) (show cX5_doFit.data.toList[17]? = some 0x00 from (LBX5_doFitr_1 1).trans (by decide +kernel)) (show cX5_doFit.data.toList[18]? = some 0x16 from (LBX5_doFitr_1 2).trans (by decide +kernel)) (by decide)
theorem dX5_doFit_19 : decode cX5_doFit 19 = .ok (.if_icmp .ge 42, 3) := dk_162_ (show cX5_doFit.data.toList[19]? = some 0xa2 from (LBX5_doFitr_1 3).trans (by decide +kernel)) (show cX5_doFit.data.toList[20]? = some 0x00 from (LBX5_doFitr_1 4).trans (by decide +kernel)) (show cX5_doFit.data.toList[21]? = some 0x2a from (LBX5_doFitr_1 5).trans (by decide +kernel)) (by decide)
theorem dX5_doFit_22 : decode cX5_doFit 22 = .ok (.aload_n 1, 1) := dk_43_ (show cX5_doFit.data.toList[22]? = some 0x2b from (LBX5_doFitr_1 6).trans (by decide +kernel))
theorem dX5_doFit_23 : decode cX5_doFit 23 = .ok (.iload_n 2, 1) := dk_28_ (show cX5_doFit.data.toList[23]? = some 0x1c from (LBX5_doFitr_1 7).trans (by decide +kernel))
theorem dX5_doFit_24 : decode cX5_doFit 24 = .ok (.iload_n 3, 1) := dk_29_ (show cX5_doFit.data.toList[24]? = some 0x1d from (LBX5_doFitr_1 8).trans (by decide +kernel))
theorem dX5_doFit_25 : decode cX5_doFit 25 = .ok (.invokevirtual 32, 3) := dk_182_ (show cX5_doFit.data.toList[25]? = some 0xb6 from (LBX5_doFitr_1 9).trans (by decide +kernel)) (show cX5_doFit.data.toList[26]? = some 0x00 from (LBX5_doFitr_1 10).trans (by decide +kernel)) (show cX5_doFit.data.toList[27]? = some 0x20 from (LBX5_doFitr_1 11).trans (by decide +kernel)) (by decide)
theorem dX5_doFit_28 : decode cX5_doFit 28 = .ok (.ifCond .eq 27, 3) := dk_153_ (show cX5_doFit.data.toList[28]? = some 0x99 from (LBX5_doFitr_1 12).trans (by decide +kernel)) (show cX5_doFit.data.toList[29]? = some 0x00 from (LBX5_doFitr_1 13).trans (by decide +kernel)) (show cX5_doFit.data.toList[30]? = some 0x1b from (LBX5_doFitr_1 14).trans (by decide +kernel)) (by decide)
theorem dX5_doFit_31 : decode cX5_doFit 31 = .ok (.aload_n 0, 1) := dk_42_ (show cX5_doFit.data.toList[31]? = some 0x2a from (LBX5_doFitr_1 15).trans (by decide +kernel))
theorem dX5_doFit_32 : decode cX5_doFit 32 = .ok (.getfield 9, 3) := dk_180_ (show cX5_doFit.data.toList[32]? = some 0xb4 from (LBX5_doFitr_2 0).trans (by decide +kernel)) (show cX5_doFit.data.toList[33]? = some 0x00 from (LBX5_doFitr_2 1).trans (by decide +kernel)) (show cX5_doFit.data.toList[34]? = some 0x09 from (LBX5_doFitr_2 2).trans (by decide +kernel)) (by decide)
theorem dX5_doFit_35 : decode cX5_doFit 35 = .ok (.iload_n 3, 1) := dk_29_ (show cX5_doFit.data.toList[35]? = some 0x1d from (LBX5_doFitr_2 3).trans (by decide +kernel))
theorem dX5_doFit_36 : decode cX5_doFit 36 = .ok (.iaload, 1) := dk_46_ (show cX5_doFit.data.toList[36]? = some 0x2e from (LBX5_doFitr_2 4).trans (by decide +kernel))
theorem dX5_doFit_37 : decode cX5_doFit 37 = .ok (.aload_n 0, 1) := dk_42_ (show cX5_doFit.data.toList[37]? = some 0x2a from (LBX5_doFitr_2 5).trans (by decide +kernel))
theorem dX5_doFit_38 : decode cX5_doFit 38 = .ok (.getfield 9, 3) := dk_180_ (show cX5_doFit.data.toList[38]? = some 0xb4 from (LBX5_doFitr_2 6).trans (by decide +kernel)) (show cX5_doFit.data.toList[39]? = some 0x00 from (LBX5_doFitr_2 7).trans (by decide +kernel)) (show cX5_doFit.data.toList[40]? = some 0x09 from (LBX5_doFitr_2 8).trans (by decide +kernel)) (by decide)
theorem dX5_doFit_41 : decode cX5_doFit 41 = .ok (.iload_n 2, 1) := dk_28_ (show cX5_doFit.data.toList[41]? = some 0x1c from (LBX5_doFitr_2 9).trans (by decide +kernel))
theorem dX5_doFit_42 : decode cX5_doFit 42 = .ok (.iaload, 1) := dk_46_ (show cX5_doFit.data.toList[42]? = some 0x2e from (LBX5_doFitr_2 10).trans (by decide +kernel))
theorem dX5_doFit_43 : decode cX5_doFit 43 = .ok (.isub, 1) := dk_100_ (show cX5_doFit.data.toList[43]? = some 0x64 from (LBX5_doFitr_2 11).trans (by decide +kernel))
theorem dX5_doFit_44 : decode cX5_doFit 44 = .ok (.aload_n 1, 1) := dk_43_ (show cX5_doFit.data.toList[44]? = some 0x2b from (LBX5_doFitr_2 12).trans (by decide +kernel))
theorem dX5_doFit_45 : decode cX5_doFit 45 = .ok (.iload_n 2, 1) := dk_28_ (show cX5_doFit.data.toList[45]? = some 0x1c from (LBX5_doFitr_2 13).trans (by decide +kernel))
theorem dX5_doFit_46 : decode cX5_doFit 46 = .ok (.iload_n 3, 1) := dk_29_ (show cX5_doFit.data.toList[46]? = some 0x1d from (LBX5_doFitr_2 14).trans (by decide +kernel))
theorem dX5_doFit_47 : decode cX5_doFit 47 = .ok (.invokestatic 36, 3) := dk_184_ (show cX5_doFit.data.toList[47]? = some 0xb8 from (LBX5_doFitr_2 15).trans (by decide +kernel)) (show cX5_doFit.data.toList[48]? = some 0x00 from (LBX5_doFitr_3 0).trans (by decide +kernel)) (show cX5_doFit.data.toList[49]? = some 0x24 from (LBX5_doFitr_3 1).trans (by decide +kernel)) (by decide)
theorem dX5_doFit_50 : decode cX5_doFit 50 = .ok (.if_icmp .eq 5, 3) := dk_159_ (show cX5_doFit.data.toList[50]? = some 0x9f from (LBX5_doFitr_3 2).trans (by decide +kernel)) (show cX5_doFit.data.toList[51]? = some 0x00 from (LBX5_doFitr_3 3).trans (by decide +kernel)) (show cX5_doFit.data.toList[52]? = some 0x05 from (LBX5_doFitr_3 4).trans (by decide +kernel)) (by decide)
theorem dX5_doFit_53 : decode cX5_doFit 53 = .ok (.iconst 0, 1) := dk_3_ (show cX5_doFit.data.toList[53]? = some 0x03 from (LBX5_doFitr_3 5).trans (by decide +kernel))
theorem dX5_doFit_54 : decode cX5_doFit 54 = .ok (.ireturn, 1) := dk_172_ (show cX5_doFit.data.toList[54]? = some 0xac from (LBX5_doFitr_3 6).trans (by decide +kernel))
theorem dX5_doFit_55 : decode cX5_doFit 55 = .ok (.iinc 3 1, 3) := dk_132_ (show cX5_doFit.data.toList[55]? = some 0x84 from (LBX5_doFitr_3 7).trans (by decide +kernel)) (show cX5_doFit.data.toList[56]? = some 0x03 from (LBX5_doFitr_3 8).trans (by decide +kernel)) (show cX5_doFit.data.toList[57]? = some 0x01 from (LBX5_doFitr_3 9).trans (by decide +kernel)) (by decide) (by decide)
theorem dX5_doFit_58 : decode cX5_doFit 58 = .ok (.goto (-44), 3) := dk_167_ (show cX5_doFit.data.toList[58]? = some 0xa7 from (LBX5_doFitr_3 10).trans (by decide +kernel)) (show cX5_doFit.data.toList[59]? = some 0xff from (LBX5_doFitr_3 11).trans (by decide +kernel)) (show cX5_doFit.data.toList[60]? = some 0xd4 from (LBX5_doFitr_3 12).trans (by decide +kernel)) (by decide)
theorem dX5_doFit_61 : decode cX5_doFit 61 = .ok (.iinc 2 1, 3) := dk_132_ (show cX5_doFit.data.toList[61]? = some 0x84 from (LBX5_doFitr_3 13).trans (by decide +kernel)) (show cX5_doFit.data.toList[62]? = some 0x02 from (LBX5_doFitr_3 14).trans (by decide +kernel)) (show cX5_doFit.data.toList[63]? = some 0x01 from (LBX5_doFitr_3 15).trans (by decide +kernel)) (by decide) (by decide)
theorem dX5_doFit_64 : decode cX5_doFit 64 = .ok (.goto (-62), 3) := dk_167_ (show cX5_doFit.data.toList[64]? = some 0xa7 from (LBX5_doFitr_4 0).trans (by decide +kernel)) (show cX5_doFit.data.toList[65]? = some 0xff from (LBX5_doFitr_4 1).trans (by decide +kernel)) (show cX5_doFit.data.toList[66]? = some 0xc2 from (LBX5_doFitr_4 2).trans (by decide +kernel)) (by decide)
theorem dX5_doFit_67 : decode cX5_doFit 67 = .ok (.iconst 1, 1) := dk_4_ (show cX5_doFit.data.toList[67]? = some 0x04 from (LBX5_doFitr_4 3).trans (by decide +kernel))
theorem dX5_doFit_68 : decode cX5_doFit 68 = .ok (.ireturn, 1) := dk_172_ (show cX5_doFit.data.toList[68]? = some 0xac from (LBX5_doFitr_4 4).trans (by decide +kernel))
theorem uw196 : Cond.methodLink RX5 40 yX1_lowOf ∈ wsU := ut3 (List.mem_of_getElem? (i := 82) rfl) rfl
theorem uw197 : Cond.fieldLink RX5 22 "LongerBack$Land" "places" "I" ∈ wsU := ut1 (List.mem_of_getElem? (i := 57) rfl) rfl
theorem uw198 : Cond.methodLink RX5 32 yX1_areBothWays ∈ wsU := ut3 (List.mem_of_getElem? (i := 74) rfl) rfl
theorem uw199 : Cond.instanceMethod yX1_areBothWays ∈ wsU := ut3 (List.mem_of_getElem? (i := 75) rfl) rfl
theorem uw200 : Cond.selects RX1 yX1_areBothWays yX1_areBothWays ∈ wsU := ut3 (List.mem_of_getElem? (i := 76) rfl) rfl
theorem uw201 : Cond.code yX1_areBothWays cX1_areBothWays 3 (some .boolean) ∈ wsU := ut3 (List.mem_of_getElem? (i := 77) rfl) rfl
theorem uw202 : Cond.methodLink RX5 44 yX5_paperOf ∈ wsU := ut3 (List.mem_of_getElem? (i := 106) rfl) rfl
theorem uw203 : Cond.static yX5_paperOf ∈ wsU := ut3 (List.mem_of_getElem? (i := 97) rfl) rfl
theorem uw204 : Cond.initialized yX5_paperOf.cls ∈ wsU := ut1 (List.mem_of_getElem? (i := 6) rfl) rfl
theorem uw205 : Cond.code yX5_paperOf cX5_paperOf 3 (some .int) ∈ wsU := ut3 (List.mem_of_getElem? (i := 98) rfl) rfl
theorem uw206 : Cond.methodLink RX5 47 Lib.Math.abs.name ∈ wsU := ut3 (List.mem_of_getElem? (i := 107) rfl) rfl
theorem uw207 : Cond.static Lib.Math.abs.name ∈ wsU := ut3 (List.mem_of_getElem? (i := 108) rfl) rfl
theorem uw208 : Cond.code Lib.Math.abs.name Lib.Math.abs.code 1 (some .int) ∈ wsU := ut3 (List.mem_of_getElem? (i := 109) rfl) rfl
theorem uw209 : Cond.methodLink RX5 53 Lib.Math.max.name ∈ wsU := ut3 (List.mem_of_getElem? (i := 110) rfl) rfl
theorem uw210 : Cond.fieldLink RX5 9 "LongerBack$Slopes" "heights" "[I" ∈ wsU := ut1 (List.mem_of_getElem? (i := 133) rfl) rfl
theorem uw211 : Cond.laysFinal RX5 "LongerBack$Slopes" "heights" "[I" ∈ wsU := ut1 (List.mem_of_getElem? (i := 137) rfl) rfl
theorem uw212 : Cond.laysFinal RX5 "LongerBack$Slopes" "isClimbed" "[Z" ∈ wsU := ut1 (List.mem_of_getElem? (i := 139) rfl) rfl
theorem uw213 : Cond.laysFinal RX5 "LongerBack$Slopes" "queue" "[I" ∈ wsU := ut1 (List.mem_of_getElem? (i := 141) rfl) rfl
theorem uw214 : Cond.methodLink RX5 36 yX5_riseOf ∈ wsU := ut3 (List.mem_of_getElem? (i := 79) rfl) rfl
theorem uw215 : Cond.static yX5_riseOf ∈ wsU := ut3 (List.mem_of_getElem? (i := 80) rfl) rfl
theorem uw216 : Cond.initialized yX5_riseOf.cls ∈ wsU := ut1 (List.mem_of_getElem? (i := 6) rfl) rfl
theorem uw217 : Cond.code yX5_riseOf cX5_riseOf 3 (some .int) ∈ wsU := ut3 (List.mem_of_getElem? (i := 81) rfl) rfl
theorem inUX5 : ∀ w ∈ u_ws RX5 TX5 3, w ∈ wsU := List.forall_mem_cons.mpr ⟨uw211, List.forall_mem_cons.mpr ⟨uw212, List.forall_mem_cons.mpr ⟨uw213, fun _ h => absurd h List.not_mem_nil⟩⟩⟩
theorem kv_X5_40 : xWV RX5 40 RX1 yX1_lowOf cX1_lowOf 3 (some .int) 2 := ⟨⟨uw196, uw54, uw55, uw19, uw56⟩, by decide +kernel⟩
theorem kf_X5_22 : xWF RX5 22 1 0 RX1 TX1 10 := ⟨inUX1, rfl, by decide, uw197⟩
theorem kv_X5_32 : xWV RX5 32 RX1 yX1_areBothWays cX1_areBothWays 3 (some .boolean) 2 := ⟨⟨uw198, uw199, uw200, uw19, uw201⟩, by decide +kernel⟩
theorem ks_X5_44 : xWS RX5 44 yX5_paperOf cX5_paperOf 3 (some .int) 3 := ⟨⟨uw202, uw203, uw204, uw205⟩, by decide +kernel⟩
theorem kf_X5_9 : xWF RX5 9 5 0 RX5 TX5 3 := ⟨inUX5, rfl, by decide, uw210⟩
theorem ks_X5_36 : xWS RX5 36 yX5_riseOf cX5_riseOf 3 (some .int) 3 := ⟨⟨uw214, uw215, uw216, uw217⟩, by decide +kernel⟩
set_option maxHeartbeats 4000000 in
set_option maxRecDepth 100000 in
theorem c_X5_riseOf (l : Launch) (D : va_G) (cI cJ cZ cS : ClassId) (ta : Nat) (sa sv : Nat → Nat) (sz : Nat) (q1 : Nat) (be : Nat) (bl : Nat) (bu : Nat) (bo : Nat) (br : Nat) (bk : Nat) (bw : Nat) (btt : Nat) (bss : Nat) (P : Nat) (j : Nat) (k : Nat) (lo : Nat → Int32) (hj : j < 10) (hk : k < 10) : Met l yX5_riseOf (Cond.code yX5_riseOf cX5_riseOf 3 (some .int) :: wsU) ({ frames := 2, cells := 0, slots := 0, locals := 43 }) (va_Pc [.ref q1, .int (nI (j)), .int (nI (k))] (XW D (xT cI cJ cZ cS) ta sa sv [(q1, .inr (1, [.int (nI (P)), .ref be, .ref bl, .ref bu, .ref bo, .ref br, .ref bk, .ref bw, .ref btt, .ref bss])), (bl, .inl (cI, 100, .inl lo))] sz)) (vp_Si (fun r : Int32 => (r = (lo (10 * j + k)) - (lo (10 * k + j))))) 0 0 (fun _ => False) := by
  refine xh (QA := fun _ => vp_Si (fun r : Int32 => (r = (lo (10 * j + k)) - (lo (10 * k + j))))) (fr := fun _ _ => False) (by decide) (Nat.le_of_ble_eq_true rfl) ?_
  intro p e s m below meth c ls A hF hr hlk hin hsz hP hK hD hN hZ hA hS hl
  have hF : CallFix p m c cX5_riseOf 3 s _ _ RX5 := hF
  have hx := hF.1
  have hb := hF.2.1
  have hml := hF.2.2.1
  have hown := hF.2.2.2.1
  have hu : ∀ w ∈ wsU, w.before _ s = true := fun w h => hF.2.2.2.2 w (List.mem_cons_of_mem _ h)
  have hl : lv_has ls 3 [(0, .ref q1), (1, .int (nI (j))), (2, .int (nI (k)))] := hl
  refine lv_aload_n hx hb dX5_riseOf_0 rfl (lv_at hl 0 rfl) ?_
  refine lv_iload_n hx hb dX5_riseOf_1 rfl (lv_at hl 1 rfl) ?_
  refine lv_iload_n hx hb dX5_riseOf_2 rfl (lv_at hl 2 rfl) ?_
  refine xc_Vr hF (c_X1_lowOf l D cI cJ cZ cS ta sa sv s.heap.size q1 be bl bu bo br bk bw btt bss P j k lo (by omega) (by omega)) kv_X5_40 ⟨rfl, rfl, Nat.le_of_ble_eq_true rfl, Nat.le_of_ble_eq_true rfl⟩ ⟨Nat.le_of_ble_eq_true rfl, Nat.le_of_ble_eq_true rfl⟩ hK hN hZ hP hD hS hA [0, 1] rfl rfl 0 rfl rfl rfl rfl hl.1 rfl (Nat.le_of_ble_eq_true rfl) dX5_riseOf_3 (fun r_1 hw_r_1 => ?_)
  subst hw_r_1
  refine lv_aload_n hx hb dX5_riseOf_6 rfl (lv_at hl 0 rfl) ?_
  refine lv_iload_n hx hb dX5_riseOf_7 rfl (lv_at hl 2 rfl) ?_
  refine lv_iload_n hx hb dX5_riseOf_8 rfl (lv_at hl 1 rfl) ?_
  refine xc_Vr hF (c_X1_lowOf l D cI cJ cZ cS ta sa sv s.heap.size q1 be bl bu bo br bk bw btt bss P k j lo (by omega) (by omega)) kv_X5_40 ⟨rfl, rfl, Nat.le_of_ble_eq_true rfl, Nat.le_of_ble_eq_true rfl⟩ ⟨Nat.le_of_ble_eq_true rfl, Nat.le_of_ble_eq_true rfl⟩ hK hN hZ hP hD hS hA [0, 1] rfl rfl 0 rfl rfl rfl rfl hl.1 rfl (Nat.le_of_ble_eq_true rfl) dX5_riseOf_9 (fun r_2 hw_r_2 => ?_)
  subst hw_r_2
  refine lv_isub hx hb dX5_riseOf_12 ?_
  exact W.iret (v := (lo (10 * j + k)) - (lo (10 * k + j))) hx hb hr (fun t ht hW => ⟨(lo (10 * j + k)) - (lo (10 * k + j)), rfl, (by first | exact rfl), ht⟩) (fun q h => by cases h) dX5_riseOf_13 hlk
set_option maxHeartbeats 4000000 in
set_option maxRecDepth 100000 in
theorem c_X5_paperOf (l : Launch) (D : va_G) (cI cJ cZ cS : ClassId) (ta : Nat) (sa sv : Nat → Nat) (sz : Nat) (q1 : Nat) (be : Nat) (bl : Nat) (bu : Nat) (bo : Nat) (br : Nat) (bk : Nat) (bw : Nat) (btt : Nat) (bss : Nat) (P : Nat) (j : Nat) (k : Nat) (lo : Nat → Int32) (hj : j < 10) (hk : k < 10) : Met l yX5_paperOf (Cond.code yX5_paperOf cX5_paperOf 3 (some .int) :: wsU) ({ frames := 2, cells := 0, slots := 0, locals := 43 }) (va_Pc [.ref q1, .int (nI (j)), .int (nI (k))] (XW D (xT cI cJ cZ cS) ta sa sv [(q1, .inr (1, [.int (nI (P)), .ref be, .ref bl, .ref bu, .ref bo, .ref br, .ref bk, .ref bw, .ref btt, .ref bss])), (bl, .inl (cI, 100, .inl lo))] sz)) (vp_Si (fun r : Int32 => True)) 0 0 (fun _ => False) := by
  refine xh (QA := fun _ => vp_Si (fun r : Int32 => True)) (fr := fun _ _ => False) (by decide) (Nat.le_of_ble_eq_true rfl) ?_
  intro p e s m below meth c ls A hF hr hlk hin hsz hP hK hD hN hZ hA hS hl
  have hF : CallFix p m c cX5_paperOf 3 s _ _ RX5 := hF
  have hx := hF.1
  have hb := hF.2.1
  have hml := hF.2.2.1
  have hown := hF.2.2.2.1
  have hu : ∀ w ∈ wsU, w.before _ s = true := fun w h => hF.2.2.2.2 w (List.mem_cons_of_mem _ h)
  have hl : lv_has ls 3 [(0, .ref q1), (1, .int (nI (j))), (2, .int (nI (k)))] := hl
  refine lv_aload_n hx hb dX5_paperOf_0 rfl (lv_at hl 0 rfl) ?_
  refine lv_iload_n hx hb dX5_paperOf_1 rfl (lv_at hl 1 rfl) ?_
  refine lv_iload_n hx hb dX5_paperOf_2 rfl (lv_at hl 2 rfl) ?_
  refine xc_Vr hF (c_X1_lowOf l D cI cJ cZ cS ta sa sv s.heap.size q1 be bl bu bo br bk bw btt bss P j k lo (by omega) (by omega)) kv_X5_40 ⟨rfl, rfl, Nat.le_of_ble_eq_true rfl, Nat.le_of_ble_eq_true rfl⟩ ⟨Nat.le_of_ble_eq_true rfl, Nat.le_of_ble_eq_true rfl⟩ hK hN hZ hP hD hS hA [0, 1] rfl rfl 0 rfl rfl rfl rfl hl.1 rfl (Nat.le_of_ble_eq_true rfl) dX5_paperOf_3 (fun r_1 hw_r_1 => ?_)
  subst hw_r_1
  refine lv_aload_n hx hb dX5_paperOf_6 rfl (lv_at hl 0 rfl) ?_
  refine lv_iload_n hx hb dX5_paperOf_7 rfl (lv_at hl 2 rfl) ?_
  refine lv_iload_n hx hb dX5_paperOf_8 rfl (lv_at hl 1 rfl) ?_
  refine xc_Vr hF (c_X1_lowOf l D cI cJ cZ cS ta sa sv s.heap.size q1 be bl bu bo br bk bw btt bss P k j lo (by omega) (by omega)) kv_X5_40 ⟨rfl, rfl, Nat.le_of_ble_eq_true rfl, Nat.le_of_ble_eq_true rfl⟩ ⟨Nat.le_of_ble_eq_true rfl, Nat.le_of_ble_eq_true rfl⟩ hK hN hZ hP hD hS hA [0, 1] rfl rfl 0 rfl rfl rfl rfl hl.1 rfl (Nat.le_of_ble_eq_true rfl) dX5_paperOf_9 (fun r_2 hw_r_2 => ?_)
  subst hw_r_2
  refine lv_iadd hx hb dX5_paperOf_12 ?_
  refine lv_topi (fun x_3 ex_3 => ?_)
  refine lv_iconst (v := 2) hx hb dX5_paperOf_13 (by decide) ?_
  refine lv_idiv hx hb dX5_paperOf_14 (by decide) ?_
  refine lv_topi (fun x_4 ex_4 => ?_)
  exact W.iret (v := x_4) hx hb hr (fun t ht hW => ⟨x_4, rfl, trivial, ht⟩) (fun q h => by cases h) dX5_paperOf_15 hlk
set_option maxHeartbeats 4000000 in
set_option maxRecDepth 100000 in
theorem c_X5_mostOffPaper (l : Launch) (D : va_G) (cI cJ cZ cS : ClassId) (ta : Nat) (sa sv : Nat → Nat) (sz : Nat) (q1 : Nat) (be : Nat) (bl : Nat) (bu : Nat) (bo : Nat) (br : Nat) (bk : Nat) (bw : Nat) (btt : Nat) (bss : Nat) (P : Nat) (lo : Nat → Int32) (d : Nat → Int32) (hP0 : P ≤ 10) : Met l yX5_mostOffPaper (Cond.code yX5_mostOffPaper cX5_mostOffPaper 4 (some .int) :: wsU) ({ frames := 3, cells := 0, slots := 0, locals := 65 }) (va_Pc [.ref q1] (XW D (xT cI cJ cZ cS) ta sa sv [(q1, .inr (1, [.int (nI (P)), .ref be, .ref bl, .ref bu, .ref bo, .ref br, .ref bk, .ref bw, .ref btt, .ref bss])), (bl, .inl (cI, 100, .inl lo)), (bo, .inl (cI, 100, .inl d))] sz)) (vp_Si (fun r : Int32 => True)) 0 0 (fun _ => False) := by
  refine xh (QA := fun _ => vp_Si (fun r : Int32 => True)) (fr := fun _ _ => False) (by decide) (Nat.le_of_ble_eq_true rfl) ?_
  intro p e s m below meth c ls A hF hr hlk hin hsz hP hK hD hN hZ hA hS hl
  have hF : CallFix p m c cX5_mostOffPaper 4 s _ _ RX5 := hF
  have hx := hF.1
  have hb := hF.2.1
  have hml := hF.2.2.1
  have hown := hF.2.2.2.1
  have hu : ∀ w ∈ wsU, w.before _ s = true := fun w h => hF.2.2.2.2 w (List.mem_cons_of_mem _ h)
  have hl : lv_has ls 4 [(0, .ref q1)] := hl
  refine lv_iconst (v := (-1)) hx hb dX5_mostOffPaper_0 (by decide) ?_
  refine lv_istore_n (lv' := [(1, .int (-1)), (0, .ref q1)]) hx hb dX5_mostOffPaper_1 rfl hl (by decide) rfl (fun ls hl => ?_)
  refine lv_iconst (v := 0) hx hb dX5_mostOffPaper_2 (by decide) ?_
  refine lv_istore_n (lv' := [(2, .int 0), (1, .int (-1)), (0, .ref q1)]) hx hb dX5_mostOffPaper_3 rfl hl (by decide) rfl (fun ls hl => ?_)
  suffices loop_4 : ∀ (n_4 : Nat) (i : Nat) (u : Int32) (ls : Array Slot), P - i < n_4 → (i ≤ P) → lv_has ls 4 [(2, .int (nI (i))), (1, .int u), (0, .ref q1)] → W p l e ({ frames := 3, cells := 0, slots := 0, locals := 65 }) s m ([.ref q1] : List Value).toArray below meth c s.heap [] 0 0 (MQ below (vp_Si (fun r : Int32 => True)) ([.ref q1] : List Value).toArray s 0 0 (fun _ => False)) (F0 m 4 ls []) by
    exact loop_4 _ 0 (-1) _ (Nat.lt_succ_self _) (by omega) (lv_sub hl [0, 1, 2] rfl)
  intro n_4
  induction n_4 with
  | zero =>
    intro i u ls hm_4
    exact absurd hm_4 (Nat.not_lt_zero _)
  | succ n_4 ih_4 =>
    intro i u ls hm_4 hi hl
    refine lv_iload_n hx hb dX5_mostOffPaper_4 rfl (lv_at hl 0 rfl) ?_
    refine lv_aload_n hx hb dX5_mostOffPaper_5 rfl (lv_at hl 2 rfl) ?_
    refine xg hF kf_X5_22 hK hP 0 rfl rfl dX5_mostOffPaper_6 ?_
    refine lv_icmp_ge (tgt := 69) hx hb dX5_mostOffPaper_9 (by decide) (fun c_1 => ?_) (fun c_1 => ?_)
    · skip
      have nc_1 : P ≤ i := xn_le (a := P) (b := i) (by omega) (by omega) c_1
      refine lv_iload_n hx hb dX5_mostOffPaper_69 rfl (lv_at hl 1 rfl) ?_
      exact W.iret (v := u) hx hb hr (fun t ht hW => ⟨u, rfl, trivial, ht⟩) (fun q h => by cases h) dX5_mostOffPaper_70 hlk
    · skip
      have nc_1 : i < P := xn_nle (a := P) (b := i) (by omega) (by omega) c_1
      refine lv_iconst (v := 0) hx hb dX5_mostOffPaper_12 (by decide) ?_
      refine lv_istore_n (lv' := [(3, .int 0), (2, .int (nI (i))), (1, .int u), (0, .ref q1)]) hx hb dX5_mostOffPaper_13 rfl hl (by decide) rfl (fun ls hl => ?_)
      suffices loop_14 : ∀ (n_14 : Nat) (i2 : Nat) (v : Int32) (ls : Array Slot), P - i2 < n_14 → (i2 ≤ P) → lv_has ls 4 [(3, .int (nI (i2))), (2, .int (nI (i))), (1, .int v), (0, .ref q1)] → W p l e ({ frames := 3, cells := 0, slots := 0, locals := 65 }) s m ([.ref q1] : List Value).toArray below meth c s.heap [] 0 0 (MQ below (vp_Si (fun r : Int32 => True)) ([.ref q1] : List Value).toArray s 0 0 (fun _ => False)) (F0 m 14 ls []) by
        exact loop_14 _ 0 u _ (Nat.lt_succ_self _) (by omega) (lv_sub hl [0, 1, 2, 3] rfl)
      intro n_14
      induction n_14 with
      | zero =>
        intro i2 v ls hm_14
        exact absurd hm_14 (Nat.not_lt_zero _)
      | succ n_14 ih_14 =>
        intro i2 v ls hm_14 hi2 hl
        refine lv_iload_n hx hb dX5_mostOffPaper_14 rfl (lv_at hl 0 rfl) ?_
        refine lv_aload_n hx hb dX5_mostOffPaper_15 rfl (lv_at hl 3 rfl) ?_
        refine xg hF kf_X5_22 hK hP 0 rfl rfl dX5_mostOffPaper_16 ?_
        refine lv_icmp_ge (tgt := 63) hx hb dX5_mostOffPaper_19 (by decide) (fun c_2 => ?_) (fun c_2 => ?_)
        · skip
          have nc_2 : P ≤ i2 := xn_le (a := P) (b := i2) (by omega) (by omega) c_2
          refine lv_iinc (v := nI (i + 1)) (lv' := [(2, .int (nI (i + 1))), (3, .int (nI (i2))), (1, .int v), (0, .ref q1)]) hx hb dX5_mostOffPaper_63 hl (k := 1) rfl (nI_1 (i)) (by decide) rfl (fun ls hl => ?_)
          refine lv_goto (tgt := 4) hx hb dX5_mostOffPaper_66 (by decide) ?_
          exact ih_4 (i + 1) v _ (by omega) (by omega) (lv_sub hl [0, 2, 3] rfl)
        · skip
          have nc_2 : i2 < P := xn_nle (a := P) (b := i2) (by omega) (by omega) c_2
          refine lv_iload_n hx hb dX5_mostOffPaper_22 rfl (lv_at hl 1 rfl) ?_
          refine lv_iload_n hx hb dX5_mostOffPaper_23 rfl (lv_at hl 0 rfl) ?_
          refine lv_icmp_eq (tgt := 57) hx hb dX5_mostOffPaper_24 (by decide) (fun c_3 => ?_) (fun c_3 => ?_)
          · skip
            have nc_3 : i = i2 := xn_eq (a := i) (b := i2) (by omega) (by omega) c_3
            refine lv_iinc (v := nI (i2 + 1)) (lv' := [(3, .int (nI (i2 + 1))), (2, .int (nI (i))), (1, .int v), (0, .ref q1)]) hx hb dX5_mostOffPaper_57 hl (k := 0) rfl (nI_1 (i2)) (by decide) rfl (fun ls hl => ?_)
            refine lv_goto (tgt := 14) hx hb dX5_mostOffPaper_60 (by decide) ?_
            exact ih_14 (i2 + 1) v _ (by omega) (by omega) (lv_sub hl [0, 1, 2, 3] rfl)
          · skip
            have nc_3 : i ≠ i2 := xn_ne (a := i) (b := i2) (by omega) (by omega) c_3
            refine lv_aload_n hx hb dX5_mostOffPaper_27 rfl (lv_at hl 3 rfl) ?_
            refine lv_iload_n hx hb dX5_mostOffPaper_28 rfl (lv_at hl 1 rfl) ?_
            refine lv_iload_n hx hb dX5_mostOffPaper_29 rfl (lv_at hl 0 rfl) ?_
            refine xc_Vr hF (c_X1_areBothWays l D cI cJ cZ cS ta sa sv s.heap.size q1 be bl bu bo br bk bw btt bss P i i2 d (by omega) (by omega)) kv_X5_32 ⟨rfl, rfl, Nat.le_of_ble_eq_true rfl, Nat.le_of_ble_eq_true rfl⟩ ⟨Nat.le_of_ble_eq_true rfl, Nat.le_of_ble_eq_true rfl⟩ hK hN hZ hP hD hS hA [0, 2] rfl rfl 0 rfl rfl rfl rfl hl.1 rfl (Nat.le_of_ble_eq_true rfl) dX5_mostOffPaper_30 (fun r_4 hw_r_4 => ?_)
            rcases hw_r_4 with rfl | rfl
            · skip
              refine lv_if_eq (tgt := 57) hx hb dX5_mostOffPaper_33 (by decide) (fun c_5 => absurd c_5 (by decide)) (fun c_5 => ?_)
              refine lv_iload_n hx hb dX5_mostOffPaper_36 rfl (lv_at hl 2 rfl) ?_
              refine lv_aload_n hx hb dX5_mostOffPaper_37 rfl (lv_at hl 3 rfl) ?_
              refine lv_iload_n hx hb dX5_mostOffPaper_38 rfl (lv_at hl 1 rfl) ?_
              refine lv_iload_n hx hb dX5_mostOffPaper_39 rfl (lv_at hl 0 rfl) ?_
              refine xc_Vr hF (c_X1_lowOf l D cI cJ cZ cS ta sa sv s.heap.size q1 be bl bu bo br bk bw btt bss P i i2 lo (by omega) (by omega)) kv_X5_40 ⟨rfl, rfl, Nat.le_of_ble_eq_true rfl, Nat.le_of_ble_eq_true rfl⟩ ⟨Nat.le_of_ble_eq_true rfl, Nat.le_of_ble_eq_true rfl⟩ hK hN hZ hP hD hS hA [0, 1] rfl rfl 0 rfl rfl rfl rfl hl.1 rfl (Nat.le_of_ble_eq_true rfl) dX5_mostOffPaper_40 (fun r_6 hw_r_6 => ?_)
              subst hw_r_6
              refine lv_aload_n hx hb dX5_mostOffPaper_43 rfl (lv_at hl 3 rfl) ?_
              refine lv_iload_n hx hb dX5_mostOffPaper_44 rfl (lv_at hl 1 rfl) ?_
              refine lv_iload_n hx hb dX5_mostOffPaper_45 rfl (lv_at hl 0 rfl) ?_
              refine xc_Sr hF (c_X5_paperOf l D cI cJ cZ cS ta sa sv s.heap.size q1 be bl bu bo br bk bw btt bss P i i2 lo (by omega) (by omega)) ks_X5_44 ⟨rfl, rfl, Nat.le_of_ble_eq_true rfl, Nat.le_of_ble_eq_true rfl⟩ ⟨Nat.le_of_ble_eq_true rfl, Nat.le_of_ble_eq_true rfl⟩ hK hN hZ hP hD hS hA [0, 1] rfl rfl rfl hl.1 rfl (Nat.le_of_ble_eq_true rfl) dX5_mostOffPaper_46 (fun r_7 hw_r_7 => ?_)
              refine lv_isub hx hb dX5_mostOffPaper_49 ?_
              refine lv_topi (fun x_8 ex_8 => ?_)
              refine va_mabs hx hb (hml.trans hl.1.symm) hown (hu _ uw206) (hu _ uw207) (hu _ uw92) (hu _ uw208) (Nat.le_of_ble_eq_true rfl) (Nat.le_of_ble_eq_true rfl) (Nat.le_of_ble_eq_true rfl) (Nat.le_of_ble_eq_true rfl) dX5_mostOffPaper_50 ?_
              refine lv_topi (fun x_9 ex_9 => ?_)
              refine va_mmax hx hb (hml.trans hl.1.symm) hown (hu _ uw209) (hu _ uw91) (hu _ uw92) (hu _ uw93) (Nat.le_of_ble_eq_true rfl) (Nat.le_of_ble_eq_true rfl) (Nat.le_of_ble_eq_true rfl) (Nat.le_of_ble_eq_true rfl) dX5_mostOffPaper_53 ?_
              refine lv_topi (fun x_10 ex_10 => ?_)
              refine lv_istore_n (lv' := [(1, .int x_10), (3, .int (nI (i2))), (2, .int (nI (i))), (0, .ref q1)]) hx hb dX5_mostOffPaper_56 rfl hl (by decide) rfl (fun ls hl => ?_)
              refine lv_iinc (v := nI (i2 + 1)) (lv' := [(3, .int (nI (i2 + 1))), (1, .int x_10), (2, .int (nI (i))), (0, .ref q1)]) hx hb dX5_mostOffPaper_57 hl (k := 1) rfl (nI_1 (i2)) (by decide) rfl (fun ls hl => ?_)
              refine lv_goto (tgt := 14) hx hb dX5_mostOffPaper_60 (by decide) ?_
              exact ih_14 (i2 + 1) x_10 _ (by omega) (by omega) (lv_sub hl [0, 2, 1, 3] rfl)
            · skip
              refine lv_if_eq (tgt := 57) hx hb dX5_mostOffPaper_33 (by decide) (fun c_11 => ?_) (fun c_11 => absurd (by decide) c_11)
              refine lv_iinc (v := nI (i2 + 1)) (lv' := [(3, .int (nI (i2 + 1))), (2, .int (nI (i))), (1, .int v), (0, .ref q1)]) hx hb dX5_mostOffPaper_57 hl (k := 0) rfl (nI_1 (i2)) (by decide) rfl (fun ls hl => ?_)
              refine lv_goto (tgt := 14) hx hb dX5_mostOffPaper_60 (by decide) ?_
              exact ih_14 (i2 + 1) v _ (by omega) (by omega) (lv_sub hl [0, 1, 2, 3] rfl)
set_option maxHeartbeats 4000000 in
set_option maxRecDepth 100000 in
theorem c_X5_doFit (l : Launch) (D : va_G) (cI cJ cZ cS : ClassId) (ta : Nat) (sa sv : Nat → Nat) (sz : Nat) (h0 : Nat) (ah : Nat) (ac : Nat) (aq : Nat) (hh : Nat → Int32) (q1 : Nat) (be : Nat) (bl : Nat) (bu : Nat) (bo : Nat) (br : Nat) (bk : Nat) (bw : Nat) (btt : Nat) (bss : Nat) (P : Nat) (lo : Nat → Int32) (d : Nat → Int32) (hP0 : P ≤ 10) : Met l yX5_doFit (Cond.code yX5_doFit cX5_doFit 4 (some .boolean) :: wsU) ({ frames := 3, cells := 0, slots := 0, locals := 65 }) (va_Pc [.ref h0, .ref q1] (XW D (xT cI cJ cZ cS) ta sa sv [(h0, .inr (5, [.ref ah, .ref ac, .ref aq])), (ah, .inl (cI, 10, .inl hh)), (q1, .inr (1, [.int (nI (P)), .ref be, .ref bl, .ref bu, .ref bo, .ref br, .ref bk, .ref bw, .ref btt, .ref bss])), (bl, .inl (cI, 100, .inl lo)), (bo, .inl (cI, 100, .inl d))] sz)) (vp_Si (fun r : Int32 => (r = 1) ∨ (r = 0))) 0 0 (fun _ => False) := by
  refine xh (QA := fun _ => vp_Si (fun r : Int32 => (r = 1) ∨ (r = 0))) (fr := fun _ _ => False) (by decide) (Nat.le_of_ble_eq_true rfl) ?_
  intro p e s m below meth c ls A hF hr hlk hin hsz hP hK hD hN hZ hA hS hl
  have hF : CallFix p m c cX5_doFit 4 s _ _ RX5 := hF
  have hx := hF.1
  have hb := hF.2.1
  have hml := hF.2.2.1
  have hown := hF.2.2.2.1
  have hu : ∀ w ∈ wsU, w.before _ s = true := fun w h => hF.2.2.2.2 w (List.mem_cons_of_mem _ h)
  have hl : lv_has ls 4 [(0, .ref h0), (1, .ref q1)] := hl
  refine lv_iconst (v := 0) hx hb dX5_doFit_0 (by decide) ?_
  refine lv_istore_n (lv' := [(2, .int 0), (0, .ref h0), (1, .ref q1)]) hx hb dX5_doFit_1 rfl hl (by decide) rfl (fun ls hl => ?_)
  suffices loop_2 : ∀ (n_2 : Nat) (i : Nat) (ls : Array Slot), P - i < n_2 → (i ≤ P) → lv_has ls 4 [(2, .int (nI (i))), (0, .ref h0), (1, .ref q1)] → W p l e ({ frames := 3, cells := 0, slots := 0, locals := 65 }) s m ([.ref h0, .ref q1] : List Value).toArray below meth c s.heap [] 0 0 (MQ below (vp_Si (fun r : Int32 => (r = 1) ∨ (r = 0))) ([.ref h0, .ref q1] : List Value).toArray s 0 0 (fun _ => False)) (F0 m 2 ls []) by
    exact loop_2 _ 0 _ (Nat.lt_succ_self _) (by omega) (lv_sub hl [0, 1, 2] rfl)
  intro n_2
  induction n_2 with
  | zero =>
    intro i ls hm_2
    exact absurd hm_2 (Nat.not_lt_zero _)
  | succ n_2 ih_2 =>
    intro i ls hm_2 hi hl
    refine lv_iload_n hx hb dX5_doFit_2 rfl (lv_at hl 0 rfl) ?_
    refine lv_aload_n hx hb dX5_doFit_3 rfl (lv_at hl 2 rfl) ?_
    refine xg hF kf_X5_22 hK hP 2 rfl rfl dX5_doFit_4 ?_
    refine lv_icmp_ge (tgt := 67) hx hb dX5_doFit_7 (by decide) (fun c_1 => ?_) (fun c_1 => ?_)
    · skip
      have nc_1 : P ≤ i := xn_le (a := P) (b := i) (by omega) (by omega) c_1
      refine lv_iconst (v := 1) hx hb dX5_doFit_67 (by decide) ?_
      exact W.zret (v := 1) hx hb hr rfl (fun t ht hW => ⟨1, rfl, (by first | exact Or.inl rfl), ht⟩) (fun q h => by cases h) dX5_doFit_68 hlk
    · skip
      have nc_1 : i < P := xn_nle (a := P) (b := i) (by omega) (by omega) c_1
      refine lv_iload_n hx hb dX5_doFit_10 rfl (lv_at hl 0 rfl) ?_
      refine lv_iconst (v := 1) hx hb dX5_doFit_11 (by decide) ?_
      refine lv_iadd hx hb dX5_doFit_12 ?_
      refine xl_i (y := nI (i + 1)) (nI_add i 1) ?_
      refine lv_istore_n (lv' := [(3, .int (nI (i + 1))), (2, .int (nI (i))), (0, .ref h0), (1, .ref q1)]) hx hb dX5_doFit_13 rfl hl (by decide) rfl (fun ls hl => ?_)
      suffices loop_14 : ∀ (n_14 : Nat) (i2 : Nat) (ls : Array Slot), P - i2 < n_14 → (i2 ≤ P) → lv_has ls 4 [(3, .int (nI (i2))), (2, .int (nI (i))), (0, .ref h0), (1, .ref q1)] → W p l e ({ frames := 3, cells := 0, slots := 0, locals := 65 }) s m ([.ref h0, .ref q1] : List Value).toArray below meth c s.heap [] 0 0 (MQ below (vp_Si (fun r : Int32 => (r = 1) ∨ (r = 0))) ([.ref h0, .ref q1] : List Value).toArray s 0 0 (fun _ => False)) (F0 m 14 ls []) by
        exact loop_14 _ (i + 1) _ (Nat.lt_succ_self _) (by omega) (lv_sub hl [0, 1, 2, 3] rfl)
      intro n_14
      induction n_14 with
      | zero =>
        intro i2 ls hm_14
        exact absurd hm_14 (Nat.not_lt_zero _)
      | succ n_14 ih_14 =>
        intro i2 ls hm_14 hi2 hl
        refine lv_iload_n hx hb dX5_doFit_14 rfl (lv_at hl 0 rfl) ?_
        refine lv_aload_n hx hb dX5_doFit_15 rfl (lv_at hl 3 rfl) ?_
        refine xg hF kf_X5_22 hK hP 2 rfl rfl dX5_doFit_16 ?_
        refine lv_icmp_ge (tgt := 61) hx hb dX5_doFit_19 (by decide) (fun c_2 => ?_) (fun c_2 => ?_)
        · skip
          have nc_2 : P ≤ i2 := xn_le (a := P) (b := i2) (by omega) (by omega) c_2
          refine lv_iinc (v := nI (i + 1)) (lv' := [(2, .int (nI (i + 1))), (3, .int (nI (i2))), (0, .ref h0), (1, .ref q1)]) hx hb dX5_doFit_61 hl (k := 1) rfl (nI_1 (i)) (by decide) rfl (fun ls hl => ?_)
          refine lv_goto (tgt := 2) hx hb dX5_doFit_64 (by decide) ?_
          exact ih_2 (i + 1) _ (by omega) (by omega) (lv_sub hl [0, 2, 3] rfl)
        · skip
          have nc_2 : i2 < P := xn_nle (a := P) (b := i2) (by omega) (by omega) c_2
          refine lv_aload_n hx hb dX5_doFit_22 rfl (lv_at hl 3 rfl) ?_
          refine lv_iload_n hx hb dX5_doFit_23 rfl (lv_at hl 1 rfl) ?_
          refine lv_iload_n hx hb dX5_doFit_24 rfl (lv_at hl 0 rfl) ?_
          refine xc_Vr hF (c_X1_areBothWays l D cI cJ cZ cS ta sa sv s.heap.size q1 be bl bu bo br bk bw btt bss P i i2 d (by omega) (by omega)) kv_X5_32 ⟨rfl, rfl, Nat.le_of_ble_eq_true rfl, Nat.le_of_ble_eq_true rfl⟩ ⟨Nat.le_of_ble_eq_true rfl, Nat.le_of_ble_eq_true rfl⟩ hK hN hZ hP hD hS hA [2, 4] rfl rfl 0 rfl rfl rfl rfl hl.1 rfl (Nat.le_of_ble_eq_true rfl) dX5_doFit_25 (fun r_3 hw_r_3 => ?_)
          rcases hw_r_3 with rfl | rfl
          · skip
            refine lv_if_eq (tgt := 55) hx hb dX5_doFit_28 (by decide) (fun c_4 => absurd c_4 (by decide)) (fun c_4 => ?_)
            refine lv_aload_n hx hb dX5_doFit_31 rfl (lv_at hl 2 rfl) ?_
            refine xg hF kf_X5_9 hK hP 0 rfl rfl dX5_doFit_32 ?_
            refine lv_iload_n hx hb dX5_doFit_35 rfl (lv_at hl 0 rfl) ?_
            refine va_iald hx hb hK hP 1 0 rfl rfl (vp_in_nI (show i2 < 10 by omega) (by decide)) dX5_doFit_36 ?_
            refine xl_i (y := hh i2) (congrArg hh (nI_clamp (show i2 < 2 ^ 31 by omega))) ?_
            refine lv_aload_n hx hb dX5_doFit_37 rfl (lv_at hl 2 rfl) ?_
            refine xg hF kf_X5_9 hK hP 0 rfl rfl dX5_doFit_38 ?_
            refine lv_iload_n hx hb dX5_doFit_41 rfl (lv_at hl 1 rfl) ?_
            refine va_iald hx hb hK hP 1 0 rfl rfl (vp_in_nI (show i < 10 by omega) (by decide)) dX5_doFit_42 ?_
            refine xl_i (y := hh i) (congrArg hh (nI_clamp (show i < 2 ^ 31 by omega))) ?_
            refine lv_isub hx hb dX5_doFit_43 ?_
            refine lv_topi (fun x_5 ex_5 => ?_)
            refine lv_aload_n hx hb dX5_doFit_44 rfl (lv_at hl 3 rfl) ?_
            refine lv_iload_n hx hb dX5_doFit_45 rfl (lv_at hl 1 rfl) ?_
            refine lv_iload_n hx hb dX5_doFit_46 rfl (lv_at hl 0 rfl) ?_
            refine xc_Sr hF (c_X5_riseOf l D cI cJ cZ cS ta sa sv s.heap.size q1 be bl bu bo br bk bw btt bss P i i2 lo (by omega) (by omega)) ks_X5_36 ⟨rfl, rfl, Nat.le_of_ble_eq_true rfl, Nat.le_of_ble_eq_true rfl⟩ ⟨Nat.le_of_ble_eq_true rfl, Nat.le_of_ble_eq_true rfl⟩ hK hN hZ hP hD hS hA [2, 3] rfl rfl rfl hl.1 rfl (Nat.le_of_ble_eq_true rfl) dX5_doFit_47 (fun r_6 hw_r_6 => ?_)
            subst hw_r_6
            refine lv_icmp_eq (tgt := 55) hx hb dX5_doFit_50 (by decide) (fun c_7 => ?_) (fun c_7 => ?_)
            · skip
              refine lv_iinc (v := nI (i2 + 1)) (lv' := [(3, .int (nI (i2 + 1))), (2, .int (nI (i))), (0, .ref h0), (1, .ref q1)]) hx hb dX5_doFit_55 hl (k := 0) rfl (nI_1 (i2)) (by decide) rfl (fun ls hl => ?_)
              refine lv_goto (tgt := 14) hx hb dX5_doFit_58 (by decide) ?_
              exact ih_14 (i2 + 1) _ (by omega) (by omega) (lv_sub hl [0, 1, 2, 3] rfl)
            · skip
              refine lv_iconst (v := 0) hx hb dX5_doFit_53 (by decide) ?_
              exact W.zret (v := 0) hx hb hr rfl (fun t ht hW => ⟨0, rfl, (by first | exact Or.inr (rfl)), ht⟩) (fun q h => by cases h) dX5_doFit_54 hlk
          · skip
            refine lv_if_eq (tgt := 55) hx hb dX5_doFit_28 (by decide) (fun c_8 => ?_) (fun c_8 => absurd (by decide) c_8)
            refine lv_iinc (v := nI (i2 + 1)) (lv' := [(3, .int (nI (i2 + 1))), (2, .int (nI (i))), (0, .ref h0), (1, .ref q1)]) hx hb dX5_doFit_55 hl (k := 0) rfl (nI_1 (i2)) (by decide) rfl (fun ls hl => ?_)
            refine lv_goto (tgt := 14) hx hb dX5_doFit_58 (by decide) ?_
            exact ih_14 (i2 + 1) _ (by omega) (by omega) (lv_sub hl [0, 1, 2, 3] rfl)
