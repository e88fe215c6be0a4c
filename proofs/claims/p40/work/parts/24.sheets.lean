def LRX8_layWays_6 : List UInt8 := []
def LBX8_layWays_5 : List UInt8 := [0x01, 0xa7, 0xff, 0xb4, 0x1d, 0xac]
def LRX8_layWays_5 : List UInt8 := LBX8_layWays_5 ++ LRX8_layWays_6
def LBX8_layWays_4 : List UInt8 := [0x15, 0x04, 0x16, 0x05, 0x88, 0x16, 0x05, 0x88, 0xb6, 0x00, 0x6d, 0x84, 0x03, 0x01, 0x84, 0x04]
def LRX8_layWays_4 : List UInt8 := LBX8_layWays_4 ++ LRX8_layWays_5
def LBX8_layWays_3 : List UInt8 := [0x00, 0x1f, 0x16, 0x05, 0x14, 0x01, 0x51, 0x94, 0x9d, 0x00, 0x16, 0x2a, 0xb4, 0x00, 0x0c, 0x1c]
def LRX8_layWays_3 : List UInt8 := LBX8_layWays_3 ++ LRX8_layWays_4
def LBX8_layWays_2 : List UInt8 := [0x2f, 0x37, 0x05, 0x15, 0x04, 0x1c, 0x9f, 0x00, 0x28, 0x16, 0x05, 0x14, 0x01, 0x4f, 0x94, 0x9b]
def LRX8_layWays_2 : List UInt8 := LBX8_layWays_2 ++ LRX8_layWays_3
def LBX8_layWays_1 : List UInt8 := [0x2a, 0xb4, 0x00, 0x0c, 0xb4, 0x00, 0x4b, 0xa2, 0x00, 0x3d, 0x2b, 0xb4, 0x01, 0x2a, 0x15, 0x04]
def LRX8_layWays_1 : List UInt8 := LBX8_layWays_1 ++ LRX8_layWays_2
def LBX8_layWays_0 : List UInt8 := [0x03, 0x3e, 0x03, 0x36, 0x04, 0x15, 0x04, 0x2b, 0xb4, 0x01, 0x25, 0xa2, 0x00, 0x49, 0x15, 0x04]
def LRX8_layWays_0 : List UInt8 := LBX8_layWays_0 ++ LRX8_layWays_1
set_option maxRecDepth 100000 in
theorem LBX8_layWays_eq : cX8_layWays.data.toList = LRX8_layWays_0 := by decide +kernel
theorem LBX8_layWaysr_0 (k : Nat) : cX8_layWays.data.toList[0 + k]? = LRX8_layWays_0[k]? := by rw [LBX8_layWays_eq, Nat.zero_add]
theorem LBX8_layWaysr_1 (k : Nat) : cX8_layWays.data.toList[16 + k]? = LRX8_layWays_1[k]? := by
  have h := LBX8_layWaysr_0 (16 + k)
  rw [show 0 + (16 + k) = 16 + k by omega] at h
  rw [h]
  exact (List.getElem?_append_right (l₁ := LBX8_layWays_0) (l₂ := LRX8_layWays_1) (show 16 ≤ 16 + k by omega)).trans (congrArg (fun i => LRX8_layWays_1[i]?) (show 16 + k - 16 = k by omega))
theorem LBX8_layWaysr_2 (k : Nat) : cX8_layWays.data.toList[32 + k]? = LRX8_layWays_2[k]? := by
  have h := LBX8_layWaysr_1 (16 + k)
  rw [show 16 + (16 + k) = 32 + k by omega] at h
  rw [h]
  exact (List.getElem?_append_right (l₁ := LBX8_layWays_1) (l₂ := LRX8_layWays_2) (show 16 ≤ 16 + k by omega)).trans (congrArg (fun i => LRX8_layWays_2[i]?) (show 16 + k - 16 = k by omega))
theorem LBX8_layWaysr_3 (k : Nat) : cX8_layWays.data.toList[48 + k]? = LRX8_layWays_3[k]? := by
  have h := LBX8_layWaysr_2 (16 + k)
  rw [show 32 + (16 + k) = 48 + k by omega] at h
  rw [h]
  exact (List.getElem?_append_right (l₁ := LBX8_layWays_2) (l₂ := LRX8_layWays_3) (show 16 ≤ 16 + k by omega)).trans (congrArg (fun i => LRX8_layWays_3[i]?) (show 16 + k - 16 = k by omega))
theorem LBX8_layWaysr_4 (k : Nat) : cX8_layWays.data.toList[64 + k]? = LRX8_layWays_4[k]? := by
  have h := LBX8_layWaysr_3 (16 + k)
  rw [show 48 + (16 + k) = 64 + k by omega] at h
  rw [h]
  exact (List.getElem?_append_right (l₁ := LBX8_layWays_3) (l₂ := LRX8_layWays_4) (show 16 ≤ 16 + k by omega)).trans (congrArg (fun i => LRX8_layWays_4[i]?) (show 16 + k - 16 = k by omega))
theorem LBX8_layWaysr_5 (k : Nat) : cX8_layWays.data.toList[80 + k]? = LRX8_layWays_5[k]? := by
  have h := LBX8_layWaysr_4 (16 + k)
  rw [show 64 + (16 + k) = 80 + k by omega] at h
  rw [h]
  exact (List.getElem?_append_right (l₁ := LBX8_layWays_4) (l₂ := LRX8_layWays_5) (show 16 ≤ 16 + k by omega)).trans (congrArg (fun i => LRX8_layWays_5[i]?) (show 16 + k - 16 = k by omega))
theorem dX8_layWays_0 : decode cX8_layWays 0 = .ok (.iconst 0, 1) := dk_3_ (show cX8_layWays.data.toList[0]? = some 0x03 from (LBX8_layWaysr_0 0).trans (by decide +kernel))
theorem dX8_layWays_1 : decode cX8_layWays 1 = .ok (.istore_n 3, 1) := dk_62_ (show cX8_layWays.data.toList[1]? = some 0x3e from (LBX8_layWaysr_0 1).trans (by decide +kernel))
theorem dX8_layWays_2 : decode cX8_layWays 2 = .ok (.iconst 0, 1) := dk_3_ (show cX8_layWays.data.toList[2]? = some 0x03 from (LBX8_layWaysr_0 2).trans (by decide +kernel))
theorem dX8_layWays_3 : decode cX8_layWays 3 = .ok (.istore 4, 2) := dk_54_ (show cX8_layWays.data.toList[3]? = some 0x36 from (LBX8_layWaysr_0 3).trans (by decide +kernel)) (show cX8_layWays.data.toList[4]? = some 0x04 from (LBX8_layWaysr_0 4).trans (by decide +kernel)) (by decide)
theorem dX8_layWays_5 : decode cX8_layWays 5 = .ok (.iload 4, 2) := dk_21_ (show cX8_layWays.data.toList[5]? = some 0x15 from (LBX8_layWaysr_0 5).trans (by decide +kernel)) (show cX8_layWays.data.toList[6]? = some 0x04 from (LBX8_layWaysr_0 6).trans (by decide +kernel)) (by decide)
theorem dX8_layWays_7 : decode cX8_layWays 7 = .ok (.aload_n 1, 1) := dk_43_ (show cX8_layWays.data.toList[7]? = some 0x2b from (LBX8_layWaysr_0 7).trans (by decide +kernel))
theorem dX8_layWays_8 : decode cX8_layWays 8 = .ok (.getfield 293, 3) := dk_180_ (show cX8_layWays.data.toList[8]? = some 0xb4 from (LBX8_layWaysr_0 8).trans (by decide +kernel)) (show cX8_layWays.data.toList[9]? = some 0x01 from (LBX8_layWaysr_0 9).trans (by decide +kernel)) (show cX8_layWays.data.toList[10]? = some 0x25 from (LBX8_layWaysr_0 10).trans (by decide +kernel)) (by decide)
theorem dX8_layWays_11 : decode cX8_layWays 11 = .ok (.if_icmp .ge 73, 3) := dk_162_ (show cX8_layWays.data.toList[11]? = some 0xa2 from (LBX8_layWaysr_0 11).trans (by decide +kernel)) (show cX8_layWays.data.toList[12]? = some 0x00 from (LBX8_layWaysr_0 12).trans (by decide +kernel)) (show cX8_layWays.data.toList[13]? = some 0x49 from (LBX8_layWaysr_0 13).trans (by decide +kernel)) (by decide)
theorem dX8_layWays_14 : decode cX8_layWays 14 = .ok (.iload 4, 2) := dk_21_ (show cX8_layWays.data.toList[14]? = some 0x15 from (LBX8_layWaysr_0 14).trans (by decide +kernel)) (show cX8_layWays.data.toList[15]? = some 0x04 from (LBX8_layWaysr_0 15).trans (by decide +kernel)) (by decide)
theorem dX8_layWays_16 : decode cX8_layWays 16 = .ok (.aload_n 0, 1) := dk_42_ (show cX8_layWays.data.toList[16]? = some 0x2a from (LBX8_layWaysr_1 0).trans (by decide +kernel))
theorem dX8_layWays_17 : decode cX8_layWays 17 = .ok (.getfield 12, 3) := dk_180_ (show cX8_layWays.data.toList[17]? = some 0xb4 from (LBX8_layWaysr_1 1).trans (by decide +kernel)) (show cX8_layWays.data.toList[18]? = some 0x00 from (LBX8_layWaysr_1 2).trans (by decide +kernel)) (show cX8_layWays.data.toList[19]? = some 0x0c from (LBX8_layWaysr_1 3).trans (by decide +kernel)) (by decide)
theorem dX8_layWays_20 : decode cX8_layWays 20 = .ok (.getfield 75, 3) := dk_180_ (show cX8_layWays.data.toList[20]? = some 0xb4 from (LBX8_layWaysr_1 4).trans (by decide +kernel)) (show cX8_layWays.data.toList[21]? = some 0x00 from (LBX8_layWaysr_1 5).trans (by decide +kernel)) (show cX8_layWays.data.toList[22]? = some 0x4b from (LBX8_layWaysr_1 6).trans (by decide +kernel)) (by decide)
theorem dX8_layWays_23 : decode cX8_layWays 23 = .ok (.if_icmp .ge 61, 3) := dk_162_ (show cX8_layWays.data.toList[23]? = some 0xa2 from (LBX8_layWaysr_1 7).trans (by decide +kernel)) (show cX8_layWays.data.toList[24]? = some 0x00 from (LBX8_layWaysr_1 8).trans (by decide +kernel)) (show cX8_layWays.data.toList[25]? = some 0x3d from (LBX8_layWaysr_1 9).trans (by decide +kernel)) (by decide)
theorem dX8_layWays_26 : decode cX8_layWays 26 = .ok (.aload_n 1, 1) := dk_43_ (show cX8_layWays.data.toList[26]? = some 0x2b from (LBX8_layWaysr_1 10).trans (by decide +kernel))
theorem dX8_layWays_27 : decode cX8_layWays 27 = .ok (.getfield 298, 3) := dk_180_ (show cX8_layWays.data.toList[27]? = some 0xb4 from (LBX8_layWaysr_1 11).trans (by decide +kernel)) (show cX8_layWays.data.toList[28]? = some 0x01 from (LBX8_layWaysr_1 12).trans (by decide +kernel)) (show cX8_layWays.data.toList[29]? = some 0x2a from (LBX8_layWaysr_1 13).trans (by decide +kernel)) (by decide)
theorem dX8_layWays_30 : decode cX8_layWays 30 = .ok (.iload 4, 2) := dk_21_ (show cX8_layWays.data.toList[30]? = some 0x15 from (LBX8_layWaysr_1 14).trans (by decide +kernel)) (show cX8_layWays.data.toList[31]? = some 0x04 from (LBX8_layWaysr_1 15).trans (by decide +kernel)) (by decide)
theorem dX8_layWays_32 : decode cX8_layWays 32 = .ok (.laload, 1) := dk_47_ (show cX8_layWays.data.toList[32]? = some 0x2f from (LBX8_layWaysr_2 0).trans (by decide +kernel))
theorem dX8_layWays_33 : decode cX8_layWays 33 = .ok (.lstore 5, 2) := dk_55_ (show cX8_layWays.data.toList[33]? = some 0x37 from (LBX8_layWaysr_2 1).trans (by decide +kernel)) (show cX8_layWays.data.toList[34]? = some 0x05 from (LBX8_layWaysr_2 2).trans (by decide +kernel)) (by decide)
theorem dX8_layWays_35 : decode cX8_layWays 35 = .ok (.iload 4, 2) := dk_21_ (show cX8_layWays.data.toList[35]? = some 0x15 from (LBX8_layWaysr_2 3).trans (by decide +kernel)) (show cX8_layWays.data.toList[36]? = some 0x04 from (LBX8_layWaysr_2 4).trans (by decide +kernel)) (by decide)
theorem dX8_layWays_37 : decode cX8_layWays 37 = .ok (.iload_n 2, 1) := dk_28_ (show cX8_layWays.data.toList[37]? = some 0x1c from (LBX8_layWaysr_2 5).trans (by decide +kernel))
theorem dX8_layWays_38 : decode cX8_layWays 38 = .ok (.if_icmp .eq 40, 3) := dk_159_ (show cX8_layWays.data.toList[38]? = some 0x9f from (LBX8_layWaysr_2 6).trans (by decide +kernel)) (show cX8_layWays.data.toList[39]? = some 0x00 from (LBX8_layWaysr_2 7).trans (by decide +kernel)) (show cX8_layWays.data.toList[40]? = some 0x28 from (LBX8_layWaysr_2 8).trans (by decide +kernel)) (by decide)
theorem dX8_layWays_41 : decode cX8_layWays 41 = .ok (.lload 5, 2) := dk_22_ (show cX8_layWays.data.toList[41]? = some 0x16 from (LBX8_layWaysr_2 9).trans (by decide +kernel)) (show cX8_layWays.data.toList[42]? = some 0x05 from (LBX8_layWaysr_2 10).trans (by decide +kernel)) (by decide)
theorem dX8_layWays_43 : decode cX8_layWays 43 = .ok (.ldc2_w 335, 3) := dk_20_ (show cX8_layWays.data.toList[43]? = some 0x14 from (LBX8_layWaysr_2 11).trans (by decide +kernel)) (show cX8_layWays.data.toList[44]? = some 0x01 from (LBX8_layWaysr_2 12).trans (by decide +kernel)) (show cX8_layWays.data.toList[45]? = some 0x4f from (LBX8_layWaysr_2 13).trans (by decide +kernel)) (by decide)
theorem dX8_layWays_46 : decode cX8_layWays 46 = .ok (.lcmp, 1) := dk_148_ (show cX8_layWays.data.toList[46]? = some 0x94 from (LBX8_layWaysr_2 14).trans (by decide +kernel))
theorem dX8_layWays_47 : decode cX8_layWays 47 = .ok (.ifCond .lt 31, 3) := dk_155_ (show cX8_layWays.data.toList[47]? = some 0x9b from (LBX8_layWaysr_2 15).trans (by decide +kernel)) (show cX8_layWays.data.toList[48]? = some 0x00 from (LBX8_layWaysr_3 0).trans (by decide +kernel)) (show cX8_layWays.data.toList[49]? = some 0x1f from (LBX8_layWaysr_3 1).trans (by decide +kernel)) (by decide)
theorem dX8_layWays_50 : decode cX8_layWays 50 = .ok (.lload 5, 2) := dk_22_ (show cX8_layWays.data.toList[50]? = some 0x16 from (LBX8_layWaysr_3 2).trans (by decide +kernel)) (show cX8_layWays.data.toList[51]? = some 0x05 from (LBX8_layWaysr_3 3).trans (by decide +kernel)) (by decide)
theorem dX8_layWays_52 : decode cX8_layWays 52 = .ok (.ldc2_w 337, 3) := dk_20_ (show cX8_layWays.data.toList[52]? = some 0x14 from (LBX8_layWaysr_3 4).trans (by decide +kernel)) (show cX8_layWays.data.toList[53]? = some 0x01 from (LBX8_layWaysr_3 5).trans (by decide +kernel)) (show cX8_layWays.data.toList[54]? = some 0x51 from (LBX8_layWaysr_3 6).trans (by decide +kernel)) (by decide)
theorem dX8_layWays_55 : decode cX8_layWays 55 = .ok (.lcmp, 1) := dk_148_ (show cX8_layWays.data.toList[55]? = some 0x94 from (LBX8_layWaysr_3 7).trans (by decide +kernel))
theorem dX8_layWays_56 : decode cX8_layWays 56 = .ok (.ifCond .gt 22, 3) := dk_157_ (show cX8_layWays.data.toList[56]? = some 0x9d from (LBX8_layWaysr_3 8).trans (by decide +kernel)) (show cX8_layWays.data.toList[57]? = some 0x00 from (LBX8_layWaysr_3 9).trans (by decide +kernel)) (show cX8_layWays.data.toList[58]? = some 0x16 from (LBX8_layWaysr_3 10).trans (by decide +kernel)) (by decide)
theorem dX8_layWays_59 : decode cX8_layWays 59 = .ok (.aload_n 0, 1) := dk_42_ (show cX8_layWays.data.toList[59]? = some 0x2a from (LBX8_layWaysr_3 11).trans (by decide +kernel))
theorem dX8_layWays_60 : decode cX8_layWays 60 = .ok (.getfield 12, 3) := dk_180_ (show cX8_layWays.data.toList[60]? = some 0xb4 from (LBX8_layWaysr_3 12).trans (by decide +kernel)) (show cX8_layWays.data.toList[61]? = some 0x00 from (LBX8_layWaysr_3 13).trans (by decide +kernel)) (show cX8_layWays.data.toList[62]? = some 0x0c from (LBX8_layWaysr_3 14).trans (by decide +kernel)) (by decide)
theorem dX8_layWays_63 : decode cX8_layWays 63 = .ok (.iload_n 2, 1) := dk_28_ (show cX8_layWays.data.toList[63]? = some 0x1c from (LBX8_layWaysr_3 15).trans (by decide +kernel))
theorem dX8_layWays_64 : decode cX8_layWays 64 = .ok (.iload 4, 2) := dk_21_ (show cX8_layWays.data.toList[64]? = some 0x15 from (LBX8_layWaysr_4 0).trans (by decide +kernel)) (show cX8_layWays.data.toList[65]? = some 0x04 from (LBX8_layWaysr_4 1).trans (by decide +kernel)) (by decide)
theorem dX8_layWays_66 : decode cX8_layWays 66 = .ok (.lload 5, 2) := dk_22_ (show cX8_layWays.data.toList[66]? = some 0x16 from (LBX8_layWaysr_4 2).trans (by decide +kernel)) (show cX8_layWays.data.toList[67]? = some 0x05 from (LBX8_layWaysr_4 3).trans (by decide +kernel)) (by decide)
theorem dX8_layWays_68 : decode cX8_layWays 68 = .ok (.l2i, 1) := dk_136_ (show cX8_layWays.data.toList[68]? = some 0x88 from (LBX8_layWaysr_4 4).trans (by decide +kernel))
theorem dX8_layWays_69 : decode cX8_layWays 69 = .ok (.lload 5, 2) := dk_22_ (show cX8_layWays.data.toList[69]? = some 0x16 from (LBX8_layWaysr_4 5).trans (by decide +kernel)) (show cX8_layWays.data.toList[70]? = some 0x05 from (LBX8_layWaysr_4 6).trans (by decide +kernel)) (by decide)
theorem dX8_layWays_71 : decode cX8_layWays 71 = .ok (.l2i, 1) := dk_136_ (show cX8_layWays.data.toList[71]? = some 0x88 from (LBX8_layWaysr_4 7).trans (by decide +kernel))
theorem dX8_layWays_72 : decode cX8_layWays 72 = .ok (.invokevirtual 109, 3) := dk_182_ (show cX8_layWays.data.toList[72]? = some 0xb6 from (LBX8_layWaysr_4 8).trans (by decide +kernel)) (show cX8_layWays.data.toList[73]? = some 0x00 from (LBX8_layWaysr_4 9).trans (by decide +kernel)) (show cX8_layWays.data.toList[74]? = some 0x6d from (LBX8_layWaysr_4 10).trans (by decide +kernel)) (by decide)
theorem dX8_layWays_75 : decode cX8_layWays 75 = .ok (.iinc 3 1, 3) := dk_132_ (show cX8_layWays.data.toList[75]? = some 0x84 from (LBX8_layWaysr_4 11).trans (by decide +kernel)) (show cX8_layWays.data.toList[76]? = some 0x03 from (LBX8_layWaysr_4 12).trans (by decide +kernel)) (show cX8_layWays.data.toList[77]? = some 0x01 from (LBX8_layWaysr_4 13).trans (by decide +kernel)) (by decide) (by decide)
theorem dX8_layWays_78 : decode cX8_layWays 78 = .ok (.iinc 4 1, 3) := dk_132_ (show cX8_layWays.data.toList[78]? = some 0x84 from (LBX8_layWaysr_4 14).trans (by decide +kernel)) (show cX8_layWays.data.toList[79]? = some 0x04 from (LBX8_layWaysr_4 15).trans (by decide +kernel)) (show cX8_layWays.data.toList[80]? = some 0x01 from (LBX8_layWaysr_5 0).trans (by decide +kernel)) (by decide) (by decide)
theorem dX8_layWays_81 : decode cX8_layWays 81 = .ok (.goto (-76), 3) := dk_167_ (show cX8_layWays.data.toList[81]? = some 0xa7 from (LBX8_layWaysr_5 1).trans (by decide +kernel)) (show cX8_layWays.data.toList[82]? = some 0xff from (LBX8_layWaysr_5 2).trans (by decide +kernel)) (show cX8_layWays.data.toList[83]? = some 0xb4 from (LBX8_layWaysr_5 3).trans (by decide +kernel)) (by decide)
theorem dX8_layWays_84 : decode cX8_layWays 84 = .ok (.iload_n 3, 1) := dk_29_ (show cX8_layWays.data.toList[84]? = some 0x1d from (LBX8_layWaysr_5 4).trans (by decide +kernel))
theorem dX8_layWays_85 : decode cX8_layWays 85 = .ok (.ireturn, 1) := dk_172_ (show cX8_layWays.data.toList[85]? = some 0xac from (LBX8_layWaysr_5 5).trans (by decide +kernel))
def LRX8_readRow_9 : List UInt8 := []
def LBX8_readRow_8 : List UInt8 := [0x00, 0x07, 0x03, 0xa7, 0x00, 0x09, 0x04, 0x2b, 0xb4, 0x01, 0x25, 0x60, 0xac]
def LRX8_readRow_8 : List UInt8 := LBX8_readRow_8 ++ LRX8_readRow_9
def LBX8_readRow_7 : List UInt8 := [0x01, 0xa7, 0xff, 0xa3, 0x15, 0x04, 0x2a, 0xb4, 0x00, 0x1d, 0x1c, 0x1d, 0xb6, 0x00, 0x85, 0xa0]
def LRX8_readRow_7 : List UInt8 := LBX8_readRow_7 ++ LRX8_readRow_8
def LBX8_readRow_6 : List UInt8 := [0x60, 0x36, 0x04, 0xa7, 0x00, 0x08, 0x04, 0x15, 0x05, 0x60, 0xac, 0x15, 0x08, 0x3e, 0x84, 0x05]
def LRX8_readRow_6 : List UInt8 := LBX8_readRow_6 ++ LRX8_readRow_7
def LBX8_readRow_5 : List UInt8 := [0x79, 0x99, 0x00, 0x15, 0x15, 0x04, 0x2a, 0xb4, 0x00, 0x0c, 0x1d, 0x15, 0x08, 0xb6, 0x00, 0x72]
def LRX8_readRow_5 : List UInt8 := LBX8_readRow_5 ++ LRX8_readRow_6
def LBX8_readRow_4 : List UInt8 := [0x09, 0x15, 0x08, 0x3d, 0xa7, 0x00, 0x27, 0x2a, 0xb4, 0x00, 0x0c, 0x1d, 0x15, 0x08, 0xb6, 0x00]
def LRX8_readRow_4 : List UInt8 := LBX8_readRow_4 ++ LRX8_readRow_5
def LBX8_readRow_3 : List UInt8 := [0x00, 0x08, 0x04, 0x15, 0x05, 0x60, 0xac, 0x16, 0x06, 0x88, 0x36, 0x08, 0x15, 0x05, 0x9a, 0x00]
def LRX8_readRow_3 : List UInt8 := LBX8_readRow_3 ++ LRX8_readRow_4
def LBX8_readRow_2 : List UInt8 := [0x2a, 0x15, 0x05, 0x2f, 0x37, 0x06, 0x2a, 0xb4, 0x00, 0x0c, 0x16, 0x06, 0xb6, 0x00, 0x57, 0x9a]
def LRX8_readRow_2 : List UInt8 := LBX8_readRow_2 ++ LRX8_readRow_3
def LBX8_readRow_1 : List UInt8 := [0x04, 0x03, 0x36, 0x05, 0x15, 0x05, 0x2b, 0xb4, 0x01, 0x25, 0xa2, 0x00, 0x5a, 0x2b, 0xb4, 0x01]
def LRX8_readRow_1 : List UInt8 := LBX8_readRow_1 ++ LRX8_readRow_2
def LBX8_readRow_0 : List UInt8 := [0x2b, 0xb4, 0x01, 0x25, 0x05, 0xa2, 0x00, 0x05, 0x04, 0xac, 0x03, 0x3d, 0x03, 0x3e, 0x03, 0x36]
def LRX8_readRow_0 : List UInt8 := LBX8_readRow_0 ++ LRX8_readRow_1
set_option maxRecDepth 100000 in
theorem LBX8_readRow_eq : cX8_readRow.data.toList = LRX8_readRow_0 := by decide +kernel
theorem LBX8_readRowr_0 (k : Nat) : cX8_readRow.data.toList[0 + k]? = LRX8_readRow_0[k]? := by rw [LBX8_readRow_eq, Nat.zero_add]
theorem LBX8_readRowr_1 (k : Nat) : cX8_readRow.data.toList[16 + k]? = LRX8_readRow_1[k]? := by
  have h := LBX8_readRowr_0 (16 + k)
  rw [show 0 + (16 + k) = 16 + k by omega] at h
  rw [h]
  exact (List.getElem?_append_right (l₁ := LBX8_readRow_0) (l₂ := LRX8_readRow_1) (show 16 ≤ 16 + k by omega)).trans (congrArg (fun i => LRX8_readRow_1[i]?) (show 16 + k - 16 = k by omega))
theorem LBX8_readRowr_2 (k : Nat) : cX8_readRow.data.toList[32 + k]? = LRX8_readRow_2[k]? := by
  have h := LBX8_readRowr_1 (16 + k)
  rw [show 16 + (16 + k) = 32 + k by omega] at h
  rw [h]
  exact (List.getElem?_append_right (l₁ := LBX8_readRow_1) (l₂ := LRX8_readRow_2) (show 16 ≤ 16 + k by omega)).trans (congrArg (fun i => LRX8_readRow_2[i]?) (show 16 + k - 16 = k by omega))
theorem LBX8_readRowr_3 (k : Nat) : cX8_readRow.data.toList[48 + k]? = LRX8_readRow_3[k]? := by
  have h := LBX8_readRowr_2 (16 + k)
  rw [show 32 + (16 + k) = 48 + k by omega] at h
  rw [h]
  exact (List.getElem?_append_right (l₁ := LBX8_readRow_2) (l₂ := LRX8_readRow_3) (show 16 ≤ 16 + k by omega)).trans (congrArg (fun i => LRX8_readRow_3[i]?) (show 16 + k - 16 = k by omega))
theorem LBX8_readRowr_4 (k : Nat) : cX8_readRow.data.toList[64 + k]? = LRX8_readRow_4[k]? := by
  have h := LBX8_readRowr_3 (16 + k)
  rw [show 48 + (16 + k) = 64 + k by omega] at h
  rw [h]
  exact (List.getElem?_append_right (l₁ := LBX8_readRow_3) (l₂ := LRX8_readRow_4) (show 16 ≤ 16 + k by omega)).trans (congrArg (fun i => LRX8_readRow_4[i]?) (show 16 + k - 16 = k by omega))
theorem LBX8_readRowr_5 (k : Nat) : cX8_readRow.data.toList[80 + k]? = LRX8_readRow_5[k]? := by
  have h := LBX8_readRowr_4 (16 + k)
  rw [show 64 + (16 + k) = 80 + k by omega] at h
  rw [h]
  exact (List.getElem?_append_right (l₁ := LBX8_readRow_4) (l₂ := LRX8_readRow_5) (show 16 ≤ 16 + k by omega)).trans (congrArg (fun i => LRX8_readRow_5[i]?) (show 16 + k - 16 = k by omega))
theorem LBX8_readRowr_6 (k : Nat) : cX8_readRow.data.toList[96 + k]? = LRX8_readRow_6[k]? := by
  have h := LBX8_readRowr_5 (16 + k)
  rw [show 80 + (16 + k) = 96 + k by omega] at h
  rw [h]
  exact (List.getElem?_append_right (l₁ := LBX8_readRow_5) (l₂ := LRX8_readRow_6) (show 16 ≤ 16 + k by omega)).trans (congrArg (fun i => LRX8_readRow_6[i]?) (show 16 + k - 16 = k by omega))
theorem LBX8_readRowr_7 (k : Nat) : cX8_readRow.data.toList[112 + k]? = LRX8_readRow_7[k]? := by
  have h := LBX8_readRowr_6 (16 + k)
  rw [show 96 + (16 + k) = 112 + k by omega] at h
  rw [h]
  exact (List.getElem?_append_right (l₁ := LBX8_readRow_6) (l₂ := LRX8_readRow_7) (show 16 ≤ 16 + k by omega)).trans (congrArg (fun i => LRX8_readRow_7[i]?) (show 16 + k - 16 = k by omega))
theorem LBX8_readRowr_8 (k : Nat) : cX8_readRow.data.toList[128 + k]? = LRX8_readRow_8[k]? := by
  have h := LBX8_readRowr_7 (16 + k)
  rw [show 112 + (16 + k) = 128 + k by omega] at h
  rw [h]
  exact (List.getElem?_append_right (l₁ := LBX8_readRow_7) (l₂ := LRX8_readRow_8) (show 16 ≤ 16 + k by omega)).trans (congrArg (fun i => LRX8_readRow_8[i]?) (show 16 + k - 16 = k by omega))
theorem dX8_readRow_0 : decode cX8_readRow 0 = .ok (.aload_n 1, 1) := dk_43_ (show cX8_readRow.data.toList[0]? = some 0x2b from (LBX8_readRowr_0 0).trans (by decide +kernel))
theorem dX8_readRow_1 : decode cX8_readRow 1 = .ok (.getfield 293, 3) := dk_180_ (show cX8_readRow.data.toList[1]? = some 0xb4 from (LBX8_readRowr_0 1).trans (by decide +kernel)) (show cX8_readRow.data.toList[2]? = some 0x01 from (LBX8_readRowr_0 2).trans (by decide +kernel)) (show cX8_readRow.data.toList[3]? = some 0x25 from (LBX8_readRowr_0 3).trans (by decide +kernel)) (by decide)
theorem dX8_readRow_4 : decode cX8_readRow 4 = .ok (.iconst 2, 1) := dk_5_ (show cX8_readRow.data.toList[4]? = some 0x05 from (LBX8_readRowr_0 4).trans (by decide +kernel))
theorem dX8_readRow_5 : decode cX8_readRow 5 = .ok (.if_icmp .ge 5, 3) := dk_162_ (show cX8_readRow.data.toList[5]? = some 0xa2 from (LBX8_readRowr_0 5).trans (by decide +kernel)) (show cX8_readRow.data.toList[6]? = some 0x00 from (LBX8_readRowr_0 6).trans (by decide +kernel)) (show cX8_readRow.data.toList[7]? = some 0x05 from (LBX8_readRowr_0 7).trans (by decide +kernel)) (by decide)
theorem dX8_readRow_8 : decode cX8_readRow 8 = .ok (.iconst 1, 1) := dk_4_ (show cX8_readRow.data.toList[8]? = some 0x04 from (LBX8_readRowr_0 8).trans (by decide +kernel))
theorem dX8_readRow_9 : decode cX8_readRow 9 = .ok (.ireturn, 1) := dk_172_ (show cX8_readRow.data.toList[9]? = some 0xac from (LBX8_readRowr_0 9).trans (by decide +kernel))
theorem dX8_readRow_10 : decode cX8_readRow 10 = .ok (.iconst 0, 1) := dk_3_ (show cX8_readRow.data.toList[10]? = some 0x03 from (LBX8_readRowr_0 10).trans (by decide +kernel))
theorem dX8_readRow_11 : decode cX8_readRow 11 = .ok (.istore_n 2, 1) := dk_61_ (show cX8_readRow.data.toList[11]? = some 0x3d from (LBX8_readRowr_0 11).trans (by decide +kernel))
theorem dX8_readRow_12 : decode cX8_readRow 12 = .ok (.iconst 0, 1) := dk_3_ (show cX8_readRow.data.toList[12]? = some 0x03 from (LBX8_readRowr_0 12).trans (by decide +kernel))
theorem dX8_readRow_13 : decode cX8_readRow 13 = .ok (.istore_n 3, 1) := dk_62_ (show cX8_readRow.data.toList[13]? = some 0x3e from (LBX8_readRowr_0 13).trans (by decide +kernel))
theorem dX8_readRow_14 : decode cX8_readRow 14 = .ok (.iconst 0, 1) := dk_3_ (show cX8_readRow.data.toList[14]? = some 0x03 from (LBX8_readRowr_0 14).trans (by decide +kernel))
theorem dX8_readRow_15 : decode cX8_readRow 15 = .ok (.istore 4, 2) := dk_54_ (show cX8_readRow.data.toList[15]? = some 0x36 from (LBX8_readRowr_0 15).trans (by decide +kernel)) (show cX8_readRow.data.toList[16]? = some 0x04 from (LBX8_readRowr_1 0).trans (by decide +kernel)) (by decide)
theorem dX8_readRow_17 : decode cX8_readRow 17 = .ok (.iconst 0, 1) := dk_3_ (show cX8_readRow.data.toList[17]? = some 0x03 from (LBX8_readRowr_1 1).trans (by decide +kernel))
theorem dX8_readRow_18 : decode cX8_readRow 18 = .ok (.istore 5, 2) := dk_54_ (show cX8_readRow.data.toList[18]? = some 0x36 from (LBX8_readRowr_1 2).trans (by decide +kernel)) (show cX8_readRow.data.toList[19]? = some 0x05 from (LBX8_readRowr_1 3).trans (by decide +kernel)) (by decide)
theorem dX8_readRow_20 : decode cX8_readRow 20 = .ok (.iload 5, 2) := dk_21_ (show cX8_readRow.data.toList[20]? = some 0x15 from (LBX8_readRowr_1 4).trans (by decide +kernel)) (show cX8_readRow.data.toList[21]? = some 0x05 from (LBX8_readRowr_1 5).trans (by decide +kernel)) (by decide)
theorem dX8_readRow_22 : decode cX8_readRow 22 = .ok (.aload_n 1, 1) := dk_43_ (show cX8_readRow.data.toList[22]? = some 0x2b from (LBX8_readRowr_1 6).trans (by decide +kernel))
theorem dX8_readRow_23 : decode cX8_readRow 23 = .ok (.getfield 293, 3) := dk_180_ (show cX8_readRow.data.toList[23]? = some 0xb4 from (LBX8_readRowr_1 7).trans (by decide +kernel)) (show cX8_readRow.data.toList[24]? = some 0x01 from (LBX8_readRowr_1 8).trans (by decide +kernel)) (show cX8_readRow.data.toList[25]? = some 0x25 from (LBX8_readRowr_1 9).trans (by decide +kernel)) (by decide)
theorem dX8_readRow_26 : decode cX8_readRow 26 = .ok (.if_icmp .ge 90, 3) := dk_162_ (show cX8_readRow.data.toList[26]? = some 0xa2 from (LBX8_readRowr_1 10).trans (by decide +kernel)) (show cX8_readRow.data.toList[27]? = some 0x00 from (LBX8_readRowr_1 11).trans (by decide +kernel)) (show cX8_readRow.data.toList[28]? = some 0x5a from (LBX8_readRowr_1 12).trans (by decide +kernel)) (by decide)
theorem dX8_readRow_29 : decode cX8_readRow 29 = .ok (.aload_n 1, 1) := dk_43_ (show cX8_readRow.data.toList[29]? = some 0x2b from (LBX8_readRowr_1 13).trans (by decide +kernel))
theorem dX8_readRow_30 : decode cX8_readRow 30 = .ok (.getfield 298, 3) := dk_180_ (show cX8_readRow.data.toList[30]? = some 0xb4 from (LBX8_readRowr_1 14).trans (by decide +kernel)) (show cX8_readRow.data.toList[31]? = some 0x01 from (LBX8_readRowr_1 15).trans (by decide +kernel)) (show cX8_readRow.data.toList[32]? = some 0x2a from (LBX8_readRowr_2 0).trans (by decide +kernel)) (by decide)
theorem dX8_readRow_33 : decode cX8_readRow 33 = .ok (.iload 5, 2) := dk_21_ (show cX8_readRow.data.toList[33]? = some 0x15 from (LBX8_readRowr_2 1).trans (by decide +kernel)) (show cX8_readRow.data.toList[34]? = some 0x05 from (LBX8_readRowr_2 2).trans (by decide +kernel)) (by decide)
theorem dX8_readRow_35 : decode cX8_readRow 35 = .ok (.laload, 1) := dk_47_ (show cX8_readRow.data.toList[35]? = some 0x2f from (LBX8_readRowr_2 3).trans (by decide +kernel))
theorem dX8_readRow_36 : decode cX8_readRow 36 = .ok (.lstore 6, 2) := dk_55_ (show cX8_readRow.data.toList[36]? = some 0x37 from (LBX8_readRowr_2 4).trans (by decide +kernel)) (show cX8_readRow.data.toList[37]? = some 0x06 from (LBX8_readRowr_2 5).trans (by decide +kernel)) (by decide)
theorem dX8_readRow_38 : decode cX8_readRow 38 = .ok (.aload_n 0, 1) := dk_42_ (show cX8_readRow.data.toList[38]? = some 0x2a from (LBX8_readRowr_2 6).trans (by decide +kernel))
theorem dX8_readRow_39 : decode cX8_readRow 39 = .ok (.getfield 12, 3) := dk_180_ (show cX8_readRow.data.toList[39]? = some 0xb4 from (LBX8_readRowr_2 7).trans (by decide +kernel)) (show cX8_readRow.data.toList[40]? = some 0x00 from (LBX8_readRowr_2 8).trans (by decide +kernel)) (show cX8_readRow.data.toList[41]? = some 0x0c from (LBX8_readRowr_2 9).trans (by decide +kernel)) (by decide)
theorem dX8_readRow_42 : decode cX8_readRow 42 = .ok (.lload 6, 2) := dk_22_ (show cX8_readRow.data.toList[42]? = some 0x16 from (LBX8_readRowr_2 10).trans (by decide +kernel)) (show cX8_readRow.data.toList[43]? = some 0x06 from (LBX8_readRowr_2 11).trans (by decide +kernel)) (by decide)
theorem dX8_readRow_44 : decode cX8_readRow 44 = .ok (.invokevirtual 87, 3) := dk_182_ (show cX8_readRow.data.toList[44]? = some 0xb6 from (LBX8_readRowr_2 12).trans (by decide +kernel)) (show cX8_readRow.data.toList[45]? = some 0x00 from (LBX8_readRowr_2 13).trans (by decide +kernel)) (show cX8_readRow.data.toList[46]? = some 0x57 from (LBX8_readRowr_2 14).trans (by decide +kernel)) (by decide)
theorem dX8_readRow_47 : decode cX8_readRow 47 = .ok (.ifCond .ne 8, 3) := dk_154_ (show cX8_readRow.data.toList[47]? = some 0x9a from (LBX8_readRowr_2 15).trans (by decide +kernel)) (show cX8_readRow.data.toList[48]? = some 0x00 from (LBX8_readRowr_3 0).trans (by decide +kernel)) (show cX8_readRow.data.toList[49]? = some 0x08 from (LBX8_readRowr_3 1).trans (by decide +kernel)) (by decide)
theorem dX8_readRow_50 : decode cX8_readRow 50 = .ok (.iconst 1, 1) := dk_4_ (show cX8_readRow.data.toList[50]? = some 0x04 from (LBX8_readRowr_3 2).trans (by decide +kernel))
theorem dX8_readRow_51 : decode cX8_readRow 51 = .ok (.iload 5, 2) := dk_21_ (show cX8_readRow.data.toList[51]? = some 0x15 from (LBX8_readRowr_3 3).trans (by decide +kernel)) (show cX8_readRow.data.toList[52]? = some 0x05 from (LBX8_readRowr_3 4).trans (by decide +kernel)) (by decide)
theorem dX8_readRow_53 : decode cX8_readRow 53 = .ok (.iadd, 1) := dk_96_ (show cX8_readRow.data.toList[53]? = some 0x60 from (LBX8_readRowr_3 5).trans (by decide +kernel))
theorem dX8_readRow_54 : decode cX8_readRow 54 = .ok (.ireturn, 1) := dk_172_ (show cX8_readRow.data.toList[54]? = some 0xac from (LBX8_readRowr_3 6).trans (by decide +kernel))
theorem dX8_readRow_55 : decode cX8_readRow 55 = .ok (.lload 6, 2) := dk_22_ (show cX8_readRow.data.toList[55]? = some 0x16 from (LBX8_readRowr_3 7).trans (by decide +kernel)) (show cX8_readRow.data.toList[56]? = some 0x06 from (LBX8_readRowr_3 8).trans (by decide +kernel)) (by decide)
theorem dX8_readRow_57 : decode cX8_readRow 57 = .ok (.l2i, 1) := dk_136_ (show cX8_readRow.data.toList[57]? = some 0x88 from (LBX8_readRowr_3 9).trans (by decide +kernel))
theorem dX8_readRow_58 : decode cX8_readRow 58 = .ok (.istore 8, 2) := dk_54_ (show cX8_readRow.data.toList[58]? = some 0x36 from (LBX8_readRowr_3 10).trans (by decide +kernel)) (show cX8_readRow.data.toList[59]? = some 0x08 from (LBX8_readRowr_3 11).trans (by decide +kernel)) (by decide)
theorem dX8_readRow_60 : decode cX8_readRow 60 = .ok (.iload 5, 2) := dk_21_ (show cX8_readRow.data.toList[60]? = some 0x15 from (LBX8_readRowr_3 12).trans (by decide +kernel)) (show cX8_readRow.data.toList[61]? = some 0x05 from (LBX8_readRowr_3 13).trans (by decide +kernel)) (by decide)
theorem dX8_readRow_62 : decode cX8_readRow 62 = .ok (.ifCond .ne 9, 3) := dk_154_ (show cX8_readRow.data.toList[62]? = some 0x9a from (LBX8_readRowr_3 14).trans (by decide +kernel)) (show cX8_readRow.data.toList[63]? = some 0x00 from (LBX8_readRowr_3 15).trans (by decide +kernel)) (show cX8_readRow.data.toList[64]? = some 0x09 from (LBX8_readRowr_4 0).trans (by decide +kernel)) (by decide)
theorem dX8_readRow_65 : decode cX8_readRow 65 = .ok (.iload 8, 2) := dk_21_ (show cX8_readRow.data.toList[65]? = some 0x15 from (LBX8_readRowr_4 1).trans (by decide +kernel)) (show cX8_readRow.data.toList[66]? = some 0x08 from (LBX8_readRowr_4 2).trans (by decide +kernel)) (by decide)
theorem dX8_readRow_67 : decode cX8_readRow 67 = .ok (.istore_n 2, 1) := dk_61_ (show cX8_readRow.data.toList[67]? = some 0x3d from (LBX8_readRowr_4 3).trans (by decide +kernel))
theorem dX8_readRow_68 : decode cX8_readRow 68 = .ok (.goto 39, 3) := dk_167_ (show cX8_readRow.data.toList[68]? = some 0xa7 from (LBX8_readRowr_4 4).trans (by decide +kernel)) (show cX8_readRow.data.toList[69]? = some 0x00 from (LBX8_readRowr_4 5).trans (by decide +kernel)) (show cX8_readRow.data.toList[70]? = some 0x27 from (LBX8_readRowr_4 6).trans (by decide +kernel)) (by decide)
theorem dX8_readRow_71 : decode cX8_readRow 71 = .ok (.aload_n 0, 1) := dk_42_ (show cX8_readRow.data.toList[71]? = some 0x2a from (LBX8_readRowr_4 7).trans (by decide +kernel))
theorem dX8_readRow_72 : decode cX8_readRow 72 = .ok (.getfield 12, 3) := dk_180_ (show cX8_readRow.data.toList[72]? = some 0xb4 from (LBX8_readRowr_4 8).trans (by decide +kernel)) (show cX8_readRow.data.toList[73]? = some 0x00 from (LBX8_readRowr_4 9).trans (by decide +kernel)) (show cX8_readRow.data.toList[74]? = some 0x0c from (LBX8_readRowr_4 10).trans (by decide +kernel)) (by decide)
theorem dX8_readRow_75 : decode cX8_readRow 75 = .ok (.iload_n 3, 1) := dk_29_ (show cX8_readRow.data.toList[75]? = some 0x1d from (LBX8_readRowr_4 11).trans (by decide +kernel))
theorem dX8_readRow_76 : decode cX8_readRow 76 = .ok (.iload 8, 2) := dk_21_ (show cX8_readRow.data.toList[76]? = some 0x15 from (LBX8_readRowr_4 12).trans (by decide +kernel)) (show cX8_readRow.data.toList[77]? = some 0x08 from (LBX8_readRowr_4 13).trans (by decide +kernel)) (by decide)
theorem dX8_readRow_78 : decode cX8_readRow 78 = .ok (.invokevirtual 121, 3) := dk_182_ (show cX8_readRow.data.toList[78]? = some 0xb6 from (LBX8_readRowr_4 14).trans (by decide +kernel)) (show cX8_readRow.data.toList[79]? = some 0x00 from (LBX8_readRowr_4 15).trans (by decide +kernel)) (show cX8_readRow.data.toList[80]? = some 0x79 from (LBX8_readRowr_5 0).trans (by decide +kernel)) (by decide)
theorem dX8_readRow_81 : decode cX8_readRow 81 = .ok (.ifCond .eq 21, 3) := dk_153_ (show cX8_readRow.data.toList[81]? = some 0x99 from (LBX8_readRowr_5 1).trans (by decide +kernel)) (show cX8_readRow.data.toList[82]? = some 0x00 from (LBX8_readRowr_5 2).trans (by decide +kernel)) (show cX8_readRow.data.toList[83]? = some 0x15 from (LBX8_readRowr_5 3).trans (by decide +kernel)) (by decide)
theorem dX8_readRow_84 : decode cX8_readRow 84 = .ok (.iload 4, 2) := dk_21_ (show cX8_readRow.data.toList[84]? = some 0x15 from (LBX8_readRowr_5 4).trans (by decide +kernel)) (show cX8_readRow.data.toList[85]? = some 0x04 from (LBX8_readRowr_5 5).trans (by decide +kernel)) (by decide)
theorem dX8_readRow_86 : decode cX8_readRow 86 = .ok (.aload_n 0, 1) := dk_42_ (show cX8_readRow.data.toList[86]? = some 0x2a from (LBX8_readRowr_5 6).trans (by decide +kernel))
theorem dX8_readRow_87 : decode cX8_readRow 87 = .ok (.getfield 12, 3) := dk_180_ (show cX8_readRow.data.toList[87]? = some 0xb4 from (LBX8_readRowr_5 7).trans (by decide +kernel)) (show cX8_readRow.data.toList[88]? = some 0x00 from (LBX8_readRowr_5 8).trans (by decide +kernel)) (show cX8_readRow.data.toList[89]? = some 0x0c from (LBX8_readRowr_5 9).trans (by decide +kernel)) (by decide)
theorem dX8_readRow_90 : decode cX8_readRow 90 = .ok (.iload_n 3, 1) := dk_29_ (show cX8_readRow.data.toList[90]? = some 0x1d from (LBX8_readRowr_5 10).trans (by decide +kernel))
theorem dX8_readRow_91 : decode cX8_readRow 91 = .ok (.iload 8, 2) := dk_21_ (show cX8_readRow.data.toList[91]? = some 0x15 from (LBX8_readRowr_5 11).trans (by decide +kernel)) (show cX8_readRow.data.toList[92]? = some 0x08 from (LBX8_readRowr_5 12).trans (by decide +kernel)) (by decide)
theorem dX8_readRow_93 : decode cX8_readRow 93 = .ok (.invokevirtual 114, 3) := dk_182_ (show cX8_readRow.data.toList[93]? = some 0xb6 from (LBX8_readRowr_5 13).trans (by decide +kernel)) (show cX8_readRow.data.toList[94]? = some 0x00 from (LBX8_readRowr_5 14).trans (by decide +kernel)) (show cX8_readRow.data.toList[95]? = some 0x72 from (LBX8_readRowr_5 15).trans (by decide +kernel)) (by decide)
theorem dX8_readRow_96 : decode cX8_readRow 96 = .ok (.iadd, 1) := dk_96_ (show cX8_readRow.data.toList[96]? = some 0x60 from (LBX8_readRowr_6 0).trans (by decide +kernel))
theorem dX8_readRow_97 : decode cX8_readRow 97 = .ok (.istore 4, 2) := dk_54_ (show cX8_readRow.data.toList[97]? = some 0x36 from (LBX8_readRowr_6 1).trans (by decide +kernel)) (show cX8_readRow.data.toList[98]? = some 0x04 from (LBX8_readRowr_6 2).trans (by decide +kernel)) (by decide)
theorem dX8_readRow_99 : decode cX8_readRow 99 = .ok (.goto 8, 3) := dk_167_ (show cX8_readRow.data.toList[99]? = some 0xa7 from (LBX8_readRowr_6 3).trans (by decide +kernel)) (show cX8_readRow.data.toList[100]? = some 0x00 from (LBX8_readRowr_6 4).trans (by decide +kernel)) (show cX8_readRow.data.toList[101]? = some 0x08 from (LBX8_readRowr_6 5).trans (by decide +kernel)) (by decide)
theorem dX8_readRow_102 : decode cX8_readRow 102 = .ok (.iconst 1, 1) := dk_4_ (show cX8_readRow.data.toList[102]? = some 0x04 from (LBX8_readRowr_6 6).trans (by decide +kernel))
theorem dX8_readRow_103 : decode cX8_readRow 103 = .ok (.iload 5, 2) := dk_21_ (show cX8_readRow.data.toList[103]? = some 0x15 from (LBX8_readRowr_6 7).trans (by decide +kernel)) (show cX8_readRow.data.toList[104]? = some 0x05 from (LBX8_readRowr_6 8).trans (by decide +kernel)) (by decide)
theorem dX8_readRow_105 : decode cX8_readRow 105 = .ok (.iadd, 1) := dk_96_ (show cX8_readRow.data.toList[105]? = some 0x60 from (LBX8_readRowr_6 9).trans (by decide +kernel))
theorem dX8_readRow_106 : decode cX8_readRow 106 = .ok (.ireturn, 1) := dk_172_ (show cX8_readRow.data.toList[106]? = some 0xac from (LBX8_readRowr_6 10).trans (by decide +kernel))
theorem dX8_readRow_107 : decode cX8_readRow 107 = .ok (.iload 8, 2) := dk_21_ (show cX8_readRow.data.toList[107]? = some 0x15 from (LBX8_readRowr_6 11).trans (by decide +kernel)) (show cX8_readRow.data.toList[108]? = some 0x08 from (LBX8_readRowr_6 12).trans (by decide +kernel)) (by decide)
theorem dX8_readRow_109 : decode cX8_readRow 109 = .ok (.istore_n 3, 1) := dk_62_ (show cX8_readRow.data.toList[109]? = some 0x3e from (LBX8_readRowr_6 13).trans (by decide +kernel))
theorem dX8_readRow_110 : decode cX8_readRow 110 = .ok (.iinc 5 1, 3) := dk_132_ (show cX8_readRow.data.toList[110]? = some 0x84 from (LBX8_readRowr_6 14).trans (by decide +kernel)) (show cX8_readRow.data.toList[111]? = some 0x05 from (LBX8_readRowr_6 15).trans (by decide +kernel)) (show cX8_readRow.data.toList[112]? = some 0x01 from (LBX8_readRowr_7 0).trans (by decide +kernel)) (by decide) (by decide)
theorem dX8_readRow_113 : decode cX8_readRow 113 = .ok (.goto (-93), 3) := dk_167_ (show cX8_readRow.data.toList[113]? = some 0xa7 from (LBX8_readRowr_7 1).trans (by decide +kernel)) (show cX8_readRow.data.toList[114]? = some 0xff from (LBX8_readRowr_7 2).trans (by decide +kernel)) (show cX8_readRow.data.toList[115]? = some 0xa3 from (LBX8_readRowr_7 3).trans (by decide +kernel)) (by decide)
theorem dX8_readRow_116 : decode cX8_readRow 116 = .ok (.iload 4, 2) := dk_21_ (show cX8_readRow.data.toList[116]? = some 0x15 from (LBX8_readRowr_7 4).trans (by decide +kernel)) (show cX8_readRow.data.toList[117]? = some 0x04 from (LBX8_readRowr_7 5).trans (by decide +kernel)) (by decide)
theorem dX8_readRow_118 : decode cX8_readRow 118 = .ok (.aload_n 0, 1) := dk_42_ (show cX8_readRow.data.toList[118]? = some 0x2a from (LBX8_readRowr_7 6).trans (by decide +kernel))
theorem dX8_readRow_119 : decode cX8_readRow 119 = .ok (.getfield 29, 3) := dk_180_ (show cX8_readRow.data.toList[119]? = some 0xb4 from (LBX8_readRowr_7 7).trans (by decide +kernel)) (show cX8_readRow.data.toList[120]? = some 0x00 from (LBX8_readRowr_7 8).trans (by decide +kernel)) (show cX8_readRow.data.toList[121]? = some 0x1d from (LBX8_readRowr_7 9).trans (by decide +kernel)) (by decide)
theorem dX8_readRow_122 : decode cX8_readRow 122 = .ok (.iload_n 2, 1) := dk_28_ (show cX8_readRow.data.toList[122]? = some 0x1c from (LBX8_readRowr_7 10).trans (by decide +kernel))
theorem dX8_readRow_123 : decode cX8_readRow 123 = .ok (.iload_n 3, 1) := dk_29_ (show cX8_readRow.data.toList[123]? = some 0x1d from (LBX8_readRowr_7 11).trans (by decide +kernel))
theorem dX8_readRow_124 : decode cX8_readRow 124 = .ok (.invokevirtual 133, 3) := dk_182_ (show cX8_readRow.data.toList[124]? = some 0xb6 from (LBX8_readRowr_7 12).trans (by decide +kernel)) (show cX8_readRow.data.toList[125]? = some 0x00 from (LBX8_readRowr_7 13).trans (by decide +kernel)) (show cX8_readRow.data.toList[126]? = some 0x85 from (LBX8_readRowr_7 14).trans (by decide +kernel)) (by decide)
theorem dX8_readRow_127 : decode cX8_readRow 127 = .ok (.if_icmp .ne 7, 3) := dk_160_ (show cX8_readRow.data.toList[127]? = some 0xa0 from (LBX8_readRowr_7 15).trans (by decide +kernel)) (show cX8_readRow.data.toList[128]? = some 0x00 from (LBX8_readRowr_8 0).trans (by decide +kernel)) (show cX8_readRow.data.toList[129]? = some 0x07 from (LBX8_readRowr_8 1).trans (by decide +kernel)) (by decide)
theorem dX8_readRow_130 : decode cX8_readRow 130 = .ok (.iconst 0, 1) := dk_3_ (show cX8_readRow.data.toList[130]? = some 0x03 from (LBX8_readRowr_8 2).trans (by decide +kernel))
theorem dX8_readRow_131 : decode cX8_readRow 131 = .ok (.goto 9, 3) := dk_167_ (show cX8_readRow.data.toList[131]? = some 0xa7 from (LBX8_readRowr_8 3).trans (by decide +kernel)) (show cX8_readRow.data.toList[132]? = some 0x00 from (LBX8_readRowr_8 4).trans (by decide +kernel)) (show cX8_readRow.data.toList[133]? = some 0x09 from (LBX8_readRowr_8 5).trans (by decide +kernel)) (by decide)
theorem dX8_readRow_134 : decode cX8_readRow 134 = .ok (.iconst 1, 1) := dk_4_ (show cX8_readRow.data.toList[134]? = some 0x04 from (LBX8_readRowr_8 6).trans (by decide +kernel))
theorem dX8_readRow_135 : decode cX8_readRow 135 = .ok (.aload_n 1, 1) := dk_43_ (show cX8_readRow.data.toList[135]? = some 0x2b from (LBX8_readRowr_8 7).trans (by decide +kernel))
theorem dX8_readRow_136 : decode cX8_readRow 136 = .ok (.getfield 293, 3) := dk_180_ (show cX8_readRow.data.toList[136]? = some 0xb4 from (LBX8_readRowr_8 8).trans (by decide +kernel)) (show cX8_readRow.data.toList[137]? = some 0x01 from (LBX8_readRowr_8 9).trans (by decide +kernel)) (show cX8_readRow.data.toList[138]? = some 0x25 from (LBX8_readRowr_8 10).trans (by decide +kernel)) (by decide)
theorem dX8_readRow_139 : decode cX8_readRow 139 = .ok (.iadd, 1) := dk_96_ (show cX8_readRow.data.toList[139]? = some 0x60 from (LBX8_readRowr_8 11).trans (by decide +kernel))
theorem dX8_readRow_140 : decode cX8_readRow 140 = .ok (.ireturn, 1) := dk_172_ (show cX8_readRow.data.toList[140]? = some 0xac from (LBX8_readRowr_8 12).trans (by decide +kernel))
theorem uw582 : Cond.fieldLink RX8 293 "LongerBack$Sheet" "size" "I" ∈ wsU := ut1 (List.mem_of_getElem? (i := 198) rfl) rfl
theorem uw583 : Cond.fieldLink RX8 298 "LongerBack$Sheet" "numbers" "[J" ∈ wsU := ut1 (List.mem_of_getElem? (i := 200) rfl) rfl
theorem uw584 : Cond.constantLong RX8 335 (-99) ∈ wsU := ut4 (List.mem_of_getElem? (i := 168) rfl) rfl
theorem uw585 : Cond.constantLong RX8 337 999 ∈ wsU := ut4 (List.mem_of_getElem? (i := 169) rfl) rfl
theorem kf_X8_293 : xWF RX8 293 4 1 RX4 TX4 3 := ⟨inUX4, rfl, by decide, uw582⟩
theorem kf_X8_298 : xWF RX8 298 4 2 RX4 TX4 3 := ⟨inUX4, rfl, by decide, uw583⟩
set_option maxHeartbeats 4000000 in
set_option maxRecDepth 100000 in
theorem c_X8_layWays (l : Launch) (D : va_G) (cI cJ cZ cS : ClassId) (ta : Nat) (sa sv : Nat → Nat) (sz : Nat) (h0 : Nat) (qh : Nat) (qk : Nat) (qd : Nat) (b0 : Int32) (qa : Nat) (qm : Nat) (qs : Nat) (qp : Nat) (ql : Nat) (qt : Nat) (qz : Nat) (qf : Nat) (Pa : Nat) (ae : Nat) (al : Nat) (au : Nat) (ao : Nat) (ar : Nat) (ak : Nat) (aw : Nat) (att : Nat) (ass : Nat) (fal : Nat → Int32) (fau : Nat → Int32) (fao : Nat → Int32) (q1 : Nat) (bt : Int32) (zq : Nat) (sn : Nat) (nu : Nat → Int64) (k : Nat) (hP0 : Pa ≤ 10) (hk : k < Pa) (hsz : zq ≤ 40) : Met l yX8_layWays (Cond.code yX8_layWays cX8_layWays 7 (some .int) :: wsU) ({ frames := 2, cells := 0, slots := 0, locals := 46 }) (va_Pc [.ref h0, .ref q1, .int (nI (k))] (XW D (xT cI cJ cZ cS) ta sa sv [(h0, .inr (8, [.ref qh, .ref qk, .ref qd, .int b0, .ref qa, .ref qm, .ref qs, .ref qp, .ref ql, .ref qt, .ref qz, .ref qf])), (qh, .inr (1, [.int (nI (Pa)), .ref ae, .ref al, .ref au, .ref ao, .ref ar, .ref ak, .ref aw, .ref att, .ref ass])), (al, .inl (cI, 100, .inl fal)), (au, .inl (cI, 100, .inl fau)), (ao, .inl (cI, 100, .inl fao)), (q1, .inr (4, [.int bt, .int (nI (zq)), .ref sn])), (sn, .inl (cJ, 40, .inr (.inl nu)))] sz)) (XQi (fun (r : Int32) (u : (Nat → Int32) × (Nat → Int32) × (Nat → Int32)) => match u with | (l2, u2, d2) => ((r = nI (lyC nu Pa k zq))) ∧ (l2 = lyF nu Pa k fal zq) ∧ (u2 = lyF nu Pa k fau zq) ∧ (d2 = lyO nu Pa k fao zq)) D (fun (u : (Nat → Int32) × (Nat → Int32) × (Nat → Int32)) => match u with | (l2, u2, d2) => [(h0, .inr (8, [.ref qh, .ref qk, .ref qd, .int b0, .ref qa, .ref qm, .ref qs, .ref qp, .ref ql, .ref qt, .ref qz, .ref qf])), (qh, .inr (1, [.int (nI (Pa)), .ref ae, .ref al, .ref au, .ref ao, .ref ar, .ref ak, .ref aw, .ref att, .ref ass])), (al, .inl (cI, 100, .inl l2)), (au, .inl (cI, 100, .inl u2)), (ao, .inl (cI, 100, .inl d2)), (q1, .inr (4, [.int bt, .int (nI (zq)), .ref sn])), (sn, .inl (cJ, 40, .inr (.inl nu)))]) (va_A [(h0, .inr (8, [.ref qh, .ref qk, .ref qd, .int b0, .ref qa, .ref qm, .ref qs, .ref qp, .ref ql, .ref qt, .ref qz, .ref qf])), (qh, .inr (1, [.int (nI (Pa)), .ref ae, .ref al, .ref au, .ref ao, .ref ar, .ref ak, .ref aw, .ref att, .ref ass])), (al, .inl (cI, 100, .inl fal)), (au, .inl (cI, 100, .inl fau)), (ao, .inl (cI, 100, .inl fao)), (q1, .inr (4, [.int bt, .int (nI (zq)), .ref sn])), (sn, .inl (cJ, 40, .inr (.inl nu)))] sz)) 0 0 (va_A [(h0, .inr (8, [.ref qh, .ref qk, .ref qd, .int b0, .ref qa, .ref qm, .ref qs, .ref qp, .ref ql, .ref qt, .ref qz, .ref qf])), (qh, .inr (1, [.int (nI (Pa)), .ref ae, .ref al, .ref au, .ref ao, .ref ar, .ref ak, .ref aw, .ref att, .ref ass])), (al, .inl (cI, 100, .inl fal)), (au, .inl (cI, 100, .inl fau)), (ao, .inl (cI, 100, .inl fao)), (q1, .inr (4, [.int bt, .int (nI (zq)), .ref sn])), (sn, .inl (cJ, 40, .inr (.inl nu)))] sz) := by
  refine xh (QA := fun A => XQi (fun (r : Int32) (u : (Nat → Int32) × (Nat → Int32) × (Nat → Int32)) => match u with | (l2, u2, d2) => ((r = nI (lyC nu Pa k zq))) ∧ (l2 = lyF nu Pa k fal zq) ∧ (u2 = lyF nu Pa k fau zq) ∧ (d2 = lyO nu Pa k fao zq)) D (fun (u : (Nat → Int32) × (Nat → Int32) × (Nat → Int32)) => match u with | (l2, u2, d2) => [(h0, .inr (8, [.ref qh, .ref qk, .ref qd, .int b0, .ref qa, .ref qm, .ref qs, .ref qp, .ref ql, .ref qt, .ref qz, .ref qf])), (qh, .inr (1, [.int (nI (Pa)), .ref ae, .ref al, .ref au, .ref ao, .ref ar, .ref ak, .ref aw, .ref att, .ref ass])), (al, .inl (cI, 100, .inl l2)), (au, .inl (cI, 100, .inl u2)), (ao, .inl (cI, 100, .inl d2)), (q1, .inr (4, [.int bt, .int (nI (zq)), .ref sn])), (sn, .inl (cJ, 40, .inr (.inl nu)))]) A) (fr := fun A => A) (by decide) (Nat.le_of_ble_eq_true rfl) ?_
  intro p e s m below meth c ls A hF hr hlk hin hsz hP hK hD hN hZ hA hS hl
  have hF : CallFix p m c cX8_layWays 7 s _ _ RX8 := hF
  have hx := hF.1
  have hb := hF.2.1
  have hml := hF.2.2.1
  have hown := hF.2.2.2.1
  have hu : ∀ w ∈ wsU, w.before _ s = true := fun w h => hF.2.2.2.2 w (List.mem_cons_of_mem _ h)
  have hl : lv_has ls 7 [(0, .ref h0), (1, .ref q1), (2, .int (nI (k)))] := hl
  refine lv_iconst (v := 0) hx hb dX8_layWays_0 (by decide) ?_
  refine lv_istore_n (lv' := [(3, .int 0), (0, .ref h0), (1, .ref q1), (2, .int (nI (k)))]) hx hb dX8_layWays_1 rfl hl (by decide) rfl (fun ls hl => ?_)
  refine lv_iconst (v := 0) hx hb dX8_layWays_2 (by decide) ?_
  refine lv_istore (lv' := [(4, .int 0), (3, .int 0), (0, .ref h0), (1, .ref q1), (2, .int (nI (k)))]) hx hb dX8_layWays_3 hl (by decide) rfl (fun ls hl => ?_)
  suffices loop_5 : ∀ (n_5 : Nat) (i : Nat) (c8 : Nat) (l8 : Nat → Int32) (u8 : Nat → Int32) (d8 : Nat → Int32) (H : Heap) (locs : List Loc) (ls : Array Slot), 40 - i < n_5 → (i ≤ zq) → (c8 = lyC nu Pa k i) → (l8 = lyF nu Pa k fal i) → (u8 = lyF nu Pa k fau i) → (d8 = lyO nu Pa k fao i) → va_P D vwCl [(h0, .inr (8, [.ref qh, .ref qk, .ref qd, .int b0, .ref qa, .ref qm, .ref qs, .ref qp, .ref ql, .ref qt, .ref qz, .ref qf])), (qh, .inr (1, [.int (nI (Pa)), .ref ae, .ref al, .ref au, .ref ao, .ref ar, .ref ak, .ref aw, .ref att, .ref ass])), (al, .inl (cI, 100, .inl l8)), (au, .inl (cI, 100, .inl u8)), (ao, .inl (cI, 100, .inl d8)), (q1, .inr (4, [.int bt, .int (nI (zq)), .ref sn])), (sn, .inl (cJ, 40, .inr (.inl nu)))] H → va_D A [(h0, .inr (8, [.ref qh, .ref qk, .ref qd, .int b0, .ref qa, .ref qm, .ref qs, .ref qp, .ref ql, .ref qt, .ref qz, .ref qf])), (qh, .inr (1, [.int (nI (Pa)), .ref ae, .ref al, .ref au, .ref ao, .ref ar, .ref ak, .ref aw, .ref att, .ref ass])), (al, .inl (cI, 100, .inl l8)), (au, .inl (cI, 100, .inl u8)), (ao, .inl (cI, 100, .inl d8)), (q1, .inr (4, [.int bt, .int (nI (zq)), .ref sn])), (sn, .inl (cJ, 40, .inr (.inl nu)))] → va_S A s.heap H locs → lv_has ls 7 [(4, .int (nI (i))), (3, .int (nI (c8))), (0, .ref h0), (1, .ref q1), (2, .int (nI (k)))] → W p l e ({ frames := 2, cells := 0, slots := 0, locals := 46 }) s m ([.ref h0, .ref q1, .int (nI (k))] : List Value).toArray below meth c H locs 0 0 (MQ below (XQi (fun (r : Int32) (u : (Nat → Int32) × (Nat → Int32) × (Nat → Int32)) => match u with | (l2, u2, d2) => ((r = nI (lyC nu Pa k zq))) ∧ (l2 = lyF nu Pa k fal zq) ∧ (u2 = lyF nu Pa k fau zq) ∧ (d2 = lyO nu Pa k fao zq)) D (fun (u : (Nat → Int32) × (Nat → Int32) × (Nat → Int32)) => match u with | (l2, u2, d2) => [(h0, .inr (8, [.ref qh, .ref qk, .ref qd, .int b0, .ref qa, .ref qm, .ref qs, .ref qp, .ref ql, .ref qt, .ref qz, .ref qf])), (qh, .inr (1, [.int (nI (Pa)), .ref ae, .ref al, .ref au, .ref ao, .ref ar, .ref ak, .ref aw, .ref att, .ref ass])), (al, .inl (cI, 100, .inl l2)), (au, .inl (cI, 100, .inl u2)), (ao, .inl (cI, 100, .inl d2)), (q1, .inr (4, [.int bt, .int (nI (zq)), .ref sn])), (sn, .inl (cJ, 40, .inr (.inl nu)))]) A) ([.ref h0, .ref q1, .int (nI (k))] : List Value).toArray s 0 0 A) (F0 m 5 ls []) by
    exact loop_5 _ 0 0 fal fau fao _ _ _ (Nat.lt_succ_self _) (by omega) rfl rfl rfl rfl hP hD hS (lv_sub hl [0, 1, 2, 3, 4] rfl)
  intro n_5
  induction n_5 with
  | zero =>
    intro i c8 l8 u8 d8 H locs ls hm_5
    exact absurd hm_5 (Nat.not_lt_zero _)
  | succ n_5 ih_5 =>
    intro i c8 l8 u8 d8 H locs ls hm_5 hi hc8 hl8 hu8 hd8 hP hD hS hl
    refine lv_iload hx hb dX8_layWays_5 (lv_at hl 0 rfl) ?_
    refine lv_aload_n hx hb dX8_layWays_7 rfl (lv_at hl 3 rfl) ?_
    refine xg hF kf_X8_293 hK hP 5 rfl rfl dX8_layWays_8 ?_
    refine lv_icmp_ge (tgt := 84) hx hb dX8_layWays_11 (by decide) (fun c_1 => ?_) (fun c_1 => ?_)
    · skip
      have nc_1 : zq ≤ i := xn_le (a := zq) (b := i) (by omega) (by omega) c_1
      refine lv_iload_n hx hb dX8_layWays_84 rfl (lv_at hl 1 rfl) ?_
      exact W.iret (v := nI (c8)) hx hb hr (fun t ht hW => ⟨⟨nI (c8), (l8, u8, d8), rfl, ⟨(congrArg nI (hc8.trans (congrArg (lyC nu Pa k) (show i = zq by omega)))), (hl8.trans (congrArg (lyF nu Pa k fal) (show i = zq by omega))), (hu8.trans (congrArg (lyF nu Pa k fau) (show i = zq by omega))), (hd8.trans (congrArg (lyO nu Pa k fao) (show i = zq by omega)))⟩, by rw [ht]; exact hP.sub [0, 1, 2, 3, 4, 5, 6] rfl, hD.sub [0, 1, 2, 3, 4, 5, 6] (by decide +kernel) rfl⟩, hS.F ht⟩) hS.2.2 dX8_layWays_85 hlk
    · skip
      have nc_1 : i < zq := xn_nle (a := zq) (b := i) (by omega) (by omega) c_1
      refine lv_iload hx hb dX8_layWays_14 (lv_at hl 0 rfl) ?_
      refine lv_aload_n hx hb dX8_layWays_16 rfl (lv_at hl 2 rfl) ?_
      refine xg hF kf_X8_12 hK hP 0 rfl rfl dX8_layWays_17 ?_
      refine xg hF kf_X8_75 hK hP 1 rfl rfl dX8_layWays_20 ?_
      refine lv_icmp_ge (tgt := 84) hx hb dX8_layWays_23 (by decide) (fun c_2 => ?_) (fun c_2 => ?_)
      · skip
        have nc_2 : Pa ≤ i := xn_le (a := Pa) (b := i) (by omega) (by omega) c_2
        refine lv_iload_n hx hb dX8_layWays_84 rfl (lv_at hl 1 rfl) ?_
        exact W.iret (v := nI (c8)) hx hb hr (fun t ht hW => ⟨⟨nI (c8), (l8, u8, d8), rfl, ⟨(congrArg nI (hc8.trans (ly_end (nu := nu) (P := Pa) (x := k) (i := i) (z := zq) (by omega) (by omega)).2.2.symm)), (hl8.trans ((ly_end (nu := nu) (P := Pa) (x := k) (i := i) (z := zq) (by omega) (by omega)).1 _).symm), (hu8.trans ((ly_end (nu := nu) (P := Pa) (x := k) (i := i) (z := zq) (by omega) (by omega)).1 _).symm), (hd8.trans ((ly_end (nu := nu) (P := Pa) (x := k) (i := i) (z := zq) (by omega) (by omega)).2.1 _).symm)⟩, by rw [ht]; exact hP.sub [0, 1, 2, 3, 4, 5, 6] rfl, hD.sub [0, 1, 2, 3, 4, 5, 6] (by decide +kernel) rfl⟩, hS.F ht⟩) hS.2.2 dX8_layWays_85 hlk
      · skip
        have nc_2 : i < Pa := xn_nle (a := Pa) (b := i) (by omega) (by omega) c_2
        refine lv_aload_n hx hb dX8_layWays_26 rfl (lv_at hl 3 rfl) ?_
        refine xg hF kf_X8_298 hK hP 5 rfl rfl dX8_layWays_27 ?_
        refine lv_iload hx hb dX8_layWays_30 (lv_at hl 0 rfl) ?_
        refine va_lald hx hb hK hP 6 1 rfl rfl (vp_in_nI (show i < 40 by omega) (by decide)) dX8_layWays_32 ?_
        refine xl_l (y := nu i) (congrArg nu (nI_clamp (show i < 2 ^ 31 by omega))) ?_
        refine lv_lstore (lv' := [(5, .long (nu i)), (4, .int (nI (i))), (3, .int (nI (c8))), (0, .ref h0), (1, .ref q1), (2, .int (nI (k)))]) hx hb dX8_layWays_33 hl (by decide) rfl (fun ls hl => ?_)
        refine lv_iload hx hb dX8_layWays_35 (lv_at hl 1 rfl) ?_
        refine lv_iload_n hx hb dX8_layWays_37 rfl (lv_at hl 5 rfl) ?_
        refine lv_icmp_eq (tgt := 78) hx hb dX8_layWays_38 (by decide) (fun c_3 => ?_) (fun c_3 => ?_)
        · skip
          have nc_3 : i = k := xn_eq (a := i) (b := k) (by omega) (by omega) c_3
          refine lv_iinc (v := nI (i + 1)) (lv' := [(4, .int (nI (i + 1))), (5, .long (nu i)), (3, .int (nI (c8))), (0, .ref h0), (1, .ref q1), (2, .int (nI (k)))]) hx hb dX8_layWays_78 hl (k := 1) rfl (nI_1 (i)) (by decide) rfl (fun ls hl => ?_)
          refine lv_goto (tgt := 5) hx hb dX8_layWays_81 (by decide) ?_
          exact ih_5 (i + 1) c8 l8 u8 d8 _ _ _ (by omega) (by omega) (hc8.trans (ly_n (show ¬ lyOk nu Pa k i from (fun q => q.2.1 (by omega)))).2.2.symm) (hl8.trans ((ly_n (show ¬ lyOk nu Pa k i from (fun q => q.2.1 (by omega)))).1 _).symm) (hu8.trans ((ly_n (show ¬ lyOk nu Pa k i from (fun q => q.2.1 (by omega)))).1 _).symm) (hd8.trans ((ly_n (show ¬ lyOk nu Pa k i from (fun q => q.2.1 (by omega)))).2.1 _).symm) (hP.sub [0, 1, 2, 3, 4, 5, 6] rfl) (hD.sub [0, 1, 2, 3, 4, 5, 6] (by decide +kernel) rfl) hS (lv_sub hl [0, 2, 3, 4, 5] rfl)
        · skip
          have nc_3 : i ≠ k := xn_ne (a := i) (b := k) (by omega) (by omega) c_3
          refine lv_lload hx hb dX8_layWays_41 (lv_at hl 0 rfl) ?_
          refine lv_ldc2 (v := (-99)) hx hb hown (hu _ uw584) dX8_layWays_43 ?_
          refine W.lcmp hx hb dX8_layWays_46 ?_
          refine lv_if_lt (tgt := 78) hx hb dX8_layWays_47 (by decide) (fun c_4 => ?_) (fun c_4 => ?_)
          · skip
            refine lv_iinc (v := nI (i + 1)) (lv' := [(4, .int (nI (i + 1))), (5, .long (nu i)), (3, .int (nI (c8))), (0, .ref h0), (1, .ref q1), (2, .int (nI (k)))]) hx hb dX8_layWays_78 hl (k := 1) rfl (nI_1 (i)) (by decide) rfl (fun ls hl => ?_)
            refine lv_goto (tgt := 5) hx hb dX8_layWays_81 (by decide) ?_
            exact ih_5 (i + 1) c8 l8 u8 d8 _ _ _ (by omega) (by omega) (hc8.trans (ly_n (show ¬ lyOk nu Pa k i from (fun q => q.2.2.1 ((xq_lt _ _).mp c_4)))).2.2.symm) (hl8.trans ((ly_n (show ¬ lyOk nu Pa k i from (fun q => q.2.2.1 ((xq_lt _ _).mp c_4)))).1 _).symm) (hu8.trans ((ly_n (show ¬ lyOk nu Pa k i from (fun q => q.2.2.1 ((xq_lt _ _).mp c_4)))).1 _).symm) (hd8.trans ((ly_n (show ¬ lyOk nu Pa k i from (fun q => q.2.2.1 ((xq_lt _ _).mp c_4)))).2.1 _).symm) (hP.sub [0, 1, 2, 3, 4, 5, 6] rfl) (hD.sub [0, 1, 2, 3, 4, 5, 6] (by decide +kernel) rfl) hS (lv_sub hl [0, 2, 3, 4, 5] rfl)
          · skip
            refine lv_lload hx hb dX8_layWays_50 (lv_at hl 0 rfl) ?_
            refine lv_ldc2 (v := 999) hx hb hown (hu _ uw585) dX8_layWays_52 ?_
            refine W.lcmp hx hb dX8_layWays_55 ?_
            refine lv_if_gt (tgt := 78) hx hb dX8_layWays_56 (by decide) (fun c_5 => ?_) (fun c_5 => ?_)
            · skip
              refine lv_iinc (v := nI (i + 1)) (lv' := [(4, .int (nI (i + 1))), (5, .long (nu i)), (3, .int (nI (c8))), (0, .ref h0), (1, .ref q1), (2, .int (nI (k)))]) hx hb dX8_layWays_78 hl (k := 1) rfl (nI_1 (i)) (by decide) rfl (fun ls hl => ?_)
              refine lv_goto (tgt := 5) hx hb dX8_layWays_81 (by decide) ?_
              exact ih_5 (i + 1) c8 l8 u8 d8 _ _ _ (by omega) (by omega) (hc8.trans (ly_n (show ¬ lyOk nu Pa k i from (fun q => q.2.2.2 ((xq_gt _ _).mp c_5)))).2.2.symm) (hl8.trans ((ly_n (show ¬ lyOk nu Pa k i from (fun q => q.2.2.2 ((xq_gt _ _).mp c_5)))).1 _).symm) (hu8.trans ((ly_n (show ¬ lyOk nu Pa k i from (fun q => q.2.2.2 ((xq_gt _ _).mp c_5)))).1 _).symm) (hd8.trans ((ly_n (show ¬ lyOk nu Pa k i from (fun q => q.2.2.2 ((xq_gt _ _).mp c_5)))).2.1 _).symm) (hP.sub [0, 1, 2, 3, 4, 5, 6] rfl) (hD.sub [0, 1, 2, 3, 4, 5, 6] (by decide +kernel) rfl) hS (lv_sub hl [0, 2, 3, 4, 5] rfl)
            · skip
              refine lv_aload_n hx hb dX8_layWays_59 rfl (lv_at hl 3 rfl) ?_
              refine xg hF kf_X8_12 hK hP 0 rfl rfl dX8_layWays_60 ?_
              refine lv_iload_n hx hb dX8_layWays_63 rfl (lv_at hl 5 rfl) ?_
              refine lv_iload hx hb dX8_layWays_64 (lv_at hl 1 rfl) ?_
              refine lv_lload hx hb dX8_layWays_66 (lv_at hl 0 rfl) ?_
              refine lv_l2i (v := (nu i).toInt32) hx hb dX8_layWays_68 rfl ?_
              refine lv_lload hx hb dX8_layWays_69 (lv_at hl 0 rfl) ?_
              refine lv_l2i (v := (nu i).toInt32) hx hb dX8_layWays_71 rfl ?_
              refine xc_Vv (wr := [(h0, .inr (8, [.ref qh, .ref qk, .ref qd, .int b0, .ref qa, .ref qm, .ref qs, .ref qp, .ref ql, .ref qt, .ref qz, .ref qf])), (q1, .inr (4, [.int bt, .int (nI (zq)), .ref sn])), (sn, .inl (cJ, 40, .inr (.inl nu)))]) hF (c_X1_setWay l D cI cJ cZ cS ta sa sv H.size qh ae al au ao ar ak aw att ass Pa k i ((nu i).toInt32) ((nu i).toInt32) l8 u8 d8 (by omega) (by omega)) kv_X8_109 ⟨rfl, rfl, Nat.le_of_ble_eq_true rfl, Nat.le_of_ble_eq_true rfl⟩ ⟨Nat.le_of_ble_eq_true rfl, Nat.le_of_ble_eq_true rfl⟩ hK hN hZ hP hD hS hA [1, 2, 3, 4] [0, 5, 6] rfl rfl (by decide +kernel) rfl (by decide +kernel) 0 rfl rfl rfl rfl hl.1 rfl (Nat.le_of_ble_eq_true rfl) dX8_layWays_72 (fun u_r_6 H locs hw_r_6 hP hD hS => ?_)
              obtain ⟨l2_7, u2_8, d2_9⟩ := u_r_6
              try dsimp only at hw_r_6
              obtain ⟨i_10, i_11, i_12⟩ := hw_r_6
              have hP : va_P D vwCl [(h0, .inr (8, [.ref qh, .ref qk, .ref qd, .int b0, .ref qa, .ref qm, .ref qs, .ref qp, .ref ql, .ref qt, .ref qz, .ref qf])), (q1, .inr (4, [.int bt, .int (nI (zq)), .ref sn])), (sn, .inl (cJ, 40, .inr (.inl nu))), (qh, .inr (1, [.int (nI (Pa)), .ref ae, .ref al, .ref au, .ref ao, .ref ar, .ref ak, .ref aw, .ref att, .ref ass])), (al, .inl (cI, 100, .inl l2_7)), (au, .inl (cI, 100, .inl u2_8)), (ao, .inl (cI, 100, .inl d2_9))] H := hP
              have hD : va_D A [(h0, .inr (8, [.ref qh, .ref qk, .ref qd, .int b0, .ref qa, .ref qm, .ref qs, .ref qp, .ref ql, .ref qt, .ref qz, .ref qf])), (q1, .inr (4, [.int bt, .int (nI (zq)), .ref sn])), (sn, .inl (cJ, 40, .inr (.inl nu))), (qh, .inr (1, [.int (nI (Pa)), .ref ae, .ref al, .ref au, .ref ao, .ref ar, .ref ak, .ref aw, .ref att, .ref ass])), (al, .inl (cI, 100, .inl l2_7)), (au, .inl (cI, 100, .inl u2_8)), (ao, .inl (cI, 100, .inl d2_9))] := hD
              refine lv_iinc (v := nI (c8 + 1)) (lv' := [(3, .int (nI (c8 + 1))), (5, .long (nu i)), (4, .int (nI (i))), (0, .ref h0), (1, .ref q1), (2, .int (nI (k)))]) hx hb dX8_layWays_75 hl (k := 2) rfl (nI_1 (c8)) (by decide) rfl (fun ls hl => ?_)
              refine lv_iinc (v := nI (i + 1)) (lv' := [(4, .int (nI (i + 1))), (3, .int (nI (c8 + 1))), (5, .long (nu i)), (0, .ref h0), (1, .ref q1), (2, .int (nI (k)))]) hx hb dX8_layWays_78 hl (k := 2) rfl (nI_1 (i)) (by decide) rfl (fun ls hl => ?_)
              refine lv_goto (tgt := 5) hx hb dX8_layWays_81 (by decide) ?_
              exact ih_5 (i + 1) (c8 + 1) l2_7 u2_8 d2_9 _ _ _ (by omega) (by omega) ((congrArg (· + 1) hc8).trans (ly_y (show lyOk nu Pa k i from ⟨by omega, by omega, fun h => c_4 ((xq_lt _ _).mpr h), fun h => c_5 ((xq_gt _ _).mpr h)⟩)).2.2.symm) (by rw [i_10, hl8]; exact ((ly_y (show lyOk nu Pa k i from ⟨by omega, by omega, fun h => c_4 ((xq_lt _ _).mpr h), fun h => c_5 ((xq_gt _ _).mpr h)⟩)).1 _).symm) (by rw [i_11, hu8]; exact ((ly_y (show lyOk nu Pa k i from ⟨by omega, by omega, fun h => c_4 ((xq_lt _ _).mpr h), fun h => c_5 ((xq_gt _ _).mpr h)⟩)).1 _).symm) (by rw [i_12, hd8]; exact ((ly_y (show lyOk nu Pa k i from ⟨by omega, by omega, fun h => c_4 ((xq_lt _ _).mpr h), fun h => c_5 ((xq_gt _ _).mpr h)⟩)).2.1 _).symm) (hP.sub [0, 3, 4, 5, 6, 1, 2] rfl) (hD.sub [0, 3, 4, 5, 6, 1, 2] (by decide +kernel) rfl) hS (lv_sub hl [0, 1, 3, 4, 5] rfl)
set_option maxHeartbeats 4000000 in
set_option maxRecDepth 100000 in
theorem c_X8_readRow (l : Launch) (D : va_G) (cI cJ cZ cS : ClassId) (ta : Nat) (sa sv : Nat → Nat) (sz : Nat) (h0 : Nat) (qh : Nat) (qk : Nat) (qd : Nat) (b0 : Int32) (qa : Nat) (qm : Nat) (qs : Nat) (qp : Nat) (ql : Nat) (qt : Nat) (qz : Nat) (qf : Nat) (Pa : Nat) (ae : Nat) (al : Nat) (au : Nat) (ao : Nat) (ar : Nat) (ak : Nat) (aw : Nat) (att : Nat) (ass : Nat) (fal : Nat → Int32) (fao : Nat → Int32) (Qa : Nat) (an : Nat) (La : Nat → Int32) (q1 : Nat) (bt : Int32) (zq : Nat) (sn : Nat) (nu : Nat → Int64) (hP0 : Pa ≤ 10) (hQa : Qa ≤ 10) (hsz9 : zq ≤ 40) (hML : ∀ j9, j9 < 100 → -99 ≤ (fal j9).toInt ∧ (fal j9).toInt ≤ 999) (hT9 : cT fal fao La Pa) (hQP : Qa = Pa) : Met l yX8_readRow (Cond.code yX8_readRow cX8_readRow 9 (some .int) :: wsU) ({ frames := 2, cells := 0, slots := 0, locals := 45 }) (va_Pc [.ref h0, .ref q1] (XW D (xT cI cJ cZ cS) ta sa sv [(h0, .inr (8, [.ref qh, .ref qk, .ref qd, .int b0, .ref qa, .ref qm, .ref qs, .ref qp, .ref ql, .ref qt, .ref qz, .ref qf])), (qh, .inr (1, [.int (nI (Pa)), .ref ae, .ref al, .ref au, .ref ao, .ref ar, .ref ak, .ref aw, .ref att, .ref ass])), (al, .inl (cI, 100, .inl fal)), (ao, .inl (cI, 100, .inl fao)), (qa, .inr (0, [.int (nI (Qa)), .ref an])), (an, .inl (cI, 100, .inl La)), (q1, .inr (4, [.int bt, .int (nI (zq)), .ref sn])), (sn, .inl (cJ, 40, .inr (.inl nu)))] sz)) (XQi (fun (r : Int32) (_ : Unit) => ((r = rdA fal fao nu Pa zq))) D (fun _ : Unit => [(h0, .inr (8, [.ref qh, .ref qk, .ref qd, .int b0, .ref qa, .ref qm, .ref qs, .ref qp, .ref ql, .ref qt, .ref qz, .ref qf])), (qh, .inr (1, [.int (nI (Pa)), .ref ae, .ref al, .ref au, .ref ao, .ref ar, .ref ak, .ref aw, .ref att, .ref ass])), (al, .inl (cI, 100, .inl fal)), (ao, .inl (cI, 100, .inl fao)), (qa, .inr (0, [.int (nI (Qa)), .ref an])), (an, .inl (cI, 100, .inl La)), (q1, .inr (4, [.int bt, .int (nI (zq)), .ref sn])), (sn, .inl (cJ, 40, .inr (.inl nu)))]) (va_A [(h0, .inr (8, [.ref qh, .ref qk, .ref qd, .int b0, .ref qa, .ref qm, .ref qs, .ref qp, .ref ql, .ref qt, .ref qz, .ref qf])), (qh, .inr (1, [.int (nI (Pa)), .ref ae, .ref al, .ref au, .ref ao, .ref ar, .ref ak, .ref aw, .ref att, .ref ass])), (al, .inl (cI, 100, .inl fal)), (ao, .inl (cI, 100, .inl fao)), (qa, .inr (0, [.int (nI (Qa)), .ref an])), (an, .inl (cI, 100, .inl La)), (q1, .inr (4, [.int bt, .int (nI (zq)), .ref sn])), (sn, .inl (cJ, 40, .inr (.inl nu)))] sz)) 0 0 (va_A [(h0, .inr (8, [.ref qh, .ref qk, .ref qd, .int b0, .ref qa, .ref qm, .ref qs, .ref qp, .ref ql, .ref qt, .ref qz, .ref qf])), (qh, .inr (1, [.int (nI (Pa)), .ref ae, .ref al, .ref au, .ref ao, .ref ar, .ref ak, .ref aw, .ref att, .ref ass])), (al, .inl (cI, 100, .inl fal)), (ao, .inl (cI, 100, .inl fao)), (qa, .inr (0, [.int (nI (Qa)), .ref an])), (an, .inl (cI, 100, .inl La)), (q1, .inr (4, [.int bt, .int (nI (zq)), .ref sn])), (sn, .inl (cJ, 40, .inr (.inl nu)))] sz) := by
  refine xh (QA := fun A => XQi (fun (r : Int32) (_ : Unit) => ((r = rdA fal fao nu Pa zq))) D (fun _ : Unit => [(h0, .inr (8, [.ref qh, .ref qk, .ref qd, .int b0, .ref qa, .ref qm, .ref qs, .ref qp, .ref ql, .ref qt, .ref qz, .ref qf])), (qh, .inr (1, [.int (nI (Pa)), .ref ae, .ref al, .ref au, .ref ao, .ref ar, .ref ak, .ref aw, .ref att, .ref ass])), (al, .inl (cI, 100, .inl fal)), (ao, .inl (cI, 100, .inl fao)), (qa, .inr (0, [.int (nI (Qa)), .ref an])), (an, .inl (cI, 100, .inl La)), (q1, .inr (4, [.int bt, .int (nI (zq)), .ref sn])), (sn, .inl (cJ, 40, .inr (.inl nu)))]) A) (fr := fun A => A) (by decide) (Nat.le_of_ble_eq_true rfl) ?_
  intro p e s m below meth c ls A hF hr hlk hin hsz hP hK hD hN hZ hA hS hl
  have hF : CallFix p m c cX8_readRow 9 s _ _ RX8 := hF
  have hx := hF.1
  have hb := hF.2.1
  have hml := hF.2.2.1
  have hown := hF.2.2.2.1
  have hu : ∀ w ∈ wsU, w.before _ s = true := fun w h => hF.2.2.2.2 w (List.mem_cons_of_mem _ h)
  have hl : lv_has ls 9 [(0, .ref h0), (1, .ref q1)] := hl
  refine lv_aload_n hx hb dX8_readRow_0 rfl (lv_at hl 1 rfl) ?_
  refine xg hF kf_X8_293 hK hP 6 rfl rfl dX8_readRow_1 ?_
  refine lv_iconst (v := 2) hx hb dX8_readRow_4 (by decide) ?_
  refine lv_icmp_ge (tgt := 10) hx hb dX8_readRow_5 (by decide) (fun c_1 => ?_) (fun c_1 => ?_)
  · skip
    have nc_1 : 2 ≤ zq := xn_le (a := 2) (b := zq) (by omega) (by omega) c_1
    refine lv_iconst (v := 0) hx hb dX8_readRow_10 (by decide) ?_
    refine lv_istore_n (lv' := [(2, .int 0), (0, .ref h0), (1, .ref q1)]) hx hb dX8_readRow_11 rfl hl (by decide) rfl (fun ls hl => ?_)
    refine lv_iconst (v := 0) hx hb dX8_readRow_12 (by decide) ?_
    refine lv_istore_n (lv' := [(3, .int 0), (2, .int 0), (0, .ref h0), (1, .ref q1)]) hx hb dX8_readRow_13 rfl hl (by decide) rfl (fun ls hl => ?_)
    refine lv_iconst (v := 0) hx hb dX8_readRow_14 (by decide) ?_
    refine lv_istore (lv' := [(4, .int 0), (3, .int 0), (2, .int 0), (0, .ref h0), (1, .ref q1)]) hx hb dX8_readRow_15 hl (by decide) rfl (fun ls hl => ?_)
    refine lv_iconst (v := 0) hx hb dX8_readRow_17 (by decide) ?_
    refine lv_istore (lv' := [(5, .int 0), (4, .int 0), (3, .int 0), (2, .int 0), (0, .ref h0), (1, .ref q1)]) hx hb dX8_readRow_18 hl (by decide) rfl (fun ls hl => ?_)
    suffices loop_20 : ∀ (n_20 : Nat) (i : Nat) (y1 : Nat) (y2 : Nat) (u : Int32) (H : Heap) (locs : List Loc) (ls : Array Slot), zq - i < n_20 → (i ≤ zq) → (y1 < 10) → (y2 < 10) → (RDI fal fao nu Pa i u) → (i = 0 ∨ (y1 = pl9 nu 0 ∧ y2 = pl9 nu (i - 1))) → va_P D vwCl [(h0, .inr (8, [.ref qh, .ref qk, .ref qd, .int b0, .ref qa, .ref qm, .ref qs, .ref qp, .ref ql, .ref qt, .ref qz, .ref qf])), (qh, .inr (1, [.int (nI (Pa)), .ref ae, .ref al, .ref au, .ref ao, .ref ar, .ref ak, .ref aw, .ref att, .ref ass])), (al, .inl (cI, 100, .inl fal)), (ao, .inl (cI, 100, .inl fao)), (qa, .inr (0, [.int (nI (Qa)), .ref an])), (an, .inl (cI, 100, .inl La)), (q1, .inr (4, [.int bt, .int (nI (zq)), .ref sn])), (sn, .inl (cJ, 40, .inr (.inl nu)))] H → va_D A [(h0, .inr (8, [.ref qh, .ref qk, .ref qd, .int b0, .ref qa, .ref qm, .ref qs, .ref qp, .ref ql, .ref qt, .ref qz, .ref qf])), (qh, .inr (1, [.int (nI (Pa)), .ref ae, .ref al, .ref au, .ref ao, .ref ar, .ref ak, .ref aw, .ref att, .ref ass])), (al, .inl (cI, 100, .inl fal)), (ao, .inl (cI, 100, .inl fao)), (qa, .inr (0, [.int (nI (Qa)), .ref an])), (an, .inl (cI, 100, .inl La)), (q1, .inr (4, [.int bt, .int (nI (zq)), .ref sn])), (sn, .inl (cJ, 40, .inr (.inl nu)))] → va_S A s.heap H locs → lv_has ls 9 [(5, .int (nI (i))), (4, .int u), (3, .int (nI (y2))), (2, .int (nI (y1))), (0, .ref h0), (1, .ref q1)] → W p l e ({ frames := 2, cells := 0, slots := 0, locals := 45 }) s m ([.ref h0, .ref q1] : List Value).toArray below meth c H locs 0 0 (MQ below (XQi (fun (r : Int32) (_ : Unit) => ((r = rdA fal fao nu Pa zq))) D (fun _ : Unit => [(h0, .inr (8, [.ref qh, .ref qk, .ref qd, .int b0, .ref qa, .ref qm, .ref qs, .ref qp, .ref ql, .ref qt, .ref qz, .ref qf])), (qh, .inr (1, [.int (nI (Pa)), .ref ae, .ref al, .ref au, .ref ao, .ref ar, .ref ak, .ref aw, .ref att, .ref ass])), (al, .inl (cI, 100, .inl fal)), (ao, .inl (cI, 100, .inl fao)), (qa, .inr (0, [.int (nI (Qa)), .ref an])), (an, .inl (cI, 100, .inl La)), (q1, .inr (4, [.int bt, .int (nI (zq)), .ref sn])), (sn, .inl (cJ, 40, .inr (.inl nu)))]) A) ([.ref h0, .ref q1] : List Value).toArray s 0 0 A) (F0 m 20 ls []) by
      exact loop_20 _ 0 0 0 0 _ _ _ (Nat.lt_succ_self _) (by omega) (by omega) (by omega) RDI.zero (Or.inl rfl) hP hD hS (lv_sub hl [0, 1, 2, 3, 4, 5] rfl)
    intro n_20
    induction n_20 with
    | zero =>
      intro i y1 y2 u H locs ls hm_20
      exact absurd hm_20 (Nat.not_lt_zero _)
    | succ n_20 ih_20 =>
      intro i y1 y2 u H locs ls hm_20 hi hy1 hy2 hr9 hf9 hP hD hS hl
      refine lv_iload hx hb dX8_readRow_20 (lv_at hl 0 rfl) ?_
      refine lv_aload_n hx hb dX8_readRow_22 rfl (lv_at hl 5 rfl) ?_
      refine xg hF kf_X8_293 hK hP 6 rfl rfl dX8_readRow_23 ?_
      refine lv_icmp_ge (tgt := 116) hx hb dX8_readRow_26 (by decide) (fun c_2 => ?_) (fun c_2 => ?_)
      · skip
        have nc_2 : zq ≤ i := xn_le (a := zq) (b := i) (by omega) (by omega) c_2
        refine lv_iload hx hb dX8_readRow_116 (lv_at hl 1 rfl) ?_
        refine lv_aload_n hx hb dX8_readRow_118 rfl (lv_at hl 4 rfl) ?_
        refine xg hF kf_X8_29 hK hP 0 rfl rfl dX8_readRow_119 ?_
        refine lv_iload_n hx hb dX8_readRow_122 rfl (lv_at hl 3 rfl) ?_
        refine lv_iload_n hx hb dX8_readRow_123 rfl (lv_at hl 2 rfl) ?_
        refine xc_Vr hF (c_X0_farOf l D cI cJ cZ cS ta sa sv H.size qa an Qa La y1 y2 (by omega) (by omega)) kv_X8_133 ⟨rfl, rfl, Nat.le_of_ble_eq_true rfl, Nat.le_of_ble_eq_true rfl⟩ ⟨Nat.le_of_ble_eq_true rfl, Nat.le_of_ble_eq_true rfl⟩ hK hN hZ hP hD hS hA [4, 5] rfl rfl 0 rfl rfl rfl rfl hl.1 rfl (Nat.le_of_ble_eq_true rfl) dX8_readRow_124 (fun r_3 hw_r_3 => ?_)
        subst hw_r_3
        refine lv_icmp_ne (tgt := 134) hx hb dX8_readRow_127 (by decide) (fun c_4 => ?_) (fun c_4 => ?_)
        · skip
          refine lv_iconst (v := 1) hx hb dX8_readRow_134 (by decide) ?_
          refine lv_aload_n hx hb dX8_readRow_135 rfl (lv_at hl 5 rfl) ?_
          refine xg hF kf_X8_293 hK hP 6 rfl rfl dX8_readRow_136 ?_
          refine lv_iadd hx hb dX8_readRow_139 ?_
          refine xl_i (y := nI (1 + zq)) (nI_add 1 zq) ?_
          exact W.iret (v := nI (1 + zq)) hx hb hr (fun t ht hW => ⟨⟨nI (1 + zq), (), rfl, ((congrArg nI (show 1 + zq = zq + 1 by omega)).trans (RDI.n (show RDI fal fao nu Pa zq u from by rw [show zq = i by omega]; exact hr9) hML hT9 (by omega) (by omega) (hf9.resolve_left (by omega)).1 ((hf9.resolve_left (by omega)).2.trans (congrArg (pl9 nu) (show i - 1 = zq - 1 by omega))) c_4)), by rw [ht]; exact hP.sub [0, 1, 2, 3, 4, 5, 6, 7] rfl, hD.sub [0, 1, 2, 3, 4, 5, 6, 7] (by decide +kernel) rfl⟩, hS.F ht⟩) hS.2.2 dX8_readRow_140 hlk
        · skip
          refine lv_iconst (v := 0) hx hb dX8_readRow_130 (by decide) ?_
          refine lv_goto (tgt := 140) hx hb dX8_readRow_131 (by decide) ?_
          exact W.iret (v := 0) hx hb hr (fun t ht hW => ⟨⟨0, (), rfl, (RDI.y (show RDI fal fao nu Pa zq u from by rw [show zq = i by omega]; exact hr9) hML hT9 (by omega) (by omega) (hf9.resolve_left (by omega)).1 ((hf9.resolve_left (by omega)).2.trans (congrArg (pl9 nu) (show i - 1 = zq - 1 by omega))) c_4), by rw [ht]; exact hP.sub [0, 1, 2, 3, 4, 5, 6, 7] rfl, hD.sub [0, 1, 2, 3, 4, 5, 6, 7] (by decide +kernel) rfl⟩, hS.F ht⟩) hS.2.2 dX8_readRow_140 hlk
      · skip
        have nc_2 : i < zq := xn_nle (a := zq) (b := i) (by omega) (by omega) c_2
        refine lv_aload_n hx hb dX8_readRow_29 rfl (lv_at hl 5 rfl) ?_
        refine xg hF kf_X8_298 hK hP 6 rfl rfl dX8_readRow_30 ?_
        refine lv_iload hx hb dX8_readRow_33 (lv_at hl 0 rfl) ?_
        refine va_lald hx hb hK hP 7 1 rfl rfl (vp_in_nI (show i < 40 by omega) (by decide)) dX8_readRow_35 ?_
        refine xl_l (y := nu i) (congrArg nu (nI_clamp (show i < 2 ^ 31 by omega))) ?_
        refine lv_lstore (lv' := [(6, .long (nu i)), (5, .int (nI (i))), (4, .int u), (3, .int (nI (y2))), (2, .int (nI (y1))), (0, .ref h0), (1, .ref q1)]) hx hb dX8_readRow_36 hl (by decide) rfl (fun ls hl => ?_)
        refine lv_aload_n hx hb dX8_readRow_38 rfl (lv_at hl 5 rfl) ?_
        refine xg hF kf_X8_12 hK hP 0 rfl rfl dX8_readRow_39 ?_
        refine lv_lload hx hb dX8_readRow_42 (lv_at hl 0 rfl) ?_
        refine xc_Vr hF (c_X1_isPlaceL l D cI cJ cZ cS ta sa sv H.size qh ae al au ao ar ak aw att ass Pa (nu i) (by omega)) kv_X8_87 ⟨rfl, rfl, Nat.le_of_ble_eq_true rfl, Nat.le_of_ble_eq_true rfl⟩ ⟨Nat.le_of_ble_eq_true rfl, Nat.le_of_ble_eq_true rfl⟩ hK hN hZ hP hD hS hA [1] rfl rfl 0 rfl rfl rfl rfl hl.1 rfl (Nat.le_of_ble_eq_true rfl) dX8_readRow_44 (fun r_5 hw_r_5 => ?_)
        rcases hw_r_5 with ⟨k_6, rfl, h_7, h_8⟩ | ⟨rfl, h_9⟩
        · skip
          refine lv_if_ne (tgt := 55) hx hb dX8_readRow_47 (by decide) (fun c_10 => ?_) (fun c_10 => absurd c_10 (by decide))
          refine lv_lload hx hb dX8_readRow_55 (lv_at hl 0 rfl) ?_
          refine lv_l2i (v := (nu i).toInt32) hx hb dX8_readRow_57 rfl ?_
          refine xl_i (y := nI (k_6)) (by rw [h_7]; exact lN_i k_6) ?_
          refine lv_istore (lv' := [(8, .int (nI (k_6))), (6, .long (nu i)), (5, .int (nI (i))), (4, .int u), (3, .int (nI (y2))), (2, .int (nI (y1))), (0, .ref h0), (1, .ref q1)]) hx hb dX8_readRow_58 hl (by decide) rfl (fun ls hl => ?_)
          refine lv_iload hx hb dX8_readRow_60 (lv_at hl 2 rfl) ?_
          refine lv_if_ne (tgt := 71) hx hb dX8_readRow_62 (by decide) (fun c_11 => ?_) (fun c_11 => ?_)
          · skip
            have nc_11 : i ≠ 0 := xn_ne (a := i) (b := 0) (by omega) (by omega) c_11
            refine lv_aload_n hx hb dX8_readRow_71 rfl (lv_at hl 6 rfl) ?_
            refine xg hF kf_X8_12 hK hP 0 rfl rfl dX8_readRow_72 ?_
            refine lv_iload_n hx hb dX8_readRow_75 rfl (lv_at hl 4 rfl) ?_
            refine lv_iload hx hb dX8_readRow_76 (lv_at hl 0 rfl) ?_
            refine xc_Vr hF (c_X1_isOpen l D cI cJ cZ cS ta sa sv H.size qh ae al au ao ar ak aw att ass Pa y2 k_6 fao (by omega) (by omega)) kv_X8_121 ⟨rfl, rfl, Nat.le_of_ble_eq_true rfl, Nat.le_of_ble_eq_true rfl⟩ ⟨Nat.le_of_ble_eq_true rfl, Nat.le_of_ble_eq_true rfl⟩ hK hN hZ hP hD hS hA [1, 3] rfl rfl 0 rfl rfl rfl rfl hl.1 rfl (Nat.le_of_ble_eq_true rfl) dX8_readRow_78 (fun r_12 hw_r_12 => ?_)
            rcases hw_r_12 with ⟨rfl, h_13⟩ | ⟨rfl, h_14⟩
            · skip
              refine lv_if_eq (tgt := 102) hx hb dX8_readRow_81 (by decide) (fun c_15 => absurd c_15 (by decide)) (fun c_15 => ?_)
              refine lv_iload hx hb dX8_readRow_84 (lv_at hl 3 rfl) ?_
              refine lv_aload_n hx hb dX8_readRow_86 rfl (lv_at hl 6 rfl) ?_
              refine xg hF kf_X8_12 hK hP 0 rfl rfl dX8_readRow_87 ?_
              refine lv_iload_n hx hb dX8_readRow_90 rfl (lv_at hl 4 rfl) ?_
              refine lv_iload hx hb dX8_readRow_91 (lv_at hl 0 rfl) ?_
              refine xc_Vr hF (c_X1_lowOf l D cI cJ cZ cS ta sa sv H.size qh ae al au ao ar ak aw att ass Pa y2 k_6 fal (by omega) (by omega)) kv_X8_114 ⟨rfl, rfl, Nat.le_of_ble_eq_true rfl, Nat.le_of_ble_eq_true rfl⟩ ⟨Nat.le_of_ble_eq_true rfl, Nat.le_of_ble_eq_true rfl⟩ hK hN hZ hP hD hS hA [1, 2] rfl rfl 0 rfl rfl rfl rfl hl.1 rfl (Nat.le_of_ble_eq_true rfl) dX8_readRow_93 (fun r_16 hw_r_16 => ?_)
              subst hw_r_16
              refine lv_iadd hx hb dX8_readRow_96 ?_
              refine lv_istore (lv' := [(4, .int (u + (fal (10 * y2 + k_6)))), (8, .int (nI (k_6))), (6, .long (nu i)), (5, .int (nI (i))), (3, .int (nI (y2))), (2, .int (nI (y1))), (0, .ref h0), (1, .ref q1)]) hx hb dX8_readRow_97 hl (by decide) rfl (fun ls hl => ?_)
              refine lv_goto (tgt := 107) hx hb dX8_readRow_99 (by decide) ?_
              refine lv_iload hx hb dX8_readRow_107 (lv_at hl 1 rfl) ?_
              refine lv_istore_n (lv' := [(3, .int (nI (k_6))), (4, .int (u + (fal (10 * y2 + k_6)))), (8, .int (nI (k_6))), (6, .long (nu i)), (5, .int (nI (i))), (2, .int (nI (y1))), (0, .ref h0), (1, .ref q1)]) hx hb dX8_readRow_109 rfl hl (by decide) rfl (fun ls hl => ?_)
              refine lv_iinc (v := nI (i + 1)) (lv' := [(5, .int (nI (i + 1))), (3, .int (nI (k_6))), (4, .int (u + (fal (10 * y2 + k_6)))), (8, .int (nI (k_6))), (6, .long (nu i)), (2, .int (nI (y1))), (0, .ref h0), (1, .ref q1)]) hx hb dX8_readRow_110 hl (k := 4) rfl (nI_1 (i)) (by decide) rfl (fun ls hl => ?_)
              refine lv_goto (tgt := 20) hx hb dX8_readRow_113 (by decide) ?_
              exact ih_20 (i + 1) y1 k_6 (u + (fal (10 * y2 + k_6))) _ _ _ (by omega) (by omega) (by omega) (by omega) (hr9.more (by omega) (by omega) (by omega) h_7 (hf9.resolve_left (by omega)).2 h_13) (hf_s hf9 (by omega) h_7 (by omega)) (hP.sub [0, 1, 2, 3, 4, 5, 6, 7] rfl) (hD.sub [0, 1, 2, 3, 4, 5, 6, 7] (by decide +kernel) rfl) hS (lv_sub hl [0, 2, 1, 5, 6, 7] rfl)
            · skip
              refine lv_if_eq (tgt := 102) hx hb dX8_readRow_81 (by decide) (fun c_17 => ?_) (fun c_17 => absurd (by decide) c_17)
              refine lv_iconst (v := 1) hx hb dX8_readRow_102 (by decide) ?_
              refine lv_iload hx hb dX8_readRow_103 (lv_at hl 2 rfl) ?_
              refine lv_iadd hx hb dX8_readRow_105 ?_
              refine xl_i (y := nI (1 + i)) (nI_add 1 i) ?_
              exact W.iret (v := nI (1 + i)) hx hb hr (fun t ht hW => ⟨⟨nI (1 + i), (), rfl, ((congrArg nI (show 1 + i = i + 1 by omega)).trans (hr9.bad2 (by omega) (by omega) (by omega) (by omega) h_7 (hf9.resolve_left (by omega)).2 h_14)), by rw [ht]; exact hP.sub [0, 1, 2, 3, 4, 5, 6, 7] rfl, hD.sub [0, 1, 2, 3, 4, 5, 6, 7] (by decide +kernel) rfl⟩, hS.F ht⟩) hS.2.2 dX8_readRow_106 hlk
          · skip
            have nc_11 : i = 0 := xn_eq (a := i) (b := 0) (by omega) (by omega) c_11
            refine lv_iload hx hb dX8_readRow_65 (lv_at hl 0 rfl) ?_
            refine lv_istore_n (lv' := [(2, .int (nI (k_6))), (8, .int (nI (k_6))), (6, .long (nu i)), (5, .int (nI (i))), (4, .int u), (3, .int (nI (y2))), (0, .ref h0), (1, .ref q1)]) hx hb dX8_readRow_67 rfl hl (by decide) rfl (fun ls hl => ?_)
            refine lv_goto (tgt := 107) hx hb dX8_readRow_68 (by decide) ?_
            refine lv_iload hx hb dX8_readRow_107 (lv_at hl 1 rfl) ?_
            refine lv_istore_n (lv' := [(3, .int (nI (k_6))), (2, .int (nI (k_6))), (8, .int (nI (k_6))), (6, .long (nu i)), (5, .int (nI (i))), (4, .int u), (0, .ref h0), (1, .ref q1)]) hx hb dX8_readRow_109 rfl hl (by decide) rfl (fun ls hl => ?_)
            refine lv_iinc (v := nI (i + 1)) (lv' := [(5, .int (nI (i + 1))), (3, .int (nI (k_6))), (2, .int (nI (k_6))), (8, .int (nI (k_6))), (6, .long (nu i)), (4, .int u), (0, .ref h0), (1, .ref q1)]) hx hb dX8_readRow_110 hl (k := 4) rfl (nI_1 (i)) (by decide) rfl (fun ls hl => ?_)
            refine lv_goto (tgt := 20) hx hb dX8_readRow_113 (by decide) ?_
            exact ih_20 (i + 1) k_6 k_6 u _ _ _ (by omega) (by omega) (by omega) (by omega) (hr9.first (by omega) (by omega) h_7) (hf_0 h_7 (by omega) (by omega)) (hP.sub [0, 1, 2, 3, 4, 5, 6, 7] rfl) (hD.sub [0, 1, 2, 3, 4, 5, 6, 7] (by decide +kernel) rfl) hS (lv_sub hl [0, 5, 1, 2, 6, 7] rfl)
        · skip
          refine lv_if_ne (tgt := 55) hx hb dX8_readRow_47 (by decide) (fun c_18 => absurd (by decide) c_18) (fun c_18 => ?_)
          refine lv_iconst (v := 1) hx hb dX8_readRow_50 (by decide) ?_
          refine lv_iload hx hb dX8_readRow_51 (lv_at hl 1 rfl) ?_
          refine lv_iadd hx hb dX8_readRow_53 ?_
          refine xl_i (y := nI (1 + i)) (nI_add 1 i) ?_
          exact W.iret (v := nI (1 + i)) hx hb hr (fun t ht hW => ⟨⟨nI (1 + i), (), rfl, ((congrArg nI (show 1 + i = i + 1 by omega)).trans (hr9.bad1 (by omega) h_9)), by rw [ht]; exact hP.sub [0, 1, 2, 3, 4, 5, 6, 7] rfl, hD.sub [0, 1, 2, 3, 4, 5, 6, 7] (by decide +kernel) rfl⟩, hS.F ht⟩) hS.2.2 dX8_readRow_54 hlk
  · skip
    have nc_1 : zq < 2 := xn_nle (a := 2) (b := zq) (by omega) (by omega) c_1
    refine lv_iconst (v := 1) hx hb dX8_readRow_8 (by decide) ?_
    exact W.iret (v := 1) hx hb hr (fun t ht hW => ⟨⟨1, (), rfl, (rd_small (by omega)), by rw [ht]; exact hP.sub [0, 1, 2, 3, 4, 5, 6, 7] rfl, hD.sub [0, 1, 2, 3, 4, 5, 6, 7] (by decide +kernel) rfl⟩, hS.F ht⟩) hS.2.2 dX8_readRow_9 hlk
