def LRX9_feed_6 : List UInt8 := []
def LBX9_feed_5 : List UInt8 := [0x2a, 0xb4, 0x00, 0xf0, 0xac]
def LRX9_feed_5 : List UInt8 := LBX9_feed_5 ++ LRX9_feed_6
def LBX9_feed_4 : List UInt8 := [0x2a, 0x59, 0xb4, 0x00, 0xf0, 0x04, 0x60, 0xb5, 0x00, 0xf0, 0x84, 0x03, 0xff, 0xa7, 0xff, 0xdc]
def LRX9_feed_4 : List UInt8 := LBX9_feed_4 ++ LRX9_feed_5
def LBX9_feed_3 : List UInt8 := [0x25, 0x2a, 0xb4, 0x00, 0xf0, 0x1b, 0x10, 0x08, 0x1d, 0x68, 0x7a, 0x11, 0x00, 0xff, 0x7e, 0x4f]
def LRX9_feed_3 : List UInt8 := LBX9_feed_3 ++ LRX9_feed_4
def LBX9_feed_2 : List UInt8 := [0x45, 0xb6, 0x00, 0x46, 0xac, 0x1c, 0x04, 0x64, 0x3e, 0x1d, 0x9b, 0x00, 0x26, 0x2a, 0xb4, 0x00]
def LRX9_feed_2 : List UInt8 := LBX9_feed_2 ++ LRX9_feed_3
def LBX9_feed_1 : List UInt8 := [0x00, 0x46, 0xac, 0x2a, 0xb4, 0x00, 0xf0, 0x1c, 0x60, 0x10, 0x78, 0xa4, 0x00, 0x0a, 0x2a, 0x12]
def LRX9_feed_1 : List UInt8 := LBX9_feed_1 ++ LRX9_feed_2
def LBX9_feed_0 : List UInt8 := [0x1c, 0x85, 0x0a, 0x14, 0x00, 0xee, 0xb8, 0x00, 0x39, 0x9a, 0x00, 0x0a, 0x2a, 0x12, 0x38, 0xb6]
def LRX9_feed_0 : List UInt8 := LBX9_feed_0 ++ LRX9_feed_1
set_option maxRecDepth 100000 in
theorem LBX9_feed_eq : cX9_feed.data.toList = LRX9_feed_0 := by decide +kernel
theorem LBX9_feedr_0 (k : Nat) : cX9_feed.data.toList[0 + k]? = LRX9_feed_0[k]? := by rw [LBX9_feed_eq, Nat.zero_add]
theorem LBX9_feedr_1 (k : Nat) : cX9_feed.data.toList[16 + k]? = LRX9_feed_1[k]? := by
  have h := LBX9_feedr_0 (16 + k)
  rw [show 0 + (16 + k) = 16 + k by omega] at h
  rw [h]
  exact (List.getElem?_append_right (l₁ := LBX9_feed_0) (l₂ := LRX9_feed_1) (show 16 ≤ 16 + k by omega)).trans (congrArg (fun i => LRX9_feed_1[i]?) (show 16 + k - 16 = k by omega))
theorem LBX9_feedr_2 (k : Nat) : cX9_feed.data.toList[32 + k]? = LRX9_feed_2[k]? := by
  have h := LBX9_feedr_1 (16 + k)
  rw [show 16 + (16 + k) = 32 + k by omega] at h
  rw [h]
  exact (List.getElem?_append_right (l₁ := LBX9_feed_1) (l₂ := LRX9_feed_2) (show 16 ≤ 16 + k by omega)).trans (congrArg (fun i => LRX9_feed_2[i]?) (show 16 + k - 16 = k by omega))
theorem LBX9_feedr_3 (k : Nat) : cX9_feed.data.toList[48 + k]? = LRX9_feed_3[k]? := by
  have h := LBX9_feedr_2 (16 + k)
  rw [show 32 + (16 + k) = 48 + k by omega] at h
  rw [h]
  exact (List.getElem?_append_right (l₁ := LBX9_feed_2) (l₂ := LRX9_feed_3) (show 16 ≤ 16 + k by omega)).trans (congrArg (fun i => LRX9_feed_3[i]?) (show 16 + k - 16 = k by omega))
theorem LBX9_feedr_4 (k : Nat) : cX9_feed.data.toList[64 + k]? = LRX9_feed_4[k]? := by
  have h := LBX9_feedr_3 (16 + k)
  rw [show 48 + (16 + k) = 64 + k by omega] at h
  rw [h]
  exact (List.getElem?_append_right (l₁ := LBX9_feed_3) (l₂ := LRX9_feed_4) (show 16 ≤ 16 + k by omega)).trans (congrArg (fun i => LRX9_feed_4[i]?) (show 16 + k - 16 = k by omega))
theorem LBX9_feedr_5 (k : Nat) : cX9_feed.data.toList[80 + k]? = LRX9_feed_5[k]? := by
  have h := LBX9_feedr_4 (16 + k)
  rw [show 64 + (16 + k) = 80 + k by omega] at h
  rw [h]
  exact (List.getElem?_append_right (l₁ := LBX9_feed_4) (l₂ := LRX9_feed_5) (show 16 ≤ 16 + k by omega)).trans (congrArg (fun i => LRX9_feed_5[i]?) (show 16 + k - 16 = k by omega))
theorem dX9_feed_0 : decode cX9_feed 0 = .ok (.iload_n 2, 1) := dk_28_ (show cX9_feed.data.toList[0]? = some 0x1c from (LBX9_feedr_0 0).trans (by decide +kernel))
theorem dX9_feed_1 : decode cX9_feed 1 = .ok (.i2l, 1) := dk_133_ (show cX9_feed.data.toList[1]? = some 0x85 from (LBX9_feedr_0 1).trans (by decide +kernel))
theorem dX9_feed_2 : decode cX9_feed 2 = .ok (.lconst 1, 1) := dk_10_ (show cX9_feed.data.toList[2]? = some 0x0a from (LBX9_feedr_0 2).trans (by decide +kernel))
theorem dX9_feed_3 : decode cX9_feed 3 = .ok (.ldc2_w 238, 3) := dk_20_ (show cX9_feed.data.toList[3]? = some 0x14 from (LBX9_feedr_0 3).trans (by decide +kernel)) (show cX9_feed.data.toList[4]? = some 0x00 from (LBX9_feedr_0 4).trans (by decide +kernel)) (show cX9_feed.data.toList[5]? = some 0xee from (LBX9_feedr_0 5).trans (by decide +kernel)) (by decide)
theorem dX9_feed_6 : decode cX9_feed 6 = .ok (.invokestatic 57, 3) := dk_184_ (show cX9_feed.data.toList[6]? = some 0xb8 from (LBX9_feedr_0 6).trans (by decide +kernel)) (show cX9_feed.data.toList[7]? = some 0x00 from (LBX9_feedr_0 7).trans (by decide +kernel)) (show cX9_feed.data.toList[8]? = some 0x39 from (LBX9_feedr_0 8).trans (by decide +kernel)) (by decide)
theorem dX9_feed_9 : decode cX9_feed 9 = .ok (.ifCond .ne 10, 3) := dk_154_ (show cX9_feed.data.toList[9]? = some 0x9a from (LBX9_feedr_0 9).trans (by decide +kernel)) (show cX9_feed.data.toList[10]? = some 0x00 from (LBX9_feedr_0 10).trans (by decide +kernel)) (show cX9_feed.data.toList[11]? = some 0x0a from (LBX9_feedr_0 11).trans (by decide +kernel)) (by decide)
theorem dX9_feed_12 : decode cX9_feed 12 = .ok (.aload_n 0, 1) := dk_42_ (show cX9_feed.data.toList[12]? = some 0x2a from (LBX9_feedr_0 12).trans (by decide +kernel))
theorem dX9_feed_13 : decode cX9_feed 13 = .ok (.ldc 56, 2) := dk_18_ (show cX9_feed.data.toList[13]? = some 0x12 from (LBX9_feedr_0 13).trans (by decide +kernel)) (show cX9_feed.data.toList[14]? = some 0x38 from (LBX9_feedr_0 14).trans (by decide +kernel)) (by decide)
theorem dX9_feed_15 : decode cX9_feed 15 = .ok (.invokevirtual 70, 3) := dk_182_ (show cX9_feed.data.toList[15]? = some 0xb6 from (LBX9_feedr_0 15).trans (by decide +kernel)) (show cX9_feed.data.toList[16]? = some 0x00 from (LBX9_feedr_1 0).trans (by decide +kernel)) (show cX9_feed.data.toList[17]? = some 0x46 from (LBX9_feedr_1 1).trans (by decide +kernel)) (by decide)
theorem dX9_feed_18 : decode cX9_feed 18 = .ok (.ireturn, 1) := dk_172_ (show cX9_feed.data.toList[18]? = some 0xac from (LBX9_feedr_1 2).trans (by decide +kernel))
theorem dX9_feed_19 : decode cX9_feed 19 = .ok (.aload_n 0, 1) := dk_42_ (show cX9_feed.data.toList[19]? = some 0x2a from (LBX9_feedr_1 3).trans (by decide +kernel))
theorem dX9_feed_20 : decode cX9_feed 20 = .ok (.getfield 240, 3) := dk_180_ (show cX9_feed.data.toList[20]? = some 0xb4 from (LBX9_feedr_1 4).trans (by decide +kernel)) (show cX9_feed.data.toList[21]? = some 0x00 from (LBX9_feedr_1 5).trans (by decide +kernel)) (show cX9_feed.data.toList[22]? = some 0xf0 from (LBX9_feedr_1 6).trans (by decide +kernel)) (by decide)
theorem dX9_feed_23 : decode cX9_feed 23 = .ok (.iload_n 2, 1) := dk_28_ (show cX9_feed.data.toList[23]? = some 0x1c from (LBX9_feedr_1 7).trans (by decide +kernel))
theorem dX9_feed_24 : decode cX9_feed 24 = .ok (.iadd, 1) := dk_96_ (show cX9_feed.data.toList[24]? = some 0x60 from (LBX9_feedr_1 8).trans (by decide +kernel))
theorem dX9_feed_25 : decode cX9_feed 25 = .ok (.bipush 120, 2) := dk_16_ (show cX9_feed.data.toList[25]? = some 0x10 from (LBX9_feedr_1 9).trans (by decide +kernel)) (show cX9_feed.data.toList[26]? = some 0x78 from (LBX9_feedr_1 10).trans (by decide +kernel)) (by decide)
theorem dX9_feed_27 : decode cX9_feed 27 = .ok (.if_icmp .le 10, 3) := dk_164_ (show cX9_feed.data.toList[27]? = some 0xa4 from (LBX9_feedr_1 11).trans (by decide +kernel)) (show cX9_feed.data.toList[28]? = some 0x00 from (LBX9_feedr_1 12).trans (by decide +kernel)) (show cX9_feed.data.toList[29]? = some 0x0a from (LBX9_feedr_1 13).trans (by decide +kernel)) (by decide)
theorem dX9_feed_30 : decode cX9_feed 30 = .ok (.aload_n 0, 1) := dk_42_ (show cX9_feed.data.toList[30]? = some 0x2a from (LBX9_feedr_1 14).trans (by decide +kernel))
theorem dX9_feed_31 : decode cX9_feed 31 = .ok (.ldc 69, 2) := dk_18_ (show cX9_feed.data.toList[31]? = some 0x12 from (LBX9_feedr_1 15).trans (by decide +kernel)) (show cX9_feed.data.toList[32]? = some 0x45 from (LBX9_feedr_2 0).trans (by decide +kernel)) (by decide)
theorem dX9_feed_33 : decode cX9_feed 33 = .ok (.invokevirtual 70, 3) := dk_182_ (show cX9_feed.data.toList[33]? = some 0xb6 from (LBX9_feedr_2 1).trans (by decide +kernel)) (show cX9_feed.data.toList[34]? = some 0x00 from (LBX9_feedr_2 2).trans (by decide +kernel)) (show cX9_feed.data.toList[35]? = some 0x46 from (LBX9_feedr_2 3).trans (by decide +kernel)) (by decide)
theorem dX9_feed_36 : decode cX9_feed 36 = .ok (.ireturn, 1) := dk_172_ (show cX9_feed.data.toList[36]? = some 0xac from (LBX9_feedr_2 4).trans (by decide +kernel))
theorem dX9_feed_37 : decode cX9_feed 37 = .ok (.iload_n 2, 1) := dk_28_ (show cX9_feed.data.toList[37]? = some 0x1c from (LBX9_feedr_2 5).trans (by decide +kernel))
theorem dX9_feed_38 : decode cX9_feed 38 = .ok (.iconst 1, 1) := dk_4_ (show cX9_feed.data.toList[38]? = some 0x04 from (LBX9_feedr_2 6).trans (by decide +kernel))
theorem dX9_feed_39 : decode cX9_feed 39 = .ok (.isub, 1) := dk_100_ (show cX9_feed.data.toList[39]? = some 0x64 from (LBX9_feedr_2 7).trans (by decide +kernel))
theorem dX9_feed_40 : decode cX9_feed 40 = .ok (.istore_n 3, 1) := dk_62_ (show cX9_feed.data.toList[40]? = some 0x3e from (LBX9_feedr_2 8).trans (by decide +kernel))
theorem dX9_feed_41 : decode cX9_feed 41 = .ok (.iload_n 3, 1) := dk_29_ (show cX9_feed.data.toList[41]? = some 0x1d from (LBX9_feedr_2 9).trans (by decide +kernel))
theorem dX9_feed_42 : decode cX9_feed 42 = .ok (.ifCond .lt 38, 3) := dk_155_ (show cX9_feed.data.toList[42]? = some 0x9b from (LBX9_feedr_2 10).trans (by decide +kernel)) (show cX9_feed.data.toList[43]? = some 0x00 from (LBX9_feedr_2 11).trans (by decide +kernel)) (show cX9_feed.data.toList[44]? = some 0x26 from (LBX9_feedr_2 12).trans (by decide +kernel)) (by decide)
theorem dX9_feed_45 : decode cX9_feed 45 = .ok (.aload_n 0, 1) := dk_42_ (show cX9_feed.data.toList[45]? = some 0x2a from (LBX9_feedr_2 13).trans (by decide +kernel))
theorem dX9_feed_46 : decode cX9_feed 46 = .ok (.getfield 37, 3) := dk_180_ (show cX9_feed.data.toList[46]? = some 0xb4 from (LBX9_feedr_2 14).trans (by decide +kernel)) (show cX9_feed.data.toList[47]? = some 0x00 from (LBX9_feedr_2 15).trans (by decide +kernel)) (show cX9_feed.data.toList[48]? = some 0x25 from (LBX9_feedr_3 0).trans (by decide +kernel)) (by decide)
theorem dX9_feed_49 : decode cX9_feed 49 = .ok (.aload_n 0, 1) := dk_42_ (show cX9_feed.data.toList[49]? = some 0x2a from (LBX9_feedr_3 1).trans (by decide +kernel))
theorem dX9_feed_50 : decode cX9_feed 50 = .ok (.getfield 240, 3) := dk_180_ (show cX9_feed.data.toList[50]? = some 0xb4 from (LBX9_feedr_3 2).trans (by decide +kernel)) (show cX9_feed.data.toList[51]? = some 0x00 from (LBX9_feedr_3 3).trans (by decide +kernel)) (show cX9_feed.data.toList[52]? = some 0xf0 from (LBX9_feedr_3 4).trans (by decide +kernel)) (by decide)
theorem dX9_feed_53 : decode cX9_feed 53 = .ok (.iload_n 1, 1) := dk_27_ (show cX9_feed.data.toList[53]? = some 0x1b from (LBX9_feedr_3 5).trans (by decide +kernel))
theorem dX9_feed_54 : decode cX9_feed 54 = .ok (.bipush 8, 2) := dk_16_ (show cX9_feed.data.toList[54]? = some 0x10 from (LBX9_feedr_3 6).trans (by decide +kernel)) (show cX9_feed.data.toList[55]? = some 0x08 from (LBX9_feedr_3 7).trans (by decide +kernel)) (by decide)
theorem dX9_feed_56 : decode cX9_feed 56 = .ok (.iload_n 3, 1) := dk_29_ (show cX9_feed.data.toList[56]? = some 0x1d from (LBX9_feedr_3 8).trans (by decide +kernel))
theorem dX9_feed_57 : decode cX9_feed 57 = .ok (.imul, 1) := dk_104_ (show cX9_feed.data.toList[57]? = some 0x68 from (LBX9_feedr_3 9).trans (by decide +kernel))
theorem dX9_feed_58 : decode cX9_feed 58 = .ok (.ishr, 1) := dk_122_ (show cX9_feed.data.toList[58]? = some 0x7a from (LBX9_feedr_3 10).trans (by decide +kernel))
theorem dX9_feed_59 : decode cX9_feed 59 = .ok (.sipush 255, 3) := dk_17_ (show cX9_feed.data.toList[59]? = some 0x11 from (LBX9_feedr_3 11).trans (by decide +kernel)) (show cX9_feed.data.toList[60]? = some 0x00 from (LBX9_feedr_3 12).trans (by decide +kernel)) (show cX9_feed.data.toList[61]? = some 0xff from (LBX9_feedr_3 13).trans (by decide +kernel)) (by decide)
theorem dX9_feed_62 : decode cX9_feed 62 = .ok (.iand, 1) := dk_126_ (show cX9_feed.data.toList[62]? = some 0x7e from (LBX9_feedr_3 14).trans (by decide +kernel))
theorem dX9_feed_63 : decode cX9_feed 63 = .ok (.iastore, 1) := dk_79_ (show cX9_feed.data.toList[63]? = some 0x4f from (LBX9_feedr_3 15).trans (by decide +kernel))
theorem dX9_feed_64 : decode cX9_feed 64 = .ok (.aload_n 0, 1) := dk_42_ (show cX9_feed.data.toList[64]? = some 0x2a from (LBX9_feedr_4 0).trans (by decide +kernel))
theorem dX9_feed_65 : decode cX9_feed 65 = .ok (.dup, 1) := dk_89_ (show cX9_feed.data.toList[65]? = some 0x59 from (LBX9_feedr_4 1).trans (by decide +kernel))
theorem dX9_feed_66 : decode cX9_feed 66 = .ok (.getfield 240, 3) := dk_180_ (show cX9_feed.data.toList[66]? = some 0xb4 from (LBX9_feedr_4 2).trans (by decide +kernel)) (show cX9_feed.data.toList[67]? = some 0x00 from (LBX9_feedr_4 3).trans (by decide +kernel)) (show cX9_feed.data.toList[68]? = some 0xf0 from (LBX9_feedr_4 4).trans (by decide +kernel)) (by decide)
theorem dX9_feed_69 : decode cX9_feed 69 = .ok (.iconst 1, 1) := dk_4_ (show cX9_feed.data.toList[69]? = some 0x04 from (LBX9_feedr_4 5).trans (by decide +kernel))
theorem dX9_feed_70 : decode cX9_feed 70 = .ok (.iadd, 1) := dk_96_ (show cX9_feed.data.toList[70]? = some 0x60 from (LBX9_feedr_4 6).trans (by decide +kernel))
theorem dX9_feed_71 : decode cX9_feed 71 = .ok (.putfield 240, 3) := dk_181_ (show cX9_feed.data.toList[71]? = some 0xb5 from (LBX9_feedr_4 7).trans (by decide +kernel)) (show cX9_feed.data.toList[72]? = some 0x00 from (LBX9_feedr_4 8).trans (by decide +kernel)) (show cX9_feed.data.toList[73]? = some 0xf0 from (LBX9_feedr_4 9).trans (by decide +kernel)) (by decide)
theorem dX9_feed_74 : decode cX9_feed 74 = .ok (.iinc 3 (-1), 3) := dk_132_ (show cX9_feed.data.toList[74]? = some 0x84 from (LBX9_feedr_4 10).trans (by decide +kernel)) (show cX9_feed.data.toList[75]? = some 0x03 from (LBX9_feedr_4 11).trans (by decide +kernel)) (show cX9_feed.data.toList[76]? = some 0xff from (LBX9_feedr_4 12).trans (by decide +kernel)) (by decide) (by decide)
theorem dX9_feed_77 : decode cX9_feed 77 = .ok (.goto (-36), 3) := dk_167_ (show cX9_feed.data.toList[77]? = some 0xa7 from (LBX9_feedr_4 13).trans (by decide +kernel)) (show cX9_feed.data.toList[78]? = some 0xff from (LBX9_feedr_4 14).trans (by decide +kernel)) (show cX9_feed.data.toList[79]? = some 0xdc from (LBX9_feedr_4 15).trans (by decide +kernel)) (by decide)
theorem dX9_feed_80 : decode cX9_feed 80 = .ok (.aload_n 0, 1) := dk_42_ (show cX9_feed.data.toList[80]? = some 0x2a from (LBX9_feedr_5 0).trans (by decide +kernel))
theorem dX9_feed_81 : decode cX9_feed 81 = .ok (.getfield 240, 3) := dk_180_ (show cX9_feed.data.toList[81]? = some 0xb4 from (LBX9_feedr_5 1).trans (by decide +kernel)) (show cX9_feed.data.toList[82]? = some 0x00 from (LBX9_feedr_5 2).trans (by decide +kernel)) (show cX9_feed.data.toList[83]? = some 0xf0 from (LBX9_feedr_5 3).trans (by decide +kernel)) (by decide)
theorem dX9_feed_84 : decode cX9_feed 84 = .ok (.ireturn, 1) := dk_172_ (show cX9_feed.data.toList[84]? = some 0xac from (LBX9_feedr_5 4).trans (by decide +kernel))
theorem dX9_wipe_0 : decode cX9_wipe 0 = .ok (.aload_n 0, 1) := dk_42_ (show cX9_wipe.data.toList[0]? = some 0x2a from by decide +kernel)
theorem dX9_wipe_1 : decode cX9_wipe 1 = .ok (.getfield 240, 3) := dk_180_ (show cX9_wipe.data.toList[1]? = some 0xb4 from by decide +kernel) (show cX9_wipe.data.toList[2]? = some 0x00 from by decide +kernel) (show cX9_wipe.data.toList[3]? = some 0xf0 from by decide +kernel) (by decide)
theorem dX9_wipe_4 : decode cX9_wipe 4 = .ok (.istore_n 1, 1) := dk_60_ (show cX9_wipe.data.toList[4]? = some 0x3c from by decide +kernel)
theorem dX9_wipe_5 : decode cX9_wipe 5 = .ok (.aload_n 0, 1) := dk_42_ (show cX9_wipe.data.toList[5]? = some 0x2a from by decide +kernel)
theorem dX9_wipe_6 : decode cX9_wipe 6 = .ok (.iconst 0, 1) := dk_3_ (show cX9_wipe.data.toList[6]? = some 0x03 from by decide +kernel)
theorem dX9_wipe_7 : decode cX9_wipe 7 = .ok (.putfield 240, 3) := dk_181_ (show cX9_wipe.data.toList[7]? = some 0xb5 from by decide +kernel) (show cX9_wipe.data.toList[8]? = some 0x00 from by decide +kernel) (show cX9_wipe.data.toList[9]? = some 0xf0 from by decide +kernel) (by decide)
theorem dX9_wipe_10 : decode cX9_wipe 10 = .ok (.iload_n 1, 1) := dk_27_ (show cX9_wipe.data.toList[10]? = some 0x1b from by decide +kernel)
theorem dX9_wipe_11 : decode cX9_wipe 11 = .ok (.ireturn, 1) := dk_172_ (show cX9_wipe.data.toList[11]? = some 0xac from by decide +kernel)
def LRX9_byteAt_2 : List UInt8 := []
def LBX9_byteAt_1 : List UInt8 := [0x04, 0x02, 0xac]
def LRX9_byteAt_1 : List UInt8 := LBX9_byteAt_1 ++ LRX9_byteAt_2
def LBX9_byteAt_0 : List UInt8 := [0x1b, 0x2a, 0xb4, 0x00, 0xf0, 0xa2, 0x00, 0x0c, 0x2a, 0xb4, 0x00, 0x25, 0x1b, 0x2e, 0xa7, 0x00]
def LRX9_byteAt_0 : List UInt8 := LBX9_byteAt_0 ++ LRX9_byteAt_1
set_option maxRecDepth 100000 in
theorem LBX9_byteAt_eq : cX9_byteAt.data.toList = LRX9_byteAt_0 := by decide +kernel
theorem LBX9_byteAtr_0 (k : Nat) : cX9_byteAt.data.toList[0 + k]? = LRX9_byteAt_0[k]? := by rw [LBX9_byteAt_eq, Nat.zero_add]
theorem LBX9_byteAtr_1 (k : Nat) : cX9_byteAt.data.toList[16 + k]? = LRX9_byteAt_1[k]? := by
  have h := LBX9_byteAtr_0 (16 + k)
  rw [show 0 + (16 + k) = 16 + k by omega] at h
  rw [h]
  exact (List.getElem?_append_right (l₁ := LBX9_byteAt_0) (l₂ := LRX9_byteAt_1) (show 16 ≤ 16 + k by omega)).trans (congrArg (fun i => LRX9_byteAt_1[i]?) (show 16 + k - 16 = k by omega))
theorem dX9_byteAt_0 : decode cX9_byteAt 0 = .ok (.iload_n 1, 1) := dk_27_ (show cX9_byteAt.data.toList[0]? = some 0x1b from (LBX9_byteAtr_0 0).trans (by decide +kernel))
theorem dX9_byteAt_1 : decode cX9_byteAt 1 = .ok (.aload_n 0, 1) := dk_42_ (show cX9_byteAt.data.toList[1]? = some 0x2a from (LBX9_byteAtr_0 1).trans (by decide +kernel))
theorem dX9_byteAt_2 : decode cX9_byteAt 2 = .ok (.getfield 240, 3) := dk_180_ (show cX9_byteAt.data.toList[2]? = some 0xb4 from (LBX9_byteAtr_0 2).trans (by decide +kernel)) (show cX9_byteAt.data.toList[3]? = some 0x00 from (LBX9_byteAtr_0 3).trans (by decide +kernel)) (show cX9_byteAt.data.toList[4]? = some 0xf0 from (LBX9_byteAtr_0 4).trans (by decide +kernel)) (by decide)
theorem dX9_byteAt_5 : decode cX9_byteAt 5 = .ok (.if_icmp .ge 12, 3) := dk_162_ (show cX9_byteAt.data.toList[5]? = some 0xa2 from (LBX9_byteAtr_0 5).trans (by decide +kernel)) (show cX9_byteAt.data.toList[6]? = some 0x00 from (LBX9_byteAtr_0 6).trans (by decide +kernel)) (show cX9_byteAt.data.toList[7]? = some 0x0c from (LBX9_byteAtr_0 7).trans (by decide +kernel)) (by decide)
theorem dX9_byteAt_8 : decode cX9_byteAt 8 = .ok (.aload_n 0, 1) := dk_42_ (show cX9_byteAt.data.toList[8]? = some 0x2a from (LBX9_byteAtr_0 8).trans (by decide +kernel))
theorem dX9_byteAt_9 : decode cX9_byteAt 9 = .ok (.getfield 37, 3) := dk_180_ (show cX9_byteAt.data.toList[9]? = some 0xb4 from (LBX9_byteAtr_0 9).trans (by decide +kernel)) (show cX9_byteAt.data.toList[10]? = some 0x00 from (LBX9_byteAtr_0 10).trans (by decide +kernel)) (show cX9_byteAt.data.toList[11]? = some 0x25 from (LBX9_byteAtr_0 11).trans (by decide +kernel)) (by decide)
theorem dX9_byteAt_12 : decode cX9_byteAt 12 = .ok (.iload_n 1, 1) := dk_27_ (show cX9_byteAt.data.toList[12]? = some 0x1b from (LBX9_byteAtr_0 12).trans (by decide +kernel))
theorem dX9_byteAt_13 : decode cX9_byteAt 13 = .ok (.iaload, 1) := dk_46_ (show cX9_byteAt.data.toList[13]? = some 0x2e from (LBX9_byteAtr_0 13).trans (by decide +kernel))
theorem dX9_byteAt_14 : decode cX9_byteAt 14 = .ok (.goto 4, 3) := dk_167_ (show cX9_byteAt.data.toList[14]? = some 0xa7 from (LBX9_byteAtr_0 14).trans (by decide +kernel)) (show cX9_byteAt.data.toList[15]? = some 0x00 from (LBX9_byteAtr_0 15).trans (by decide +kernel)) (show cX9_byteAt.data.toList[16]? = some 0x04 from (LBX9_byteAtr_1 0).trans (by decide +kernel)) (by decide)
theorem dX9_byteAt_17 : decode cX9_byteAt 17 = .ok (.iconst (-1), 1) := dk_2_ (show cX9_byteAt.data.toList[17]? = some 0x02 from (LBX9_byteAtr_1 1).trans (by decide +kernel))
theorem dX9_byteAt_18 : decode cX9_byteAt 18 = .ok (.ireturn, 1) := dk_172_ (show cX9_byteAt.data.toList[18]? = some 0xac from (LBX9_byteAtr_1 2).trans (by decide +kernel))
def LRX9_next_9 : List UInt8 := []
def LBX9_next_8 : List UInt8 := [0x60, 0xb5, 0x00, 0xfb, 0xa7, 0xff, 0xd2, 0xb1]
def LRX9_next_8 : List UInt8 := LBX9_next_8 ++ LRX9_next_9
def LBX9_next_7 : List UInt8 := [0xfb, 0xb6, 0x01, 0x01, 0xb8, 0x01, 0x07, 0x99, 0x00, 0x10, 0x2a, 0x59, 0xb4, 0x00, 0xfb, 0x04]
def LRX9_next_7 : List UInt8 := LBX9_next_7 ++ LRX9_next_8
def LBX9_next_6 : List UInt8 := [0x01, 0x01, 0xb8, 0x01, 0x04, 0x9a, 0x00, 0x15, 0x1c, 0x99, 0x00, 0x1e, 0x2a, 0x2a, 0xb4, 0x00]
def LRX9_next_6 : List UInt8 := LBX9_next_6 ++ LRX9_next_7
def LBX9_next_5 : List UInt8 := [0xb4, 0x00, 0xfe, 0xb5, 0x00, 0xfb, 0x1b, 0x99, 0x00, 0x11, 0x2a, 0x2a, 0xb4, 0x00, 0xfb, 0xb6]
def LRX9_next_5 : List UInt8 := LBX9_next_5 ++ LRX9_next_6
def LBX9_next_4 : List UInt8 := [0xb4, 0x00, 0xf0, 0xa2, 0x00, 0x0c, 0x2a, 0xb4, 0x00, 0xfe, 0x04, 0x60, 0xa7, 0x00, 0x07, 0x2a]
def LRX9_next_4 : List UInt8 := LBX9_next_4 ++ LRX9_next_5
def LBX9_next_3 : List UInt8 := [0xb4, 0x00, 0xfe, 0xb6, 0x01, 0x01, 0xb8, 0x01, 0x07, 0x3d, 0x2a, 0x2a, 0xb4, 0x00, 0xfe, 0x2a]
def LRX9_next_3 : List UInt8 := LBX9_next_3 ++ LRX9_next_4
def LBX9_next_2 : List UInt8 := [0xff, 0xe9, 0x2a, 0x2a, 0xb4, 0x00, 0xfe, 0xb6, 0x01, 0x01, 0xb8, 0x01, 0x04, 0x3c, 0x2a, 0x2a]
def LRX9_next_2 : List UInt8 := LBX9_next_2 ++ LRX9_next_3
def LBX9_next_1 : List UInt8 := [0x10, 0x20, 0xa0, 0x00, 0x10, 0x2a, 0x59, 0xb4, 0x00, 0xfe, 0x04, 0x60, 0xb5, 0x00, 0xfe, 0xa7]
def LRX9_next_1 : List UInt8 := LBX9_next_1 ++ LRX9_next_2
def LBX9_next_0 : List UInt8 := [0x2a, 0x2a, 0xb4, 0x00, 0xfb, 0xb5, 0x00, 0xfe, 0x2a, 0x2a, 0xb4, 0x00, 0xfe, 0xb6, 0x01, 0x01]
def LRX9_next_0 : List UInt8 := LBX9_next_0 ++ LRX9_next_1
set_option maxRecDepth 100000 in
theorem LBX9_next_eq : cX9_next.data.toList = LRX9_next_0 := by decide +kernel
theorem LBX9_nextr_0 (k : Nat) : cX9_next.data.toList[0 + k]? = LRX9_next_0[k]? := by rw [LBX9_next_eq, Nat.zero_add]
theorem LBX9_nextr_1 (k : Nat) : cX9_next.data.toList[16 + k]? = LRX9_next_1[k]? := by
  have h := LBX9_nextr_0 (16 + k)
  rw [show 0 + (16 + k) = 16 + k by omega] at h
  rw [h]
  exact (List.getElem?_append_right (l₁ := LBX9_next_0) (l₂ := LRX9_next_1) (show 16 ≤ 16 + k by omega)).trans (congrArg (fun i => LRX9_next_1[i]?) (show 16 + k - 16 = k by omega))
theorem LBX9_nextr_2 (k : Nat) : cX9_next.data.toList[32 + k]? = LRX9_next_2[k]? := by
  have h := LBX9_nextr_1 (16 + k)
  rw [show 16 + (16 + k) = 32 + k by omega] at h
  rw [h]
  exact (List.getElem?_append_right (l₁ := LBX9_next_1) (l₂ := LRX9_next_2) (show 16 ≤ 16 + k by omega)).trans (congrArg (fun i => LRX9_next_2[i]?) (show 16 + k - 16 = k by omega))
theorem LBX9_nextr_3 (k : Nat) : cX9_next.data.toList[48 + k]? = LRX9_next_3[k]? := by
  have h := LBX9_nextr_2 (16 + k)
  rw [show 32 + (16 + k) = 48 + k by omega] at h
  rw [h]
  exact (List.getElem?_append_right (l₁ := LBX9_next_2) (l₂ := LRX9_next_3) (show 16 ≤ 16 + k by omega)).trans (congrArg (fun i => LRX9_next_3[i]?) (show 16 + k - 16 = k by omega))
theorem LBX9_nextr_4 (k : Nat) : cX9_next.data.toList[64 + k]? = LRX9_next_4[k]? := by
  have h := LBX9_nextr_3 (16 + k)
  rw [show 48 + (16 + k) = 64 + k by omega] at h
  rw [h]
  exact (List.getElem?_append_right (l₁ := LBX9_next_3) (l₂ := LRX9_next_4) (show 16 ≤ 16 + k by omega)).trans (congrArg (fun i => LRX9_next_4[i]?) (show 16 + k - 16 = k by omega))
theorem LBX9_nextr_5 (k : Nat) : cX9_next.data.toList[80 + k]? = LRX9_next_5[k]? := by
  have h := LBX9_nextr_4 (16 + k)
  rw [show 64 + (16 + k) = 80 + k by omega] at h
  rw [h]
  exact (List.getElem?_append_right (l₁ := LBX9_next_4) (l₂ := LRX9_next_5) (show 16 ≤ 16 + k by omega)).trans (congrArg (fun i => LRX9_next_5[i]?) (show 16 + k - 16 = k by omega))
theorem LBX9_nextr_6 (k : Nat) : cX9_next.data.toList[96 + k]? = LRX9_next_6[k]? := by
  have h := LBX9_nextr_5 (16 + k)
  rw [show 80 + (16 + k) = 96 + k by omega] at h
  rw [h]
  exact (List.getElem?_append_right (l₁ := LBX9_next_5) (l₂ := LRX9_next_6) (show 16 ≤ 16 + k by omega)).trans (congrArg (fun i => LRX9_next_6[i]?) (show 16 + k - 16 = k by omega))
theorem LBX9_nextr_7 (k : Nat) : cX9_next.data.toList[112 + k]? = LRX9_next_7[k]? := by
  have h := LBX9_nextr_6 (16 + k)
  rw [show 96 + (16 + k) = 112 + k by omega] at h
  rw [h]
  exact (List.getElem?_append_right (l₁ := LBX9_next_6) (l₂ := LRX9_next_7) (show 16 ≤ 16 + k by omega)).trans (congrArg (fun i => LRX9_next_7[i]?) (show 16 + k - 16 = k by omega))
theorem LBX9_nextr_8 (k : Nat) : cX9_next.data.toList[128 + k]? = LRX9_next_8[k]? := by
  have h := LBX9_nextr_7 (16 + k)
  rw [show 112 + (16 + k) = 128 + k by omega] at h
  rw [h]
  exact (List.getElem?_append_right (l₁ := LBX9_next_7) (l₂ := LRX9_next_8) (show 16 ≤ 16 + k by omega)).trans (congrArg (fun i => LRX9_next_8[i]?) (show 16 + k - 16 = k by omega))
theorem dX9_next_0 : decode cX9_next 0 = .ok (.aload_n 0, 1) := dk_42_ (show cX9_next.data.toList[0]? = some 0x2a from (LBX9_nextr_0 0).trans (by decide +kernel))
theorem dX9_next_1 : decode cX9_next 1 = .ok (.aload_n 0, 1) := dk_42_ (show cX9_next.data.toList[1]? = some 0x2a from (LBX9_nextr_0 1).trans (by decide +kernel))
theorem dX9_next_2 : decode cX9_next 2 = .ok (.getfield 251, 3) := dk_180_ (show cX9_next.data.toList[2]? = some 0xb4 from (LBX9_nextr_0 2).trans (by decide +kernel)) (show cX9_next.data.toList[3]? = some 0x00 from (LBX9_nextr_0 3).trans (by decide +kernel)) (show cX9_next.data.toList[4]? = some 0xfb from (LBX9_nextr_0 4).trans (by decide +kernel)) (by decide)
theorem dX9_next_5 : decode cX9_next 5 = .ok (.putfield 254, 3) := dk_181_ (show cX9_next.data.toList[5]? = some 0xb5 from (LBX9_nextr_0 5).trans (by decide +kernel)) (show cX9_next.data.toList[6]? = some 0x00 from (LBX9_nextr_0 6).trans (by decide +kernel)) (show cX9_next.data.toList[7]? = some 0xfe from (LBX9_nextr_0 7).trans (by decide +kernel)) (by decide)
theorem dX9_next_8 : decode cX9_next 8 = .ok (.aload_n 0, 1) := dk_42_ (show cX9_next.data.toList[8]? = some 0x2a from (LBX9_nextr_0 8).trans (by decide +kernel))
theorem dX9_next_9 : decode cX9_next 9 = .ok (.aload_n 0, 1) := dk_42_ (show cX9_next.data.toList[9]? = some 0x2a from (LBX9_nextr_0 9).trans (by decide +kernel))
theorem dX9_next_10 : decode cX9_next 10 = .ok (.getfield 254, 3) := dk_180_ (show cX9_next.data.toList[10]? = some 0xb4 from (LBX9_nextr_0 10).trans (by decide +kernel)) (show cX9_next.data.toList[11]? = some 0x00 from (LBX9_nextr_0 11).trans (by decide +kernel)) (show cX9_next.data.toList[12]? = some 0xfe from (LBX9_nextr_0 12).trans (by decide +kernel)) (by decide)
theorem dX9_next_13 : decode cX9_next 13 = .ok (.invokevirtual 257, 3) := dk_182_ (show cX9_next.data.toList[13]? = some 0xb6 from (LBX9_nextr_0 13).trans (by decide +kernel)) (show cX9_next.data.toList[14]? = some 0x01 from (LBX9_nextr_0 14).trans (by decide +kernel)) (show cX9_next.data.toList[15]? = some 0x01 from (LBX9_nextr_0 15).trans (by decide +kernel)) (by decide)
theorem dX9_next_16 : decode cX9_next 16 = .ok (.bipush 32, 2) := dk_16_ (show cX9_next.data.toList[16]? = some 0x10 from (LBX9_nextr_1 0).trans (by decide +kernel)) (show cX9_next.data.toList[17]? = some 0x20 from (LBX9_nextr_1 1).trans (by decide +kernel)) (by decide)
theorem dX9_next_18 : decode cX9_next 18 = .ok (.if_icmp .ne 16, 3) := dk_160_ (show cX9_next.data.toList[18]? = some 0xa0 from (LBX9_nextr_1 2).trans (by decide +kernel)) (show cX9_next.data.toList[19]? = some 0x00 from (LBX9_nextr_1 3).trans (by decide +kernel)) (show cX9_next.data.toList[20]? = some 0x10 from (LBX9_nextr_1 4).trans (by decide +kernel)) (by decide)
theorem dX9_next_21 : decode cX9_next 21 = .ok (.aload_n 0, 1) := dk_42_ (show cX9_next.data.toList[21]? = some 0x2a from (LBX9_nextr_1 5).trans (by decide +kernel))
theorem dX9_next_22 : decode cX9_next 22 = .ok (.dup, 1) := dk_89_ (show cX9_next.data.toList[22]? = some 0x59 from (LBX9_nextr_1 6).trans (by decide +kernel))
theorem dX9_next_23 : decode cX9_next 23 = .ok (.getfield 254, 3) := dk_180_ (show cX9_next.data.toList[23]? = some 0xb4 from (LBX9_nextr_1 7).trans (by decide +kernel)) (show cX9_next.data.toList[24]? = some 0x00 from (LBX9_nextr_1 8).trans (by decide +kernel)) (show cX9_next.data.toList[25]? = some 0xfe from (LBX9_nextr_1 9).trans (by decide +kernel)) (by decide)
theorem dX9_next_26 : decode cX9_next 26 = .ok (.iconst 1, 1) := dk_4_ (show cX9_next.data.toList[26]? = some 0x04 from (LBX9_nextr_1 10).trans (by decide +kernel))
theorem dX9_next_27 : decode cX9_next 27 = .ok (.iadd, 1) := dk_96_ (show cX9_next.data.toList[27]? = some 0x60 from (LBX9_nextr_1 11).trans (by decide +kernel))
theorem dX9_next_28 : decode cX9_next 28 = .ok (.putfield 254, 3) := dk_181_ (show cX9_next.data.toList[28]? = some 0xb5 from (LBX9_nextr_1 12).trans (by decide +kernel)) (show cX9_next.data.toList[29]? = some 0x00 from (LBX9_nextr_1 13).trans (by decide +kernel)) (show cX9_next.data.toList[30]? = some 0xfe from (LBX9_nextr_1 14).trans (by decide +kernel)) (by decide)
theorem dX9_next_31 : decode cX9_next 31 = .ok (.goto (-23), 3) := dk_167_ (show cX9_next.data.toList[31]? = some 0xa7 from (LBX9_nextr_1 15).trans (by decide +kernel)) (show cX9_next.data.toList[32]? = some 0xff from (LBX9_nextr_2 0).trans (by decide +kernel)) (show cX9_next.data.toList[33]? = some 0xe9 from (LBX9_nextr_2 1).trans (by decide +kernel)) (by decide)
theorem dX9_next_34 : decode cX9_next 34 = .ok (.aload_n 0, 1) := dk_42_ (show cX9_next.data.toList[34]? = some 0x2a from (LBX9_nextr_2 2).trans (by decide +kernel))
theorem dX9_next_35 : decode cX9_next 35 = .ok (.aload_n 0, 1) := dk_42_ (show cX9_next.data.toList[35]? = some 0x2a from (LBX9_nextr_2 3).trans (by decide +kernel))
theorem dX9_next_36 : decode cX9_next 36 = .ok (.getfield 254, 3) := dk_180_ (show cX9_next.data.toList[36]? = some 0xb4 from (LBX9_nextr_2 4).trans (by decide +kernel)) (show cX9_next.data.toList[37]? = some 0x00 from (LBX9_nextr_2 5).trans (by decide +kernel)) (show cX9_next.data.toList[38]? = some 0xfe from (LBX9_nextr_2 6).trans (by decide +kernel)) (by decide)
theorem dX9_next_39 : decode cX9_next 39 = .ok (.invokevirtual 257, 3) := dk_182_ (show cX9_next.data.toList[39]? = some 0xb6 from (LBX9_nextr_2 7).trans (by decide +kernel)) (show cX9_next.data.toList[40]? = some 0x01 from (LBX9_nextr_2 8).trans (by decide +kernel)) (show cX9_next.data.toList[41]? = some 0x01 from (LBX9_nextr_2 9).trans (by decide +kernel)) (by decide)
theorem dX9_next_42 : decode cX9_next 42 = .ok (.invokestatic 260, 3) := dk_184_ (show cX9_next.data.toList[42]? = some 0xb8 from (LBX9_nextr_2 10).trans (by decide +kernel)) (show cX9_next.data.toList[43]? = some 0x01 from (LBX9_nextr_2 11).trans (by decide +kernel)) (show cX9_next.data.toList[44]? = some 0x04 from (LBX9_nextr_2 12).trans (by decide +kernel)) (by decide)
theorem dX9_next_45 : decode cX9_next 45 = .ok (.istore_n 1, 1) := dk_60_ (show cX9_next.data.toList[45]? = some 0x3c from (LBX9_nextr_2 13).trans (by decide +kernel))
theorem dX9_next_46 : decode cX9_next 46 = .ok (.aload_n 0, 1) := dk_42_ (show cX9_next.data.toList[46]? = some 0x2a from (LBX9_nextr_2 14).trans (by decide +kernel))
theorem dX9_next_47 : decode cX9_next 47 = .ok (.aload_n 0, 1) := dk_42_ (show cX9_next.data.toList[47]? = some 0x2a from (LBX9_nextr_2 15).trans (by decide +kernel))
theorem dX9_next_48 : decode cX9_next 48 = .ok (.getfield 254, 3) := dk_180_ (show cX9_next.data.toList[48]? = some 0xb4 from (LBX9_nextr_3 0).trans (by decide +kernel)) (show cX9_next.data.toList[49]? = some 0x00 from (LBX9_nextr_3 1).trans (by decide +kernel)) (show cX9_next.data.toList[50]? = some 0xfe from (LBX9_nextr_3 2).trans (by decide +kernel)) (by decide)
theorem dX9_next_51 : decode cX9_next 51 = .ok (.invokevirtual 257, 3) := dk_182_ (show cX9_next.data.toList[51]? = some 0xb6 from (LBX9_nextr_3 3).trans (by decide +kernel)) (show cX9_next.data.toList[52]? = some 0x01 from (LBX9_nextr_3 4).trans (by decide +kernel)) (show cX9_next.data.toList[53]? = some 0x01 from (LBX9_nextr_3 5).trans (by decide +kernel)) (by decide)
theorem dX9_next_54 : decode cX9_next 54 = .ok (.invokestatic 263, 3) := dk_184_ (show cX9_next.data.toList[54]? = some 0xb8 from (LBX9_nextr_3 6).trans (by decide +kernel)) (show cX9_next.data.toList[55]? = some 0x01 from (LBX9_nextr_3 7).trans (by decide +kernel)) (show cX9_next.data.toList[56]? = some 0x07 from (LBX9_nextr_3 8).trans (by decide +kernel)) (by decide)
theorem dX9_next_57 : decode cX9_next 57 = .ok (.istore_n 2, 1) := dk_61_ (show cX9_next.data.toList[57]? = some 0x3d from (LBX9_nextr_3 9).trans (by decide +kernel))
theorem dX9_next_58 : decode cX9_next 58 = .ok (.aload_n 0, 1) := dk_42_ (show cX9_next.data.toList[58]? = some 0x2a from (LBX9_nextr_3 10).trans (by decide +kernel))
theorem dX9_next_59 : decode cX9_next 59 = .ok (.aload_n 0, 1) := dk_42_ (show cX9_next.data.toList[59]? = some 0x2a from (LBX9_nextr_3 11).trans (by decide +kernel))
theorem dX9_next_60 : decode cX9_next 60 = .ok (.getfield 254, 3) := dk_180_ (show cX9_next.data.toList[60]? = some 0xb4 from (LBX9_nextr_3 12).trans (by decide +kernel)) (show cX9_next.data.toList[61]? = some 0x00 from (LBX9_nextr_3 13).trans (by decide +kernel)) (show cX9_next.data.toList[62]? = some 0xfe from (LBX9_nextr_3 14).trans (by decide +kernel)) (by decide)
theorem dX9_next_63 : decode cX9_next 63 = .ok (.aload_n 0, 1) := dk_42_ (show cX9_next.data.toList[63]? = some 0x2a from (LBX9_nextr_3 15).trans (by decide +kernel))
theorem dX9_next_64 : decode cX9_next 64 = .ok (.getfield 240, 3) := dk_180_ (show cX9_next.data.toList[64]? = some 0xb4 from (LBX9_nextr_4 0).trans (by decide +kernel)) (show cX9_next.data.toList[65]? = some 0x00 from (LBX9_nextr_4 1).trans (by decide +kernel)) (show cX9_next.data.toList[66]? = some 0xf0 from (LBX9_nextr_4 2).trans (by decide +kernel)) (by decide)
theorem dX9_next_67 : decode cX9_next 67 = .ok (.if_icmp .ge 12, 3) := dk_162_ (show cX9_next.data.toList[67]? = some 0xa2 from (LBX9_nextr_4 3).trans (by decide +kernel)) (show cX9_next.data.toList[68]? = some 0x00 from (LBX9_nextr_4 4).trans (by decide +kernel)) (show cX9_next.data.toList[69]? = some 0x0c from (LBX9_nextr_4 5).trans (by decide +kernel)) (by decide)
theorem dX9_next_70 : decode cX9_next 70 = .ok (.aload_n 0, 1) := dk_42_ (show cX9_next.data.toList[70]? = some 0x2a from (LBX9_nextr_4 6).trans (by decide +kernel))
theorem dX9_next_71 : decode cX9_next 71 = .ok (.getfield 254, 3) := dk_180_ (show cX9_next.data.toList[71]? = some 0xb4 from (LBX9_nextr_4 7).trans (by decide +kernel)) (show cX9_next.data.toList[72]? = some 0x00 from (LBX9_nextr_4 8).trans (by decide +kernel)) (show cX9_next.data.toList[73]? = some 0xfe from (LBX9_nextr_4 9).trans (by decide +kernel)) (by decide)
theorem dX9_next_74 : decode cX9_next 74 = .ok (.iconst 1, 1) := dk_4_ (show cX9_next.data.toList[74]? = some 0x04 from (LBX9_nextr_4 10).trans (by decide +kernel))
theorem dX9_next_75 : decode cX9_next 75 = .ok (.iadd, 1) := dk_96_ (show cX9_next.data.toList[75]? = some 0x60 from (LBX9_nextr_4 11).trans (by decide +kernel))
theorem dX9_next_76 : decode cX9_next 76 = .ok (.goto 7, 3) := dk_167_ (show cX9_next.data.toList[76]? = some 0xa7 from (LBX9_nextr_4 12).trans (by decide +kernel)) (show cX9_next.data.toList[77]? = some 0x00 from (LBX9_nextr_4 13).trans (by decide +kernel)) (show cX9_next.data.toList[78]? = some 0x07 from (LBX9_nextr_4 14).trans (by decide +kernel)) (by decide)
theorem dX9_next_79 : decode cX9_next 79 = .ok (.aload_n 0, 1) := dk_42_ (show cX9_next.data.toList[79]? = some 0x2a from (LBX9_nextr_4 15).trans (by decide +kernel))
theorem dX9_next_80 : decode cX9_next 80 = .ok (.getfield 254, 3) := dk_180_ (show cX9_next.data.toList[80]? = some 0xb4 from (LBX9_nextr_5 0).trans (by decide +kernel)) (show cX9_next.data.toList[81]? = some 0x00 from (LBX9_nextr_5 1).trans (by decide +kernel)) (show cX9_next.data.toList[82]? = some 0xfe from (LBX9_nextr_5 2).trans (by decide +kernel)) (by decide)
theorem dX9_next_83 : decode cX9_next 83 = .ok (.putfield 251, 3) := dk_181_ (show cX9_next.data.toList[83]? = some 0xb5 from (LBX9_nextr_5 3).trans (by decide +kernel)) (show cX9_next.data.toList[84]? = some 0x00 from (LBX9_nextr_5 4).trans (by decide +kernel)) (show cX9_next.data.toList[85]? = some 0xfb from (LBX9_nextr_5 5).trans (by decide +kernel)) (by decide)
theorem dX9_next_86 : decode cX9_next 86 = .ok (.iload_n 1, 1) := dk_27_ (show cX9_next.data.toList[86]? = some 0x1b from (LBX9_nextr_5 6).trans (by decide +kernel))
theorem dX9_next_87 : decode cX9_next 87 = .ok (.ifCond .eq 17, 3) := dk_153_ (show cX9_next.data.toList[87]? = some 0x99 from (LBX9_nextr_5 7).trans (by decide +kernel)) (show cX9_next.data.toList[88]? = some 0x00 from (LBX9_nextr_5 8).trans (by decide +kernel)) (show cX9_next.data.toList[89]? = some 0x11 from (LBX9_nextr_5 9).trans (by decide +kernel)) (by decide)
theorem dX9_next_90 : decode cX9_next 90 = .ok (.aload_n 0, 1) := dk_42_ (show cX9_next.data.toList[90]? = some 0x2a from (LBX9_nextr_5 10).trans (by decide +kernel))
theorem dX9_next_91 : decode cX9_next 91 = .ok (.aload_n 0, 1) := dk_42_ (show cX9_next.data.toList[91]? = some 0x2a from (LBX9_nextr_5 11).trans (by decide +kernel))
theorem dX9_next_92 : decode cX9_next 92 = .ok (.getfield 251, 3) := dk_180_ (show cX9_next.data.toList[92]? = some 0xb4 from (LBX9_nextr_5 12).trans (by decide +kernel)) (show cX9_next.data.toList[93]? = some 0x00 from (LBX9_nextr_5 13).trans (by decide +kernel)) (show cX9_next.data.toList[94]? = some 0xfb from (LBX9_nextr_5 14).trans (by decide +kernel)) (by decide)
theorem dX9_next_95 : decode cX9_next 95 = .ok (.invokevirtual 257, 3) := dk_182_ (show cX9_next.data.toList[95]? = some 0xb6 from (LBX9_nextr_5 15).trans (by decide +kernel)) (show cX9_next.data.toList[96]? = some 0x01 from (LBX9_nextr_6 0).trans (by decide +kernel)) (show cX9_next.data.toList[97]? = some 0x01 from (LBX9_nextr_6 1).trans (by decide +kernel)) (by decide)
theorem dX9_next_98 : decode cX9_next 98 = .ok (.invokestatic 260, 3) := dk_184_ (show cX9_next.data.toList[98]? = some 0xb8 from (LBX9_nextr_6 2).trans (by decide +kernel)) (show cX9_next.data.toList[99]? = some 0x01 from (LBX9_nextr_6 3).trans (by decide +kernel)) (show cX9_next.data.toList[100]? = some 0x04 from (LBX9_nextr_6 4).trans (by decide +kernel)) (by decide)
theorem dX9_next_101 : decode cX9_next 101 = .ok (.ifCond .ne 21, 3) := dk_154_ (show cX9_next.data.toList[101]? = some 0x9a from (LBX9_nextr_6 5).trans (by decide +kernel)) (show cX9_next.data.toList[102]? = some 0x00 from (LBX9_nextr_6 6).trans (by decide +kernel)) (show cX9_next.data.toList[103]? = some 0x15 from (LBX9_nextr_6 7).trans (by decide +kernel)) (by decide)
theorem dX9_next_104 : decode cX9_next 104 = .ok (.iload_n 2, 1) := dk_28_ (show cX9_next.data.toList[104]? = some 0x1c from (LBX9_nextr_6 8).trans (by decide +kernel))
theorem dX9_next_105 : decode cX9_next 105 = .ok (.ifCond .eq 30, 3) := dk_153_ (show cX9_next.data.toList[105]? = some 0x99 from (LBX9_nextr_6 9).trans (by decide +kernel)) (show cX9_next.data.toList[106]? = some 0x00 from (LBX9_nextr_6 10).trans (by decide +kernel)) (show cX9_next.data.toList[107]? = some 0x1e from (LBX9_nextr_6 11).trans (by decide +kernel)) (by decide)
theorem dX9_next_108 : decode cX9_next 108 = .ok (.aload_n 0, 1) := dk_42_ (show cX9_next.data.toList[108]? = some 0x2a from (LBX9_nextr_6 12).trans (by decide +kernel))
theorem dX9_next_109 : decode cX9_next 109 = .ok (.aload_n 0, 1) := dk_42_ (show cX9_next.data.toList[109]? = some 0x2a from (LBX9_nextr_6 13).trans (by decide +kernel))
theorem dX9_next_110 : decode cX9_next 110 = .ok (.getfield 251, 3) := dk_180_ (show cX9_next.data.toList[110]? = some 0xb4 from (LBX9_nextr_6 14).trans (by decide +kernel)) (show cX9_next.data.toList[111]? = some 0x00 from (LBX9_nextr_6 15).trans (by decide +kernel)) (show cX9_next.data.toList[112]? = some 0xfb from (LBX9_nextr_7 0).trans (by decide +kernel)) (by decide)
theorem dX9_next_113 : decode cX9_next 113 = .ok (.invokevirtual 257, 3) := dk_182_ (show cX9_next.data.toList[113]? = some 0xb6 from (LBX9_nextr_7 1).trans (by decide +kernel)) (show cX9_next.data.toList[114]? = some 0x01 from (LBX9_nextr_7 2).trans (by decide +kernel)) (show cX9_next.data.toList[115]? = some 0x01 from (LBX9_nextr_7 3).trans (by decide +kernel)) (by decide)
theorem dX9_next_116 : decode cX9_next 116 = .ok (.invokestatic 263, 3) := dk_184_ (show cX9_next.data.toList[116]? = some 0xb8 from (LBX9_nextr_7 4).trans (by decide +kernel)) (show cX9_next.data.toList[117]? = some 0x01 from (LBX9_nextr_7 5).trans (by decide +kernel)) (show cX9_next.data.toList[118]? = some 0x07 from (LBX9_nextr_7 6).trans (by decide +kernel)) (by decide)
theorem dX9_next_119 : decode cX9_next 119 = .ok (.ifCond .eq 16, 3) := dk_153_ (show cX9_next.data.toList[119]? = some 0x99 from (LBX9_nextr_7 7).trans (by decide +kernel)) (show cX9_next.data.toList[120]? = some 0x00 from (LBX9_nextr_7 8).trans (by decide +kernel)) (show cX9_next.data.toList[121]? = some 0x10 from (LBX9_nextr_7 9).trans (by decide +kernel)) (by decide)
theorem dX9_next_122 : decode cX9_next 122 = .ok (.aload_n 0, 1) := dk_42_ (show cX9_next.data.toList[122]? = some 0x2a from (LBX9_nextr_7 10).trans (by decide +kernel))
theorem dX9_next_123 : decode cX9_next 123 = .ok (.dup, 1) := dk_89_ (show cX9_next.data.toList[123]? = some 0x59 from (LBX9_nextr_7 11).trans (by decide +kernel))
theorem dX9_next_124 : decode cX9_next 124 = .ok (.getfield 251, 3) := dk_180_ (show cX9_next.data.toList[124]? = some 0xb4 from (LBX9_nextr_7 12).trans (by decide +kernel)) (show cX9_next.data.toList[125]? = some 0x00 from (LBX9_nextr_7 13).trans (by decide +kernel)) (show cX9_next.data.toList[126]? = some 0xfb from (LBX9_nextr_7 14).trans (by decide +kernel)) (by decide)
theorem dX9_next_127 : decode cX9_next 127 = .ok (.iconst 1, 1) := dk_4_ (show cX9_next.data.toList[127]? = some 0x04 from (LBX9_nextr_7 15).trans (by decide +kernel))
theorem dX9_next_128 : decode cX9_next 128 = .ok (.iadd, 1) := dk_96_ (show cX9_next.data.toList[128]? = some 0x60 from (LBX9_nextr_8 0).trans (by decide +kernel))
theorem dX9_next_129 : decode cX9_next 129 = .ok (.putfield 251, 3) := dk_181_ (show cX9_next.data.toList[129]? = some 0xb5 from (LBX9_nextr_8 1).trans (by decide +kernel)) (show cX9_next.data.toList[130]? = some 0x00 from (LBX9_nextr_8 2).trans (by decide +kernel)) (show cX9_next.data.toList[131]? = some 0xfb from (LBX9_nextr_8 3).trans (by decide +kernel)) (by decide)
theorem dX9_next_132 : decode cX9_next 132 = .ok (.goto (-46), 3) := dk_167_ (show cX9_next.data.toList[132]? = some 0xa7 from (LBX9_nextr_8 4).trans (by decide +kernel)) (show cX9_next.data.toList[133]? = some 0xff from (LBX9_nextr_8 5).trans (by decide +kernel)) (show cX9_next.data.toList[134]? = some 0xd2 from (LBX9_nextr_8 6).trans (by decide +kernel)) (by decide)
theorem dX9_next_135 : decode cX9_next 135 = .ok (.return_, 1) := dk_177_ (show cX9_next.data.toList[135]? = some 0xb1 from (LBX9_nextr_8 7).trans (by decide +kernel))
def LRX9_needs_2 : List UInt8 := []
def LBX9_needs_1 : List UInt8 := [0x03, 0xb5, 0x01, 0x0a, 0x2a, 0xb4, 0x01, 0x0a, 0x9a, 0x00, 0x07, 0x2a, 0xb6, 0x01, 0x0d, 0xb1]
def LRX9_needs_1 : List UInt8 := LBX9_needs_1 ++ LRX9_needs_2
def LBX9_needs_0 : List UInt8 := [0x2a, 0x2a, 0xb4, 0x01, 0x0a, 0x9a, 0x00, 0x07, 0x1b, 0x9a, 0x00, 0x07, 0x04, 0xa7, 0x00, 0x04]
def LRX9_needs_0 : List UInt8 := LBX9_needs_0 ++ LRX9_needs_1
set_option maxRecDepth 100000 in
theorem LBX9_needs_eq : cX9_needs.data.toList = LRX9_needs_0 := by decide +kernel
theorem LBX9_needsr_0 (k : Nat) : cX9_needs.data.toList[0 + k]? = LRX9_needs_0[k]? := by rw [LBX9_needs_eq, Nat.zero_add]
theorem LBX9_needsr_1 (k : Nat) : cX9_needs.data.toList[16 + k]? = LRX9_needs_1[k]? := by
  have h := LBX9_needsr_0 (16 + k)
  rw [show 0 + (16 + k) = 16 + k by omega] at h
  rw [h]
  exact (List.getElem?_append_right (l₁ := LBX9_needs_0) (l₂ := LRX9_needs_1) (show 16 ≤ 16 + k by omega)).trans (congrArg (fun i => LRX9_needs_1[i]?) (show 16 + k - 16 = k by omega))
theorem dX9_needs_0 : decode cX9_needs 0 = .ok (.aload_n 0, 1) := dk_42_ (show cX9_needs.data.toList[0]? = some 0x2a from (LBX9_needsr_0 0).trans (by decide +kernel))
theorem dX9_needs_1 : decode cX9_needs 1 = .ok (.aload_n 0, 1) := dk_42_ (show cX9_needs.data.toList[1]? = some 0x2a from (LBX9_needsr_0 1).trans (by decide +kernel))
theorem dX9_needs_2 : decode cX9_needs 2 = .ok (.getfield 266, 3) := dk_180_ (show cX9_needs.data.toList[2]? = some 0xb4 from (LBX9_needsr_0 2).trans (by decide +kernel)) (show cX9_needs.data.toList[3]? = some 0x01 from (LBX9_needsr_0 3).trans (by decide +kernel)) (show cX9_needs.data.toList[4]? = some 0x0a from (LBX9_needsr_0 4).trans (by decide +kernel)) (by decide)
theorem dX9_needs_5 : decode cX9_needs 5 = .ok (.ifCond .ne 7, 3) := dk_154_ (show cX9_needs.data.toList[5]? = some 0x9a from (LBX9_needsr_0 5).trans (by decide +kernel)) (show cX9_needs.data.toList[6]? = some 0x00 from (LBX9_needsr_0 6).trans (by decide +kernel)) (show cX9_needs.data.toList[7]? = some 0x07 from (LBX9_needsr_0 7).trans (by decide +kernel)) (by decide)
theorem dX9_needs_8 : decode cX9_needs 8 = .ok (.iload_n 1, 1) := dk_27_ (show cX9_needs.data.toList[8]? = some 0x1b from (LBX9_needsr_0 8).trans (by decide +kernel))
theorem dX9_needs_9 : decode cX9_needs 9 = .ok (.ifCond .ne 7, 3) := dk_154_ (show cX9_needs.data.toList[9]? = some 0x9a from (LBX9_needsr_0 9).trans (by decide +kernel)) (show cX9_needs.data.toList[10]? = some 0x00 from (LBX9_needsr_0 10).trans (by decide +kernel)) (show cX9_needs.data.toList[11]? = some 0x07 from (LBX9_needsr_0 11).trans (by decide +kernel)) (by decide)
theorem dX9_needs_12 : decode cX9_needs 12 = .ok (.iconst 1, 1) := dk_4_ (show cX9_needs.data.toList[12]? = some 0x04 from (LBX9_needsr_0 12).trans (by decide +kernel))
theorem dX9_needs_13 : decode cX9_needs 13 = .ok (.goto 4, 3) := dk_167_ (show cX9_needs.data.toList[13]? = some 0xa7 from (LBX9_needsr_0 13).trans (by decide +kernel)) (show cX9_needs.data.toList[14]? = some 0x00 from (LBX9_needsr_0 14).trans (by decide +kernel)) (show cX9_needs.data.toList[15]? = some 0x04 from (LBX9_needsr_0 15).trans (by decide +kernel)) (by decide)
theorem dX9_needs_16 : decode cX9_needs 16 = .ok (.iconst 0, 1) := dk_3_ (show cX9_needs.data.toList[16]? = some 0x03 from (LBX9_needsr_1 0).trans (by decide +kernel))
theorem dX9_needs_17 : decode cX9_needs 17 = .ok (.putfield 266, 3) := dk_181_ (show cX9_needs.data.toList[17]? = some 0xb5 from (LBX9_needsr_1 1).trans (by decide +kernel)) (show cX9_needs.data.toList[18]? = some 0x01 from (LBX9_needsr_1 2).trans (by decide +kernel)) (show cX9_needs.data.toList[19]? = some 0x0a from (LBX9_needsr_1 3).trans (by decide +kernel)) (by decide)
theorem dX9_needs_20 : decode cX9_needs 20 = .ok (.aload_n 0, 1) := dk_42_ (show cX9_needs.data.toList[20]? = some 0x2a from (LBX9_needsr_1 4).trans (by decide +kernel))
theorem dX9_needs_21 : decode cX9_needs 21 = .ok (.getfield 266, 3) := dk_180_ (show cX9_needs.data.toList[21]? = some 0xb4 from (LBX9_needsr_1 5).trans (by decide +kernel)) (show cX9_needs.data.toList[22]? = some 0x01 from (LBX9_needsr_1 6).trans (by decide +kernel)) (show cX9_needs.data.toList[23]? = some 0x0a from (LBX9_needsr_1 7).trans (by decide +kernel)) (by decide)
theorem dX9_needs_24 : decode cX9_needs 24 = .ok (.ifCond .ne 7, 3) := dk_154_ (show cX9_needs.data.toList[24]? = some 0x9a from (LBX9_needsr_1 8).trans (by decide +kernel)) (show cX9_needs.data.toList[25]? = some 0x00 from (LBX9_needsr_1 9).trans (by decide +kernel)) (show cX9_needs.data.toList[26]? = some 0x07 from (LBX9_needsr_1 10).trans (by decide +kernel)) (by decide)
theorem dX9_needs_27 : decode cX9_needs 27 = .ok (.aload_n 0, 1) := dk_42_ (show cX9_needs.data.toList[27]? = some 0x2a from (LBX9_needsr_1 11).trans (by decide +kernel))
theorem dX9_needs_28 : decode cX9_needs 28 = .ok (.invokevirtual 269, 3) := dk_182_ (show cX9_needs.data.toList[28]? = some 0xb6 from (LBX9_needsr_1 12).trans (by decide +kernel)) (show cX9_needs.data.toList[29]? = some 0x01 from (LBX9_needsr_1 13).trans (by decide +kernel)) (show cX9_needs.data.toList[30]? = some 0x0d from (LBX9_needsr_1 14).trans (by decide +kernel)) (by decide)
theorem dX9_needs_31 : decode cX9_needs 31 = .ok (.return_, 1) := dk_177_ (show cX9_needs.data.toList[31]? = some 0xb1 from (LBX9_needsr_1 15).trans (by decide +kernel))
def LRX9_isAt_2 : List UInt8 := []
def LBX9_isAt_1 : List UInt8 := [0x00, 0x07, 0x04, 0xa7, 0x00, 0x04, 0x03, 0xac]
def LRX9_isAt_1 : List UInt8 := LBX9_isAt_1 ++ LRX9_isAt_2
def LBX9_isAt_0 : List UInt8 := [0x1c, 0x99, 0x00, 0x11, 0x2a, 0x2a, 0xb4, 0x00, 0xfe, 0x1b, 0x60, 0xb6, 0x01, 0x01, 0x1c, 0xa0]
def LRX9_isAt_0 : List UInt8 := LBX9_isAt_0 ++ LRX9_isAt_1
set_option maxRecDepth 100000 in
theorem LBX9_isAt_eq : cX9_isAt.data.toList = LRX9_isAt_0 := by decide +kernel
theorem LBX9_isAtr_0 (k : Nat) : cX9_isAt.data.toList[0 + k]? = LRX9_isAt_0[k]? := by rw [LBX9_isAt_eq, Nat.zero_add]
theorem LBX9_isAtr_1 (k : Nat) : cX9_isAt.data.toList[16 + k]? = LRX9_isAt_1[k]? := by
  have h := LBX9_isAtr_0 (16 + k)
  rw [show 0 + (16 + k) = 16 + k by omega] at h
  rw [h]
  exact (List.getElem?_append_right (l₁ := LBX9_isAt_0) (l₂ := LRX9_isAt_1) (show 16 ≤ 16 + k by omega)).trans (congrArg (fun i => LRX9_isAt_1[i]?) (show 16 + k - 16 = k by omega))
theorem dX9_isAt_0 : decode cX9_isAt 0 = .ok (.iload_n 2, 1) := dk_28_ (show cX9_isAt.data.toList[0]? = some 0x1c from (LBX9_isAtr_0 0).trans (by decide +kernel))
theorem dX9_isAt_1 : decode cX9_isAt 1 = .ok (.ifCond .eq 17, 3) := dk_153_ (show cX9_isAt.data.toList[1]? = some 0x99 from (LBX9_isAtr_0 1).trans (by decide +kernel)) (show cX9_isAt.data.toList[2]? = some 0x00 from (LBX9_isAtr_0 2).trans (by decide +kernel)) (show cX9_isAt.data.toList[3]? = some 0x11 from (LBX9_isAtr_0 3).trans (by decide +kernel)) (by decide)
theorem dX9_isAt_4 : decode cX9_isAt 4 = .ok (.aload_n 0, 1) := dk_42_ (show cX9_isAt.data.toList[4]? = some 0x2a from (LBX9_isAtr_0 4).trans (by decide +kernel))
theorem dX9_isAt_5 : decode cX9_isAt 5 = .ok (.aload_n 0, 1) := dk_42_ (show cX9_isAt.data.toList[5]? = some 0x2a from (LBX9_isAtr_0 5).trans (by decide +kernel))
theorem dX9_isAt_6 : decode cX9_isAt 6 = .ok (.getfield 254, 3) := dk_180_ (show cX9_isAt.data.toList[6]? = some 0xb4 from (LBX9_isAtr_0 6).trans (by decide +kernel)) (show cX9_isAt.data.toList[7]? = some 0x00 from (LBX9_isAtr_0 7).trans (by decide +kernel)) (show cX9_isAt.data.toList[8]? = some 0xfe from (LBX9_isAtr_0 8).trans (by decide +kernel)) (by decide)
theorem dX9_isAt_9 : decode cX9_isAt 9 = .ok (.iload_n 1, 1) := dk_27_ (show cX9_isAt.data.toList[9]? = some 0x1b from (LBX9_isAtr_0 9).trans (by decide +kernel))
theorem dX9_isAt_10 : decode cX9_isAt 10 = .ok (.iadd, 1) := dk_96_ (show cX9_isAt.data.toList[10]? = some 0x60 from (LBX9_isAtr_0 10).trans (by decide +kernel))
theorem dX9_isAt_11 : decode cX9_isAt 11 = .ok (.invokevirtual 257, 3) := dk_182_ (show cX9_isAt.data.toList[11]? = some 0xb6 from (LBX9_isAtr_0 11).trans (by decide +kernel)) (show cX9_isAt.data.toList[12]? = some 0x01 from (LBX9_isAtr_0 12).trans (by decide +kernel)) (show cX9_isAt.data.toList[13]? = some 0x01 from (LBX9_isAtr_0 13).trans (by decide +kernel)) (by decide)
theorem dX9_isAt_14 : decode cX9_isAt 14 = .ok (.iload_n 2, 1) := dk_28_ (show cX9_isAt.data.toList[14]? = some 0x1c from (LBX9_isAtr_0 14).trans (by decide +kernel))
theorem dX9_isAt_15 : decode cX9_isAt 15 = .ok (.if_icmp .ne 7, 3) := dk_160_ (show cX9_isAt.data.toList[15]? = some 0xa0 from (LBX9_isAtr_0 15).trans (by decide +kernel)) (show cX9_isAt.data.toList[16]? = some 0x00 from (LBX9_isAtr_1 0).trans (by decide +kernel)) (show cX9_isAt.data.toList[17]? = some 0x07 from (LBX9_isAtr_1 1).trans (by decide +kernel)) (by decide)
theorem dX9_isAt_18 : decode cX9_isAt 18 = .ok (.iconst 1, 1) := dk_4_ (show cX9_isAt.data.toList[18]? = some 0x04 from (LBX9_isAtr_1 2).trans (by decide +kernel))
theorem dX9_isAt_19 : decode cX9_isAt 19 = .ok (.goto 4, 3) := dk_167_ (show cX9_isAt.data.toList[19]? = some 0xa7 from (LBX9_isAtr_1 3).trans (by decide +kernel)) (show cX9_isAt.data.toList[20]? = some 0x00 from (LBX9_isAtr_1 4).trans (by decide +kernel)) (show cX9_isAt.data.toList[21]? = some 0x04 from (LBX9_isAtr_1 5).trans (by decide +kernel)) (by decide)
theorem dX9_isAt_22 : decode cX9_isAt 22 = .ok (.iconst 0, 1) := dk_3_ (show cX9_isAt.data.toList[22]? = some 0x03 from (LBX9_isAtr_1 6).trans (by decide +kernel))
theorem dX9_isAt_23 : decode cX9_isAt 23 = .ok (.ireturn, 1) := dk_172_ (show cX9_isAt.data.toList[23]? = some 0xac from (LBX9_isAtr_1 7).trans (by decide +kernel))
def LRX9_isWord_9 : List UInt8 := []
def LBX9_isWord_8 : List UInt8 := [0x10, 0x06, 0x15, 0x07, 0xb6, 0x01, 0x10, 0x99, 0x00, 0x07, 0x04, 0xa7, 0x00, 0x04, 0x03, 0xac]
def LRX9_isWord_8 : List UInt8 := LBX9_isWord_8 ++ LRX9_isWord_9
def LBX9_isWord_7 : List UInt8 := [0x01, 0x10, 0x99, 0x00, 0x1c, 0x2a, 0x08, 0x15, 0x06, 0xb6, 0x01, 0x10, 0x99, 0x00, 0x12, 0x2a]
def LRX9_isWord_7 : List UInt8 := LBX9_isWord_7 ++ LRX9_isWord_8
def LBX9_isWord_6 : List UInt8 := [0x30, 0x2a, 0x06, 0x15, 0x04, 0xb6, 0x01, 0x10, 0x99, 0x00, 0x26, 0x2a, 0x07, 0x15, 0x05, 0xb6]
def LRX9_isWord_6 : List UInt8 := LBX9_isWord_6 ++ LRX9_isWord_7
def LBX9_isWord_5 : List UInt8 := [0x04, 0x1c, 0xb6, 0x01, 0x10, 0x99, 0x00, 0x39, 0x2a, 0x05, 0x1d, 0xb6, 0x01, 0x10, 0x99, 0x00]
def LRX9_isWord_5 : List UInt8 := LBX9_isWord_5 ++ LRX9_isWord_6
def LBX9_isWord_4 : List UInt8 := [0x64, 0x15, 0x08, 0xa0, 0x00, 0x4b, 0x2a, 0x03, 0x1b, 0xb6, 0x01, 0x10, 0x99, 0x00, 0x42, 0x2a]
def LRX9_isWord_4 : List UInt8 := LBX9_isWord_4 ++ LRX9_isWord_5
def LBX9_isWord_3 : List UInt8 := [0x08, 0x2a, 0xb4, 0x01, 0x0a, 0x9a, 0x00, 0x59, 0x2a, 0xb4, 0x00, 0xfb, 0x2a, 0xb4, 0x00, 0xfe]
def LRX9_isWord_3 : List UInt8 := LBX9_isWord_3 ++ LRX9_isWord_4
def LBX9_isWord_2 : List UInt8 := [0xa7, 0x00, 0x0f, 0x15, 0x07, 0x9a, 0x00, 0x08, 0x10, 0x06, 0xa7, 0x00, 0x05, 0x10, 0x07, 0x36]
def LRX9_isWord_2 : List UInt8 := LBX9_isWord_2 ++ LRX9_isWord_3
def LBX9_isWord_1 : List UInt8 := [0x21, 0x15, 0x05, 0x9a, 0x00, 0x07, 0x07, 0xa7, 0x00, 0x18, 0x15, 0x06, 0x9a, 0x00, 0x07, 0x08]
def LRX9_isWord_1 : List UInt8 := LBX9_isWord_1 ++ LRX9_isWord_2
def LBX9_isWord_0 : List UInt8 := [0x1d, 0x9a, 0x00, 0x07, 0x05, 0xa7, 0x00, 0x2a, 0x15, 0x04, 0x9a, 0x00, 0x07, 0x06, 0xa7, 0x00]
def LRX9_isWord_0 : List UInt8 := LBX9_isWord_0 ++ LRX9_isWord_1
set_option maxRecDepth 100000 in
theorem LBX9_isWord_eq : cX9_isWord.data.toList = LRX9_isWord_0 := by decide +kernel
theorem LBX9_isWordr_0 (k : Nat) : cX9_isWord.data.toList[0 + k]? = LRX9_isWord_0[k]? := by rw [LBX9_isWord_eq, Nat.zero_add]
theorem LBX9_isWordr_1 (k : Nat) : cX9_isWord.data.toList[16 + k]? = LRX9_isWord_1[k]? := by
  have h := LBX9_isWordr_0 (16 + k)
  rw [show 0 + (16 + k) = 16 + k by omega] at h
  rw [h]
  exact (List.getElem?_append_right (l₁ := LBX9_isWord_0) (l₂ := LRX9_isWord_1) (show 16 ≤ 16 + k by omega)).trans (congrArg (fun i => LRX9_isWord_1[i]?) (show 16 + k - 16 = k by omega))
theorem LBX9_isWordr_2 (k : Nat) : cX9_isWord.data.toList[32 + k]? = LRX9_isWord_2[k]? := by
  have h := LBX9_isWordr_1 (16 + k)
  rw [show 16 + (16 + k) = 32 + k by omega] at h
  rw [h]
  exact (List.getElem?_append_right (l₁ := LBX9_isWord_1) (l₂ := LRX9_isWord_2) (show 16 ≤ 16 + k by omega)).trans (congrArg (fun i => LRX9_isWord_2[i]?) (show 16 + k - 16 = k by omega))
theorem LBX9_isWordr_3 (k : Nat) : cX9_isWord.data.toList[48 + k]? = LRX9_isWord_3[k]? := by
  have h := LBX9_isWordr_2 (16 + k)
  rw [show 32 + (16 + k) = 48 + k by omega] at h
  rw [h]
  exact (List.getElem?_append_right (l₁ := LBX9_isWord_2) (l₂ := LRX9_isWord_3) (show 16 ≤ 16 + k by omega)).trans (congrArg (fun i => LRX9_isWord_3[i]?) (show 16 + k - 16 = k by omega))
theorem LBX9_isWordr_4 (k : Nat) : cX9_isWord.data.toList[64 + k]? = LRX9_isWord_4[k]? := by
  have h := LBX9_isWordr_3 (16 + k)
  rw [show 48 + (16 + k) = 64 + k by omega] at h
  rw [h]
  exact (List.getElem?_append_right (l₁ := LBX9_isWord_3) (l₂ := LRX9_isWord_4) (show 16 ≤ 16 + k by omega)).trans (congrArg (fun i => LRX9_isWord_4[i]?) (show 16 + k - 16 = k by omega))
theorem LBX9_isWordr_5 (k : Nat) : cX9_isWord.data.toList[80 + k]? = LRX9_isWord_5[k]? := by
  have h := LBX9_isWordr_4 (16 + k)
  rw [show 64 + (16 + k) = 80 + k by omega] at h
  rw [h]
  exact (List.getElem?_append_right (l₁ := LBX9_isWord_4) (l₂ := LRX9_isWord_5) (show 16 ≤ 16 + k by omega)).trans (congrArg (fun i => LRX9_isWord_5[i]?) (show 16 + k - 16 = k by omega))
theorem LBX9_isWordr_6 (k : Nat) : cX9_isWord.data.toList[96 + k]? = LRX9_isWord_6[k]? := by
  have h := LBX9_isWordr_5 (16 + k)
  rw [show 80 + (16 + k) = 96 + k by omega] at h
  rw [h]
  exact (List.getElem?_append_right (l₁ := LBX9_isWord_5) (l₂ := LRX9_isWord_6) (show 16 ≤ 16 + k by omega)).trans (congrArg (fun i => LRX9_isWord_6[i]?) (show 16 + k - 16 = k by omega))
theorem LBX9_isWordr_7 (k : Nat) : cX9_isWord.data.toList[112 + k]? = LRX9_isWord_7[k]? := by
  have h := LBX9_isWordr_6 (16 + k)
  rw [show 96 + (16 + k) = 112 + k by omega] at h
  rw [h]
  exact (List.getElem?_append_right (l₁ := LBX9_isWord_6) (l₂ := LRX9_isWord_7) (show 16 ≤ 16 + k by omega)).trans (congrArg (fun i => LRX9_isWord_7[i]?) (show 16 + k - 16 = k by omega))
theorem LBX9_isWordr_8 (k : Nat) : cX9_isWord.data.toList[128 + k]? = LRX9_isWord_8[k]? := by
  have h := LBX9_isWordr_7 (16 + k)
  rw [show 112 + (16 + k) = 128 + k by omega] at h
  rw [h]
  exact (List.getElem?_append_right (l₁ := LBX9_isWord_7) (l₂ := LRX9_isWord_8) (show 16 ≤ 16 + k by omega)).trans (congrArg (fun i => LRX9_isWord_8[i]?) (show 16 + k - 16 = k by omega))
theorem dX9_isWord_0 : decode cX9_isWord 0 = .ok (.iload_n 3, 1) := dk_29_ (show cX9_isWord.data.toList[0]? = some 0x1d from (LBX9_isWordr_0 0).trans (by decide +kernel))
theorem dX9_isWord_1 : decode cX9_isWord 1 = .ok (.ifCond .ne 7, 3) := dk_154_ (show cX9_isWord.data.toList[1]? = some 0x9a from (LBX9_isWordr_0 1).trans (by decide +kernel)) (show cX9_isWord.data.toList[2]? = some 0x00 from (LBX9_isWordr_0 2).trans (by decide +kernel)) (show cX9_isWord.data.toList[3]? = some 0x07 from (LBX9_isWordr_0 3).trans (by decide +kernel)) (by decide)
theorem dX9_isWord_4 : decode cX9_isWord 4 = .ok (.iconst 2, 1) := dk_5_ (show cX9_isWord.data.toList[4]? = some 0x05 from (LBX9_isWordr_0 4).trans (by decide +kernel))
theorem dX9_isWord_5 : decode cX9_isWord 5 = .ok (.goto 42, 3) := dk_167_ (show cX9_isWord.data.toList[5]? = some 0xa7 from (LBX9_isWordr_0 5).trans (by decide +kernel)) (show cX9_isWord.data.toList[6]? = some 0x00 from (LBX9_isWordr_0 6).trans (by decide +kernel)) (show cX9_isWord.data.toList[7]? = some 0x2a from (LBX9_isWordr_0 7).trans (by decide +kernel)) (by decide)
theorem dX9_isWord_8 : decode cX9_isWord 8 = .ok (.iload 4, 2) := dk_21_ (show cX9_isWord.data.toList[8]? = some 0x15 from (LBX9_isWordr_0 8).trans (by decide +kernel)) (show cX9_isWord.data.toList[9]? = some 0x04 from (LBX9_isWordr_0 9).trans (by decide +kernel)) (by decide)
theorem dX9_isWord_10 : decode cX9_isWord 10 = .ok (.ifCond .ne 7, 3) := dk_154_ (show cX9_isWord.data.toList[10]? = some 0x9a from (LBX9_isWordr_0 10).trans (by decide +kernel)) (show cX9_isWord.data.toList[11]? = some 0x00 from (LBX9_isWordr_0 11).trans (by decide +kernel)) (show cX9_isWord.data.toList[12]? = some 0x07 from (LBX9_isWordr_0 12).trans (by decide +kernel)) (by decide)
theorem dX9_isWord_13 : decode cX9_isWord 13 = .ok (.iconst 3, 1) := dk_6_ (show cX9_isWord.data.toList[13]? = some 0x06 from (LBX9_isWordr_0 13).trans (by decide +kernel))
theorem dX9_isWord_14 : decode cX9_isWord 14 = .ok (.goto 33, 3) := dk_167_ (show cX9_isWord.data.toList[14]? = some 0xa7 from (LBX9_isWordr_0 14).trans (by decide +kernel)) (show cX9_isWord.data.toList[15]? = some 0x00 from (LBX9_isWordr_0 15).trans (by decide +kernel)) (show cX9_isWord.data.toList[16]? = some 0x21 from (LBX9_isWordr_1 0).trans (by decide +kernel)) (by decide)
theorem dX9_isWord_17 : decode cX9_isWord 17 = .ok (.iload 5, 2) := dk_21_ (show cX9_isWord.data.toList[17]? = some 0x15 from (LBX9_isWordr_1 1).trans (by decide +kernel)) (show cX9_isWord.data.toList[18]? = some 0x05 from (LBX9_isWordr_1 2).trans (by decide +kernel)) (by decide)
theorem dX9_isWord_19 : decode cX9_isWord 19 = .ok (.ifCond .ne 7, 3) := dk_154_ (show cX9_isWord.data.toList[19]? = some 0x9a from (LBX9_isWordr_1 3).trans (by decide +kernel)) (show cX9_isWord.data.toList[20]? = some 0x00 from (LBX9_isWordr_1 4).trans (by decide +kernel)) (show cX9_isWord.data.toList[21]? = some 0x07 from (LBX9_isWordr_1 5).trans (by decide +kernel)) (by decide)
theorem dX9_isWord_22 : decode cX9_isWord 22 = .ok (.iconst 4, 1) := dk_7_ (show cX9_isWord.data.toList[22]? = some 0x07 from (LBX9_isWordr_1 6).trans (by decide +kernel))
theorem dX9_isWord_23 : decode cX9_isWord 23 = .ok (.goto 24, 3) := dk_167_ (show cX9_isWord.data.toList[23]? = some 0xa7 from (LBX9_isWordr_1 7).trans (by decide +kernel)) (show cX9_isWord.data.toList[24]? = some 0x00 from (LBX9_isWordr_1 8).trans (by decide +kernel)) (show cX9_isWord.data.toList[25]? = some 0x18 from (LBX9_isWordr_1 9).trans (by decide +kernel)) (by decide)
theorem dX9_isWord_26 : decode cX9_isWord 26 = .ok (.iload 6, 2) := dk_21_ (show cX9_isWord.data.toList[26]? = some 0x15 from (LBX9_isWordr_1 10).trans (by decide +kernel)) (show cX9_isWord.data.toList[27]? = some 0x06 from (LBX9_isWordr_1 11).trans (by decide +kernel)) (by decide)
theorem dX9_isWord_28 : decode cX9_isWord 28 = .ok (.ifCond .ne 7, 3) := dk_154_ (show cX9_isWord.data.toList[28]? = some 0x9a from (LBX9_isWordr_1 12).trans (by decide +kernel)) (show cX9_isWord.data.toList[29]? = some 0x00 from (LBX9_isWordr_1 13).trans (by decide +kernel)) (show cX9_isWord.data.toList[30]? = some 0x07 from (LBX9_isWordr_1 14).trans (by decide +kernel)) (by decide)
theorem dX9_isWord_31 : decode cX9_isWord 31 = .ok (.iconst 5, 1) := dk_8_ (show cX9_isWord.data.toList[31]? = some 0x08 from (LBX9_isWordr_1 15).trans (by decide +kernel))
theorem dX9_isWord_32 : decode cX9_isWord 32 = .ok (.goto 15, 3) := dk_167_ (show cX9_isWord.data.toList[32]? = some 0xa7 from (LBX9_isWordr_2 0).trans (by decide +kernel)) (show cX9_isWord.data.toList[33]? = some 0x00 from (LBX9_isWordr_2 1).trans (by decide +kernel)) (show cX9_isWord.data.toList[34]? = some 0x0f from (LBX9_isWordr_2 2).trans (by decide +kernel)) (by decide)
theorem dX9_isWord_35 : decode cX9_isWord 35 = .ok (.iload 7, 2) := dk_21_ (show cX9_isWord.data.toList[35]? = some 0x15 from (LBX9_isWordr_2 3).trans (by decide +kernel)) (show cX9_isWord.data.toList[36]? = some 0x07 from (LBX9_isWordr_2 4).trans (by decide +kernel)) (by decide)
theorem dX9_isWord_37 : decode cX9_isWord 37 = .ok (.ifCond .ne 8, 3) := dk_154_ (show cX9_isWord.data.toList[37]? = some 0x9a from (LBX9_isWordr_2 5).trans (by decide +kernel)) (show cX9_isWord.data.toList[38]? = some 0x00 from (LBX9_isWordr_2 6).trans (by decide +kernel)) (show cX9_isWord.data.toList[39]? = some 0x08 from (LBX9_isWordr_2 7).trans (by decide +kernel)) (by decide)
theorem dX9_isWord_40 : decode cX9_isWord 40 = .ok (.bipush 6, 2) := dk_16_ (show cX9_isWord.data.toList[40]? = some 0x10 from (LBX9_isWordr_2 8).trans (by decide +kernel)) (show cX9_isWord.data.toList[41]? = some 0x06 from (LBX9_isWordr_2 9).trans (by decide +kernel)) (by decide)
theorem dX9_isWord_42 : decode cX9_isWord 42 = .ok (.goto 5, 3) := dk_167_ (show cX9_isWord.data.toList[42]? = some 0xa7 from (LBX9_isWordr_2 10).trans (by decide +kernel)) (show cX9_isWord.data.toList[43]? = some 0x00 from (LBX9_isWordr_2 11).trans (by decide +kernel)) (show cX9_isWord.data.toList[44]? = some 0x05 from (LBX9_isWordr_2 12).trans (by decide +kernel)) (by decide)
theorem dX9_isWord_45 : decode cX9_isWord 45 = .ok (.bipush 7, 2) := dk_16_ (show cX9_isWord.data.toList[45]? = some 0x10 from (LBX9_isWordr_2 13).trans (by decide +kernel)) (show cX9_isWord.data.toList[46]? = some 0x07 from (LBX9_isWordr_2 14).trans (by decide +kernel)) (by decide)
theorem dX9_isWord_47 : decode cX9_isWord 47 = .ok (.istore 8, 2) := dk_54_ (show cX9_isWord.data.toList[47]? = some 0x36 from (LBX9_isWordr_2 15).trans (by decide +kernel)) (show cX9_isWord.data.toList[48]? = some 0x08 from (LBX9_isWordr_3 0).trans (by decide +kernel)) (by decide)
theorem dX9_isWord_49 : decode cX9_isWord 49 = .ok (.aload_n 0, 1) := dk_42_ (show cX9_isWord.data.toList[49]? = some 0x2a from (LBX9_isWordr_3 1).trans (by decide +kernel))
theorem dX9_isWord_50 : decode cX9_isWord 50 = .ok (.getfield 266, 3) := dk_180_ (show cX9_isWord.data.toList[50]? = some 0xb4 from (LBX9_isWordr_3 2).trans (by decide +kernel)) (show cX9_isWord.data.toList[51]? = some 0x01 from (LBX9_isWordr_3 3).trans (by decide +kernel)) (show cX9_isWord.data.toList[52]? = some 0x0a from (LBX9_isWordr_3 4).trans (by decide +kernel)) (by decide)
theorem dX9_isWord_53 : decode cX9_isWord 53 = .ok (.ifCond .ne 89, 3) := dk_154_ (show cX9_isWord.data.toList[53]? = some 0x9a from (LBX9_isWordr_3 5).trans (by decide +kernel)) (show cX9_isWord.data.toList[54]? = some 0x00 from (LBX9_isWordr_3 6).trans (by decide +kernel)) (show cX9_isWord.data.toList[55]? = some 0x59 from (LBX9_isWordr_3 7).trans (by decide +kernel)) (by decide)
theorem dX9_isWord_56 : decode cX9_isWord 56 = .ok (.aload_n 0, 1) := dk_42_ (show cX9_isWord.data.toList[56]? = some 0x2a from (LBX9_isWordr_3 8).trans (by decide +kernel))
theorem dX9_isWord_57 : decode cX9_isWord 57 = .ok (.getfield 251, 3) := dk_180_ (show cX9_isWord.data.toList[57]? = some 0xb4 from (LBX9_isWordr_3 9).trans (by decide +kernel)) (show cX9_isWord.data.toList[58]? = some 0x00 from (LBX9_isWordr_3 10).trans (by decide +kernel)) (show cX9_isWord.data.toList[59]? = some 0xfb from (LBX9_isWordr_3 11).trans (by decide +kernel)) (by decide)
theorem dX9_isWord_60 : decode cX9_isWord 60 = .ok (.aload_n 0, 1) := dk_42_ (show cX9_isWord.data.toList[60]? = some 0x2a from (LBX9_isWordr_3 12).trans (by decide +kernel))
theorem dX9_isWord_61 : decode cX9_isWord 61 = .ok (.getfield 254, 3) := dk_180_ (show cX9_isWord.data.toList[61]? = some 0xb4 from (LBX9_isWordr_3 13).trans (by decide +kernel)) (show cX9_isWord.data.toList[62]? = some 0x00 from (LBX9_isWordr_3 14).trans (by decide +kernel)) (show cX9_isWord.data.toList[63]? = some 0xfe from (LBX9_isWordr_3 15).trans (by decide +kernel)) (by decide)
theorem dX9_isWord_64 : decode cX9_isWord 64 = .ok (.isub, 1) := dk_100_ (show cX9_isWord.data.toList[64]? = some 0x64 from (LBX9_isWordr_4 0).trans (by decide +kernel))
theorem dX9_isWord_65 : decode cX9_isWord 65 = .ok (.iload 8, 2) := dk_21_ (show cX9_isWord.data.toList[65]? = some 0x15 from (LBX9_isWordr_4 1).trans (by decide +kernel)) (show cX9_isWord.data.toList[66]? = some 0x08 from (LBX9_isWordr_4 2).trans (by decide +kernel)) (by decide)
theorem dX9_isWord_67 : decode cX9_isWord 67 = .ok (.if_icmp .ne 75, 3) := dk_160_ (show cX9_isWord.data.toList[67]? = some 0xa0 from (LBX9_isWordr_4 3).trans (by decide +kernel)) (show cX9_isWord.data.toList[68]? = some 0x00 from (LBX9_isWordr_4 4).trans (by decide +kernel)) (show cX9_isWord.data.toList[69]? = some 0x4b from (LBX9_isWordr_4 5).trans (by decide +kernel)) (by decide)
theorem dX9_isWord_70 : decode cX9_isWord 70 = .ok (.aload_n 0, 1) := dk_42_ (show cX9_isWord.data.toList[70]? = some 0x2a from (LBX9_isWordr_4 6).trans (by decide +kernel))
theorem dX9_isWord_71 : decode cX9_isWord 71 = .ok (.iconst 0, 1) := dk_3_ (show cX9_isWord.data.toList[71]? = some 0x03 from (LBX9_isWordr_4 7).trans (by decide +kernel))
theorem dX9_isWord_72 : decode cX9_isWord 72 = .ok (.iload_n 1, 1) := dk_27_ (show cX9_isWord.data.toList[72]? = some 0x1b from (LBX9_isWordr_4 8).trans (by decide +kernel))
theorem dX9_isWord_73 : decode cX9_isWord 73 = .ok (.invokevirtual 272, 3) := dk_182_ (show cX9_isWord.data.toList[73]? = some 0xb6 from (LBX9_isWordr_4 9).trans (by decide +kernel)) (show cX9_isWord.data.toList[74]? = some 0x01 from (LBX9_isWordr_4 10).trans (by decide +kernel)) (show cX9_isWord.data.toList[75]? = some 0x10 from (LBX9_isWordr_4 11).trans (by decide +kernel)) (by decide)
theorem dX9_isWord_76 : decode cX9_isWord 76 = .ok (.ifCond .eq 66, 3) := dk_153_ (show cX9_isWord.data.toList[76]? = some 0x99 from (LBX9_isWordr_4 12).trans (by decide +kernel)) (show cX9_isWord.data.toList[77]? = some 0x00 from (LBX9_isWordr_4 13).trans (by decide +kernel)) (show cX9_isWord.data.toList[78]? = some 0x42 from (LBX9_isWordr_4 14).trans (by decide +kernel)) (by decide)
theorem dX9_isWord_79 : decode cX9_isWord 79 = .ok (.aload_n 0, 1) := dk_42_ (show cX9_isWord.data.toList[79]? = some 0x2a from (LBX9_isWordr_4 15).trans (by decide +kernel))
theorem dX9_isWord_80 : decode cX9_isWord 80 = .ok (.iconst 1, 1) := dk_4_ (show cX9_isWord.data.toList[80]? = some 0x04 from (LBX9_isWordr_5 0).trans (by decide +kernel))
theorem dX9_isWord_81 : decode cX9_isWord 81 = .ok (.iload_n 2, 1) := dk_28_ (show cX9_isWord.data.toList[81]? = some 0x1c from (LBX9_isWordr_5 1).trans (by decide +kernel))
theorem dX9_isWord_82 : decode cX9_isWord 82 = .ok (.invokevirtual 272, 3) := dk_182_ (show cX9_isWord.data.toList[82]? = some 0xb6 from (LBX9_isWordr_5 2).trans (by decide +kernel)) (show cX9_isWord.data.toList[83]? = some 0x01 from (LBX9_isWordr_5 3).trans (by decide +kernel)) (show cX9_isWord.data.toList[84]? = some 0x10 from (LBX9_isWordr_5 4).trans (by decide +kernel)) (by decide)
theorem dX9_isWord_85 : decode cX9_isWord 85 = .ok (.ifCond .eq 57, 3) := dk_153_ (show cX9_isWord.data.toList[85]? = some 0x99 from (LBX9_isWordr_5 5).trans (by decide +kernel)) (show cX9_isWord.data.toList[86]? = some 0x00 from (LBX9_isWordr_5 6).trans (by decide +kernel)) (show cX9_isWord.data.toList[87]? = some 0x39 from (LBX9_isWordr_5 7).trans (by decide +kernel)) (by decide)
theorem dX9_isWord_88 : decode cX9_isWord 88 = .ok (.aload_n 0, 1) := dk_42_ (show cX9_isWord.data.toList[88]? = some 0x2a from (LBX9_isWordr_5 8).trans (by decide +kernel))
theorem dX9_isWord_89 : decode cX9_isWord 89 = .ok (.iconst 2, 1) := dk_5_ (show cX9_isWord.data.toList[89]? = some 0x05 from (LBX9_isWordr_5 9).trans (by decide +kernel))
theorem dX9_isWord_90 : decode cX9_isWord 90 = .ok (.iload_n 3, 1) := dk_29_ (show cX9_isWord.data.toList[90]? = some 0x1d from (LBX9_isWordr_5 10).trans (by decide +kernel))
theorem dX9_isWord_91 : decode cX9_isWord 91 = .ok (.invokevirtual 272, 3) := dk_182_ (show cX9_isWord.data.toList[91]? = some 0xb6 from (LBX9_isWordr_5 11).trans (by decide +kernel)) (show cX9_isWord.data.toList[92]? = some 0x01 from (LBX9_isWordr_5 12).trans (by decide +kernel)) (show cX9_isWord.data.toList[93]? = some 0x10 from (LBX9_isWordr_5 13).trans (by decide +kernel)) (by decide)
theorem dX9_isWord_94 : decode cX9_isWord 94 = .ok (.ifCond .eq 48, 3) := dk_153_ (show cX9_isWord.data.toList[94]? = some 0x99 from (LBX9_isWordr_5 14).trans (by decide +kernel)) (show cX9_isWord.data.toList[95]? = some 0x00 from (LBX9_isWordr_5 15).trans (by decide +kernel)) (show cX9_isWord.data.toList[96]? = some 0x30 from (LBX9_isWordr_6 0).trans (by decide +kernel)) (by decide)
theorem dX9_isWord_97 : decode cX9_isWord 97 = .ok (.aload_n 0, 1) := dk_42_ (show cX9_isWord.data.toList[97]? = some 0x2a from (LBX9_isWordr_6 1).trans (by decide +kernel))
theorem dX9_isWord_98 : decode cX9_isWord 98 = .ok (.iconst 3, 1) := dk_6_ (show cX9_isWord.data.toList[98]? = some 0x06 from (LBX9_isWordr_6 2).trans (by decide +kernel))
theorem dX9_isWord_99 : decode cX9_isWord 99 = .ok (.iload 4, 2) := dk_21_ (show cX9_isWord.data.toList[99]? = some 0x15 from (LBX9_isWordr_6 3).trans (by decide +kernel)) (show cX9_isWord.data.toList[100]? = some 0x04 from (LBX9_isWordr_6 4).trans (by decide +kernel)) (by decide)
theorem dX9_isWord_101 : decode cX9_isWord 101 = .ok (.invokevirtual 272, 3) := dk_182_ (show cX9_isWord.data.toList[101]? = some 0xb6 from (LBX9_isWordr_6 5).trans (by decide +kernel)) (show cX9_isWord.data.toList[102]? = some 0x01 from (LBX9_isWordr_6 6).trans (by decide +kernel)) (show cX9_isWord.data.toList[103]? = some 0x10 from (LBX9_isWordr_6 7).trans (by decide +kernel)) (by decide)
theorem dX9_isWord_104 : decode cX9_isWord 104 = .ok (.ifCond .eq 38, 3) := dk_153_ (show cX9_isWord.data.toList[104]? = some 0x99 from (LBX9_isWordr_6 8).trans (by decide +kernel)) (show cX9_isWord.data.toList[105]? = some 0x00 from (LBX9_isWordr_6 9).trans (by decide +kernel)) (show cX9_isWord.data.toList[106]? = some 0x26 from (LBX9_isWordr_6 10).trans (by decide +kernel)) (by decide)
theorem dX9_isWord_107 : decode cX9_isWord 107 = .ok (.aload_n 0, 1) := dk_42_ (show cX9_isWord.data.toList[107]? = some 0x2a from (LBX9_isWordr_6 11).trans (by decide +kernel))
theorem dX9_isWord_108 : decode cX9_isWord 108 = .ok (.iconst 4, 1) := dk_7_ (show cX9_isWord.data.toList[108]? = some 0x07 from (LBX9_isWordr_6 12).trans (by decide +kernel))
theorem dX9_isWord_109 : decode cX9_isWord 109 = .ok (.iload 5, 2) := dk_21_ (show cX9_isWord.data.toList[109]? = some 0x15 from (LBX9_isWordr_6 13).trans (by decide +kernel)) (show cX9_isWord.data.toList[110]? = some 0x05 from (LBX9_isWordr_6 14).trans (by decide +kernel)) (by decide)
theorem dX9_isWord_111 : decode cX9_isWord 111 = .ok (.invokevirtual 272, 3) := dk_182_ (show cX9_isWord.data.toList[111]? = some 0xb6 from (LBX9_isWordr_6 15).trans (by decide +kernel)) (show cX9_isWord.data.toList[112]? = some 0x01 from (LBX9_isWordr_7 0).trans (by decide +kernel)) (show cX9_isWord.data.toList[113]? = some 0x10 from (LBX9_isWordr_7 1).trans (by decide +kernel)) (by decide)
theorem dX9_isWord_114 : decode cX9_isWord 114 = .ok (.ifCond .eq 28, 3) := dk_153_ (show cX9_isWord.data.toList[114]? = some 0x99 from (LBX9_isWordr_7 2).trans (by decide +kernel)) (show cX9_isWord.data.toList[115]? = some 0x00 from (LBX9_isWordr_7 3).trans (by decide +kernel)) (show cX9_isWord.data.toList[116]? = some 0x1c from (LBX9_isWordr_7 4).trans (by decide +kernel)) (by decide)
theorem dX9_isWord_117 : decode cX9_isWord 117 = .ok (.aload_n 0, 1) := dk_42_ (show cX9_isWord.data.toList[117]? = some 0x2a from (LBX9_isWordr_7 5).trans (by decide +kernel))
theorem dX9_isWord_118 : decode cX9_isWord 118 = .ok (.iconst 5, 1) := dk_8_ (show cX9_isWord.data.toList[118]? = some 0x08 from (LBX9_isWordr_7 6).trans (by decide +kernel))
theorem dX9_isWord_119 : decode cX9_isWord 119 = .ok (.iload 6, 2) := dk_21_ (show cX9_isWord.data.toList[119]? = some 0x15 from (LBX9_isWordr_7 7).trans (by decide +kernel)) (show cX9_isWord.data.toList[120]? = some 0x06 from (LBX9_isWordr_7 8).trans (by decide +kernel)) (by decide)
theorem dX9_isWord_121 : decode cX9_isWord 121 = .ok (.invokevirtual 272, 3) := dk_182_ (show cX9_isWord.data.toList[121]? = some 0xb6 from (LBX9_isWordr_7 9).trans (by decide +kernel)) (show cX9_isWord.data.toList[122]? = some 0x01 from (LBX9_isWordr_7 10).trans (by decide +kernel)) (show cX9_isWord.data.toList[123]? = some 0x10 from (LBX9_isWordr_7 11).trans (by decide +kernel)) (by decide)
theorem dX9_isWord_124 : decode cX9_isWord 124 = .ok (.ifCond .eq 18, 3) := dk_153_ (show cX9_isWord.data.toList[124]? = some 0x99 from (LBX9_isWordr_7 12).trans (by decide +kernel)) (show cX9_isWord.data.toList[125]? = some 0x00 from (LBX9_isWordr_7 13).trans (by decide +kernel)) (show cX9_isWord.data.toList[126]? = some 0x12 from (LBX9_isWordr_7 14).trans (by decide +kernel)) (by decide)
theorem dX9_isWord_127 : decode cX9_isWord 127 = .ok (.aload_n 0, 1) := dk_42_ (show cX9_isWord.data.toList[127]? = some 0x2a from (LBX9_isWordr_7 15).trans (by decide +kernel))
theorem dX9_isWord_128 : decode cX9_isWord 128 = .ok (.bipush 6, 2) := dk_16_ (show cX9_isWord.data.toList[128]? = some 0x10 from (LBX9_isWordr_8 0).trans (by decide +kernel)) (show cX9_isWord.data.toList[129]? = some 0x06 from (LBX9_isWordr_8 1).trans (by decide +kernel)) (by decide)
theorem dX9_isWord_130 : decode cX9_isWord 130 = .ok (.iload 7, 2) := dk_21_ (show cX9_isWord.data.toList[130]? = some 0x15 from (LBX9_isWordr_8 2).trans (by decide +kernel)) (show cX9_isWord.data.toList[131]? = some 0x07 from (LBX9_isWordr_8 3).trans (by decide +kernel)) (by decide)
theorem dX9_isWord_132 : decode cX9_isWord 132 = .ok (.invokevirtual 272, 3) := dk_182_ (show cX9_isWord.data.toList[132]? = some 0xb6 from (LBX9_isWordr_8 4).trans (by decide +kernel)) (show cX9_isWord.data.toList[133]? = some 0x01 from (LBX9_isWordr_8 5).trans (by decide +kernel)) (show cX9_isWord.data.toList[134]? = some 0x10 from (LBX9_isWordr_8 6).trans (by decide +kernel)) (by decide)
theorem dX9_isWord_135 : decode cX9_isWord 135 = .ok (.ifCond .eq 7, 3) := dk_153_ (show cX9_isWord.data.toList[135]? = some 0x99 from (LBX9_isWordr_8 7).trans (by decide +kernel)) (show cX9_isWord.data.toList[136]? = some 0x00 from (LBX9_isWordr_8 8).trans (by decide +kernel)) (show cX9_isWord.data.toList[137]? = some 0x07 from (LBX9_isWordr_8 9).trans (by decide +kernel)) (by decide)
theorem dX9_isWord_138 : decode cX9_isWord 138 = .ok (.iconst 1, 1) := dk_4_ (show cX9_isWord.data.toList[138]? = some 0x04 from (LBX9_isWordr_8 10).trans (by decide +kernel))
theorem dX9_isWord_139 : decode cX9_isWord 139 = .ok (.goto 4, 3) := dk_167_ (show cX9_isWord.data.toList[139]? = some 0xa7 from (LBX9_isWordr_8 11).trans (by decide +kernel)) (show cX9_isWord.data.toList[140]? = some 0x00 from (LBX9_isWordr_8 12).trans (by decide +kernel)) (show cX9_isWord.data.toList[141]? = some 0x04 from (LBX9_isWordr_8 13).trans (by decide +kernel)) (by decide)
theorem dX9_isWord_142 : decode cX9_isWord 142 = .ok (.iconst 0, 1) := dk_3_ (show cX9_isWord.data.toList[142]? = some 0x03 from (LBX9_isWordr_8 14).trans (by decide +kernel))
theorem dX9_isWord_143 : decode cX9_isWord 143 = .ok (.ireturn, 1) := dk_172_ (show cX9_isWord.data.toList[143]? = some 0xac from (LBX9_isWordr_8 15).trans (by decide +kernel))
def LRX9_number_7 : List UInt8 := []
def LBX9_number_6 : List UInt8 := [0x85, 0xb8, 0x00, 0x39, 0x99, 0x00, 0x07, 0x04, 0xa7, 0x00, 0x04, 0x03, 0xb6, 0x01, 0x16, 0xb1]
def LRX9_number_6 : List UInt8 := LBX9_number_6 ++ LRX9_number_7
def LBX9_number_5 : List UInt8 := [0x15, 0x04, 0xb5, 0x01, 0x13, 0x2a, 0x1d, 0x99, 0x00, 0x14, 0x15, 0x04, 0x85, 0x1b, 0x85, 0x1c]
def LRX9_number_5 : List UInt8 := LBX9_number_5 ++ LRX9_number_6
def LBX9_number_4 : List UInt8 := [0x15, 0x05, 0x2e, 0x60, 0x10, 0x30, 0x64, 0x36, 0x04, 0x84, 0x05, 0x01, 0xa7, 0xff, 0xd1, 0x2a]
def LRX9_number_4 : List UInt8 := LBX9_number_4 ++ LRX9_number_5
def LBX9_number_3 : List UInt8 := [0x00, 0x08, 0x15, 0x04, 0xa7, 0x00, 0x13, 0x10, 0x0a, 0x15, 0x04, 0x68, 0x2a, 0xb4, 0x00, 0x25]
def LRX9_number_3 : List UInt8 := LBX9_number_3 ++ LRX9_number_4
def LBX9_number_2 : List UInt8 := [0xb4, 0x00, 0xfb, 0xa2, 0x00, 0x2c, 0x1d, 0x99, 0x00, 0x28, 0x15, 0x04, 0x11, 0x27, 0x0f, 0xa4]
def LRX9_number_2 : List UInt8 := LBX9_number_2 ++ LRX9_number_3
def LBX9_number_1 : List UInt8 := [0xb8, 0x01, 0x07, 0x3e, 0x03, 0x36, 0x04, 0x2a, 0xb4, 0x00, 0xfe, 0x36, 0x05, 0x15, 0x05, 0x2a]
def LRX9_number_1 : List UInt8 := LBX9_number_1 ++ LRX9_number_2
def LBX9_number_0 : List UInt8 := [0x2a, 0xb4, 0x01, 0x0a, 0x99, 0x00, 0x04, 0xb1, 0x2a, 0x2a, 0xb4, 0x00, 0xfe, 0xb6, 0x01, 0x01]
def LRX9_number_0 : List UInt8 := LBX9_number_0 ++ LRX9_number_1
set_option maxRecDepth 100000 in
theorem LBX9_number_eq : cX9_number.data.toList = LRX9_number_0 := by decide +kernel
theorem LBX9_numberr_0 (k : Nat) : cX9_number.data.toList[0 + k]? = LRX9_number_0[k]? := by rw [LBX9_number_eq, Nat.zero_add]
theorem LBX9_numberr_1 (k : Nat) : cX9_number.data.toList[16 + k]? = LRX9_number_1[k]? := by
  have h := LBX9_numberr_0 (16 + k)
  rw [show 0 + (16 + k) = 16 + k by omega] at h
  rw [h]
  exact (List.getElem?_append_right (l₁ := LBX9_number_0) (l₂ := LRX9_number_1) (show 16 ≤ 16 + k by omega)).trans (congrArg (fun i => LRX9_number_1[i]?) (show 16 + k - 16 = k by omega))
theorem LBX9_numberr_2 (k : Nat) : cX9_number.data.toList[32 + k]? = LRX9_number_2[k]? := by
  have h := LBX9_numberr_1 (16 + k)
  rw [show 16 + (16 + k) = 32 + k by omega] at h
  rw [h]
  exact (List.getElem?_append_right (l₁ := LBX9_number_1) (l₂ := LRX9_number_2) (show 16 ≤ 16 + k by omega)).trans (congrArg (fun i => LRX9_number_2[i]?) (show 16 + k - 16 = k by omega))
theorem LBX9_numberr_3 (k : Nat) : cX9_number.data.toList[48 + k]? = LRX9_number_3[k]? := by
  have h := LBX9_numberr_2 (16 + k)
  rw [show 32 + (16 + k) = 48 + k by omega] at h
  rw [h]
  exact (List.getElem?_append_right (l₁ := LBX9_number_2) (l₂ := LRX9_number_3) (show 16 ≤ 16 + k by omega)).trans (congrArg (fun i => LRX9_number_3[i]?) (show 16 + k - 16 = k by omega))
theorem LBX9_numberr_4 (k : Nat) : cX9_number.data.toList[64 + k]? = LRX9_number_4[k]? := by
  have h := LBX9_numberr_3 (16 + k)
  rw [show 48 + (16 + k) = 64 + k by omega] at h
  rw [h]
  exact (List.getElem?_append_right (l₁ := LBX9_number_3) (l₂ := LRX9_number_4) (show 16 ≤ 16 + k by omega)).trans (congrArg (fun i => LRX9_number_4[i]?) (show 16 + k - 16 = k by omega))
theorem LBX9_numberr_5 (k : Nat) : cX9_number.data.toList[80 + k]? = LRX9_number_5[k]? := by
  have h := LBX9_numberr_4 (16 + k)
  rw [show 64 + (16 + k) = 80 + k by omega] at h
  rw [h]
  exact (List.getElem?_append_right (l₁ := LBX9_number_4) (l₂ := LRX9_number_5) (show 16 ≤ 16 + k by omega)).trans (congrArg (fun i => LRX9_number_5[i]?) (show 16 + k - 16 = k by omega))
theorem LBX9_numberr_6 (k : Nat) : cX9_number.data.toList[96 + k]? = LRX9_number_6[k]? := by
  have h := LBX9_numberr_5 (16 + k)
  rw [show 80 + (16 + k) = 96 + k by omega] at h
  rw [h]
  exact (List.getElem?_append_right (l₁ := LBX9_number_5) (l₂ := LRX9_number_6) (show 16 ≤ 16 + k by omega)).trans (congrArg (fun i => LRX9_number_6[i]?) (show 16 + k - 16 = k by omega))
theorem dX9_number_0 : decode cX9_number 0 = .ok (.aload_n 0, 1) := dk_42_ (show cX9_number.data.toList[0]? = some 0x2a from (LBX9_numberr_0 0).trans (by decide +kernel))
theorem dX9_number_1 : decode cX9_number 1 = .ok (.getfield 266, 3) := dk_180_ (show cX9_number.data.toList[1]? = some 0xb4 from (LBX9_numberr_0 1).trans (by decide +kernel)) (show cX9_number.data.toList[2]? = some 0x01 from (LBX9_numberr_0 2).trans (by decide +kernel)) (show cX9_number.data.toList[3]? = some 0x0a from (LBX9_numberr_0 3).trans (by decide +kernel)) (by decide)
theorem dX9_number_4 : decode cX9_number 4 = .ok (.ifCond .eq 4, 3) := dk_153_ (show cX9_number.data.toList[4]? = some 0x99 from (LBX9_numberr_0 4).trans (by decide +kernel)) (show cX9_number.data.toList[5]? = some 0x00 from (LBX9_numberr_0 5).trans (by decide +kernel)) (show cX9_number.data.toList[6]? = some 0x04 from (LBX9_numberr_0 6).trans (by decide +kernel)) (by decide)
theorem dX9_number_7 : decode cX9_number 7 = .ok (.return_, 1) := dk_177_ (show cX9_number.data.toList[7]? = some 0xb1 from (LBX9_numberr_0 7).trans (by decide +kernel))
theorem dX9_number_8 : decode cX9_number 8 = .ok (.aload_n 0, 1) := dk_42_ (show cX9_number.data.toList[8]? = some 0x2a from (LBX9_numberr_0 8).trans (by decide +kernel))
theorem dX9_number_9 : decode cX9_number 9 = .ok (.aload_n 0, 1) := dk_42_ (show cX9_number.data.toList[9]? = some 0x2a from (LBX9_numberr_0 9).trans (by decide +kernel))
theorem dX9_number_10 : decode cX9_number 10 = .ok (.getfield 254, 3) := dk_180_ (show cX9_number.data.toList[10]? = some 0xb4 from (LBX9_numberr_0 10).trans (by decide +kernel)) (show cX9_number.data.toList[11]? = some 0x00 from (LBX9_numberr_0 11).trans (by decide +kernel)) (show cX9_number.data.toList[12]? = some 0xfe from (LBX9_numberr_0 12).trans (by decide +kernel)) (by decide)
theorem dX9_number_13 : decode cX9_number 13 = .ok (.invokevirtual 257, 3) := dk_182_ (show cX9_number.data.toList[13]? = some 0xb6 from (LBX9_numberr_0 13).trans (by decide +kernel)) (show cX9_number.data.toList[14]? = some 0x01 from (LBX9_numberr_0 14).trans (by decide +kernel)) (show cX9_number.data.toList[15]? = some 0x01 from (LBX9_numberr_0 15).trans (by decide +kernel)) (by decide)
theorem dX9_number_16 : decode cX9_number 16 = .ok (.invokestatic 263, 3) := dk_184_ (show cX9_number.data.toList[16]? = some 0xb8 from (LBX9_numberr_1 0).trans (by decide +kernel)) (show cX9_number.data.toList[17]? = some 0x01 from (LBX9_numberr_1 1).trans (by decide +kernel)) (show cX9_number.data.toList[18]? = some 0x07 from (LBX9_numberr_1 2).trans (by decide +kernel)) (by decide)
theorem dX9_number_19 : decode cX9_number 19 = .ok (.istore_n 3, 1) := dk_62_ (show cX9_number.data.toList[19]? = some 0x3e from (LBX9_numberr_1 3).trans (by decide +kernel))
theorem dX9_number_20 : decode cX9_number 20 = .ok (.iconst 0, 1) := dk_3_ (show cX9_number.data.toList[20]? = some 0x03 from (LBX9_numberr_1 4).trans (by decide +kernel))
theorem dX9_number_21 : decode cX9_number 21 = .ok (.istore 4, 2) := dk_54_ (show cX9_number.data.toList[21]? = some 0x36 from (LBX9_numberr_1 5).trans (by decide +kernel)) (show cX9_number.data.toList[22]? = some 0x04 from (LBX9_numberr_1 6).trans (by decide +kernel)) (by decide)
theorem dX9_number_23 : decode cX9_number 23 = .ok (.aload_n 0, 1) := dk_42_ (show cX9_number.data.toList[23]? = some 0x2a from (LBX9_numberr_1 7).trans (by decide +kernel))
theorem dX9_number_24 : decode cX9_number 24 = .ok (.getfield 254, 3) := dk_180_ (show cX9_number.data.toList[24]? = some 0xb4 from (LBX9_numberr_1 8).trans (by decide +kernel)) (show cX9_number.data.toList[25]? = some 0x00 from (LBX9_numberr_1 9).trans (by decide +kernel)) (show cX9_number.data.toList[26]? = some 0xfe from (LBX9_numberr_1 10).trans (by decide +kernel)) (by decide)
theorem dX9_number_27 : decode cX9_number 27 = .ok (.istore 5, 2) := dk_54_ (show cX9_number.data.toList[27]? = some 0x36 from (LBX9_numberr_1 11).trans (by decide +kernel)) (show cX9_number.data.toList[28]? = some 0x05 from (LBX9_numberr_1 12).trans (by decide +kernel)) (by decide)
theorem dX9_number_29 : decode cX9_number 29 = .ok (.iload 5, 2) := dk_21_ (show cX9_number.data.toList[29]? = some 0x15 from (LBX9_numberr_1 13).trans (by decide +kernel)) (show cX9_number.data.toList[30]? = some 0x05 from (LBX9_numberr_1 14).trans (by decide +kernel)) (by decide)
theorem dX9_number_31 : decode cX9_number 31 = .ok (.aload_n 0, 1) := dk_42_ (show cX9_number.data.toList[31]? = some 0x2a from (LBX9_numberr_1 15).trans (by decide +kernel))
theorem dX9_number_32 : decode cX9_number 32 = .ok (.getfield 251, 3) := dk_180_ (show cX9_number.data.toList[32]? = some 0xb4 from (LBX9_numberr_2 0).trans (by decide +kernel)) (show cX9_number.data.toList[33]? = some 0x00 from (LBX9_numberr_2 1).trans (by decide +kernel)) (show cX9_number.data.toList[34]? = some 0xfb from (LBX9_numberr_2 2).trans (by decide +kernel)) (by decide)
theorem dX9_number_35 : decode cX9_number 35 = .ok (.if_icmp .ge 44, 3) := dk_162_ (show cX9_number.data.toList[35]? = some 0xa2 from (LBX9_numberr_2 3).trans (by decide +kernel)) (show cX9_number.data.toList[36]? = some 0x00 from (LBX9_numberr_2 4).trans (by decide +kernel)) (show cX9_number.data.toList[37]? = some 0x2c from (LBX9_numberr_2 5).trans (by decide +kernel)) (by decide)
theorem dX9_number_38 : decode cX9_number 38 = .ok (.iload_n 3, 1) := dk_29_ (show cX9_number.data.toList[38]? = some 0x1d from (LBX9_numberr_2 6).trans (by decide +kernel))
theorem dX9_number_39 : decode cX9_number 39 = .ok (.ifCond .eq 40, 3) := dk_153_ (show cX9_number.data.toList[39]? = some 0x99 from (LBX9_numberr_2 7).trans (by decide +kernel)) (show cX9_number.data.toList[40]? = some 0x00 from (LBX9_numberr_2 8).trans (by decide +kernel)) (show cX9_number.data.toList[41]? = some 0x28 from (LBX9_numberr_2 9).trans (by decide +kernel)) (by decide)
theorem dX9_number_42 : decode cX9_number 42 = .ok (.iload 4, 2) := dk_21_ (show cX9_number.data.toList[42]? = some 0x15 from (LBX9_numberr_2 10).trans (by decide +kernel)) (show cX9_number.data.toList[43]? = some 0x04 from (LBX9_numberr_2 11).trans (by decide +kernel)) (by decide)
theorem dX9_number_44 : decode cX9_number 44 = .ok (.sipush 9999, 3) := dk_17_ (show cX9_number.data.toList[44]? = some 0x11 from (LBX9_numberr_2 12).trans (by decide +kernel)) (show cX9_number.data.toList[45]? = some 0x27 from (LBX9_numberr_2 13).trans (by decide +kernel)) (show cX9_number.data.toList[46]? = some 0x0f from (LBX9_numberr_2 14).trans (by decide +kernel)) (by decide)
theorem dX9_number_47 : decode cX9_number 47 = .ok (.if_icmp .le 8, 3) := dk_164_ (show cX9_number.data.toList[47]? = some 0xa4 from (LBX9_numberr_2 15).trans (by decide +kernel)) (show cX9_number.data.toList[48]? = some 0x00 from (LBX9_numberr_3 0).trans (by decide +kernel)) (show cX9_number.data.toList[49]? = some 0x08 from (LBX9_numberr_3 1).trans (by decide +kernel)) (by decide)
theorem dX9_number_50 : decode cX9_number 50 = .ok (.iload 4, 2) := dk_21_ (show cX9_number.data.toList[50]? = some 0x15 from (LBX9_numberr_3 2).trans (by decide +kernel)) (show cX9_number.data.toList[51]? = some 0x04 from (LBX9_numberr_3 3).trans (by decide +kernel)) (by decide)
theorem dX9_number_52 : decode cX9_number 52 = .ok (.goto 19, 3) := dk_167_ (show cX9_number.data.toList[52]? = some 0xa7 from (LBX9_numberr_3 4).trans (by decide +kernel)) (show cX9_number.data.toList[53]? = some 0x00 from (LBX9_numberr_3 5).trans (by decide +kernel)) (show cX9_number.data.toList[54]? = some 0x13 from (LBX9_numberr_3 6).trans (by decide +kernel)) (by decide)
theorem dX9_number_55 : decode cX9_number 55 = .ok (.bipush 10, 2) := dk_16_ (show cX9_number.data.toList[55]? = some 0x10 from (LBX9_numberr_3 7).trans (by decide +kernel)) (show cX9_number.data.toList[56]? = some 0x0a from (LBX9_numberr_3 8).trans (by decide +kernel)) (by decide)
theorem dX9_number_57 : decode cX9_number 57 = .ok (.iload 4, 2) := dk_21_ (show cX9_number.data.toList[57]? = some 0x15 from (LBX9_numberr_3 9).trans (by decide +kernel)) (show cX9_number.data.toList[58]? = some 0x04 from (LBX9_numberr_3 10).trans (by decide +kernel)) (by decide)
theorem dX9_number_59 : decode cX9_number 59 = .ok (.imul, 1) := dk_104_ (show cX9_number.data.toList[59]? = some 0x68 from (LBX9_numberr_3 11).trans (by decide +kernel))
theorem dX9_number_60 : decode cX9_number 60 = .ok (.aload_n 0, 1) := dk_42_ (show cX9_number.data.toList[60]? = some 0x2a from (LBX9_numberr_3 12).trans (by decide +kernel))
theorem dX9_number_61 : decode cX9_number 61 = .ok (.getfield 37, 3) := dk_180_ (show cX9_number.data.toList[61]? = some 0xb4 from (LBX9_numberr_3 13).trans (by decide +kernel)) (show cX9_number.data.toList[62]? = some 0x00 from (LBX9_numberr_3 14).trans (by decide +kernel)) (show cX9_number.data.toList[63]? = some 0x25 from (LBX9_numberr_3 15).trans (by decide +kernel)) (by decide)
theorem dX9_number_64 : decode cX9_number 64 = .ok (.iload 5, 2) := dk_21_ (show cX9_number.data.toList[64]? = some 0x15 from (LBX9_numberr_4 0).trans (by decide +kernel)) (show cX9_number.data.toList[65]? = some 0x05 from (LBX9_numberr_4 1).trans (by decide +kernel)) (by decide)
theorem dX9_number_66 : decode cX9_number 66 = .ok (.iaload, 1) := dk_46_ (show cX9_number.data.toList[66]? = some 0x2e from (LBX9_numberr_4 2).trans (by decide +kernel))
theorem dX9_number_67 : decode cX9_number 67 = .ok (.iadd, 1) := dk_96_ (show cX9_number.data.toList[67]? = some 0x60 from (LBX9_numberr_4 3).trans (by decide +kernel))
theorem dX9_number_68 : decode cX9_number 68 = .ok (.bipush 48, 2) := dk_16_ (show cX9_number.data.toList[68]? = some 0x10 from (LBX9_numberr_4 4).trans (by decide +kernel)) (show cX9_number.data.toList[69]? = some 0x30 from (LBX9_numberr_4 5).trans (by decide +kernel)) (by decide)
theorem dX9_number_70 : decode cX9_number 70 = .ok (.isub, 1) := dk_100_ (show cX9_number.data.toList[70]? = some 0x64 from (LBX9_numberr_4 6).trans (by decide +kernel))
theorem dX9_number_71 : decode cX9_number 71 = .ok (.istore 4, 2) := dk_54_ (show cX9_number.data.toList[71]? = some 0x36 from (LBX9_numberr_4 7).trans (by decide +kernel)) (show cX9_number.data.toList[72]? = some 0x04 from (LBX9_numberr_4 8).trans (by decide +kernel)) (by decide)
theorem dX9_number_73 : decode cX9_number 73 = .ok (.iinc 5 1, 3) := dk_132_ (show cX9_number.data.toList[73]? = some 0x84 from (LBX9_numberr_4 9).trans (by decide +kernel)) (show cX9_number.data.toList[74]? = some 0x05 from (LBX9_numberr_4 10).trans (by decide +kernel)) (show cX9_number.data.toList[75]? = some 0x01 from (LBX9_numberr_4 11).trans (by decide +kernel)) (by decide) (by decide)
theorem dX9_number_76 : decode cX9_number 76 = .ok (.goto (-47), 3) := dk_167_ (show cX9_number.data.toList[76]? = some 0xa7 from (LBX9_numberr_4 12).trans (by decide +kernel)) (show cX9_number.data.toList[77]? = some 0xff from (LBX9_numberr_4 13).trans (by decide +kernel)) (show cX9_number.data.toList[78]? = some 0xd1 from (LBX9_numberr_4 14).trans (by decide +kernel)) (by decide)
theorem dX9_number_79 : decode cX9_number 79 = .ok (.aload_n 0, 1) := dk_42_ (show cX9_number.data.toList[79]? = some 0x2a from (LBX9_numberr_4 15).trans (by decide +kernel))
theorem dX9_number_80 : decode cX9_number 80 = .ok (.iload 4, 2) := dk_21_ (show cX9_number.data.toList[80]? = some 0x15 from (LBX9_numberr_5 0).trans (by decide +kernel)) (show cX9_number.data.toList[81]? = some 0x04 from (LBX9_numberr_5 1).trans (by decide +kernel)) (by decide)
theorem dX9_number_82 : decode cX9_number 82 = .ok (.putfield 275, 3) := dk_181_ (show cX9_number.data.toList[82]? = some 0xb5 from (LBX9_numberr_5 2).trans (by decide +kernel)) (show cX9_number.data.toList[83]? = some 0x01 from (LBX9_numberr_5 3).trans (by decide +kernel)) (show cX9_number.data.toList[84]? = some 0x13 from (LBX9_numberr_5 4).trans (by decide +kernel)) (by decide)
theorem dX9_number_85 : decode cX9_number 85 = .ok (.aload_n 0, 1) := dk_42_ (show cX9_number.data.toList[85]? = some 0x2a from (LBX9_numberr_5 5).trans (by decide +kernel))
theorem dX9_number_86 : decode cX9_number 86 = .ok (.iload_n 3, 1) := dk_29_ (show cX9_number.data.toList[86]? = some 0x1d from (LBX9_numberr_5 6).trans (by decide +kernel))
theorem dX9_number_87 : decode cX9_number 87 = .ok (.ifCond .eq 20, 3) := dk_153_ (show cX9_number.data.toList[87]? = some 0x99 from (LBX9_numberr_5 7).trans (by decide +kernel)) (show cX9_number.data.toList[88]? = some 0x00 from (LBX9_numberr_5 8).trans (by decide +kernel)) (show cX9_number.data.toList[89]? = some 0x14 from (LBX9_numberr_5 9).trans (by decide +kernel)) (by decide)
theorem dX9_number_90 : decode cX9_number 90 = .ok (.iload 4, 2) := dk_21_ (show cX9_number.data.toList[90]? = some 0x15 from (LBX9_numberr_5 10).trans (by decide +kernel)) (show cX9_number.data.toList[91]? = some 0x04 from (LBX9_numberr_5 11).trans (by decide +kernel)) (by decide)
theorem dX9_number_92 : decode cX9_number 92 = .ok (.i2l, 1) := dk_133_ (show cX9_number.data.toList[92]? = some 0x85 from (LBX9_numberr_5 12).trans (by decide +kernel))
theorem dX9_number_93 : decode cX9_number 93 = .ok (.iload_n 1, 1) := dk_27_ (show cX9_number.data.toList[93]? = some 0x1b from (LBX9_numberr_5 13).trans (by decide +kernel))
theorem dX9_number_94 : decode cX9_number 94 = .ok (.i2l, 1) := dk_133_ (show cX9_number.data.toList[94]? = some 0x85 from (LBX9_numberr_5 14).trans (by decide +kernel))
theorem dX9_number_95 : decode cX9_number 95 = .ok (.iload_n 2, 1) := dk_28_ (show cX9_number.data.toList[95]? = some 0x1c from (LBX9_numberr_5 15).trans (by decide +kernel))
theorem dX9_number_96 : decode cX9_number 96 = .ok (.i2l, 1) := dk_133_ (show cX9_number.data.toList[96]? = some 0x85 from (LBX9_numberr_6 0).trans (by decide +kernel))
theorem dX9_number_97 : decode cX9_number 97 = .ok (.invokestatic 57, 3) := dk_184_ (show cX9_number.data.toList[97]? = some 0xb8 from (LBX9_numberr_6 1).trans (by decide +kernel)) (show cX9_number.data.toList[98]? = some 0x00 from (LBX9_numberr_6 2).trans (by decide +kernel)) (show cX9_number.data.toList[99]? = some 0x39 from (LBX9_numberr_6 3).trans (by decide +kernel)) (by decide)
theorem dX9_number_100 : decode cX9_number 100 = .ok (.ifCond .eq 7, 3) := dk_153_ (show cX9_number.data.toList[100]? = some 0x99 from (LBX9_numberr_6 4).trans (by decide +kernel)) (show cX9_number.data.toList[101]? = some 0x00 from (LBX9_numberr_6 5).trans (by decide +kernel)) (show cX9_number.data.toList[102]? = some 0x07 from (LBX9_numberr_6 6).trans (by decide +kernel)) (by decide)
theorem dX9_number_103 : decode cX9_number 103 = .ok (.iconst 1, 1) := dk_4_ (show cX9_number.data.toList[103]? = some 0x04 from (LBX9_numberr_6 7).trans (by decide +kernel))
theorem dX9_number_104 : decode cX9_number 104 = .ok (.goto 4, 3) := dk_167_ (show cX9_number.data.toList[104]? = some 0xa7 from (LBX9_numberr_6 8).trans (by decide +kernel)) (show cX9_number.data.toList[105]? = some 0x00 from (LBX9_numberr_6 9).trans (by decide +kernel)) (show cX9_number.data.toList[106]? = some 0x04 from (LBX9_numberr_6 10).trans (by decide +kernel)) (by decide)
theorem dX9_number_107 : decode cX9_number 107 = .ok (.iconst 0, 1) := dk_3_ (show cX9_number.data.toList[107]? = some 0x03 from (LBX9_numberr_6 11).trans (by decide +kernel))
theorem dX9_number_108 : decode cX9_number 108 = .ok (.invokevirtual 278, 3) := dk_182_ (show cX9_number.data.toList[108]? = some 0xb6 from (LBX9_numberr_6 12).trans (by decide +kernel)) (show cX9_number.data.toList[109]? = some 0x01 from (LBX9_numberr_6 13).trans (by decide +kernel)) (show cX9_number.data.toList[110]? = some 0x16 from (LBX9_numberr_6 14).trans (by decide +kernel)) (by decide)
theorem dX9_number_111 : decode cX9_number 111 = .ok (.return_, 1) := dk_177_ (show cX9_number.data.toList[111]? = some 0xb1 from (LBX9_numberr_6 15).trans (by decide +kernel))
def LRX9_mile_7 : List UInt8 := []
def LBX9_mile_6 : List UInt8 := [0xa7, 0x00, 0x07, 0x2a, 0xb4, 0x01, 0x13, 0xb5, 0x01, 0x13, 0xb1]
def LRX9_mile_6 : List UInt8 := LBX9_mile_6 ++ LRX9_mile_7
def LBX9_mile_5 : List UInt8 := [0x04, 0x1c, 0xb6, 0x01, 0x1a, 0x2a, 0x1d, 0x99, 0x00, 0x0c, 0x03, 0x2a, 0xb4, 0x01, 0x13, 0x64]
def LRX9_mile_5 : List UInt8 := LBX9_mile_5 ++ LRX9_mile_6
def LBX9_mile_4 : List UInt8 := [0x99, 0x00, 0x11, 0x1b, 0x9e, 0x00, 0x07, 0x02, 0xa7, 0x00, 0x0a, 0x03, 0x1b, 0x64, 0xa7, 0x00]
def LRX9_mile_4 : List UInt8 := LBX9_mile_4 ++ LRX9_mile_5
def LBX9_mile_3 : List UInt8 := [0x00, 0x10, 0x03, 0xa7, 0x00, 0x0c, 0x1b, 0x9c, 0x00, 0x07, 0x03, 0xa7, 0x00, 0x04, 0x1b, 0x1d]
def LRX9_mile_3 : List UInt8 := LBX9_mile_3 ++ LRX9_mile_4
def LBX9_mile_2 : List UInt8 := [0xb6, 0x01, 0x16, 0x2a, 0x1d, 0x99, 0x00, 0x11, 0x1c, 0x9c, 0x00, 0x09, 0x03, 0x1c, 0x64, 0xa7]
def LRX9_mile_2 : List UInt8 := LBX9_mile_2 ++ LRX9_mile_3
def LBX9_mile_1 : List UInt8 := [0x2d, 0xa0, 0x00, 0x07, 0x04, 0xa7, 0x00, 0x04, 0x03, 0x3e, 0x1d, 0x99, 0x00, 0x08, 0x2a, 0x04]
def LRX9_mile_1 : List UInt8 := LBX9_mile_1 ++ LRX9_mile_2
def LBX9_mile_0 : List UInt8 := [0x2a, 0xb4, 0x01, 0x0a, 0x9a, 0x00, 0x14, 0x2a, 0x2a, 0xb4, 0x00, 0xfe, 0xb6, 0x01, 0x01, 0x10]
def LRX9_mile_0 : List UInt8 := LBX9_mile_0 ++ LRX9_mile_1
set_option maxRecDepth 100000 in
theorem LBX9_mile_eq : cX9_mile.data.toList = LRX9_mile_0 := by decide +kernel
theorem LBX9_miler_0 (k : Nat) : cX9_mile.data.toList[0 + k]? = LRX9_mile_0[k]? := by rw [LBX9_mile_eq, Nat.zero_add]
theorem LBX9_miler_1 (k : Nat) : cX9_mile.data.toList[16 + k]? = LRX9_mile_1[k]? := by
  have h := LBX9_miler_0 (16 + k)
  rw [show 0 + (16 + k) = 16 + k by omega] at h
  rw [h]
  exact (List.getElem?_append_right (l₁ := LBX9_mile_0) (l₂ := LRX9_mile_1) (show 16 ≤ 16 + k by omega)).trans (congrArg (fun i => LRX9_mile_1[i]?) (show 16 + k - 16 = k by omega))
theorem LBX9_miler_2 (k : Nat) : cX9_mile.data.toList[32 + k]? = LRX9_mile_2[k]? := by
  have h := LBX9_miler_1 (16 + k)
  rw [show 16 + (16 + k) = 32 + k by omega] at h
  rw [h]
  exact (List.getElem?_append_right (l₁ := LBX9_mile_1) (l₂ := LRX9_mile_2) (show 16 ≤ 16 + k by omega)).trans (congrArg (fun i => LRX9_mile_2[i]?) (show 16 + k - 16 = k by omega))
theorem LBX9_miler_3 (k : Nat) : cX9_mile.data.toList[48 + k]? = LRX9_mile_3[k]? := by
  have h := LBX9_miler_2 (16 + k)
  rw [show 32 + (16 + k) = 48 + k by omega] at h
  rw [h]
  exact (List.getElem?_append_right (l₁ := LBX9_mile_2) (l₂ := LRX9_mile_3) (show 16 ≤ 16 + k by omega)).trans (congrArg (fun i => LRX9_mile_3[i]?) (show 16 + k - 16 = k by omega))
theorem LBX9_miler_4 (k : Nat) : cX9_mile.data.toList[64 + k]? = LRX9_mile_4[k]? := by
  have h := LBX9_miler_3 (16 + k)
  rw [show 48 + (16 + k) = 64 + k by omega] at h
  rw [h]
  exact (List.getElem?_append_right (l₁ := LBX9_mile_3) (l₂ := LRX9_mile_4) (show 16 ≤ 16 + k by omega)).trans (congrArg (fun i => LRX9_mile_4[i]?) (show 16 + k - 16 = k by omega))
theorem LBX9_miler_5 (k : Nat) : cX9_mile.data.toList[80 + k]? = LRX9_mile_5[k]? := by
  have h := LBX9_miler_4 (16 + k)
  rw [show 64 + (16 + k) = 80 + k by omega] at h
  rw [h]
  exact (List.getElem?_append_right (l₁ := LBX9_mile_4) (l₂ := LRX9_mile_5) (show 16 ≤ 16 + k by omega)).trans (congrArg (fun i => LRX9_mile_5[i]?) (show 16 + k - 16 = k by omega))
theorem LBX9_miler_6 (k : Nat) : cX9_mile.data.toList[96 + k]? = LRX9_mile_6[k]? := by
  have h := LBX9_miler_5 (16 + k)
  rw [show 80 + (16 + k) = 96 + k by omega] at h
  rw [h]
  exact (List.getElem?_append_right (l₁ := LBX9_mile_5) (l₂ := LRX9_mile_6) (show 16 ≤ 16 + k by omega)).trans (congrArg (fun i => LRX9_mile_6[i]?) (show 16 + k - 16 = k by omega))
theorem dX9_mile_0 : decode cX9_mile 0 = .ok (.aload_n 0, 1) := dk_42_ (show cX9_mile.data.toList[0]? = some 0x2a from (LBX9_miler_0 0).trans (by decide +kernel))
theorem dX9_mile_1 : decode cX9_mile 1 = .ok (.getfield 266, 3) := dk_180_ (show cX9_mile.data.toList[1]? = some 0xb4 from (LBX9_miler_0 1).trans (by decide +kernel)) (show cX9_mile.data.toList[2]? = some 0x01 from (LBX9_miler_0 2).trans (by decide +kernel)) (show cX9_mile.data.toList[3]? = some 0x0a from (LBX9_miler_0 3).trans (by decide +kernel)) (by decide)
theorem dX9_mile_4 : decode cX9_mile 4 = .ok (.ifCond .ne 20, 3) := dk_154_ (show cX9_mile.data.toList[4]? = some 0x9a from (LBX9_miler_0 4).trans (by decide +kernel)) (show cX9_mile.data.toList[5]? = some 0x00 from (LBX9_miler_0 5).trans (by decide +kernel)) (show cX9_mile.data.toList[6]? = some 0x14 from (LBX9_miler_0 6).trans (by decide +kernel)) (by decide)
theorem dX9_mile_7 : decode cX9_mile 7 = .ok (.aload_n 0, 1) := dk_42_ (show cX9_mile.data.toList[7]? = some 0x2a from (LBX9_miler_0 7).trans (by decide +kernel))
theorem dX9_mile_8 : decode cX9_mile 8 = .ok (.aload_n 0, 1) := dk_42_ (show cX9_mile.data.toList[8]? = some 0x2a from (LBX9_miler_0 8).trans (by decide +kernel))
theorem dX9_mile_9 : decode cX9_mile 9 = .ok (.getfield 254, 3) := dk_180_ (show cX9_mile.data.toList[9]? = some 0xb4 from (LBX9_miler_0 9).trans (by decide +kernel)) (show cX9_mile.data.toList[10]? = some 0x00 from (LBX9_miler_0 10).trans (by decide +kernel)) (show cX9_mile.data.toList[11]? = some 0xfe from (LBX9_miler_0 11).trans (by decide +kernel)) (by decide)
theorem dX9_mile_12 : decode cX9_mile 12 = .ok (.invokevirtual 257, 3) := dk_182_ (show cX9_mile.data.toList[12]? = some 0xb6 from (LBX9_miler_0 12).trans (by decide +kernel)) (show cX9_mile.data.toList[13]? = some 0x01 from (LBX9_miler_0 13).trans (by decide +kernel)) (show cX9_mile.data.toList[14]? = some 0x01 from (LBX9_miler_0 14).trans (by decide +kernel)) (by decide)
theorem dX9_mile_15 : decode cX9_mile 15 = .ok (.bipush 45, 2) := dk_16_ (show cX9_mile.data.toList[15]? = some 0x10 from (LBX9_miler_0 15).trans (by decide +kernel)) (show cX9_mile.data.toList[16]? = some 0x2d from (LBX9_miler_1 0).trans (by decide +kernel)) (by decide)
theorem dX9_mile_17 : decode cX9_mile 17 = .ok (.if_icmp .ne 7, 3) := dk_160_ (show cX9_mile.data.toList[17]? = some 0xa0 from (LBX9_miler_1 1).trans (by decide +kernel)) (show cX9_mile.data.toList[18]? = some 0x00 from (LBX9_miler_1 2).trans (by decide +kernel)) (show cX9_mile.data.toList[19]? = some 0x07 from (LBX9_miler_1 3).trans (by decide +kernel)) (by decide)
theorem dX9_mile_20 : decode cX9_mile 20 = .ok (.iconst 1, 1) := dk_4_ (show cX9_mile.data.toList[20]? = some 0x04 from (LBX9_miler_1 4).trans (by decide +kernel))
theorem dX9_mile_21 : decode cX9_mile 21 = .ok (.goto 4, 3) := dk_167_ (show cX9_mile.data.toList[21]? = some 0xa7 from (LBX9_miler_1 5).trans (by decide +kernel)) (show cX9_mile.data.toList[22]? = some 0x00 from (LBX9_miler_1 6).trans (by decide +kernel)) (show cX9_mile.data.toList[23]? = some 0x04 from (LBX9_miler_1 7).trans (by decide +kernel)) (by decide)
theorem dX9_mile_24 : decode cX9_mile 24 = .ok (.iconst 0, 1) := dk_3_ (show cX9_mile.data.toList[24]? = some 0x03 from (LBX9_miler_1 8).trans (by decide +kernel))
theorem dX9_mile_25 : decode cX9_mile 25 = .ok (.istore_n 3, 1) := dk_62_ (show cX9_mile.data.toList[25]? = some 0x3e from (LBX9_miler_1 9).trans (by decide +kernel))
theorem dX9_mile_26 : decode cX9_mile 26 = .ok (.iload_n 3, 1) := dk_29_ (show cX9_mile.data.toList[26]? = some 0x1d from (LBX9_miler_1 10).trans (by decide +kernel))
theorem dX9_mile_27 : decode cX9_mile 27 = .ok (.ifCond .eq 8, 3) := dk_153_ (show cX9_mile.data.toList[27]? = some 0x99 from (LBX9_miler_1 11).trans (by decide +kernel)) (show cX9_mile.data.toList[28]? = some 0x00 from (LBX9_miler_1 12).trans (by decide +kernel)) (show cX9_mile.data.toList[29]? = some 0x08 from (LBX9_miler_1 13).trans (by decide +kernel)) (by decide)
theorem dX9_mile_30 : decode cX9_mile 30 = .ok (.aload_n 0, 1) := dk_42_ (show cX9_mile.data.toList[30]? = some 0x2a from (LBX9_miler_1 14).trans (by decide +kernel))
theorem dX9_mile_31 : decode cX9_mile 31 = .ok (.iconst 1, 1) := dk_4_ (show cX9_mile.data.toList[31]? = some 0x04 from (LBX9_miler_1 15).trans (by decide +kernel))
theorem dX9_mile_32 : decode cX9_mile 32 = .ok (.invokevirtual 278, 3) := dk_182_ (show cX9_mile.data.toList[32]? = some 0xb6 from (LBX9_miler_2 0).trans (by decide +kernel)) (show cX9_mile.data.toList[33]? = some 0x01 from (LBX9_miler_2 1).trans (by decide +kernel)) (show cX9_mile.data.toList[34]? = some 0x16 from (LBX9_miler_2 2).trans (by decide +kernel)) (by decide)
theorem dX9_mile_35 : decode cX9_mile 35 = .ok (.aload_n 0, 1) := dk_42_ (show cX9_mile.data.toList[35]? = some 0x2a from (LBX9_miler_2 3).trans (by decide +kernel))
theorem dX9_mile_36 : decode cX9_mile 36 = .ok (.iload_n 3, 1) := dk_29_ (show cX9_mile.data.toList[36]? = some 0x1d from (LBX9_miler_2 4).trans (by decide +kernel))
theorem dX9_mile_37 : decode cX9_mile 37 = .ok (.ifCond .eq 17, 3) := dk_153_ (show cX9_mile.data.toList[37]? = some 0x99 from (LBX9_miler_2 5).trans (by decide +kernel)) (show cX9_mile.data.toList[38]? = some 0x00 from (LBX9_miler_2 6).trans (by decide +kernel)) (show cX9_mile.data.toList[39]? = some 0x11 from (LBX9_miler_2 7).trans (by decide +kernel)) (by decide)
theorem dX9_mile_40 : decode cX9_mile 40 = .ok (.iload_n 2, 1) := dk_28_ (show cX9_mile.data.toList[40]? = some 0x1c from (LBX9_miler_2 8).trans (by decide +kernel))
theorem dX9_mile_41 : decode cX9_mile 41 = .ok (.ifCond .ge 9, 3) := dk_156_ (show cX9_mile.data.toList[41]? = some 0x9c from (LBX9_miler_2 9).trans (by decide +kernel)) (show cX9_mile.data.toList[42]? = some 0x00 from (LBX9_miler_2 10).trans (by decide +kernel)) (show cX9_mile.data.toList[43]? = some 0x09 from (LBX9_miler_2 11).trans (by decide +kernel)) (by decide)
theorem dX9_mile_44 : decode cX9_mile 44 = .ok (.iconst 0, 1) := dk_3_ (show cX9_mile.data.toList[44]? = some 0x03 from (LBX9_miler_2 12).trans (by decide +kernel))
theorem dX9_mile_45 : decode cX9_mile 45 = .ok (.iload_n 2, 1) := dk_28_ (show cX9_mile.data.toList[45]? = some 0x1c from (LBX9_miler_2 13).trans (by decide +kernel))
theorem dX9_mile_46 : decode cX9_mile 46 = .ok (.isub, 1) := dk_100_ (show cX9_mile.data.toList[46]? = some 0x64 from (LBX9_miler_2 14).trans (by decide +kernel))
theorem dX9_mile_47 : decode cX9_mile 47 = .ok (.goto 16, 3) := dk_167_ (show cX9_mile.data.toList[47]? = some 0xa7 from (LBX9_miler_2 15).trans (by decide +kernel)) (show cX9_mile.data.toList[48]? = some 0x00 from (LBX9_miler_3 0).trans (by decide +kernel)) (show cX9_mile.data.toList[49]? = some 0x10 from (LBX9_miler_3 1).trans (by decide +kernel)) (by decide)
theorem dX9_mile_50 : decode cX9_mile 50 = .ok (.iconst 0, 1) := dk_3_ (show cX9_mile.data.toList[50]? = some 0x03 from (LBX9_miler_3 2).trans (by decide +kernel))
theorem dX9_mile_51 : decode cX9_mile 51 = .ok (.goto 12, 3) := dk_167_ (show cX9_mile.data.toList[51]? = some 0xa7 from (LBX9_miler_3 3).trans (by decide +kernel)) (show cX9_mile.data.toList[52]? = some 0x00 from (LBX9_miler_3 4).trans (by decide +kernel)) (show cX9_mile.data.toList[53]? = some 0x0c from (LBX9_miler_3 5).trans (by decide +kernel)) (by decide)
theorem dX9_mile_54 : decode cX9_mile 54 = .ok (.iload_n 1, 1) := dk_27_ (show cX9_mile.data.toList[54]? = some 0x1b from (LBX9_miler_3 6).trans (by decide +kernel))
theorem dX9_mile_55 : decode cX9_mile 55 = .ok (.ifCond .ge 7, 3) := dk_156_ (show cX9_mile.data.toList[55]? = some 0x9c from (LBX9_miler_3 7).trans (by decide +kernel)) (show cX9_mile.data.toList[56]? = some 0x00 from (LBX9_miler_3 8).trans (by decide +kernel)) (show cX9_mile.data.toList[57]? = some 0x07 from (LBX9_miler_3 9).trans (by decide +kernel)) (by decide)
theorem dX9_mile_58 : decode cX9_mile 58 = .ok (.iconst 0, 1) := dk_3_ (show cX9_mile.data.toList[58]? = some 0x03 from (LBX9_miler_3 10).trans (by decide +kernel))
theorem dX9_mile_59 : decode cX9_mile 59 = .ok (.goto 4, 3) := dk_167_ (show cX9_mile.data.toList[59]? = some 0xa7 from (LBX9_miler_3 11).trans (by decide +kernel)) (show cX9_mile.data.toList[60]? = some 0x00 from (LBX9_miler_3 12).trans (by decide +kernel)) (show cX9_mile.data.toList[61]? = some 0x04 from (LBX9_miler_3 13).trans (by decide +kernel)) (by decide)
theorem dX9_mile_62 : decode cX9_mile 62 = .ok (.iload_n 1, 1) := dk_27_ (show cX9_mile.data.toList[62]? = some 0x1b from (LBX9_miler_3 14).trans (by decide +kernel))
theorem dX9_mile_63 : decode cX9_mile 63 = .ok (.iload_n 3, 1) := dk_29_ (show cX9_mile.data.toList[63]? = some 0x1d from (LBX9_miler_3 15).trans (by decide +kernel))
theorem dX9_mile_64 : decode cX9_mile 64 = .ok (.ifCond .eq 17, 3) := dk_153_ (show cX9_mile.data.toList[64]? = some 0x99 from (LBX9_miler_4 0).trans (by decide +kernel)) (show cX9_mile.data.toList[65]? = some 0x00 from (LBX9_miler_4 1).trans (by decide +kernel)) (show cX9_mile.data.toList[66]? = some 0x11 from (LBX9_miler_4 2).trans (by decide +kernel)) (by decide)
theorem dX9_mile_67 : decode cX9_mile 67 = .ok (.iload_n 1, 1) := dk_27_ (show cX9_mile.data.toList[67]? = some 0x1b from (LBX9_miler_4 3).trans (by decide +kernel))
theorem dX9_mile_68 : decode cX9_mile 68 = .ok (.ifCond .le 7, 3) := dk_158_ (show cX9_mile.data.toList[68]? = some 0x9e from (LBX9_miler_4 4).trans (by decide +kernel)) (show cX9_mile.data.toList[69]? = some 0x00 from (LBX9_miler_4 5).trans (by decide +kernel)) (show cX9_mile.data.toList[70]? = some 0x07 from (LBX9_miler_4 6).trans (by decide +kernel)) (by decide)
theorem dX9_mile_71 : decode cX9_mile 71 = .ok (.iconst (-1), 1) := dk_2_ (show cX9_mile.data.toList[71]? = some 0x02 from (LBX9_miler_4 7).trans (by decide +kernel))
theorem dX9_mile_72 : decode cX9_mile 72 = .ok (.goto 10, 3) := dk_167_ (show cX9_mile.data.toList[72]? = some 0xa7 from (LBX9_miler_4 8).trans (by decide +kernel)) (show cX9_mile.data.toList[73]? = some 0x00 from (LBX9_miler_4 9).trans (by decide +kernel)) (show cX9_mile.data.toList[74]? = some 0x0a from (LBX9_miler_4 10).trans (by decide +kernel)) (by decide)
theorem dX9_mile_75 : decode cX9_mile 75 = .ok (.iconst 0, 1) := dk_3_ (show cX9_mile.data.toList[75]? = some 0x03 from (LBX9_miler_4 11).trans (by decide +kernel))
theorem dX9_mile_76 : decode cX9_mile 76 = .ok (.iload_n 1, 1) := dk_27_ (show cX9_mile.data.toList[76]? = some 0x1b from (LBX9_miler_4 12).trans (by decide +kernel))
theorem dX9_mile_77 : decode cX9_mile 77 = .ok (.isub, 1) := dk_100_ (show cX9_mile.data.toList[77]? = some 0x64 from (LBX9_miler_4 13).trans (by decide +kernel))
theorem dX9_mile_78 : decode cX9_mile 78 = .ok (.goto 4, 3) := dk_167_ (show cX9_mile.data.toList[78]? = some 0xa7 from (LBX9_miler_4 14).trans (by decide +kernel)) (show cX9_mile.data.toList[79]? = some 0x00 from (LBX9_miler_4 15).trans (by decide +kernel)) (show cX9_mile.data.toList[80]? = some 0x04 from (LBX9_miler_5 0).trans (by decide +kernel)) (by decide)
theorem dX9_mile_81 : decode cX9_mile 81 = .ok (.iload_n 2, 1) := dk_28_ (show cX9_mile.data.toList[81]? = some 0x1c from (LBX9_miler_5 1).trans (by decide +kernel))
theorem dX9_mile_82 : decode cX9_mile 82 = .ok (.invokevirtual 282, 3) := dk_182_ (show cX9_mile.data.toList[82]? = some 0xb6 from (LBX9_miler_5 2).trans (by decide +kernel)) (show cX9_mile.data.toList[83]? = some 0x01 from (LBX9_miler_5 3).trans (by decide +kernel)) (show cX9_mile.data.toList[84]? = some 0x1a from (LBX9_miler_5 4).trans (by decide +kernel)) (by decide)
theorem dX9_mile_85 : decode cX9_mile 85 = .ok (.aload_n 0, 1) := dk_42_ (show cX9_mile.data.toList[85]? = some 0x2a from (LBX9_miler_5 5).trans (by decide +kernel))
theorem dX9_mile_86 : decode cX9_mile 86 = .ok (.iload_n 3, 1) := dk_29_ (show cX9_mile.data.toList[86]? = some 0x1d from (LBX9_miler_5 6).trans (by decide +kernel))
theorem dX9_mile_87 : decode cX9_mile 87 = .ok (.ifCond .eq 12, 3) := dk_153_ (show cX9_mile.data.toList[87]? = some 0x99 from (LBX9_miler_5 7).trans (by decide +kernel)) (show cX9_mile.data.toList[88]? = some 0x00 from (LBX9_miler_5 8).trans (by decide +kernel)) (show cX9_mile.data.toList[89]? = some 0x0c from (LBX9_miler_5 9).trans (by decide +kernel)) (by decide)
theorem dX9_mile_90 : decode cX9_mile 90 = .ok (.iconst 0, 1) := dk_3_ (show cX9_mile.data.toList[90]? = some 0x03 from (LBX9_miler_5 10).trans (by decide +kernel))
theorem dX9_mile_91 : decode cX9_mile 91 = .ok (.aload_n 0, 1) := dk_42_ (show cX9_mile.data.toList[91]? = some 0x2a from (LBX9_miler_5 11).trans (by decide +kernel))
theorem dX9_mile_92 : decode cX9_mile 92 = .ok (.getfield 275, 3) := dk_180_ (show cX9_mile.data.toList[92]? = some 0xb4 from (LBX9_miler_5 12).trans (by decide +kernel)) (show cX9_mile.data.toList[93]? = some 0x01 from (LBX9_miler_5 13).trans (by decide +kernel)) (show cX9_mile.data.toList[94]? = some 0x13 from (LBX9_miler_5 14).trans (by decide +kernel)) (by decide)
theorem dX9_mile_95 : decode cX9_mile 95 = .ok (.isub, 1) := dk_100_ (show cX9_mile.data.toList[95]? = some 0x64 from (LBX9_miler_5 15).trans (by decide +kernel))
theorem dX9_mile_96 : decode cX9_mile 96 = .ok (.goto 7, 3) := dk_167_ (show cX9_mile.data.toList[96]? = some 0xa7 from (LBX9_miler_6 0).trans (by decide +kernel)) (show cX9_mile.data.toList[97]? = some 0x00 from (LBX9_miler_6 1).trans (by decide +kernel)) (show cX9_mile.data.toList[98]? = some 0x07 from (LBX9_miler_6 2).trans (by decide +kernel)) (by decide)
theorem dX9_mile_99 : decode cX9_mile 99 = .ok (.aload_n 0, 1) := dk_42_ (show cX9_mile.data.toList[99]? = some 0x2a from (LBX9_miler_6 3).trans (by decide +kernel))
theorem dX9_mile_100 : decode cX9_mile 100 = .ok (.getfield 275, 3) := dk_180_ (show cX9_mile.data.toList[100]? = some 0xb4 from (LBX9_miler_6 4).trans (by decide +kernel)) (show cX9_mile.data.toList[101]? = some 0x01 from (LBX9_miler_6 5).trans (by decide +kernel)) (show cX9_mile.data.toList[102]? = some 0x13 from (LBX9_miler_6 6).trans (by decide +kernel)) (by decide)
theorem dX9_mile_103 : decode cX9_mile 103 = .ok (.putfield 275, 3) := dk_181_ (show cX9_mile.data.toList[103]? = some 0xb5 from (LBX9_miler_6 7).trans (by decide +kernel)) (show cX9_mile.data.toList[104]? = some 0x01 from (LBX9_miler_6 8).trans (by decide +kernel)) (show cX9_mile.data.toList[105]? = some 0x13 from (LBX9_miler_6 9).trans (by decide +kernel)) (by decide)
theorem dX9_mile_106 : decode cX9_mile 106 = .ok (.return_, 1) := dk_177_ (show cX9_mile.data.toList[106]? = some 0xb1 from (LBX9_miler_6 10).trans (by decide +kernel))
def LRX9_numberHere_5 : List UInt8 := []
def LBX9_numberHere_4 : List UInt8 := [0x07, 0x99, 0x00, 0x07, 0x1b, 0xa7, 0x00, 0x04, 0x02, 0xac]
def LRX9_numberHere_4 : List UInt8 := LBX9_numberHere_4 ++ LRX9_numberHere_5
def LBX9_numberHere_3 : List UInt8 := [0xb4, 0x01, 0x0a, 0x9a, 0x00, 0x15, 0x2a, 0x2a, 0xb4, 0x00, 0xfe, 0xb6, 0x01, 0x01, 0xb8, 0x01]
def LRX9_numberHere_3 : List UInt8 := LBX9_numberHere_3 ++ LRX9_numberHere_4
def LBX9_numberHere_2 : List UInt8 := [0x00, 0x25, 0x1c, 0x2e, 0x60, 0x10, 0x30, 0x64, 0x3c, 0x84, 0x02, 0x01, 0xa7, 0xff, 0xdb, 0x2a]
def LRX9_numberHere_2 : List UInt8 := LBX9_numberHere_2 ++ LRX9_numberHere_3
def LBX9_numberHere_1 : List UInt8 := [0x11, 0x27, 0x0f, 0xa4, 0x00, 0x07, 0x1b, 0xa7, 0x00, 0x11, 0x10, 0x0a, 0x1b, 0x68, 0x2a, 0xb4]
def LRX9_numberHere_1 : List UInt8 := LBX9_numberHere_1 ++ LRX9_numberHere_2
def LBX9_numberHere_0 : List UInt8 := [0x03, 0x3c, 0x2a, 0xb4, 0x00, 0xfe, 0x3d, 0x1c, 0x2a, 0xb4, 0x00, 0xfb, 0xa2, 0x00, 0x23, 0x1b]
def LRX9_numberHere_0 : List UInt8 := LBX9_numberHere_0 ++ LRX9_numberHere_1
set_option maxRecDepth 100000 in
theorem LBX9_numberHere_eq : cX9_numberHere.data.toList = LRX9_numberHere_0 := by decide +kernel
theorem LBX9_numberHerer_0 (k : Nat) : cX9_numberHere.data.toList[0 + k]? = LRX9_numberHere_0[k]? := by rw [LBX9_numberHere_eq, Nat.zero_add]
theorem LBX9_numberHerer_1 (k : Nat) : cX9_numberHere.data.toList[16 + k]? = LRX9_numberHere_1[k]? := by
  have h := LBX9_numberHerer_0 (16 + k)
  rw [show 0 + (16 + k) = 16 + k by omega] at h
  rw [h]
  exact (List.getElem?_append_right (l₁ := LBX9_numberHere_0) (l₂ := LRX9_numberHere_1) (show 16 ≤ 16 + k by omega)).trans (congrArg (fun i => LRX9_numberHere_1[i]?) (show 16 + k - 16 = k by omega))
theorem LBX9_numberHerer_2 (k : Nat) : cX9_numberHere.data.toList[32 + k]? = LRX9_numberHere_2[k]? := by
  have h := LBX9_numberHerer_1 (16 + k)
  rw [show 16 + (16 + k) = 32 + k by omega] at h
  rw [h]
  exact (List.getElem?_append_right (l₁ := LBX9_numberHere_1) (l₂ := LRX9_numberHere_2) (show 16 ≤ 16 + k by omega)).trans (congrArg (fun i => LRX9_numberHere_2[i]?) (show 16 + k - 16 = k by omega))
theorem LBX9_numberHerer_3 (k : Nat) : cX9_numberHere.data.toList[48 + k]? = LRX9_numberHere_3[k]? := by
  have h := LBX9_numberHerer_2 (16 + k)
  rw [show 32 + (16 + k) = 48 + k by omega] at h
  rw [h]
  exact (List.getElem?_append_right (l₁ := LBX9_numberHere_2) (l₂ := LRX9_numberHere_3) (show 16 ≤ 16 + k by omega)).trans (congrArg (fun i => LRX9_numberHere_3[i]?) (show 16 + k - 16 = k by omega))
theorem LBX9_numberHerer_4 (k : Nat) : cX9_numberHere.data.toList[64 + k]? = LRX9_numberHere_4[k]? := by
  have h := LBX9_numberHerer_3 (16 + k)
  rw [show 48 + (16 + k) = 64 + k by omega] at h
  rw [h]
  exact (List.getElem?_append_right (l₁ := LBX9_numberHere_3) (l₂ := LRX9_numberHere_4) (show 16 ≤ 16 + k by omega)).trans (congrArg (fun i => LRX9_numberHere_4[i]?) (show 16 + k - 16 = k by omega))
theorem dX9_numberHere_0 : decode cX9_numberHere 0 = .ok (.iconst 0, 1) := dk_3_ (show cX9_numberHere.data.toList[0]? = some 0x03 from (LBX9_numberHerer_0 0).trans (by decide +kernel))
theorem dX9_numberHere_1 : decode cX9_numberHere 1 = .ok (.istore_n 1, 1) := dk_60_ (show cX9_numberHere.data.toList[1]? = some 0x3c from (LBX9_numberHerer_0 1).trans (by decide +kernel))
theorem dX9_numberHere_2 : decode cX9_numberHere 2 = .ok (.aload_n 0, 1) := dk_42_ (show cX9_numberHere.data.toList[2]? = some 0x2a from (LBX9_numberHerer_0 2).trans (by decide +kernel))
theorem dX9_numberHere_3 : decode cX9_numberHere 3 = .ok (.getfield 254, 3) := dk_180_ (show cX9_numberHere.data.toList[3]? = some 0xb4 from (LBX9_numberHerer_0 3).trans (by decide +kernel)) (show cX9_numberHere.data.toList[4]? = some 0x00 from (LBX9_numberHerer_0 4).trans (by decide +kernel)) (show cX9_numberHere.data.toList[5]? = some 0xfe from (LBX9_numberHerer_0 5).trans (by decide +kernel)) (by decide)
theorem dX9_numberHere_6 : decode cX9_numberHere 6 = .ok (.istore_n 2, 1) := dk_61_ (show cX9_numberHere.data.toList[6]? = some 0x3d from (LBX9_numberHerer_0 6).trans (by decide +kernel))
theorem dX9_numberHere_7 : decode cX9_numberHere 7 = .ok (.iload_n 2, 1) := dk_28_ (show cX9_numberHere.data.toList[7]? = some 0x1c from (LBX9_numberHerer_0 7).trans (by decide +kernel))
theorem dX9_numberHere_8 : decode cX9_numberHere 8 = .ok (.aload_n 0, 1) := dk_42_ (show cX9_numberHere.data.toList[8]? = some 0x2a from (LBX9_numberHerer_0 8).trans (by decide +kernel))
theorem dX9_numberHere_9 : decode cX9_numberHere 9 = .ok (.getfield 251, 3) := dk_180_ (show cX9_numberHere.data.toList[9]? = some 0xb4 from (LBX9_numberHerer_0 9).trans (by decide +kernel)) (show cX9_numberHere.data.toList[10]? = some 0x00 from (LBX9_numberHerer_0 10).trans (by decide +kernel)) (show cX9_numberHere.data.toList[11]? = some 0xfb from (LBX9_numberHerer_0 11).trans (by decide +kernel)) (by decide)
theorem dX9_numberHere_12 : decode cX9_numberHere 12 = .ok (.if_icmp .ge 35, 3) := dk_162_ (show cX9_numberHere.data.toList[12]? = some 0xa2 from (LBX9_numberHerer_0 12).trans (by decide +kernel)) (show cX9_numberHere.data.toList[13]? = some 0x00 from (LBX9_numberHerer_0 13).trans (by decide +kernel)) (show cX9_numberHere.data.toList[14]? = some 0x23 from (LBX9_numberHerer_0 14).trans (by decide +kernel)) (by decide)
theorem dX9_numberHere_15 : decode cX9_numberHere 15 = .ok (.iload_n 1, 1) := dk_27_ (show cX9_numberHere.data.toList[15]? = some 0x1b from (LBX9_numberHerer_0 15).trans (by decide +kernel))
theorem dX9_numberHere_16 : decode cX9_numberHere 16 = .ok (.sipush 9999, 3) := dk_17_ (show cX9_numberHere.data.toList[16]? = some 0x11 from (LBX9_numberHerer_1 0).trans (by decide +kernel)) (show cX9_numberHere.data.toList[17]? = some 0x27 from (LBX9_numberHerer_1 1).trans (by decide +kernel)) (show cX9_numberHere.data.toList[18]? = some 0x0f from (LBX9_numberHerer_1 2).trans (by decide +kernel)) (by decide)
theorem dX9_numberHere_19 : decode cX9_numberHere 19 = .ok (.if_icmp .le 7, 3) := dk_164_ (show cX9_numberHere.data.toList[19]? = some 0xa4 from (LBX9_numberHerer_1 3).trans (by decide +kernel)) (show cX9_numberHere.data.toList[20]? = some 0x00 from (LBX9_numberHerer_1 4).trans (by decide +kernel)) (show cX9_numberHere.data.toList[21]? = some 0x07 from (LBX9_numberHerer_1 5).trans (by decide +kernel)) (by decide)
theorem dX9_numberHere_22 : decode cX9_numberHere 22 = .ok (.iload_n 1, 1) := dk_27_ (show cX9_numberHere.data.toList[22]? = some 0x1b from (LBX9_numberHerer_1 6).trans (by decide +kernel))
theorem dX9_numberHere_23 : decode cX9_numberHere 23 = .ok (.goto 17, 3) := dk_167_ (show cX9_numberHere.data.toList[23]? = some 0xa7 from (LBX9_numberHerer_1 7).trans (by decide +kernel)) (show cX9_numberHere.data.toList[24]? = some 0x00 from (LBX9_numberHerer_1 8).trans (by decide +kernel)) (show cX9_numberHere.data.toList[25]? = some 0x11 from (LBX9_numberHerer_1 9).trans (by decide +kernel)) (by decide)
theorem dX9_numberHere_26 : decode cX9_numberHere 26 = .ok (.bipush 10, 2) := dk_16_ (show cX9_numberHere.data.toList[26]? = some 0x10 from (LBX9_numberHerer_1 10).trans (by decide +kernel)) (show cX9_numberHere.data.toList[27]? = some 0x0a from (LBX9_numberHerer_1 11).trans (by decide +kernel)) (by decide)
theorem dX9_numberHere_28 : decode cX9_numberHere 28 = .ok (.iload_n 1, 1) := dk_27_ (show cX9_numberHere.data.toList[28]? = some 0x1b from (LBX9_numberHerer_1 12).trans (by decide +kernel))
theorem dX9_numberHere_29 : decode cX9_numberHere 29 = .ok (.imul, 1) := dk_104_ (show cX9_numberHere.data.toList[29]? = some 0x68 from (LBX9_numberHerer_1 13).trans (by decide +kernel))
theorem dX9_numberHere_30 : decode cX9_numberHere 30 = .ok (.aload_n 0, 1) := dk_42_ (show cX9_numberHere.data.toList[30]? = some 0x2a from (LBX9_numberHerer_1 14).trans (by decide +kernel))
theorem dX9_numberHere_31 : decode cX9_numberHere 31 = .ok (.getfield 37, 3) := dk_180_ (show cX9_numberHere.data.toList[31]? = some 0xb4 from (LBX9_numberHerer_1 15).trans (by decide +kernel)) (show cX9_numberHere.data.toList[32]? = some 0x00 from (LBX9_numberHerer_2 0).trans (by decide +kernel)) (show cX9_numberHere.data.toList[33]? = some 0x25 from (LBX9_numberHerer_2 1).trans (by decide +kernel)) (by decide)
theorem dX9_numberHere_34 : decode cX9_numberHere 34 = .ok (.iload_n 2, 1) := dk_28_ (show cX9_numberHere.data.toList[34]? = some 0x1c from (LBX9_numberHerer_2 2).trans (by decide +kernel))
theorem dX9_numberHere_35 : decode cX9_numberHere 35 = .ok (.iaload, 1) := dk_46_ (show cX9_numberHere.data.toList[35]? = some 0x2e from (LBX9_numberHerer_2 3).trans (by decide +kernel))
theorem dX9_numberHere_36 : decode cX9_numberHere 36 = .ok (.iadd, 1) := dk_96_ (show cX9_numberHere.data.toList[36]? = some 0x60 from (LBX9_numberHerer_2 4).trans (by decide +kernel))
theorem dX9_numberHere_37 : decode cX9_numberHere 37 = .ok (.bipush 48, 2) := dk_16_ (show cX9_numberHere.data.toList[37]? = some 0x10 from (LBX9_numberHerer_2 5).trans (by decide +kernel)) (show cX9_numberHere.data.toList[38]? = some 0x30 from (LBX9_numberHerer_2 6).trans (by decide +kernel)) (by decide)
theorem dX9_numberHere_39 : decode cX9_numberHere 39 = .ok (.isub, 1) := dk_100_ (show cX9_numberHere.data.toList[39]? = some 0x64 from (LBX9_numberHerer_2 7).trans (by decide +kernel))
theorem dX9_numberHere_40 : decode cX9_numberHere 40 = .ok (.istore_n 1, 1) := dk_60_ (show cX9_numberHere.data.toList[40]? = some 0x3c from (LBX9_numberHerer_2 8).trans (by decide +kernel))
theorem dX9_numberHere_41 : decode cX9_numberHere 41 = .ok (.iinc 2 1, 3) := dk_132_ (show cX9_numberHere.data.toList[41]? = some 0x84 from (LBX9_numberHerer_2 9).trans (by decide +kernel)) (show cX9_numberHere.data.toList[42]? = some 0x02 from (LBX9_numberHerer_2 10).trans (by decide +kernel)) (show cX9_numberHere.data.toList[43]? = some 0x01 from (LBX9_numberHerer_2 11).trans (by decide +kernel)) (by decide) (by decide)
theorem dX9_numberHere_44 : decode cX9_numberHere 44 = .ok (.goto (-37), 3) := dk_167_ (show cX9_numberHere.data.toList[44]? = some 0xa7 from (LBX9_numberHerer_2 12).trans (by decide +kernel)) (show cX9_numberHere.data.toList[45]? = some 0xff from (LBX9_numberHerer_2 13).trans (by decide +kernel)) (show cX9_numberHere.data.toList[46]? = some 0xdb from (LBX9_numberHerer_2 14).trans (by decide +kernel)) (by decide)
theorem dX9_numberHere_47 : decode cX9_numberHere 47 = .ok (.aload_n 0, 1) := dk_42_ (show cX9_numberHere.data.toList[47]? = some 0x2a from (LBX9_numberHerer_2 15).trans (by decide +kernel))
theorem dX9_numberHere_48 : decode cX9_numberHere 48 = .ok (.getfield 266, 3) := dk_180_ (show cX9_numberHere.data.toList[48]? = some 0xb4 from (LBX9_numberHerer_3 0).trans (by decide +kernel)) (show cX9_numberHere.data.toList[49]? = some 0x01 from (LBX9_numberHerer_3 1).trans (by decide +kernel)) (show cX9_numberHere.data.toList[50]? = some 0x0a from (LBX9_numberHerer_3 2).trans (by decide +kernel)) (by decide)
theorem dX9_numberHere_51 : decode cX9_numberHere 51 = .ok (.ifCond .ne 21, 3) := dk_154_ (show cX9_numberHere.data.toList[51]? = some 0x9a from (LBX9_numberHerer_3 3).trans (by decide +kernel)) (show cX9_numberHere.data.toList[52]? = some 0x00 from (LBX9_numberHerer_3 4).trans (by decide +kernel)) (show cX9_numberHere.data.toList[53]? = some 0x15 from (LBX9_numberHerer_3 5).trans (by decide +kernel)) (by decide)
theorem dX9_numberHere_54 : decode cX9_numberHere 54 = .ok (.aload_n 0, 1) := dk_42_ (show cX9_numberHere.data.toList[54]? = some 0x2a from (LBX9_numberHerer_3 6).trans (by decide +kernel))
theorem dX9_numberHere_55 : decode cX9_numberHere 55 = .ok (.aload_n 0, 1) := dk_42_ (show cX9_numberHere.data.toList[55]? = some 0x2a from (LBX9_numberHerer_3 7).trans (by decide +kernel))
theorem dX9_numberHere_56 : decode cX9_numberHere 56 = .ok (.getfield 254, 3) := dk_180_ (show cX9_numberHere.data.toList[56]? = some 0xb4 from (LBX9_numberHerer_3 8).trans (by decide +kernel)) (show cX9_numberHere.data.toList[57]? = some 0x00 from (LBX9_numberHerer_3 9).trans (by decide +kernel)) (show cX9_numberHere.data.toList[58]? = some 0xfe from (LBX9_numberHerer_3 10).trans (by decide +kernel)) (by decide)
theorem dX9_numberHere_59 : decode cX9_numberHere 59 = .ok (.invokevirtual 257, 3) := dk_182_ (show cX9_numberHere.data.toList[59]? = some 0xb6 from (LBX9_numberHerer_3 11).trans (by decide +kernel)) (show cX9_numberHere.data.toList[60]? = some 0x01 from (LBX9_numberHerer_3 12).trans (by decide +kernel)) (show cX9_numberHere.data.toList[61]? = some 0x01 from (LBX9_numberHerer_3 13).trans (by decide +kernel)) (by decide)
theorem dX9_numberHere_62 : decode cX9_numberHere 62 = .ok (.invokestatic 263, 3) := dk_184_ (show cX9_numberHere.data.toList[62]? = some 0xb8 from (LBX9_numberHerer_3 14).trans (by decide +kernel)) (show cX9_numberHere.data.toList[63]? = some 0x01 from (LBX9_numberHerer_3 15).trans (by decide +kernel)) (show cX9_numberHere.data.toList[64]? = some 0x07 from (LBX9_numberHerer_4 0).trans (by decide +kernel)) (by decide)
theorem dX9_numberHere_65 : decode cX9_numberHere 65 = .ok (.ifCond .eq 7, 3) := dk_153_ (show cX9_numberHere.data.toList[65]? = some 0x99 from (LBX9_numberHerer_4 1).trans (by decide +kernel)) (show cX9_numberHere.data.toList[66]? = some 0x00 from (LBX9_numberHerer_4 2).trans (by decide +kernel)) (show cX9_numberHere.data.toList[67]? = some 0x07 from (LBX9_numberHerer_4 3).trans (by decide +kernel)) (by decide)
theorem dX9_numberHere_68 : decode cX9_numberHere 68 = .ok (.iload_n 1, 1) := dk_27_ (show cX9_numberHere.data.toList[68]? = some 0x1b from (LBX9_numberHerer_4 4).trans (by decide +kernel))
theorem dX9_numberHere_69 : decode cX9_numberHere 69 = .ok (.goto 4, 3) := dk_167_ (show cX9_numberHere.data.toList[69]? = some 0xa7 from (LBX9_numberHerer_4 5).trans (by decide +kernel)) (show cX9_numberHere.data.toList[70]? = some 0x00 from (LBX9_numberHerer_4 6).trans (by decide +kernel)) (show cX9_numberHere.data.toList[71]? = some 0x04 from (LBX9_numberHerer_4 7).trans (by decide +kernel)) (by decide)
theorem dX9_numberHere_72 : decode cX9_numberHere 72 = .ok (.iconst (-1), 1) := dk_2_ (show cX9_numberHere.data.toList[72]? = some 0x02 from (LBX9_numberHerer_4 8).trans (by decide +kernel))
theorem dX9_numberHere_73 : decode cX9_numberHere 73 = .ok (.ireturn, 1) := dk_172_ (show cX9_numberHere.data.toList[73]? = some 0xac from (LBX9_numberHerer_4 9).trans (by decide +kernel))
theorem uw845 : Cond.constantLong RX9 238 4 ∈ wsU := ut6 (List.mem_of_getElem? (i := 113) rfl) rfl
theorem uw846 : Cond.fieldLink RX9 240 "LongerBackModel" "taped" "I" ∈ wsU := ut4 (List.mem_of_getElem? (i := 225) rfl) rfl
theorem uw847 : Cond.fieldLink RX9 37 "LongerBackModel" "tape" "[I" ∈ wsU := ut4 (List.mem_of_getElem? (i := 224) rfl) rfl
theorem uw848 : Cond.fieldLink RX9 251 "LongerBackModel" "to" "I" ∈ wsU := ut4 (List.mem_of_getElem? (i := 227) rfl) rfl
theorem uw849 : Cond.fieldLink RX9 254 "LongerBackModel" "from" "I" ∈ wsU := ut4 (List.mem_of_getElem? (i := 226) rfl) rfl
theorem uw850 : Cond.methodLink RX9 257 yX9_byteAt ∈ wsU := ut6 (List.mem_of_getElem? (i := 126) rfl) rfl
theorem uw851 : Cond.instanceMethod yX9_byteAt ∈ wsU := ut6 (List.mem_of_getElem? (i := 128) rfl) rfl
theorem uw852 : Cond.selects RX9 yX9_byteAt yX9_byteAt ∈ wsU := us_sel (q := (yX9_byteAt, 27)) (List.mem_of_getElem? (i := 67) (by decide +kernel)) rfl
theorem uw853 : Cond.code yX9_byteAt cX9_byteAt 2 (some .int) ∈ wsU := ut6 (List.mem_of_getElem? (i := 129) rfl) rfl
theorem uw854 : Cond.methodLink RX9 260 yX9_isLetter ∈ wsU := ut6 (List.mem_of_getElem? (i := 130) rfl) rfl
theorem uw855 : Cond.static yX9_isLetter ∈ wsU := ut6 (List.mem_of_getElem? (i := 131) rfl) rfl
theorem uw856 : Cond.initialized yX9_isLetter.cls ∈ wsU := ut1 (List.mem_of_getElem? (i := 10) rfl) rfl
theorem uw857 : Cond.code yX9_isLetter cX9_isLetter 1 (some .boolean) ∈ wsU := ut6 (List.mem_of_getElem? (i := 132) rfl) rfl
theorem uw858 : Cond.methodLink RX9 263 yX9_isDigit ∈ wsU := ut6 (List.mem_of_getElem? (i := 135) rfl) rfl
theorem uw859 : Cond.static yX9_isDigit ∈ wsU := ut6 (List.mem_of_getElem? (i := 136) rfl) rfl
theorem uw860 : Cond.initialized yX9_isDigit.cls ∈ wsU := ut1 (List.mem_of_getElem? (i := 10) rfl) rfl
theorem uw861 : Cond.code yX9_isDigit cX9_isDigit 1 (some .boolean) ∈ wsU := ut6 (List.mem_of_getElem? (i := 137) rfl) rfl
theorem uw862 : Cond.fieldLink RX9 266 "LongerBackModel" "isWrong" "Z" ∈ wsU := ut4 (List.mem_of_getElem? (i := 229) rfl) rfl
theorem uw863 : Cond.methodLink RX9 269 yX9_next ∈ wsU := ut6 (List.mem_of_getElem? (i := 122) rfl) rfl
theorem uw864 : Cond.instanceMethod yX9_next ∈ wsU := ut6 (List.mem_of_getElem? (i := 124) rfl) rfl
theorem uw865 : Cond.selects RX9 yX9_next yX9_next ∈ wsU := us_sel (q := (yX9_next, 27)) (List.mem_of_getElem? (i := 66) (by decide +kernel)) rfl
theorem uw866 : Cond.code yX9_next cX9_next 3 none ∈ wsU := ut6 (List.mem_of_getElem? (i := 125) rfl) rfl
theorem uw867 : Cond.methodLink RX9 272 yX9_isAt ∈ wsU := ut6 (List.mem_of_getElem? (i := 148) rfl) rfl
theorem uw868 : Cond.instanceMethod yX9_isAt ∈ wsU := ut6 (List.mem_of_getElem? (i := 150) rfl) rfl
theorem uw869 : Cond.selects RX9 yX9_isAt yX9_isAt ∈ wsU := us_sel (q := (yX9_isAt, 27)) (List.mem_of_getElem? (i := 70) (by decide +kernel)) rfl
theorem uw870 : Cond.code yX9_isAt cX9_isAt 3 (some .boolean) ∈ wsU := ut6 (List.mem_of_getElem? (i := 151) rfl) rfl
theorem uw871 : Cond.fieldLink RX9 275 "LongerBackModel" "value" "I" ∈ wsU := ut4 (List.mem_of_getElem? (i := 228) rfl) rfl
theorem uw872 : Cond.methodLink RX9 278 yX9_needs ∈ wsU := ut6 (List.mem_of_getElem? (i := 156) rfl) rfl
theorem uw873 : Cond.instanceMethod yX9_needs ∈ wsU := ut6 (List.mem_of_getElem? (i := 158) rfl) rfl
theorem uw874 : Cond.selects RX9 yX9_needs yX9_needs ∈ wsU := us_sel (q := (yX9_needs, 27)) (List.mem_of_getElem? (i := 72) (by decide +kernel)) rfl
theorem uw875 : Cond.code yX9_needs cX9_needs 2 none ∈ wsU := ut6 (List.mem_of_getElem? (i := 159) rfl) rfl
theorem uw876 : Cond.methodLink RX9 282 yX9_number ∈ wsU := ut6 (List.mem_of_getElem? (i := 160) rfl) rfl
theorem uw877 : Cond.instanceMethod yX9_number ∈ wsU := ut6 (List.mem_of_getElem? (i := 162) rfl) rfl
theorem uw878 : Cond.selects RX9 yX9_number yX9_number ∈ wsU := us_sel (q := (yX9_number, 27)) (List.mem_of_getElem? (i := 73) (by decide +kernel)) rfl
theorem uw879 : Cond.code yX9_number cX9_number 6 none ∈ wsU := ut6 (List.mem_of_getElem? (i := 163) rfl) rfl
theorem kf_X9_240 : xWF RX9 240 9 17 RX9 TX9 27 := ⟨inUX9, rfl, by decide, uw846⟩
theorem kf_X9_37 : xWF RX9 37 9 16 RX9 TX9 27 := ⟨inUX9, rfl, by decide, uw847⟩
theorem kf_X9_251 : xWF RX9 251 9 19 RX9 TX9 27 := ⟨inUX9, rfl, by decide, uw848⟩
theorem kf_X9_254 : xWF RX9 254 9 18 RX9 TX9 27 := ⟨inUX9, rfl, by decide, uw849⟩
theorem kv_X9_257 : xWV RX9 257 RX9 yX9_byteAt cX9_byteAt 2 (some .int) 1 := ⟨⟨uw850, uw851, uw852, uw657, uw853⟩, by decide +kernel⟩
theorem ks_X9_260 : xWS RX9 260 yX9_isLetter cX9_isLetter 1 (some .boolean) 1 := ⟨⟨uw854, uw855, uw856, uw857⟩, by decide +kernel⟩
theorem ks_X9_263 : xWS RX9 263 yX9_isDigit cX9_isDigit 1 (some .boolean) 1 := ⟨⟨uw858, uw859, uw860, uw861⟩, by decide +kernel⟩
theorem kf_X9_266 : xWF RX9 266 9 21 RX9 TX9 27 := ⟨inUX9, rfl, by decide, uw862⟩
theorem kv_X9_269 : xWV RX9 269 RX9 yX9_next cX9_next 3 none 0 := ⟨⟨uw863, uw864, uw865, uw657, uw866⟩, by decide +kernel⟩
theorem kv_X9_272 : xWV RX9 272 RX9 yX9_isAt cX9_isAt 3 (some .boolean) 2 := ⟨⟨uw867, uw868, uw869, uw657, uw870⟩, by decide +kernel⟩
theorem kf_X9_275 : xWF RX9 275 9 20 RX9 TX9 27 := ⟨inUX9, rfl, by decide, uw871⟩
theorem kv_X9_278 : xWV RX9 278 RX9 yX9_needs cX9_needs 2 none 1 := ⟨⟨uw872, uw873, uw874, uw657, uw875⟩, by decide +kernel⟩
theorem kv_X9_282 : xWV RX9 282 RX9 yX9_number cX9_number 6 none 2 := ⟨⟨uw876, uw877, uw878, uw657, uw879⟩, by decide +kernel⟩
set_option maxHeartbeats 4000000 in
set_option maxRecDepth 100000 in
theorem c_X9_feed (l : Launch) (D : va_G) (cI cJ cZ cS : ClassId) (ta : Nat) (sa sv : Nat → Nat) (sz : Nat) (h0 : Nat) (ys : Nat) (yk : Nat) (yo : Nat) (yt : Nat) (mk0 : Int32) (yfa : Nat) (yfe : Nat) (mL : Int32) (mS : Int32) (mM : Int32) (yro : Nat) (yhe : Nat) (ygr : Nat) (mF : Int32) (mC : Int32) (mY : Int32) (yta : Nat) (mz : Nat) (mf : Nat) (mt : Nat) (mv : Int32) (mw : Int32) (ywa : Nat) (ybi : Nat) (ysi : Nat) (ynu : Nat) (ymo : Nat) (tp : Nat → Int32) (mq : Nat → Int32) (p0 : Int32) (p1 : Int32) (hz : mz ≤ 120) : Met l yX9_feed (Cond.code yX9_feed cX9_feed 4 (some .int) :: wsU) ({ frames := 1, cells := 0, slots := 0, locals := 25 }) (va_Pc [.ref h0, .int p0, .int p1] (XW D (xT cI cJ cZ cS) ta sa sv [(h0, .inr (9, [.ref ys, .ref yk, .ref yo, .ref yt, .int mk0, .ref yfa, .ref yfe, .int mL, .int mS, .int mM, .ref yro, .ref yhe, .ref ygr, .int mF, .int mC, .int mY, .ref yta, .int (nI (mz)), .int (nI (mf)), .int (nI (mt)), .int mv, .int mw, .ref ywa, .ref ybi, .ref ysi, .ref ynu, .ref ymo])), (yta, .inl (cI, 120, .inl tp)), (yt, .inl (cI, 7, .inl mq))] sz)) (XQi (fun (r : Int32) (u : Nat × (Nat → Int32) × (Nat → Int32)) => match u with | (z2, tp2, mq2) => ((r = sp_fr mz p1)) ∧ (z2 = sp_fz mz p1) ∧ (z2 ≤ 120)) D (fun (u : Nat × (Nat → Int32) × (Nat → Int32)) => match u with | (z2, tp2, mq2) => [(h0, .inr (9, [.ref ys, .ref yk, .ref yo, .ref yt, .int mk0, .ref yfa, .ref yfe, .int mL, .int mS, .int mM, .ref yro, .ref yhe, .ref ygr, .int mF, .int mC, .int mY, .ref yta, .int (nI (z2)), .int (nI (mf)), .int (nI (mt)), .int mv, .int mw, .ref ywa, .ref ybi, .ref ysi, .ref ynu, .ref ymo])), (yta, .inl (cI, 120, .inl tp2)), (yt, .inl (cI, 7, .inl mq2))]) (va_A [(h0, .inr (9, [.ref ys, .ref yk, .ref yo, .ref yt, .int mk0, .ref yfa, .ref yfe, .int mL, .int mS, .int mM, .ref yro, .ref yhe, .ref ygr, .int mF, .int mC, .int mY, .ref yta, .int (nI (mz)), .int (nI (mf)), .int (nI (mt)), .int mv, .int mw, .ref ywa, .ref ybi, .ref ysi, .ref ynu, .ref ymo])), (yta, .inl (cI, 120, .inl tp)), (yt, .inl (cI, 7, .inl mq))] sz)) 0 0 (va_A [(h0, .inr (9, [.ref ys, .ref yk, .ref yo, .ref yt, .int mk0, .ref yfa, .ref yfe, .int mL, .int mS, .int mM, .ref yro, .ref yhe, .ref ygr, .int mF, .int mC, .int mY, .ref yta, .int (nI (mz)), .int (nI (mf)), .int (nI (mt)), .int mv, .int mw, .ref ywa, .ref ybi, .ref ysi, .ref ynu, .ref ymo])), (yta, .inl (cI, 120, .inl tp)), (yt, .inl (cI, 7, .inl mq))] sz) := by
  refine xh (QA := fun A => XQi (fun (r : Int32) (u : Nat × (Nat → Int32) × (Nat → Int32)) => match u with | (z2, tp2, mq2) => ((r = sp_fr mz p1)) ∧ (z2 = sp_fz mz p1) ∧ (z2 ≤ 120)) D (fun (u : Nat × (Nat → Int32) × (Nat → Int32)) => match u with | (z2, tp2, mq2) => [(h0, .inr (9, [.ref ys, .ref yk, .ref yo, .ref yt, .int mk0, .ref yfa, .ref yfe, .int mL, .int mS, .int mM, .ref yro, .ref yhe, .ref ygr, .int mF, .int mC, .int mY, .ref yta, .int (nI (z2)), .int (nI (mf)), .int (nI (mt)), .int mv, .int mw, .ref ywa, .ref ybi, .ref ysi, .ref ynu, .ref ymo])), (yta, .inl (cI, 120, .inl tp2)), (yt, .inl (cI, 7, .inl mq2))]) A) (fr := fun A => A) (by decide) (Nat.le_of_ble_eq_true rfl) ?_
  intro p e s m below meth c ls A hF hr hlk hin hsz hP hK hD hN hZ hA hS hl
  have hF : CallFix p m c cX9_feed 4 s _ _ RX9 := hF
  have hx := hF.1
  have hb := hF.2.1
  have hml := hF.2.2.1
  have hown := hF.2.2.2.1
  have hu : ∀ w ∈ wsU, w.before _ s = true := fun w h => hF.2.2.2.2 w (List.mem_cons_of_mem _ h)
  have hl : lv_has ls 4 [(0, .ref h0), (1, .int p0), (2, .int p1)] := hl
  refine lv_iload_n hx hb dX9_feed_0 rfl (lv_at hl 2 rfl) ?_
  refine lv_i2l (v := p1.toInt64) hx hb dX9_feed_1 rfl ?_
  refine lv_lconst (v := 1) hx hb dX9_feed_2 (by decide) ?_
  refine xl_l (y := (1 : Int32).toInt64) (by decide) ?_
  refine lv_ldc2 (v := 4) hx hb hown (hu _ uw845) dX9_feed_3 ?_
  refine xl_l (y := (4 : Int32).toInt64) (by decide) ?_
  refine xc_Sr hF (c_X9_in l D cI cJ cZ cS ta sa sv s.heap.size p1 1 4 ) ks_X9_57 ⟨rfl, rfl, Nat.le_of_ble_eq_true rfl, Nat.le_of_ble_eq_true rfl⟩ ⟨Nat.le_of_ble_eq_true rfl, Nat.le_of_ble_eq_true rfl⟩ hK hN hZ hP hD hS hA [] rfl rfl rfl hl.1 rfl (Nat.le_of_ble_eq_true rfl) dX9_feed_6 (fun r_1 hw_r_1 => ?_)
  rcases hw_r_1 with ⟨rfl, h_2, h_3⟩ | ⟨rfl, h_4⟩
  · skip
    refine lv_if_ne (tgt := 19) hx hb dX9_feed_9 (by decide) (fun c_5 => ?_) (fun c_5 => absurd c_5 (by decide))
    rcases x_f4 h_2 h_3 with rfl | rfl | rfl | rfl
    · skip
      refine lv_aload_n hx hb dX9_feed_19 rfl (lv_at hl 0 rfl) ?_
      refine xg hF kf_X9_240 hK hP 0 rfl rfl dX9_feed_20 ?_
      refine lv_iload_n hx hb dX9_feed_23 rfl (lv_at hl 2 rfl) ?_
      refine lv_iadd hx hb dX9_feed_24 ?_
      refine xl_i (y := nI (mz + 1)) (nI_add mz 1) ?_
      refine lv_bipush (v := 120) hx hb dX9_feed_25 (by decide) ?_
      refine lv_icmp_le (tgt := 37) hx hb dX9_feed_27 (by decide) (fun c_6 => ?_) (fun c_6 => ?_)
      · skip
        have nc_6 : mz + 1 ≤ 120 := xn_le (a := (mz + 1)) (b := 120) (by omega) (by omega) c_6
        refine lv_iload_n hx hb dX9_feed_37 rfl (lv_at hl 2 rfl) ?_
        refine lv_iconst (v := 1) hx hb dX9_feed_38 (by decide) ?_
        refine lv_isub hx hb dX9_feed_39 ?_
        refine xl_i (y := 0) (by decide) ?_
        refine lv_istore_n (lv' := [(3, .int 0), (0, .ref h0), (1, .int p0), (2, .int 1)]) hx hb dX9_feed_40 rfl hl (by decide) rfl (fun ls hl => ?_)
        refine lv_iload_n hx hb dX9_feed_41 rfl (lv_at hl 0 rfl) ?_
        refine lv_if_lt (tgt := 80) hx hb dX9_feed_42 (by decide) (fun c_7 => absurd c_7 (by decide)) (fun c_7 => ?_)
        refine lv_aload_n hx hb dX9_feed_45 rfl (lv_at hl 1 rfl) ?_
        refine xg hF kf_X9_37 hK hP 0 rfl rfl dX9_feed_46 ?_
        refine lv_aload_n hx hb dX9_feed_49 rfl (lv_at hl 1 rfl) ?_
        refine xg hF kf_X9_240 hK hP 0 rfl rfl dX9_feed_50 ?_
        refine lv_iload_n hx hb dX9_feed_53 rfl (lv_at hl 2 rfl) ?_
        refine lv_bipush (v := 8) hx hb dX9_feed_54 (by decide) ?_
        refine lv_iload_n hx hb dX9_feed_56 rfl (lv_at hl 0 rfl) ?_
        refine lv_imul hx hb dX9_feed_57 ?_
        refine xl_i (y := 0) (by decide) ?_
        refine lv_ishr hx hb dX9_feed_58 ?_
        refine lv_topi (fun x_8 ex_8 => ?_)
        refine lv_sipush (v := 255) hx hb dX9_feed_59 (by decide) ?_
        refine lv_iand hx hb dX9_feed_62 ?_
        refine lv_topi (fun x_9 ex_9 => ?_)
        refine va_iast hx hb hK hP hD hS 1 0 rfl rfl (vp_in_nI (show mz < 120 by omega) (by decide)) dX9_feed_63 (fun H locs hP hD hS => ?_)
        rw [nI_clamp (show mz < 2 ^ 31 by omega)] at hP hD
        obtain ⟨f_10, ef_10⟩ : ∃ g, g = upd tp mz x_9 := ⟨_, rfl⟩
        rw [← ef_10] at hP hD
        have hP : va_P D vwCl [(h0, .inr (9, [.ref ys, .ref yk, .ref yo, .ref yt, .int mk0, .ref yfa, .ref yfe, .int mL, .int mS, .int mM, .ref yro, .ref yhe, .ref ygr, .int mF, .int mC, .int mY, .ref yta, .int (nI (mz)), .int (nI (mf)), .int (nI (mt)), .int mv, .int mw, .ref ywa, .ref ybi, .ref ysi, .ref ynu, .ref ymo])), (yta, .inl (cI, 120, .inl f_10)), (yt, .inl (cI, 7, .inl mq))] H := hP
        have hD : va_D A [(h0, .inr (9, [.ref ys, .ref yk, .ref yo, .ref yt, .int mk0, .ref yfa, .ref yfe, .int mL, .int mS, .int mM, .ref yro, .ref yhe, .ref ygr, .int mF, .int mC, .int mY, .ref yta, .int (nI (mz)), .int (nI (mf)), .int (nI (mt)), .int mv, .int mw, .ref ywa, .ref ybi, .ref ysi, .ref ynu, .ref ymo])), (yta, .inl (cI, 120, .inl f_10)), (yt, .inl (cI, 7, .inl mq))] := hD
        refine lv_aload_n hx hb dX9_feed_64 rfl (lv_at hl 1 rfl) ?_
        refine lv_dup hx hb dX9_feed_65 rfl ?_
        refine xg hF kf_X9_240 hK hP 0 rfl rfl dX9_feed_66 ?_
        refine lv_iconst (v := 1) hx hb dX9_feed_69 (by decide) ?_
        refine lv_iadd hx hb dX9_feed_70 ?_
        refine xl_i (y := nI (mz + 1)) (nI_add mz 1) ?_
        refine xp hF kf_X9_240 tyX9_ok nmX9 hK hP hD hS 0 rfl rfl rfl rfl (Nat.le_of_ble_eq_true rfl) dX9_feed_71 (fun H locs hP hD hS => ?_)
        have hP : va_P D vwCl [(h0, .inr (9, [.ref ys, .ref yk, .ref yo, .ref yt, .int mk0, .ref yfa, .ref yfe, .int mL, .int mS, .int mM, .ref yro, .ref yhe, .ref ygr, .int mF, .int mC, .int mY, .ref yta, .int (nI (mz + 1)), .int (nI (mf)), .int (nI (mt)), .int mv, .int mw, .ref ywa, .ref ybi, .ref ysi, .ref ynu, .ref ymo])), (yta, .inl (cI, 120, .inl f_10)), (yt, .inl (cI, 7, .inl mq))] H := hP
        have hD : va_D A [(h0, .inr (9, [.ref ys, .ref yk, .ref yo, .ref yt, .int mk0, .ref yfa, .ref yfe, .int mL, .int mS, .int mM, .ref yro, .ref yhe, .ref ygr, .int mF, .int mC, .int mY, .ref yta, .int (nI (mz + 1)), .int (nI (mf)), .int (nI (mt)), .int mv, .int mw, .ref ywa, .ref ybi, .ref ysi, .ref ynu, .ref ymo])), (yta, .inl (cI, 120, .inl f_10)), (yt, .inl (cI, 7, .inl mq))] := hD
        refine lv_iinc (v := (-1)) (lv' := [(3, .int (-1)), (0, .ref h0), (1, .int p0), (2, .int 1)]) hx hb dX9_feed_74 hl (k := 0) rfl (by decide) (by decide) rfl (fun ls hl => ?_)
        refine lv_goto (tgt := 41) hx hb dX9_feed_77 (by decide) ?_
        refine lv_iload_n hx hb dX9_feed_41 rfl (lv_at hl 0 rfl) ?_
        refine lv_if_lt (tgt := 80) hx hb dX9_feed_42 (by decide) (fun c_11 => ?_) (fun c_11 => absurd (by decide) c_11)
        refine lv_aload_n hx hb dX9_feed_80 rfl (lv_at hl 1 rfl) ?_
        refine xg hF kf_X9_240 hK hP 0 rfl rfl dX9_feed_81 ?_
        exact W.iret (v := nI (mz + 1)) hx hb hr (fun t ht hW => ⟨⟨nI (mz + 1), (mz + 1, f_10, mq), rfl, ⟨(sp_f1 (p := 1) (c := 1) (by decide) (by decide) (by omega)).2.symm, (sp_f1 (p := 1) (c := 1) (by decide) (by decide) (by omega)).1.symm, (by first | assumption | omega)⟩, by rw [ht]; exact hP.sub [0, 1, 2] rfl, hD.sub [0, 1, 2] (by decide) rfl⟩, hS.F ht⟩) hS.2.2 dX9_feed_84 hlk
      · skip
        have nc_6 : 120 < mz + 1 := xn_nle (a := (mz + 1)) (b := 120) (by omega) (by omega) c_6
        refine lv_aload_n hx hb dX9_feed_30 rfl (lv_at hl 0 rfl) ?_
        refine lv_ldc (v := (-1000000002)) hx hb hown (hu _ uw676) dX9_feed_31 ?_
        refine xc_Vi (wr := [(yta, .inl (cI, 120, .inl tp))]) hF (c_X9_finds_F l D cI cJ cZ cS ta sa sv s.heap.size h0 ys yk yo yt mk0 yfa yfe mL mS mM yro yhe ygr mF mC mY yta mz mf mt mv mw ywa ybi ysi ynu ymo mq ) kv_X9_70 ⟨rfl, rfl, Nat.le_of_ble_eq_true rfl, Nat.le_of_ble_eq_true rfl⟩ ⟨Nat.le_of_ble_eq_true rfl, Nat.le_of_ble_eq_true rfl⟩ hK hN hZ hP hD hS hA [0, 2] [1] rfl rfl rfl rfl (by decide) 0 rfl rfl rfl rfl hl.1 rfl (Nat.le_of_ble_eq_true rfl) dX9_feed_33 (fun r_12 u_r_12 H locs hw_r_12 hP hD hS => ?_)
        obtain ⟨mq2_13, rfl⟩ : ∃ z, z = u_r_12 := ⟨_, rfl⟩
        try dsimp only at hw_r_12
        have hP : va_P D vwCl [(yta, .inl (cI, 120, .inl tp)), (h0, .inr (9, [.ref ys, .ref yk, .ref yo, .ref yt, .int mk0, .ref yfa, .ref yfe, .int mL, .int mS, .int mM, .ref yro, .ref yhe, .ref ygr, .int mF, .int mC, .int mY, .ref yta, .int (nI (mz)), .int (nI (mf)), .int (nI (mt)), .int mv, .int mw, .ref ywa, .ref ybi, .ref ysi, .ref ynu, .ref ymo])), (yt, .inl (cI, 7, .inl mq2_13))] H := hP
        have hD : va_D A [(yta, .inl (cI, 120, .inl tp)), (h0, .inr (9, [.ref ys, .ref yk, .ref yo, .ref yt, .int mk0, .ref yfa, .ref yfe, .int mL, .int mS, .int mM, .ref yro, .ref yhe, .ref ygr, .int mF, .int mC, .int mY, .ref yta, .int (nI (mz)), .int (nI (mf)), .int (nI (mt)), .int mv, .int mw, .ref ywa, .ref ybi, .ref ysi, .ref ynu, .ref ymo])), (yt, .inl (cI, 7, .inl mq2_13))] := hD
        subst hw_r_12
        exact W.iret (v := (-1000000002)) hx hb hr (fun t ht hW => ⟨⟨(-1000000002), (mz, tp, mq2_13), rfl, ⟨(sp_f2 (p := 1) (c := 1) (by decide) (by decide) (by omega)).2.symm, (sp_f2 (p := 1) (c := 1) (by decide) (by decide) (by omega)).1.symm, (by first | assumption | omega)⟩, by rw [ht]; exact hP.sub [1, 0, 2] rfl, hD.sub [1, 0, 2] (by decide) rfl⟩, hS.F ht⟩) hS.2.2 dX9_feed_36 hlk
    · skip
      refine lv_aload_n hx hb dX9_feed_19 rfl (lv_at hl 0 rfl) ?_
      refine xg hF kf_X9_240 hK hP 0 rfl rfl dX9_feed_20 ?_
      refine lv_iload_n hx hb dX9_feed_23 rfl (lv_at hl 2 rfl) ?_
      refine lv_iadd hx hb dX9_feed_24 ?_
      refine xl_i (y := nI (mz + 2)) (nI_add mz 2) ?_
      refine lv_bipush (v := 120) hx hb dX9_feed_25 (by decide) ?_
      refine lv_icmp_le (tgt := 37) hx hb dX9_feed_27 (by decide) (fun c_14 => ?_) (fun c_14 => ?_)
      · skip
        have nc_14 : mz + 2 ≤ 120 := xn_le (a := (mz + 2)) (b := 120) (by omega) (by omega) c_14
        refine lv_iload_n hx hb dX9_feed_37 rfl (lv_at hl 2 rfl) ?_
        refine lv_iconst (v := 1) hx hb dX9_feed_38 (by decide) ?_
        refine lv_isub hx hb dX9_feed_39 ?_
        refine xl_i (y := 1) (by decide) ?_
        refine lv_istore_n (lv' := [(3, .int 1), (0, .ref h0), (1, .int p0), (2, .int 2)]) hx hb dX9_feed_40 rfl hl (by decide) rfl (fun ls hl => ?_)
        refine lv_iload_n hx hb dX9_feed_41 rfl (lv_at hl 0 rfl) ?_
        refine lv_if_lt (tgt := 80) hx hb dX9_feed_42 (by decide) (fun c_15 => absurd c_15 (by decide)) (fun c_15 => ?_)
        refine lv_aload_n hx hb dX9_feed_45 rfl (lv_at hl 1 rfl) ?_
        refine xg hF kf_X9_37 hK hP 0 rfl rfl dX9_feed_46 ?_
        refine lv_aload_n hx hb dX9_feed_49 rfl (lv_at hl 1 rfl) ?_
        refine xg hF kf_X9_240 hK hP 0 rfl rfl dX9_feed_50 ?_
        refine lv_iload_n hx hb dX9_feed_53 rfl (lv_at hl 2 rfl) ?_
        refine lv_bipush (v := 8) hx hb dX9_feed_54 (by decide) ?_
        refine lv_iload_n hx hb dX9_feed_56 rfl (lv_at hl 0 rfl) ?_
        refine lv_imul hx hb dX9_feed_57 ?_
        refine xl_i (y := 8) (by decide) ?_
        refine lv_ishr hx hb dX9_feed_58 ?_
        refine lv_topi (fun x_16 ex_16 => ?_)
        refine lv_sipush (v := 255) hx hb dX9_feed_59 (by decide) ?_
        refine lv_iand hx hb dX9_feed_62 ?_
        refine lv_topi (fun x_17 ex_17 => ?_)
        refine va_iast hx hb hK hP hD hS 1 0 rfl rfl (vp_in_nI (show mz < 120 by omega) (by decide)) dX9_feed_63 (fun H locs hP hD hS => ?_)
        rw [nI_clamp (show mz < 2 ^ 31 by omega)] at hP hD
        obtain ⟨f_18, ef_18⟩ : ∃ g, g = upd tp mz x_17 := ⟨_, rfl⟩
        rw [← ef_18] at hP hD
        have hP : va_P D vwCl [(h0, .inr (9, [.ref ys, .ref yk, .ref yo, .ref yt, .int mk0, .ref yfa, .ref yfe, .int mL, .int mS, .int mM, .ref yro, .ref yhe, .ref ygr, .int mF, .int mC, .int mY, .ref yta, .int (nI (mz)), .int (nI (mf)), .int (nI (mt)), .int mv, .int mw, .ref ywa, .ref ybi, .ref ysi, .ref ynu, .ref ymo])), (yta, .inl (cI, 120, .inl f_18)), (yt, .inl (cI, 7, .inl mq))] H := hP
        have hD : va_D A [(h0, .inr (9, [.ref ys, .ref yk, .ref yo, .ref yt, .int mk0, .ref yfa, .ref yfe, .int mL, .int mS, .int mM, .ref yro, .ref yhe, .ref ygr, .int mF, .int mC, .int mY, .ref yta, .int (nI (mz)), .int (nI (mf)), .int (nI (mt)), .int mv, .int mw, .ref ywa, .ref ybi, .ref ysi, .ref ynu, .ref ymo])), (yta, .inl (cI, 120, .inl f_18)), (yt, .inl (cI, 7, .inl mq))] := hD
        refine lv_aload_n hx hb dX9_feed_64 rfl (lv_at hl 1 rfl) ?_
        refine lv_dup hx hb dX9_feed_65 rfl ?_
        refine xg hF kf_X9_240 hK hP 0 rfl rfl dX9_feed_66 ?_
        refine lv_iconst (v := 1) hx hb dX9_feed_69 (by decide) ?_
        refine lv_iadd hx hb dX9_feed_70 ?_
        refine xl_i (y := nI (mz + 1)) (nI_add mz 1) ?_
        refine xp hF kf_X9_240 tyX9_ok nmX9 hK hP hD hS 0 rfl rfl rfl rfl (Nat.le_of_ble_eq_true rfl) dX9_feed_71 (fun H locs hP hD hS => ?_)
        have hP : va_P D vwCl [(h0, .inr (9, [.ref ys, .ref yk, .ref yo, .ref yt, .int mk0, .ref yfa, .ref yfe, .int mL, .int mS, .int mM, .ref yro, .ref yhe, .ref ygr, .int mF, .int mC, .int mY, .ref yta, .int (nI (mz + 1)), .int (nI (mf)), .int (nI (mt)), .int mv, .int mw, .ref ywa, .ref ybi, .ref ysi, .ref ynu, .ref ymo])), (yta, .inl (cI, 120, .inl f_18)), (yt, .inl (cI, 7, .inl mq))] H := hP
        have hD : va_D A [(h0, .inr (9, [.ref ys, .ref yk, .ref yo, .ref yt, .int mk0, .ref yfa, .ref yfe, .int mL, .int mS, .int mM, .ref yro, .ref yhe, .ref ygr, .int mF, .int mC, .int mY, .ref yta, .int (nI (mz + 1)), .int (nI (mf)), .int (nI (mt)), .int mv, .int mw, .ref ywa, .ref ybi, .ref ysi, .ref ynu, .ref ymo])), (yta, .inl (cI, 120, .inl f_18)), (yt, .inl (cI, 7, .inl mq))] := hD
        refine lv_iinc (v := 0) (lv' := [(3, .int 0), (0, .ref h0), (1, .int p0), (2, .int 2)]) hx hb dX9_feed_74 hl (k := 0) rfl (by decide) (by decide) rfl (fun ls hl => ?_)
        refine lv_goto (tgt := 41) hx hb dX9_feed_77 (by decide) ?_
        refine lv_iload_n hx hb dX9_feed_41 rfl (lv_at hl 0 rfl) ?_
        refine lv_if_lt (tgt := 80) hx hb dX9_feed_42 (by decide) (fun c_19 => absurd c_19 (by decide)) (fun c_19 => ?_)
        refine lv_aload_n hx hb dX9_feed_45 rfl (lv_at hl 1 rfl) ?_
        refine xg hF kf_X9_37 hK hP 0 rfl rfl dX9_feed_46 ?_
        refine lv_aload_n hx hb dX9_feed_49 rfl (lv_at hl 1 rfl) ?_
        refine xg hF kf_X9_240 hK hP 0 rfl rfl dX9_feed_50 ?_
        refine lv_iload_n hx hb dX9_feed_53 rfl (lv_at hl 2 rfl) ?_
        refine lv_bipush (v := 8) hx hb dX9_feed_54 (by decide) ?_
        refine lv_iload_n hx hb dX9_feed_56 rfl (lv_at hl 0 rfl) ?_
        refine lv_imul hx hb dX9_feed_57 ?_
        refine xl_i (y := 0) (by decide) ?_
        refine lv_ishr hx hb dX9_feed_58 ?_
        refine lv_topi (fun x_20 ex_20 => ?_)
        refine lv_sipush (v := 255) hx hb dX9_feed_59 (by decide) ?_
        refine lv_iand hx hb dX9_feed_62 ?_
        refine lv_topi (fun x_21 ex_21 => ?_)
        refine va_iast hx hb hK hP hD hS 1 0 rfl rfl (vp_in_nI (show mz + 1 < 120 by omega) (by decide)) dX9_feed_63 (fun H locs hP hD hS => ?_)
        rw [nI_clamp (show mz + 1 < 2 ^ 31 by omega)] at hP hD
        obtain ⟨f_22, ef_22⟩ : ∃ g, g = upd f_18 (mz + 1) x_21 := ⟨_, rfl⟩
        rw [← ef_22] at hP hD
        have hP : va_P D vwCl [(h0, .inr (9, [.ref ys, .ref yk, .ref yo, .ref yt, .int mk0, .ref yfa, .ref yfe, .int mL, .int mS, .int mM, .ref yro, .ref yhe, .ref ygr, .int mF, .int mC, .int mY, .ref yta, .int (nI (mz + 1)), .int (nI (mf)), .int (nI (mt)), .int mv, .int mw, .ref ywa, .ref ybi, .ref ysi, .ref ynu, .ref ymo])), (yta, .inl (cI, 120, .inl f_22)), (yt, .inl (cI, 7, .inl mq))] H := hP
        have hD : va_D A [(h0, .inr (9, [.ref ys, .ref yk, .ref yo, .ref yt, .int mk0, .ref yfa, .ref yfe, .int mL, .int mS, .int mM, .ref yro, .ref yhe, .ref ygr, .int mF, .int mC, .int mY, .ref yta, .int (nI (mz + 1)), .int (nI (mf)), .int (nI (mt)), .int mv, .int mw, .ref ywa, .ref ybi, .ref ysi, .ref ynu, .ref ymo])), (yta, .inl (cI, 120, .inl f_22)), (yt, .inl (cI, 7, .inl mq))] := hD
        refine lv_aload_n hx hb dX9_feed_64 rfl (lv_at hl 1 rfl) ?_
        refine lv_dup hx hb dX9_feed_65 rfl ?_
        refine xg hF kf_X9_240 hK hP 0 rfl rfl dX9_feed_66 ?_
        refine lv_iconst (v := 1) hx hb dX9_feed_69 (by decide) ?_
        refine lv_iadd hx hb dX9_feed_70 ?_
        refine xl_i (y := nI (mz + 1 + 1)) (nI_add (mz + 1) 1) ?_
        refine xp hF kf_X9_240 tyX9_ok nmX9 hK hP hD hS 0 rfl rfl rfl rfl (Nat.le_of_ble_eq_true rfl) dX9_feed_71 (fun H locs hP hD hS => ?_)
        have hP : va_P D vwCl [(h0, .inr (9, [.ref ys, .ref yk, .ref yo, .ref yt, .int mk0, .ref yfa, .ref yfe, .int mL, .int mS, .int mM, .ref yro, .ref yhe, .ref ygr, .int mF, .int mC, .int mY, .ref yta, .int (nI (mz + 1 + 1)), .int (nI (mf)), .int (nI (mt)), .int mv, .int mw, .ref ywa, .ref ybi, .ref ysi, .ref ynu, .ref ymo])), (yta, .inl (cI, 120, .inl f_22)), (yt, .inl (cI, 7, .inl mq))] H := hP
        have hD : va_D A [(h0, .inr (9, [.ref ys, .ref yk, .ref yo, .ref yt, .int mk0, .ref yfa, .ref yfe, .int mL, .int mS, .int mM, .ref yro, .ref yhe, .ref ygr, .int mF, .int mC, .int mY, .ref yta, .int (nI (mz + 1 + 1)), .int (nI (mf)), .int (nI (mt)), .int mv, .int mw, .ref ywa, .ref ybi, .ref ysi, .ref ynu, .ref ymo])), (yta, .inl (cI, 120, .inl f_22)), (yt, .inl (cI, 7, .inl mq))] := hD
        refine lv_iinc (v := (-1)) (lv' := [(3, .int (-1)), (0, .ref h0), (1, .int p0), (2, .int 2)]) hx hb dX9_feed_74 hl (k := 0) rfl (by decide) (by decide) rfl (fun ls hl => ?_)
        refine lv_goto (tgt := 41) hx hb dX9_feed_77 (by decide) ?_
        refine lv_iload_n hx hb dX9_feed_41 rfl (lv_at hl 0 rfl) ?_
        refine lv_if_lt (tgt := 80) hx hb dX9_feed_42 (by decide) (fun c_23 => ?_) (fun c_23 => absurd (by decide) c_23)
        refine lv_aload_n hx hb dX9_feed_80 rfl (lv_at hl 1 rfl) ?_
        refine xg hF kf_X9_240 hK hP 0 rfl rfl dX9_feed_81 ?_
        exact W.iret (v := nI (mz + 1 + 1)) hx hb hr (fun t ht hW => ⟨⟨nI (mz + 1 + 1), (mz + 1 + 1, f_22, mq), rfl, ⟨(sp_f1 (p := 2) (c := 2) (by decide) (by decide) (by omega)).2.symm, (sp_f1 (p := 2) (c := 2) (by decide) (by decide) (by omega)).1.symm, (by first | assumption | omega)⟩, by rw [ht]; exact hP.sub [0, 1, 2] rfl, hD.sub [0, 1, 2] (by decide) rfl⟩, hS.F ht⟩) hS.2.2 dX9_feed_84 hlk
      · skip
        have nc_14 : 120 < mz + 2 := xn_nle (a := (mz + 2)) (b := 120) (by omega) (by omega) c_14
        refine lv_aload_n hx hb dX9_feed_30 rfl (lv_at hl 0 rfl) ?_
        refine lv_ldc (v := (-1000000002)) hx hb hown (hu _ uw676) dX9_feed_31 ?_
        refine xc_Vi (wr := [(yta, .inl (cI, 120, .inl tp))]) hF (c_X9_finds_F l D cI cJ cZ cS ta sa sv s.heap.size h0 ys yk yo yt mk0 yfa yfe mL mS mM yro yhe ygr mF mC mY yta mz mf mt mv mw ywa ybi ysi ynu ymo mq ) kv_X9_70 ⟨rfl, rfl, Nat.le_of_ble_eq_true rfl, Nat.le_of_ble_eq_true rfl⟩ ⟨Nat.le_of_ble_eq_true rfl, Nat.le_of_ble_eq_true rfl⟩ hK hN hZ hP hD hS hA [0, 2] [1] rfl rfl rfl rfl (by decide) 0 rfl rfl rfl rfl hl.1 rfl (Nat.le_of_ble_eq_true rfl) dX9_feed_33 (fun r_24 u_r_24 H locs hw_r_24 hP hD hS => ?_)
        obtain ⟨mq2_25, rfl⟩ : ∃ z, z = u_r_24 := ⟨_, rfl⟩
        try dsimp only at hw_r_24
        have hP : va_P D vwCl [(yta, .inl (cI, 120, .inl tp)), (h0, .inr (9, [.ref ys, .ref yk, .ref yo, .ref yt, .int mk0, .ref yfa, .ref yfe, .int mL, .int mS, .int mM, .ref yro, .ref yhe, .ref ygr, .int mF, .int mC, .int mY, .ref yta, .int (nI (mz)), .int (nI (mf)), .int (nI (mt)), .int mv, .int mw, .ref ywa, .ref ybi, .ref ysi, .ref ynu, .ref ymo])), (yt, .inl (cI, 7, .inl mq2_25))] H := hP
        have hD : va_D A [(yta, .inl (cI, 120, .inl tp)), (h0, .inr (9, [.ref ys, .ref yk, .ref yo, .ref yt, .int mk0, .ref yfa, .ref yfe, .int mL, .int mS, .int mM, .ref yro, .ref yhe, .ref ygr, .int mF, .int mC, .int mY, .ref yta, .int (nI (mz)), .int (nI (mf)), .int (nI (mt)), .int mv, .int mw, .ref ywa, .ref ybi, .ref ysi, .ref ynu, .ref ymo])), (yt, .inl (cI, 7, .inl mq2_25))] := hD
        subst hw_r_24
        exact W.iret (v := (-1000000002)) hx hb hr (fun t ht hW => ⟨⟨(-1000000002), (mz, tp, mq2_25), rfl, ⟨(sp_f2 (p := 2) (c := 2) (by decide) (by decide) (by omega)).2.symm, (sp_f2 (p := 2) (c := 2) (by decide) (by decide) (by omega)).1.symm, (by first | assumption | omega)⟩, by rw [ht]; exact hP.sub [1, 0, 2] rfl, hD.sub [1, 0, 2] (by decide) rfl⟩, hS.F ht⟩) hS.2.2 dX9_feed_36 hlk
    · skip
      refine lv_aload_n hx hb dX9_feed_19 rfl (lv_at hl 0 rfl) ?_
      refine xg hF kf_X9_240 hK hP 0 rfl rfl dX9_feed_20 ?_
      refine lv_iload_n hx hb dX9_feed_23 rfl (lv_at hl 2 rfl) ?_
      refine lv_iadd hx hb dX9_feed_24 ?_
      refine xl_i (y := nI (mz + 3)) (nI_add mz 3) ?_
      refine lv_bipush (v := 120) hx hb dX9_feed_25 (by decide) ?_
      refine lv_icmp_le (tgt := 37) hx hb dX9_feed_27 (by decide) (fun c_26 => ?_) (fun c_26 => ?_)
      · skip
        have nc_26 : mz + 3 ≤ 120 := xn_le (a := (mz + 3)) (b := 120) (by omega) (by omega) c_26
        refine lv_iload_n hx hb dX9_feed_37 rfl (lv_at hl 2 rfl) ?_
        refine lv_iconst (v := 1) hx hb dX9_feed_38 (by decide) ?_
        refine lv_isub hx hb dX9_feed_39 ?_
        refine xl_i (y := 2) (by decide) ?_
        refine lv_istore_n (lv' := [(3, .int 2), (0, .ref h0), (1, .int p0), (2, .int 3)]) hx hb dX9_feed_40 rfl hl (by decide) rfl (fun ls hl => ?_)
        refine lv_iload_n hx hb dX9_feed_41 rfl (lv_at hl 0 rfl) ?_
        refine lv_if_lt (tgt := 80) hx hb dX9_feed_42 (by decide) (fun c_27 => absurd c_27 (by decide)) (fun c_27 => ?_)
        refine lv_aload_n hx hb dX9_feed_45 rfl (lv_at hl 1 rfl) ?_
        refine xg hF kf_X9_37 hK hP 0 rfl rfl dX9_feed_46 ?_
        refine lv_aload_n hx hb dX9_feed_49 rfl (lv_at hl 1 rfl) ?_
        refine xg hF kf_X9_240 hK hP 0 rfl rfl dX9_feed_50 ?_
        refine lv_iload_n hx hb dX9_feed_53 rfl (lv_at hl 2 rfl) ?_
        refine lv_bipush (v := 8) hx hb dX9_feed_54 (by decide) ?_
        refine lv_iload_n hx hb dX9_feed_56 rfl (lv_at hl 0 rfl) ?_
        refine lv_imul hx hb dX9_feed_57 ?_
        refine xl_i (y := 16) (by decide) ?_
        refine lv_ishr hx hb dX9_feed_58 ?_
        refine lv_topi (fun x_28 ex_28 => ?_)
        refine lv_sipush (v := 255) hx hb dX9_feed_59 (by decide) ?_
        refine lv_iand hx hb dX9_feed_62 ?_
        refine lv_topi (fun x_29 ex_29 => ?_)
        refine va_iast hx hb hK hP hD hS 1 0 rfl rfl (vp_in_nI (show mz < 120 by omega) (by decide)) dX9_feed_63 (fun H locs hP hD hS => ?_)
        rw [nI_clamp (show mz < 2 ^ 31 by omega)] at hP hD
        obtain ⟨f_30, ef_30⟩ : ∃ g, g = upd tp mz x_29 := ⟨_, rfl⟩
        rw [← ef_30] at hP hD
        have hP : va_P D vwCl [(h0, .inr (9, [.ref ys, .ref yk, .ref yo, .ref yt, .int mk0, .ref yfa, .ref yfe, .int mL, .int mS, .int mM, .ref yro, .ref yhe, .ref ygr, .int mF, .int mC, .int mY, .ref yta, .int (nI (mz)), .int (nI (mf)), .int (nI (mt)), .int mv, .int mw, .ref ywa, .ref ybi, .ref ysi, .ref ynu, .ref ymo])), (yta, .inl (cI, 120, .inl f_30)), (yt, .inl (cI, 7, .inl mq))] H := hP
        have hD : va_D A [(h0, .inr (9, [.ref ys, .ref yk, .ref yo, .ref yt, .int mk0, .ref yfa, .ref yfe, .int mL, .int mS, .int mM, .ref yro, .ref yhe, .ref ygr, .int mF, .int mC, .int mY, .ref yta, .int (nI (mz)), .int (nI (mf)), .int (nI (mt)), .int mv, .int mw, .ref ywa, .ref ybi, .ref ysi, .ref ynu, .ref ymo])), (yta, .inl (cI, 120, .inl f_30)), (yt, .inl (cI, 7, .inl mq))] := hD
        refine lv_aload_n hx hb dX9_feed_64 rfl (lv_at hl 1 rfl) ?_
        refine lv_dup hx hb dX9_feed_65 rfl ?_
        refine xg hF kf_X9_240 hK hP 0 rfl rfl dX9_feed_66 ?_
        refine lv_iconst (v := 1) hx hb dX9_feed_69 (by decide) ?_
        refine lv_iadd hx hb dX9_feed_70 ?_
        refine xl_i (y := nI (mz + 1)) (nI_add mz 1) ?_
        refine xp hF kf_X9_240 tyX9_ok nmX9 hK hP hD hS 0 rfl rfl rfl rfl (Nat.le_of_ble_eq_true rfl) dX9_feed_71 (fun H locs hP hD hS => ?_)
        have hP : va_P D vwCl [(h0, .inr (9, [.ref ys, .ref yk, .ref yo, .ref yt, .int mk0, .ref yfa, .ref yfe, .int mL, .int mS, .int mM, .ref yro, .ref yhe, .ref ygr, .int mF, .int mC, .int mY, .ref yta, .int (nI (mz + 1)), .int (nI (mf)), .int (nI (mt)), .int mv, .int mw, .ref ywa, .ref ybi, .ref ysi, .ref ynu, .ref ymo])), (yta, .inl (cI, 120, .inl f_30)), (yt, .inl (cI, 7, .inl mq))] H := hP
        have hD : va_D A [(h0, .inr (9, [.ref ys, .ref yk, .ref yo, .ref yt, .int mk0, .ref yfa, .ref yfe, .int mL, .int mS, .int mM, .ref yro, .ref yhe, .ref ygr, .int mF, .int mC, .int mY, .ref yta, .int (nI (mz + 1)), .int (nI (mf)), .int (nI (mt)), .int mv, .int mw, .ref ywa, .ref ybi, .ref ysi, .ref ynu, .ref ymo])), (yta, .inl (cI, 120, .inl f_30)), (yt, .inl (cI, 7, .inl mq))] := hD
        refine lv_iinc (v := 1) (lv' := [(3, .int 1), (0, .ref h0), (1, .int p0), (2, .int 3)]) hx hb dX9_feed_74 hl (k := 0) rfl (by decide) (by decide) rfl (fun ls hl => ?_)
        refine lv_goto (tgt := 41) hx hb dX9_feed_77 (by decide) ?_
        refine lv_iload_n hx hb dX9_feed_41 rfl (lv_at hl 0 rfl) ?_
        refine lv_if_lt (tgt := 80) hx hb dX9_feed_42 (by decide) (fun c_31 => absurd c_31 (by decide)) (fun c_31 => ?_)
        refine lv_aload_n hx hb dX9_feed_45 rfl (lv_at hl 1 rfl) ?_
        refine xg hF kf_X9_37 hK hP 0 rfl rfl dX9_feed_46 ?_
        refine lv_aload_n hx hb dX9_feed_49 rfl (lv_at hl 1 rfl) ?_
        refine xg hF kf_X9_240 hK hP 0 rfl rfl dX9_feed_50 ?_
        refine lv_iload_n hx hb dX9_feed_53 rfl (lv_at hl 2 rfl) ?_
        refine lv_bipush (v := 8) hx hb dX9_feed_54 (by decide) ?_
        refine lv_iload_n hx hb dX9_feed_56 rfl (lv_at hl 0 rfl) ?_
        refine lv_imul hx hb dX9_feed_57 ?_
        refine xl_i (y := 8) (by decide) ?_
        refine lv_ishr hx hb dX9_feed_58 ?_
        refine lv_topi (fun x_32 ex_32 => ?_)
        refine lv_sipush (v := 255) hx hb dX9_feed_59 (by decide) ?_
        refine lv_iand hx hb dX9_feed_62 ?_
        refine lv_topi (fun x_33 ex_33 => ?_)
        refine va_iast hx hb hK hP hD hS 1 0 rfl rfl (vp_in_nI (show mz + 1 < 120 by omega) (by decide)) dX9_feed_63 (fun H locs hP hD hS => ?_)
        rw [nI_clamp (show mz + 1 < 2 ^ 31 by omega)] at hP hD
        obtain ⟨f_34, ef_34⟩ : ∃ g, g = upd f_30 (mz + 1) x_33 := ⟨_, rfl⟩
        rw [← ef_34] at hP hD
        have hP : va_P D vwCl [(h0, .inr (9, [.ref ys, .ref yk, .ref yo, .ref yt, .int mk0, .ref yfa, .ref yfe, .int mL, .int mS, .int mM, .ref yro, .ref yhe, .ref ygr, .int mF, .int mC, .int mY, .ref yta, .int (nI (mz + 1)), .int (nI (mf)), .int (nI (mt)), .int mv, .int mw, .ref ywa, .ref ybi, .ref ysi, .ref ynu, .ref ymo])), (yta, .inl (cI, 120, .inl f_34)), (yt, .inl (cI, 7, .inl mq))] H := hP
        have hD : va_D A [(h0, .inr (9, [.ref ys, .ref yk, .ref yo, .ref yt, .int mk0, .ref yfa, .ref yfe, .int mL, .int mS, .int mM, .ref yro, .ref yhe, .ref ygr, .int mF, .int mC, .int mY, .ref yta, .int (nI (mz + 1)), .int (nI (mf)), .int (nI (mt)), .int mv, .int mw, .ref ywa, .ref ybi, .ref ysi, .ref ynu, .ref ymo])), (yta, .inl (cI, 120, .inl f_34)), (yt, .inl (cI, 7, .inl mq))] := hD
        refine lv_aload_n hx hb dX9_feed_64 rfl (lv_at hl 1 rfl) ?_
        refine lv_dup hx hb dX9_feed_65 rfl ?_
        refine xg hF kf_X9_240 hK hP 0 rfl rfl dX9_feed_66 ?_
        refine lv_iconst (v := 1) hx hb dX9_feed_69 (by decide) ?_
        refine lv_iadd hx hb dX9_feed_70 ?_
        refine xl_i (y := nI (mz + 1 + 1)) (nI_add (mz + 1) 1) ?_
        refine xp hF kf_X9_240 tyX9_ok nmX9 hK hP hD hS 0 rfl rfl rfl rfl (Nat.le_of_ble_eq_true rfl) dX9_feed_71 (fun H locs hP hD hS => ?_)
        have hP : va_P D vwCl [(h0, .inr (9, [.ref ys, .ref yk, .ref yo, .ref yt, .int mk0, .ref yfa, .ref yfe, .int mL, .int mS, .int mM, .ref yro, .ref yhe, .ref ygr, .int mF, .int mC, .int mY, .ref yta, .int (nI (mz + 1 + 1)), .int (nI (mf)), .int (nI (mt)), .int mv, .int mw, .ref ywa, .ref ybi, .ref ysi, .ref ynu, .ref ymo])), (yta, .inl (cI, 120, .inl f_34)), (yt, .inl (cI, 7, .inl mq))] H := hP
        have hD : va_D A [(h0, .inr (9, [.ref ys, .ref yk, .ref yo, .ref yt, .int mk0, .ref yfa, .ref yfe, .int mL, .int mS, .int mM, .ref yro, .ref yhe, .ref ygr, .int mF, .int mC, .int mY, .ref yta, .int (nI (mz + 1 + 1)), .int (nI (mf)), .int (nI (mt)), .int mv, .int mw, .ref ywa, .ref ybi, .ref ysi, .ref ynu, .ref ymo])), (yta, .inl (cI, 120, .inl f_34)), (yt, .inl (cI, 7, .inl mq))] := hD
        refine lv_iinc (v := 0) (lv' := [(3, .int 0), (0, .ref h0), (1, .int p0), (2, .int 3)]) hx hb dX9_feed_74 hl (k := 0) rfl (by decide) (by decide) rfl (fun ls hl => ?_)
        refine lv_goto (tgt := 41) hx hb dX9_feed_77 (by decide) ?_
        refine lv_iload_n hx hb dX9_feed_41 rfl (lv_at hl 0 rfl) ?_
        refine lv_if_lt (tgt := 80) hx hb dX9_feed_42 (by decide) (fun c_35 => absurd c_35 (by decide)) (fun c_35 => ?_)
        refine lv_aload_n hx hb dX9_feed_45 rfl (lv_at hl 1 rfl) ?_
        refine xg hF kf_X9_37 hK hP 0 rfl rfl dX9_feed_46 ?_
        refine lv_aload_n hx hb dX9_feed_49 rfl (lv_at hl 1 rfl) ?_
        refine xg hF kf_X9_240 hK hP 0 rfl rfl dX9_feed_50 ?_
        refine lv_iload_n hx hb dX9_feed_53 rfl (lv_at hl 2 rfl) ?_
        refine lv_bipush (v := 8) hx hb dX9_feed_54 (by decide) ?_
        refine lv_iload_n hx hb dX9_feed_56 rfl (lv_at hl 0 rfl) ?_
        refine lv_imul hx hb dX9_feed_57 ?_
        refine xl_i (y := 0) (by decide) ?_
        refine lv_ishr hx hb dX9_feed_58 ?_
        refine lv_topi (fun x_36 ex_36 => ?_)
        refine lv_sipush (v := 255) hx hb dX9_feed_59 (by decide) ?_
        refine lv_iand hx hb dX9_feed_62 ?_
        refine lv_topi (fun x_37 ex_37 => ?_)
        refine va_iast hx hb hK hP hD hS 1 0 rfl rfl (vp_in_nI (show mz + 1 + 1 < 120 by omega) (by decide)) dX9_feed_63 (fun H locs hP hD hS => ?_)
        rw [nI_clamp (show mz + 1 + 1 < 2 ^ 31 by omega)] at hP hD
        obtain ⟨f_38, ef_38⟩ : ∃ g, g = upd f_34 (mz + 1 + 1) x_37 := ⟨_, rfl⟩
        rw [← ef_38] at hP hD
        have hP : va_P D vwCl [(h0, .inr (9, [.ref ys, .ref yk, .ref yo, .ref yt, .int mk0, .ref yfa, .ref yfe, .int mL, .int mS, .int mM, .ref yro, .ref yhe, .ref ygr, .int mF, .int mC, .int mY, .ref yta, .int (nI (mz + 1 + 1)), .int (nI (mf)), .int (nI (mt)), .int mv, .int mw, .ref ywa, .ref ybi, .ref ysi, .ref ynu, .ref ymo])), (yta, .inl (cI, 120, .inl f_38)), (yt, .inl (cI, 7, .inl mq))] H := hP
        have hD : va_D A [(h0, .inr (9, [.ref ys, .ref yk, .ref yo, .ref yt, .int mk0, .ref yfa, .ref yfe, .int mL, .int mS, .int mM, .ref yro, .ref yhe, .ref ygr, .int mF, .int mC, .int mY, .ref yta, .int (nI (mz + 1 + 1)), .int (nI (mf)), .int (nI (mt)), .int mv, .int mw, .ref ywa, .ref ybi, .ref ysi, .ref ynu, .ref ymo])), (yta, .inl (cI, 120, .inl f_38)), (yt, .inl (cI, 7, .inl mq))] := hD
        refine lv_aload_n hx hb dX9_feed_64 rfl (lv_at hl 1 rfl) ?_
        refine lv_dup hx hb dX9_feed_65 rfl ?_
        refine xg hF kf_X9_240 hK hP 0 rfl rfl dX9_feed_66 ?_
        refine lv_iconst (v := 1) hx hb dX9_feed_69 (by decide) ?_
        refine lv_iadd hx hb dX9_feed_70 ?_
        refine xl_i (y := nI (mz + 1 + 1 + 1)) (nI_add (mz + 1 + 1) 1) ?_
        refine xp hF kf_X9_240 tyX9_ok nmX9 hK hP hD hS 0 rfl rfl rfl rfl (Nat.le_of_ble_eq_true rfl) dX9_feed_71 (fun H locs hP hD hS => ?_)
        have hP : va_P D vwCl [(h0, .inr (9, [.ref ys, .ref yk, .ref yo, .ref yt, .int mk0, .ref yfa, .ref yfe, .int mL, .int mS, .int mM, .ref yro, .ref yhe, .ref ygr, .int mF, .int mC, .int mY, .ref yta, .int (nI (mz + 1 + 1 + 1)), .int (nI (mf)), .int (nI (mt)), .int mv, .int mw, .ref ywa, .ref ybi, .ref ysi, .ref ynu, .ref ymo])), (yta, .inl (cI, 120, .inl f_38)), (yt, .inl (cI, 7, .inl mq))] H := hP
        have hD : va_D A [(h0, .inr (9, [.ref ys, .ref yk, .ref yo, .ref yt, .int mk0, .ref yfa, .ref yfe, .int mL, .int mS, .int mM, .ref yro, .ref yhe, .ref ygr, .int mF, .int mC, .int mY, .ref yta, .int (nI (mz + 1 + 1 + 1)), .int (nI (mf)), .int (nI (mt)), .int mv, .int mw, .ref ywa, .ref ybi, .ref ysi, .ref ynu, .ref ymo])), (yta, .inl (cI, 120, .inl f_38)), (yt, .inl (cI, 7, .inl mq))] := hD
        refine lv_iinc (v := (-1)) (lv' := [(3, .int (-1)), (0, .ref h0), (1, .int p0), (2, .int 3)]) hx hb dX9_feed_74 hl (k := 0) rfl (by decide) (by decide) rfl (fun ls hl => ?_)
        refine lv_goto (tgt := 41) hx hb dX9_feed_77 (by decide) ?_
        refine lv_iload_n hx hb dX9_feed_41 rfl (lv_at hl 0 rfl) ?_
        refine lv_if_lt (tgt := 80) hx hb dX9_feed_42 (by decide) (fun c_39 => ?_) (fun c_39 => absurd (by decide) c_39)
        refine lv_aload_n hx hb dX9_feed_80 rfl (lv_at hl 1 rfl) ?_
        refine xg hF kf_X9_240 hK hP 0 rfl rfl dX9_feed_81 ?_
        exact W.iret (v := nI (mz + 1 + 1 + 1)) hx hb hr (fun t ht hW => ⟨⟨nI (mz + 1 + 1 + 1), (mz + 1 + 1 + 1, f_38, mq), rfl, ⟨(sp_f1 (p := 3) (c := 3) (by decide) (by decide) (by omega)).2.symm, (sp_f1 (p := 3) (c := 3) (by decide) (by decide) (by omega)).1.symm, (by first | assumption | omega)⟩, by rw [ht]; exact hP.sub [0, 1, 2] rfl, hD.sub [0, 1, 2] (by decide) rfl⟩, hS.F ht⟩) hS.2.2 dX9_feed_84 hlk
      · skip
        have nc_26 : 120 < mz + 3 := xn_nle (a := (mz + 3)) (b := 120) (by omega) (by omega) c_26
        refine lv_aload_n hx hb dX9_feed_30 rfl (lv_at hl 0 rfl) ?_
        refine lv_ldc (v := (-1000000002)) hx hb hown (hu _ uw676) dX9_feed_31 ?_
        refine xc_Vi (wr := [(yta, .inl (cI, 120, .inl tp))]) hF (c_X9_finds_F l D cI cJ cZ cS ta sa sv s.heap.size h0 ys yk yo yt mk0 yfa yfe mL mS mM yro yhe ygr mF mC mY yta mz mf mt mv mw ywa ybi ysi ynu ymo mq ) kv_X9_70 ⟨rfl, rfl, Nat.le_of_ble_eq_true rfl, Nat.le_of_ble_eq_true rfl⟩ ⟨Nat.le_of_ble_eq_true rfl, Nat.le_of_ble_eq_true rfl⟩ hK hN hZ hP hD hS hA [0, 2] [1] rfl rfl rfl rfl (by decide) 0 rfl rfl rfl rfl hl.1 rfl (Nat.le_of_ble_eq_true rfl) dX9_feed_33 (fun r_40 u_r_40 H locs hw_r_40 hP hD hS => ?_)
        obtain ⟨mq2_41, rfl⟩ : ∃ z, z = u_r_40 := ⟨_, rfl⟩
        try dsimp only at hw_r_40
        have hP : va_P D vwCl [(yta, .inl (cI, 120, .inl tp)), (h0, .inr (9, [.ref ys, .ref yk, .ref yo, .ref yt, .int mk0, .ref yfa, .ref yfe, .int mL, .int mS, .int mM, .ref yro, .ref yhe, .ref ygr, .int mF, .int mC, .int mY, .ref yta, .int (nI (mz)), .int (nI (mf)), .int (nI (mt)), .int mv, .int mw, .ref ywa, .ref ybi, .ref ysi, .ref ynu, .ref ymo])), (yt, .inl (cI, 7, .inl mq2_41))] H := hP
        have hD : va_D A [(yta, .inl (cI, 120, .inl tp)), (h0, .inr (9, [.ref ys, .ref yk, .ref yo, .ref yt, .int mk0, .ref yfa, .ref yfe, .int mL, .int mS, .int mM, .ref yro, .ref yhe, .ref ygr, .int mF, .int mC, .int mY, .ref yta, .int (nI (mz)), .int (nI (mf)), .int (nI (mt)), .int mv, .int mw, .ref ywa, .ref ybi, .ref ysi, .ref ynu, .ref ymo])), (yt, .inl (cI, 7, .inl mq2_41))] := hD
        subst hw_r_40
        exact W.iret (v := (-1000000002)) hx hb hr (fun t ht hW => ⟨⟨(-1000000002), (mz, tp, mq2_41), rfl, ⟨(sp_f2 (p := 3) (c := 3) (by decide) (by decide) (by omega)).2.symm, (sp_f2 (p := 3) (c := 3) (by decide) (by decide) (by omega)).1.symm, (by first | assumption | omega)⟩, by rw [ht]; exact hP.sub [1, 0, 2] rfl, hD.sub [1, 0, 2] (by decide) rfl⟩, hS.F ht⟩) hS.2.2 dX9_feed_36 hlk
    · skip
      refine lv_aload_n hx hb dX9_feed_19 rfl (lv_at hl 0 rfl) ?_
      refine xg hF kf_X9_240 hK hP 0 rfl rfl dX9_feed_20 ?_
      refine lv_iload_n hx hb dX9_feed_23 rfl (lv_at hl 2 rfl) ?_
      refine lv_iadd hx hb dX9_feed_24 ?_
      refine xl_i (y := nI (mz + 4)) (nI_add mz 4) ?_
      refine lv_bipush (v := 120) hx hb dX9_feed_25 (by decide) ?_
      refine lv_icmp_le (tgt := 37) hx hb dX9_feed_27 (by decide) (fun c_42 => ?_) (fun c_42 => ?_)
      · skip
        have nc_42 : mz + 4 ≤ 120 := xn_le (a := (mz + 4)) (b := 120) (by omega) (by omega) c_42
        refine lv_iload_n hx hb dX9_feed_37 rfl (lv_at hl 2 rfl) ?_
        refine lv_iconst (v := 1) hx hb dX9_feed_38 (by decide) ?_
        refine lv_isub hx hb dX9_feed_39 ?_
        refine xl_i (y := 3) (by decide) ?_
        refine lv_istore_n (lv' := [(3, .int 3), (0, .ref h0), (1, .int p0), (2, .int 4)]) hx hb dX9_feed_40 rfl hl (by decide) rfl (fun ls hl => ?_)
        refine lv_iload_n hx hb dX9_feed_41 rfl (lv_at hl 0 rfl) ?_
        refine lv_if_lt (tgt := 80) hx hb dX9_feed_42 (by decide) (fun c_43 => absurd c_43 (by decide)) (fun c_43 => ?_)
        refine lv_aload_n hx hb dX9_feed_45 rfl (lv_at hl 1 rfl) ?_
        refine xg hF kf_X9_37 hK hP 0 rfl rfl dX9_feed_46 ?_
        refine lv_aload_n hx hb dX9_feed_49 rfl (lv_at hl 1 rfl) ?_
        refine xg hF kf_X9_240 hK hP 0 rfl rfl dX9_feed_50 ?_
        refine lv_iload_n hx hb dX9_feed_53 rfl (lv_at hl 2 rfl) ?_
        refine lv_bipush (v := 8) hx hb dX9_feed_54 (by decide) ?_
        refine lv_iload_n hx hb dX9_feed_56 rfl (lv_at hl 0 rfl) ?_
        refine lv_imul hx hb dX9_feed_57 ?_
        refine xl_i (y := 24) (by decide) ?_
        refine lv_ishr hx hb dX9_feed_58 ?_
        refine lv_topi (fun x_44 ex_44 => ?_)
        refine lv_sipush (v := 255) hx hb dX9_feed_59 (by decide) ?_
        refine lv_iand hx hb dX9_feed_62 ?_
        refine lv_topi (fun x_45 ex_45 => ?_)
        refine va_iast hx hb hK hP hD hS 1 0 rfl rfl (vp_in_nI (show mz < 120 by omega) (by decide)) dX9_feed_63 (fun H locs hP hD hS => ?_)
        rw [nI_clamp (show mz < 2 ^ 31 by omega)] at hP hD
        obtain ⟨f_46, ef_46⟩ : ∃ g, g = upd tp mz x_45 := ⟨_, rfl⟩
        rw [← ef_46] at hP hD
        have hP : va_P D vwCl [(h0, .inr (9, [.ref ys, .ref yk, .ref yo, .ref yt, .int mk0, .ref yfa, .ref yfe, .int mL, .int mS, .int mM, .ref yro, .ref yhe, .ref ygr, .int mF, .int mC, .int mY, .ref yta, .int (nI (mz)), .int (nI (mf)), .int (nI (mt)), .int mv, .int mw, .ref ywa, .ref ybi, .ref ysi, .ref ynu, .ref ymo])), (yta, .inl (cI, 120, .inl f_46)), (yt, .inl (cI, 7, .inl mq))] H := hP
        have hD : va_D A [(h0, .inr (9, [.ref ys, .ref yk, .ref yo, .ref yt, .int mk0, .ref yfa, .ref yfe, .int mL, .int mS, .int mM, .ref yro, .ref yhe, .ref ygr, .int mF, .int mC, .int mY, .ref yta, .int (nI (mz)), .int (nI (mf)), .int (nI (mt)), .int mv, .int mw, .ref ywa, .ref ybi, .ref ysi, .ref ynu, .ref ymo])), (yta, .inl (cI, 120, .inl f_46)), (yt, .inl (cI, 7, .inl mq))] := hD
        refine lv_aload_n hx hb dX9_feed_64 rfl (lv_at hl 1 rfl) ?_
        refine lv_dup hx hb dX9_feed_65 rfl ?_
        refine xg hF kf_X9_240 hK hP 0 rfl rfl dX9_feed_66 ?_
        refine lv_iconst (v := 1) hx hb dX9_feed_69 (by decide) ?_
        refine lv_iadd hx hb dX9_feed_70 ?_
        refine xl_i (y := nI (mz + 1)) (nI_add mz 1) ?_
        refine xp hF kf_X9_240 tyX9_ok nmX9 hK hP hD hS 0 rfl rfl rfl rfl (Nat.le_of_ble_eq_true rfl) dX9_feed_71 (fun H locs hP hD hS => ?_)
        have hP : va_P D vwCl [(h0, .inr (9, [.ref ys, .ref yk, .ref yo, .ref yt, .int mk0, .ref yfa, .ref yfe, .int mL, .int mS, .int mM, .ref yro, .ref yhe, .ref ygr, .int mF, .int mC, .int mY, .ref yta, .int (nI (mz + 1)), .int (nI (mf)), .int (nI (mt)), .int mv, .int mw, .ref ywa, .ref ybi, .ref ysi, .ref ynu, .ref ymo])), (yta, .inl (cI, 120, .inl f_46)), (yt, .inl (cI, 7, .inl mq))] H := hP
        have hD : va_D A [(h0, .inr (9, [.ref ys, .ref yk, .ref yo, .ref yt, .int mk0, .ref yfa, .ref yfe, .int mL, .int mS, .int mM, .ref yro, .ref yhe, .ref ygr, .int mF, .int mC, .int mY, .ref yta, .int (nI (mz + 1)), .int (nI (mf)), .int (nI (mt)), .int mv, .int mw, .ref ywa, .ref ybi, .ref ysi, .ref ynu, .ref ymo])), (yta, .inl (cI, 120, .inl f_46)), (yt, .inl (cI, 7, .inl mq))] := hD
        refine lv_iinc (v := 2) (lv' := [(3, .int 2), (0, .ref h0), (1, .int p0), (2, .int 4)]) hx hb dX9_feed_74 hl (k := 0) rfl (by decide) (by decide) rfl (fun ls hl => ?_)
        refine lv_goto (tgt := 41) hx hb dX9_feed_77 (by decide) ?_
        refine lv_iload_n hx hb dX9_feed_41 rfl (lv_at hl 0 rfl) ?_
        refine lv_if_lt (tgt := 80) hx hb dX9_feed_42 (by decide) (fun c_47 => absurd c_47 (by decide)) (fun c_47 => ?_)
        refine lv_aload_n hx hb dX9_feed_45 rfl (lv_at hl 1 rfl) ?_
        refine xg hF kf_X9_37 hK hP 0 rfl rfl dX9_feed_46 ?_
        refine lv_aload_n hx hb dX9_feed_49 rfl (lv_at hl 1 rfl) ?_
        refine xg hF kf_X9_240 hK hP 0 rfl rfl dX9_feed_50 ?_
        refine lv_iload_n hx hb dX9_feed_53 rfl (lv_at hl 2 rfl) ?_
        refine lv_bipush (v := 8) hx hb dX9_feed_54 (by decide) ?_
        refine lv_iload_n hx hb dX9_feed_56 rfl (lv_at hl 0 rfl) ?_
        refine lv_imul hx hb dX9_feed_57 ?_
        refine xl_i (y := 16) (by decide) ?_
        refine lv_ishr hx hb dX9_feed_58 ?_
        refine lv_topi (fun x_48 ex_48 => ?_)
        refine lv_sipush (v := 255) hx hb dX9_feed_59 (by decide) ?_
        refine lv_iand hx hb dX9_feed_62 ?_
        refine lv_topi (fun x_49 ex_49 => ?_)
        refine va_iast hx hb hK hP hD hS 1 0 rfl rfl (vp_in_nI (show mz + 1 < 120 by omega) (by decide)) dX9_feed_63 (fun H locs hP hD hS => ?_)
        rw [nI_clamp (show mz + 1 < 2 ^ 31 by omega)] at hP hD
        obtain ⟨f_50, ef_50⟩ : ∃ g, g = upd f_46 (mz + 1) x_49 := ⟨_, rfl⟩
        rw [← ef_50] at hP hD
        have hP : va_P D vwCl [(h0, .inr (9, [.ref ys, .ref yk, .ref yo, .ref yt, .int mk0, .ref yfa, .ref yfe, .int mL, .int mS, .int mM, .ref yro, .ref yhe, .ref ygr, .int mF, .int mC, .int mY, .ref yta, .int (nI (mz + 1)), .int (nI (mf)), .int (nI (mt)), .int mv, .int mw, .ref ywa, .ref ybi, .ref ysi, .ref ynu, .ref ymo])), (yta, .inl (cI, 120, .inl f_50)), (yt, .inl (cI, 7, .inl mq))] H := hP
        have hD : va_D A [(h0, .inr (9, [.ref ys, .ref yk, .ref yo, .ref yt, .int mk0, .ref yfa, .ref yfe, .int mL, .int mS, .int mM, .ref yro, .ref yhe, .ref ygr, .int mF, .int mC, .int mY, .ref yta, .int (nI (mz + 1)), .int (nI (mf)), .int (nI (mt)), .int mv, .int mw, .ref ywa, .ref ybi, .ref ysi, .ref ynu, .ref ymo])), (yta, .inl (cI, 120, .inl f_50)), (yt, .inl (cI, 7, .inl mq))] := hD
        refine lv_aload_n hx hb dX9_feed_64 rfl (lv_at hl 1 rfl) ?_
        refine lv_dup hx hb dX9_feed_65 rfl ?_
        refine xg hF kf_X9_240 hK hP 0 rfl rfl dX9_feed_66 ?_
        refine lv_iconst (v := 1) hx hb dX9_feed_69 (by decide) ?_
        refine lv_iadd hx hb dX9_feed_70 ?_
        refine xl_i (y := nI (mz + 1 + 1)) (nI_add (mz + 1) 1) ?_
        refine xp hF kf_X9_240 tyX9_ok nmX9 hK hP hD hS 0 rfl rfl rfl rfl (Nat.le_of_ble_eq_true rfl) dX9_feed_71 (fun H locs hP hD hS => ?_)
        have hP : va_P D vwCl [(h0, .inr (9, [.ref ys, .ref yk, .ref yo, .ref yt, .int mk0, .ref yfa, .ref yfe, .int mL, .int mS, .int mM, .ref yro, .ref yhe, .ref ygr, .int mF, .int mC, .int mY, .ref yta, .int (nI (mz + 1 + 1)), .int (nI (mf)), .int (nI (mt)), .int mv, .int mw, .ref ywa, .ref ybi, .ref ysi, .ref ynu, .ref ymo])), (yta, .inl (cI, 120, .inl f_50)), (yt, .inl (cI, 7, .inl mq))] H := hP
        have hD : va_D A [(h0, .inr (9, [.ref ys, .ref yk, .ref yo, .ref yt, .int mk0, .ref yfa, .ref yfe, .int mL, .int mS, .int mM, .ref yro, .ref yhe, .ref ygr, .int mF, .int mC, .int mY, .ref yta, .int (nI (mz + 1 + 1)), .int (nI (mf)), .int (nI (mt)), .int mv, .int mw, .ref ywa, .ref ybi, .ref ysi, .ref ynu, .ref ymo])), (yta, .inl (cI, 120, .inl f_50)), (yt, .inl (cI, 7, .inl mq))] := hD
        refine lv_iinc (v := 1) (lv' := [(3, .int 1), (0, .ref h0), (1, .int p0), (2, .int 4)]) hx hb dX9_feed_74 hl (k := 0) rfl (by decide) (by decide) rfl (fun ls hl => ?_)
        refine lv_goto (tgt := 41) hx hb dX9_feed_77 (by decide) ?_
        refine lv_iload_n hx hb dX9_feed_41 rfl (lv_at hl 0 rfl) ?_
        refine lv_if_lt (tgt := 80) hx hb dX9_feed_42 (by decide) (fun c_51 => absurd c_51 (by decide)) (fun c_51 => ?_)
        refine lv_aload_n hx hb dX9_feed_45 rfl (lv_at hl 1 rfl) ?_
        refine xg hF kf_X9_37 hK hP 0 rfl rfl dX9_feed_46 ?_
        refine lv_aload_n hx hb dX9_feed_49 rfl (lv_at hl 1 rfl) ?_
        refine xg hF kf_X9_240 hK hP 0 rfl rfl dX9_feed_50 ?_
        refine lv_iload_n hx hb dX9_feed_53 rfl (lv_at hl 2 rfl) ?_
        refine lv_bipush (v := 8) hx hb dX9_feed_54 (by decide) ?_
        refine lv_iload_n hx hb dX9_feed_56 rfl (lv_at hl 0 rfl) ?_
        refine lv_imul hx hb dX9_feed_57 ?_
        refine xl_i (y := 8) (by decide) ?_
        refine lv_ishr hx hb dX9_feed_58 ?_
        refine lv_topi (fun x_52 ex_52 => ?_)
        refine lv_sipush (v := 255) hx hb dX9_feed_59 (by decide) ?_
        refine lv_iand hx hb dX9_feed_62 ?_
        refine lv_topi (fun x_53 ex_53 => ?_)
        refine va_iast hx hb hK hP hD hS 1 0 rfl rfl (vp_in_nI (show mz + 1 + 1 < 120 by omega) (by decide)) dX9_feed_63 (fun H locs hP hD hS => ?_)
        rw [nI_clamp (show mz + 1 + 1 < 2 ^ 31 by omega)] at hP hD
        obtain ⟨f_54, ef_54⟩ : ∃ g, g = upd f_50 (mz + 1 + 1) x_53 := ⟨_, rfl⟩
        rw [← ef_54] at hP hD
        have hP : va_P D vwCl [(h0, .inr (9, [.ref ys, .ref yk, .ref yo, .ref yt, .int mk0, .ref yfa, .ref yfe, .int mL, .int mS, .int mM, .ref yro, .ref yhe, .ref ygr, .int mF, .int mC, .int mY, .ref yta, .int (nI (mz + 1 + 1)), .int (nI (mf)), .int (nI (mt)), .int mv, .int mw, .ref ywa, .ref ybi, .ref ysi, .ref ynu, .ref ymo])), (yta, .inl (cI, 120, .inl f_54)), (yt, .inl (cI, 7, .inl mq))] H := hP
        have hD : va_D A [(h0, .inr (9, [.ref ys, .ref yk, .ref yo, .ref yt, .int mk0, .ref yfa, .ref yfe, .int mL, .int mS, .int mM, .ref yro, .ref yhe, .ref ygr, .int mF, .int mC, .int mY, .ref yta, .int (nI (mz + 1 + 1)), .int (nI (mf)), .int (nI (mt)), .int mv, .int mw, .ref ywa, .ref ybi, .ref ysi, .ref ynu, .ref ymo])), (yta, .inl (cI, 120, .inl f_54)), (yt, .inl (cI, 7, .inl mq))] := hD
        refine lv_aload_n hx hb dX9_feed_64 rfl (lv_at hl 1 rfl) ?_
        refine lv_dup hx hb dX9_feed_65 rfl ?_
        refine xg hF kf_X9_240 hK hP 0 rfl rfl dX9_feed_66 ?_
        refine lv_iconst (v := 1) hx hb dX9_feed_69 (by decide) ?_
        refine lv_iadd hx hb dX9_feed_70 ?_
        refine xl_i (y := nI (mz + 1 + 1 + 1)) (nI_add (mz + 1 + 1) 1) ?_
        refine xp hF kf_X9_240 tyX9_ok nmX9 hK hP hD hS 0 rfl rfl rfl rfl (Nat.le_of_ble_eq_true rfl) dX9_feed_71 (fun H locs hP hD hS => ?_)
        have hP : va_P D vwCl [(h0, .inr (9, [.ref ys, .ref yk, .ref yo, .ref yt, .int mk0, .ref yfa, .ref yfe, .int mL, .int mS, .int mM, .ref yro, .ref yhe, .ref ygr, .int mF, .int mC, .int mY, .ref yta, .int (nI (mz + 1 + 1 + 1)), .int (nI (mf)), .int (nI (mt)), .int mv, .int mw, .ref ywa, .ref ybi, .ref ysi, .ref ynu, .ref ymo])), (yta, .inl (cI, 120, .inl f_54)), (yt, .inl (cI, 7, .inl mq))] H := hP
        have hD : va_D A [(h0, .inr (9, [.ref ys, .ref yk, .ref yo, .ref yt, .int mk0, .ref yfa, .ref yfe, .int mL, .int mS, .int mM, .ref yro, .ref yhe, .ref ygr, .int mF, .int mC, .int mY, .ref yta, .int (nI (mz + 1 + 1 + 1)), .int (nI (mf)), .int (nI (mt)), .int mv, .int mw, .ref ywa, .ref ybi, .ref ysi, .ref ynu, .ref ymo])), (yta, .inl (cI, 120, .inl f_54)), (yt, .inl (cI, 7, .inl mq))] := hD
        refine lv_iinc (v := 0) (lv' := [(3, .int 0), (0, .ref h0), (1, .int p0), (2, .int 4)]) hx hb dX9_feed_74 hl (k := 0) rfl (by decide) (by decide) rfl (fun ls hl => ?_)
        refine lv_goto (tgt := 41) hx hb dX9_feed_77 (by decide) ?_
        refine lv_iload_n hx hb dX9_feed_41 rfl (lv_at hl 0 rfl) ?_
        refine lv_if_lt (tgt := 80) hx hb dX9_feed_42 (by decide) (fun c_55 => absurd c_55 (by decide)) (fun c_55 => ?_)
        refine lv_aload_n hx hb dX9_feed_45 rfl (lv_at hl 1 rfl) ?_
        refine xg hF kf_X9_37 hK hP 0 rfl rfl dX9_feed_46 ?_
        refine lv_aload_n hx hb dX9_feed_49 rfl (lv_at hl 1 rfl) ?_
        refine xg hF kf_X9_240 hK hP 0 rfl rfl dX9_feed_50 ?_
        refine lv_iload_n hx hb dX9_feed_53 rfl (lv_at hl 2 rfl) ?_
        refine lv_bipush (v := 8) hx hb dX9_feed_54 (by decide) ?_
        refine lv_iload_n hx hb dX9_feed_56 rfl (lv_at hl 0 rfl) ?_
        refine lv_imul hx hb dX9_feed_57 ?_
        refine xl_i (y := 0) (by decide) ?_
        refine lv_ishr hx hb dX9_feed_58 ?_
        refine lv_topi (fun x_56 ex_56 => ?_)
        refine lv_sipush (v := 255) hx hb dX9_feed_59 (by decide) ?_
        refine lv_iand hx hb dX9_feed_62 ?_
        refine lv_topi (fun x_57 ex_57 => ?_)
        refine va_iast hx hb hK hP hD hS 1 0 rfl rfl (vp_in_nI (show mz + 1 + 1 + 1 < 120 by omega) (by decide)) dX9_feed_63 (fun H locs hP hD hS => ?_)
        rw [nI_clamp (show mz + 1 + 1 + 1 < 2 ^ 31 by omega)] at hP hD
        obtain ⟨f_58, ef_58⟩ : ∃ g, g = upd f_54 (mz + 1 + 1 + 1) x_57 := ⟨_, rfl⟩
        rw [← ef_58] at hP hD
        have hP : va_P D vwCl [(h0, .inr (9, [.ref ys, .ref yk, .ref yo, .ref yt, .int mk0, .ref yfa, .ref yfe, .int mL, .int mS, .int mM, .ref yro, .ref yhe, .ref ygr, .int mF, .int mC, .int mY, .ref yta, .int (nI (mz + 1 + 1 + 1)), .int (nI (mf)), .int (nI (mt)), .int mv, .int mw, .ref ywa, .ref ybi, .ref ysi, .ref ynu, .ref ymo])), (yta, .inl (cI, 120, .inl f_58)), (yt, .inl (cI, 7, .inl mq))] H := hP
        have hD : va_D A [(h0, .inr (9, [.ref ys, .ref yk, .ref yo, .ref yt, .int mk0, .ref yfa, .ref yfe, .int mL, .int mS, .int mM, .ref yro, .ref yhe, .ref ygr, .int mF, .int mC, .int mY, .ref yta, .int (nI (mz + 1 + 1 + 1)), .int (nI (mf)), .int (nI (mt)), .int mv, .int mw, .ref ywa, .ref ybi, .ref ysi, .ref ynu, .ref ymo])), (yta, .inl (cI, 120, .inl f_58)), (yt, .inl (cI, 7, .inl mq))] := hD
        refine lv_aload_n hx hb dX9_feed_64 rfl (lv_at hl 1 rfl) ?_
        refine lv_dup hx hb dX9_feed_65 rfl ?_
        refine xg hF kf_X9_240 hK hP 0 rfl rfl dX9_feed_66 ?_
        refine lv_iconst (v := 1) hx hb dX9_feed_69 (by decide) ?_
        refine lv_iadd hx hb dX9_feed_70 ?_
        refine xl_i (y := nI (mz + 1 + 1 + 1 + 1)) (nI_add (mz + 1 + 1 + 1) 1) ?_
        refine xp hF kf_X9_240 tyX9_ok nmX9 hK hP hD hS 0 rfl rfl rfl rfl (Nat.le_of_ble_eq_true rfl) dX9_feed_71 (fun H locs hP hD hS => ?_)
        have hP : va_P D vwCl [(h0, .inr (9, [.ref ys, .ref yk, .ref yo, .ref yt, .int mk0, .ref yfa, .ref yfe, .int mL, .int mS, .int mM, .ref yro, .ref yhe, .ref ygr, .int mF, .int mC, .int mY, .ref yta, .int (nI (mz + 1 + 1 + 1 + 1)), .int (nI (mf)), .int (nI (mt)), .int mv, .int mw, .ref ywa, .ref ybi, .ref ysi, .ref ynu, .ref ymo])), (yta, .inl (cI, 120, .inl f_58)), (yt, .inl (cI, 7, .inl mq))] H := hP
        have hD : va_D A [(h0, .inr (9, [.ref ys, .ref yk, .ref yo, .ref yt, .int mk0, .ref yfa, .ref yfe, .int mL, .int mS, .int mM, .ref yro, .ref yhe, .ref ygr, .int mF, .int mC, .int mY, .ref yta, .int (nI (mz + 1 + 1 + 1 + 1)), .int (nI (mf)), .int (nI (mt)), .int mv, .int mw, .ref ywa, .ref ybi, .ref ysi, .ref ynu, .ref ymo])), (yta, .inl (cI, 120, .inl f_58)), (yt, .inl (cI, 7, .inl mq))] := hD
        refine lv_iinc (v := (-1)) (lv' := [(3, .int (-1)), (0, .ref h0), (1, .int p0), (2, .int 4)]) hx hb dX9_feed_74 hl (k := 0) rfl (by decide) (by decide) rfl (fun ls hl => ?_)
        refine lv_goto (tgt := 41) hx hb dX9_feed_77 (by decide) ?_
        refine lv_iload_n hx hb dX9_feed_41 rfl (lv_at hl 0 rfl) ?_
        refine lv_if_lt (tgt := 80) hx hb dX9_feed_42 (by decide) (fun c_59 => ?_) (fun c_59 => absurd (by decide) c_59)
        refine lv_aload_n hx hb dX9_feed_80 rfl (lv_at hl 1 rfl) ?_
        refine xg hF kf_X9_240 hK hP 0 rfl rfl dX9_feed_81 ?_
        exact W.iret (v := nI (mz + 1 + 1 + 1 + 1)) hx hb hr (fun t ht hW => ⟨⟨nI (mz + 1 + 1 + 1 + 1), (mz + 1 + 1 + 1 + 1, f_58, mq), rfl, ⟨(sp_f1 (p := 4) (c := 4) (by decide) (by decide) (by omega)).2.symm, (sp_f1 (p := 4) (c := 4) (by decide) (by decide) (by omega)).1.symm, (by first | assumption | omega)⟩, by rw [ht]; exact hP.sub [0, 1, 2] rfl, hD.sub [0, 1, 2] (by decide) rfl⟩, hS.F ht⟩) hS.2.2 dX9_feed_84 hlk
      · skip
        have nc_42 : 120 < mz + 4 := xn_nle (a := (mz + 4)) (b := 120) (by omega) (by omega) c_42
        refine lv_aload_n hx hb dX9_feed_30 rfl (lv_at hl 0 rfl) ?_
        refine lv_ldc (v := (-1000000002)) hx hb hown (hu _ uw676) dX9_feed_31 ?_
        refine xc_Vi (wr := [(yta, .inl (cI, 120, .inl tp))]) hF (c_X9_finds_F l D cI cJ cZ cS ta sa sv s.heap.size h0 ys yk yo yt mk0 yfa yfe mL mS mM yro yhe ygr mF mC mY yta mz mf mt mv mw ywa ybi ysi ynu ymo mq ) kv_X9_70 ⟨rfl, rfl, Nat.le_of_ble_eq_true rfl, Nat.le_of_ble_eq_true rfl⟩ ⟨Nat.le_of_ble_eq_true rfl, Nat.le_of_ble_eq_true rfl⟩ hK hN hZ hP hD hS hA [0, 2] [1] rfl rfl rfl rfl (by decide) 0 rfl rfl rfl rfl hl.1 rfl (Nat.le_of_ble_eq_true rfl) dX9_feed_33 (fun r_60 u_r_60 H locs hw_r_60 hP hD hS => ?_)
        obtain ⟨mq2_61, rfl⟩ : ∃ z, z = u_r_60 := ⟨_, rfl⟩
        try dsimp only at hw_r_60
        have hP : va_P D vwCl [(yta, .inl (cI, 120, .inl tp)), (h0, .inr (9, [.ref ys, .ref yk, .ref yo, .ref yt, .int mk0, .ref yfa, .ref yfe, .int mL, .int mS, .int mM, .ref yro, .ref yhe, .ref ygr, .int mF, .int mC, .int mY, .ref yta, .int (nI (mz)), .int (nI (mf)), .int (nI (mt)), .int mv, .int mw, .ref ywa, .ref ybi, .ref ysi, .ref ynu, .ref ymo])), (yt, .inl (cI, 7, .inl mq2_61))] H := hP
        have hD : va_D A [(yta, .inl (cI, 120, .inl tp)), (h0, .inr (9, [.ref ys, .ref yk, .ref yo, .ref yt, .int mk0, .ref yfa, .ref yfe, .int mL, .int mS, .int mM, .ref yro, .ref yhe, .ref ygr, .int mF, .int mC, .int mY, .ref yta, .int (nI (mz)), .int (nI (mf)), .int (nI (mt)), .int mv, .int mw, .ref ywa, .ref ybi, .ref ysi, .ref ynu, .ref ymo])), (yt, .inl (cI, 7, .inl mq2_61))] := hD
        subst hw_r_60
        exact W.iret (v := (-1000000002)) hx hb hr (fun t ht hW => ⟨⟨(-1000000002), (mz, tp, mq2_61), rfl, ⟨(sp_f2 (p := 4) (c := 4) (by decide) (by decide) (by omega)).2.symm, (sp_f2 (p := 4) (c := 4) (by decide) (by decide) (by omega)).1.symm, (by first | assumption | omega)⟩, by rw [ht]; exact hP.sub [1, 0, 2] rfl, hD.sub [1, 0, 2] (by decide) rfl⟩, hS.F ht⟩) hS.2.2 dX9_feed_36 hlk
  · skip
    refine lv_if_ne (tgt := 19) hx hb dX9_feed_9 (by decide) (fun c_62 => absurd (by decide) c_62) (fun c_62 => ?_)
    refine lv_aload_n hx hb dX9_feed_12 rfl (lv_at hl 0 rfl) ?_
    refine lv_ldc (v := (-1000000001)) hx hb hown (hu _ uw648) dX9_feed_13 ?_
    refine xc_Vi (wr := [(yta, .inl (cI, 120, .inl tp))]) hF (c_X9_finds_B l D cI cJ cZ cS ta sa sv s.heap.size h0 ys yk yo yt mk0 yfa yfe mL mS mM yro yhe ygr mF mC mY yta mz mf mt mv mw ywa ybi ysi ynu ymo mq ) kv_X9_70 ⟨rfl, rfl, Nat.le_of_ble_eq_true rfl, Nat.le_of_ble_eq_true rfl⟩ ⟨Nat.le_of_ble_eq_true rfl, Nat.le_of_ble_eq_true rfl⟩ hK hN hZ hP hD hS hA [0, 2] [1] rfl rfl rfl rfl (by decide) 0 rfl rfl rfl rfl hl.1 rfl (Nat.le_of_ble_eq_true rfl) dX9_feed_15 (fun r_63 u_r_63 H locs hw_r_63 hP hD hS => ?_)
    obtain ⟨mq2_64, rfl⟩ : ∃ z, z = u_r_63 := ⟨_, rfl⟩
    try dsimp only at hw_r_63
    have hP : va_P D vwCl [(yta, .inl (cI, 120, .inl tp)), (h0, .inr (9, [.ref ys, .ref yk, .ref yo, .ref yt, .int mk0, .ref yfa, .ref yfe, .int mL, .int mS, .int mM, .ref yro, .ref yhe, .ref ygr, .int mF, .int mC, .int mY, .ref yta, .int (nI (mz)), .int (nI (mf)), .int (nI (mt)), .int mv, .int mw, .ref ywa, .ref ybi, .ref ysi, .ref ynu, .ref ymo])), (yt, .inl (cI, 7, .inl mq2_64))] H := hP
    have hD : va_D A [(yta, .inl (cI, 120, .inl tp)), (h0, .inr (9, [.ref ys, .ref yk, .ref yo, .ref yt, .int mk0, .ref yfa, .ref yfe, .int mL, .int mS, .int mM, .ref yro, .ref yhe, .ref ygr, .int mF, .int mC, .int mY, .ref yta, .int (nI (mz)), .int (nI (mf)), .int (nI (mt)), .int mv, .int mw, .ref ywa, .ref ybi, .ref ysi, .ref ynu, .ref ymo])), (yt, .inl (cI, 7, .inl mq2_64))] := hD
    subst hw_r_63
    exact W.iret (v := (-1000000001)) hx hb hr (fun t ht hW => ⟨⟨(-1000000001), (mz, tp, mq2_64), rfl, ⟨(sp_f3 h_4).2.symm, (sp_f3 h_4).1.symm, (by first | assumption | omega)⟩, by rw [ht]; exact hP.sub [1, 0, 2] rfl, hD.sub [1, 0, 2] (by decide) rfl⟩, hS.F ht⟩) hS.2.2 dX9_feed_18 hlk
set_option maxHeartbeats 4000000 in
set_option maxRecDepth 100000 in
theorem c_X9_wipe (l : Launch) (D : va_G) (cI cJ cZ cS : ClassId) (ta : Nat) (sa sv : Nat → Nat) (sz : Nat) (h0 : Nat) (ys : Nat) (yk : Nat) (yo : Nat) (yt : Nat) (mk0 : Int32) (yfa : Nat) (yfe : Nat) (mL : Int32) (mS : Int32) (mM : Int32) (yro : Nat) (yhe : Nat) (ygr : Nat) (mF : Int32) (mC : Int32) (mY : Int32) (yta : Nat) (mz : Nat) (mf : Nat) (mt : Nat) (mv : Int32) (mw : Int32) (ywa : Nat) (ybi : Nat) (ysi : Nat) (ynu : Nat) (ymo : Nat) (hz : mz ≤ 120) : Met l yX9_wipe (Cond.code yX9_wipe cX9_wipe 2 (some .int) :: wsU) ({ frames := 0, cells := 0, slots := 0, locals := 0 }) (va_Pc [.ref h0] (XW D (xT cI cJ cZ cS) ta sa sv [(h0, .inr (9, [.ref ys, .ref yk, .ref yo, .ref yt, .int mk0, .ref yfa, .ref yfe, .int mL, .int mS, .int mM, .ref yro, .ref yhe, .ref ygr, .int mF, .int mC, .int mY, .ref yta, .int (nI (mz)), .int (nI (mf)), .int (nI (mt)), .int mv, .int mw, .ref ywa, .ref ybi, .ref ysi, .ref ynu, .ref ymo]))] sz)) (XQi (fun (r : Int32) (_ : Unit) => ((r = nI (mz)))) D (fun _ : Unit => [(h0, .inr (9, [.ref ys, .ref yk, .ref yo, .ref yt, .int mk0, .ref yfa, .ref yfe, .int mL, .int mS, .int mM, .ref yro, .ref yhe, .ref ygr, .int mF, .int mC, .int mY, .ref yta, .int 0, .int (nI (mf)), .int (nI (mt)), .int mv, .int mw, .ref ywa, .ref ybi, .ref ysi, .ref ynu, .ref ymo]))]) (va_A [(h0, .inr (9, [.ref ys, .ref yk, .ref yo, .ref yt, .int mk0, .ref yfa, .ref yfe, .int mL, .int mS, .int mM, .ref yro, .ref yhe, .ref ygr, .int mF, .int mC, .int mY, .ref yta, .int (nI (mz)), .int (nI (mf)), .int (nI (mt)), .int mv, .int mw, .ref ywa, .ref ybi, .ref ysi, .ref ynu, .ref ymo]))] sz)) 0 0 (va_A [(h0, .inr (9, [.ref ys, .ref yk, .ref yo, .ref yt, .int mk0, .ref yfa, .ref yfe, .int mL, .int mS, .int mM, .ref yro, .ref yhe, .ref ygr, .int mF, .int mC, .int mY, .ref yta, .int (nI (mz)), .int (nI (mf)), .int (nI (mt)), .int mv, .int mw, .ref ywa, .ref ybi, .ref ysi, .ref ynu, .ref ymo]))] sz) := by
  refine xh (QA := fun A => XQi (fun (r : Int32) (_ : Unit) => ((r = nI (mz)))) D (fun _ : Unit => [(h0, .inr (9, [.ref ys, .ref yk, .ref yo, .ref yt, .int mk0, .ref yfa, .ref yfe, .int mL, .int mS, .int mM, .ref yro, .ref yhe, .ref ygr, .int mF, .int mC, .int mY, .ref yta, .int 0, .int (nI (mf)), .int (nI (mt)), .int mv, .int mw, .ref ywa, .ref ybi, .ref ysi, .ref ynu, .ref ymo]))]) A) (fr := fun A => A) (by decide) (Nat.le_of_ble_eq_true rfl) ?_
  intro p e s m below meth c ls A hF hr hlk hin hsz hP hK hD hN hZ hA hS hl
  have hF : CallFix p m c cX9_wipe 2 s _ _ RX9 := hF
  have hx := hF.1
  have hb := hF.2.1
  have hml := hF.2.2.1
  have hown := hF.2.2.2.1
  have hu : ∀ w ∈ wsU, w.before _ s = true := fun w h => hF.2.2.2.2 w (List.mem_cons_of_mem _ h)
  have hl : lv_has ls 2 [(0, .ref h0)] := hl
  refine lv_aload_n hx hb dX9_wipe_0 rfl (lv_at hl 0 rfl) ?_
  refine xg hF kf_X9_240 hK hP 0 rfl rfl dX9_wipe_1 ?_
  refine lv_istore_n (lv' := [(1, .int (nI (mz))), (0, .ref h0)]) hx hb dX9_wipe_4 rfl hl (by decide) rfl (fun ls hl => ?_)
  refine lv_aload_n hx hb dX9_wipe_5 rfl (lv_at hl 1 rfl) ?_
  refine lv_iconst (v := 0) hx hb dX9_wipe_6 (by decide) ?_
  refine xp hF kf_X9_240 tyX9_ok nmX9 hK hP hD hS 0 rfl rfl rfl rfl (Nat.le_of_ble_eq_true rfl) dX9_wipe_7 (fun H locs hP hD hS => ?_)
  have hP : va_P D vwCl [(h0, .inr (9, [.ref ys, .ref yk, .ref yo, .ref yt, .int mk0, .ref yfa, .ref yfe, .int mL, .int mS, .int mM, .ref yro, .ref yhe, .ref ygr, .int mF, .int mC, .int mY, .ref yta, .int 0, .int (nI (mf)), .int (nI (mt)), .int mv, .int mw, .ref ywa, .ref ybi, .ref ysi, .ref ynu, .ref ymo]))] H := hP
  have hD : va_D A [(h0, .inr (9, [.ref ys, .ref yk, .ref yo, .ref yt, .int mk0, .ref yfa, .ref yfe, .int mL, .int mS, .int mM, .ref yro, .ref yhe, .ref ygr, .int mF, .int mC, .int mY, .ref yta, .int 0, .int (nI (mf)), .int (nI (mt)), .int mv, .int mw, .ref ywa, .ref ybi, .ref ysi, .ref ynu, .ref ymo]))] := hD
  refine lv_iload_n hx hb dX9_wipe_10 rfl (lv_at hl 0 rfl) ?_
  exact W.iret (v := nI (mz)) hx hb hr (fun t ht hW => ⟨⟨nI (mz), (), rfl, rfl, by rw [ht]; exact hP.sub [0] rfl, hD.sub [0] (by decide) rfl⟩, hS.F ht⟩) hS.2.2 dX9_wipe_11 hlk
set_option maxHeartbeats 4000000 in
set_option maxRecDepth 100000 in
theorem c_X9_byteAt (l : Launch) (D : va_G) (cI cJ cZ cS : ClassId) (ta : Nat) (sa sv : Nat → Nat) (sz : Nat) (h0 : Nat) (ys : Nat) (yk : Nat) (yo : Nat) (yt : Nat) (mk0 : Int32) (yfa : Nat) (yfe : Nat) (mL : Int32) (mS : Int32) (mM : Int32) (yro : Nat) (yhe : Nat) (ygr : Nat) (mF : Int32) (mC : Int32) (mY : Int32) (yta : Nat) (mz : Nat) (mf : Nat) (mt : Nat) (mv : Int32) (mw : Int32) (ywa : Nat) (ybi : Nat) (ysi : Nat) (ynu : Nat) (ymo : Nat) (tp : Nat → Int32) (k : Nat) (hz : mz ≤ 120) (hk : k ≤ 200) : Met l yX9_byteAt (Cond.code yX9_byteAt cX9_byteAt 2 (some .int) :: wsU) ({ frames := 0, cells := 0, slots := 0, locals := 0 }) (va_Pc [.ref h0, .int (nI (k))] (XW D (xT cI cJ cZ cS) ta sa sv [(h0, .inr (9, [.ref ys, .ref yk, .ref yo, .ref yt, .int mk0, .ref yfa, .ref yfe, .int mL, .int mS, .int mM, .ref yro, .ref yhe, .ref ygr, .int mF, .int mC, .int mY, .ref yta, .int (nI (mz)), .int (nI (mf)), .int (nI (mt)), .int mv, .int mw, .ref ywa, .ref ybi, .ref ysi, .ref ynu, .ref ymo])), (yta, .inl (cI, 120, .inl tp))] sz)) (vp_Si (fun r : Int32 => (r = tp k ∧ (k < mz)) ∨ (r = (-1) ∧ (mz ≤ k)))) 0 0 (fun _ => False) := by
  refine xh (QA := fun _ => vp_Si (fun r : Int32 => (r = tp k ∧ (k < mz)) ∨ (r = (-1) ∧ (mz ≤ k)))) (fr := fun _ _ => False) (by decide) (Nat.le_of_ble_eq_true rfl) ?_
  intro p e s m below meth c ls A hF hr hlk hin hsz hP hK hD hN hZ hA hS hl
  have hF : CallFix p m c cX9_byteAt 2 s _ _ RX9 := hF
  have hx := hF.1
  have hb := hF.2.1
  have hml := hF.2.2.1
  have hown := hF.2.2.2.1
  have hu : ∀ w ∈ wsU, w.before _ s = true := fun w h => hF.2.2.2.2 w (List.mem_cons_of_mem _ h)
  have hl : lv_has ls 2 [(0, .ref h0), (1, .int (nI (k)))] := hl
  refine lv_iload_n hx hb dX9_byteAt_0 rfl (lv_at hl 1 rfl) ?_
  refine lv_aload_n hx hb dX9_byteAt_1 rfl (lv_at hl 0 rfl) ?_
  refine xg hF kf_X9_240 hK hP 0 rfl rfl dX9_byteAt_2 ?_
  refine lv_icmp_ge (tgt := 17) hx hb dX9_byteAt_5 (by decide) (fun c_1 => ?_) (fun c_1 => ?_)
  · skip
    have nc_1 : mz ≤ k := xn_le (a := mz) (b := k) (by omega) (by omega) c_1
    refine lv_iconst (v := (-1)) hx hb dX9_byteAt_17 (by decide) ?_
    exact W.iret (v := (-1)) hx hb hr (fun t ht hW => ⟨(-1), rfl, (by first | exact Or.inl ⟨rfl, (by first | assumption | omega | exact Or.inl (by first | assumption | omega) | exact Or.inr (by first | assumption | omega))⟩ | exact Or.inr (⟨rfl, (by first | assumption | omega | exact Or.inl (by first | assumption | omega) | exact Or.inr (by first | assumption | omega))⟩)), ht⟩) (fun q h => by cases h) dX9_byteAt_18 hlk
  · skip
    have nc_1 : k < mz := xn_nle (a := mz) (b := k) (by omega) (by omega) c_1
    refine lv_aload_n hx hb dX9_byteAt_8 rfl (lv_at hl 0 rfl) ?_
    refine xg hF kf_X9_37 hK hP 0 rfl rfl dX9_byteAt_9 ?_
    refine lv_iload_n hx hb dX9_byteAt_12 rfl (lv_at hl 1 rfl) ?_
    refine va_iald hx hb hK hP 1 0 rfl rfl (vp_in_nI (show k < 120 by omega) (by decide)) dX9_byteAt_13 ?_
    refine xl_i (y := tp k) (congrArg tp (nI_clamp (show k < 2 ^ 31 by omega))) ?_
    refine lv_goto (tgt := 18) hx hb dX9_byteAt_14 (by decide) ?_
    exact W.iret (v := tp k) hx hb hr (fun t ht hW => ⟨tp k, rfl, (by first | exact Or.inl ⟨rfl, (by first | assumption | omega | exact Or.inl (by first | assumption | omega) | exact Or.inr (by first | assumption | omega))⟩), ht⟩) (fun q h => by cases h) dX9_byteAt_18 hlk
set_option maxHeartbeats 4000000 in
set_option maxRecDepth 100000 in
theorem c_X9_isLetterF (l : Launch) (D : va_G) (cI cJ cZ cS : ClassId) (ta : Nat) (sa sv : Nat → Nat) (sz : Nat) (p0 : Int32) : Met l yX9_isLetter (Cond.code yX9_isLetter cX9_isLetter 1 (some .boolean) :: wsU) ({ frames := 1, cells := 0, slots := 0, locals := 25 }) (va_Pc [.int p0] (XW D (xT cI cJ cZ cS) ta sa sv [] sz)) (vp_Si (fun r : Int32 => (r = 1 ∧ (¬ p0 < 97)) ∨ (r = 0))) 0 0 (fun _ => False) := by
  refine xh (QA := fun _ => vp_Si (fun r : Int32 => (r = 1 ∧ (¬ p0 < 97)) ∨ (r = 0))) (fr := fun _ _ => False) (by decide) (Nat.le_of_ble_eq_true rfl) ?_
  intro p e s m below meth c ls A hF hr hlk hin hsz hP hK hD hN hZ hA hS hl
  have hF : CallFix p m c cX9_isLetter 1 s _ _ RX9 := hF
  have hx := hF.1
  have hb := hF.2.1
  have hml := hF.2.2.1
  have hown := hF.2.2.2.1
  have hu : ∀ w ∈ wsU, w.before _ s = true := fun w h => hF.2.2.2.2 w (List.mem_cons_of_mem _ h)
  have hl : lv_has ls 1 [(0, .int p0)] := hl
  refine lv_iload_n hx hb dX9_isLetter_0 rfl (lv_at hl 0 rfl) ?_
  refine lv_i2l (v := p0.toInt64) hx hb dX9_isLetter_1 rfl ?_
  refine lv_ldc2 (v := 97) hx hb hown (hu _ uw668) dX9_isLetter_2 ?_
  refine xl_l (y := (97 : Int32).toInt64) (by decide) ?_
  refine lv_ldc2 (v := 122) hx hb hown (hu _ uw669) dX9_isLetter_5 ?_
  refine xl_l (y := (122 : Int32).toInt64) (by decide) ?_
  refine xc_Sr hF (c_X9_in l D cI cJ cZ cS ta sa sv s.heap.size p0 97 122 ) ks_X9_57 ⟨rfl, rfl, Nat.le_of_ble_eq_true rfl, Nat.le_of_ble_eq_true rfl⟩ ⟨Nat.le_of_ble_eq_true rfl, Nat.le_of_ble_eq_true rfl⟩ hK hN hZ hP hD hS hA [] rfl rfl rfl hl.1 rfl (Nat.le_of_ble_eq_true rfl) dX9_isLetter_8 (fun r_1 hw_r_1 => ?_)
  rcases hw_r_1 with ⟨rfl, h_2, h_3⟩ | ⟨rfl, h_4⟩
  · skip
    exact W.zret (v := 1) hx hb hr rfl (fun t ht hW => ⟨1, rfl, (by first | exact Or.inl ⟨rfl, (by first | assumption | omega | exact Or.inl (by first | assumption | omega) | exact Or.inr (by first | assumption | omega))⟩), ht⟩) (fun q h => by cases h) dX9_isLetter_11 hlk
  · skip
    exact W.zret (v := 0) hx hb hr rfl (fun t ht hW => ⟨0, rfl, (by first | exact Or.inr (rfl)), ht⟩) (fun q h => by cases h) dX9_isLetter_11 hlk
set_option maxHeartbeats 4000000 in
set_option maxRecDepth 100000 in
theorem c_X9_next (l : Launch) (D : va_G) (cI cJ cZ cS : ClassId) (ta : Nat) (sa sv : Nat → Nat) (sz : Nat) (h0 : Nat) (ys : Nat) (yk : Nat) (yo : Nat) (yt : Nat) (mk0 : Int32) (yfa : Nat) (yfe : Nat) (mL : Int32) (mS : Int32) (mM : Int32) (yro : Nat) (yhe : Nat) (ygr : Nat) (mF : Int32) (mC : Int32) (mY : Int32) (yta : Nat) (mz : Nat) (mf : Nat) (mt : Nat) (mv : Int32) (mw : Int32) (ywa : Nat) (ybi : Nat) (ysi : Nat) (ynu : Nat) (ymo : Nat) (tp : Nat → Int32) (hz : mz ≤ 120) (k2 : mt ≤ mz) : Met l yX9_next (Cond.code yX9_next cX9_next 3 none :: wsU) ({ frames := 2, cells := 0, slots := 0, locals := 45 }) (va_Pc [.ref h0] (XW D (xT cI cJ cZ cS) ta sa sv [(h0, .inr (9, [.ref ys, .ref yk, .ref yo, .ref yt, .int mk0, .ref yfa, .ref yfe, .int mL, .int mS, .int mM, .ref yro, .ref yhe, .ref ygr, .int mF, .int mC, .int mY, .ref yta, .int (nI (mz)), .int (nI (mf)), .int (nI (mt)), .int mv, .int mw, .ref ywa, .ref ybi, .ref ysi, .ref ynu, .ref ymo])), (yta, .inl (cI, 120, .inl tp))] sz)) (XQv (fun (u : Nat × Nat) => match u with | (f2, t2) => (f2 ≤ mz) ∧ (t2 ≤ mz) ∧ (f2 ≤ t2) ∧ (f2 < t2 ∨ f2 = mz) ∧ (mt ≤ f2)) D (fun (u : Nat × Nat) => match u with | (f2, t2) => [(h0, .inr (9, [.ref ys, .ref yk, .ref yo, .ref yt, .int mk0, .ref yfa, .ref yfe, .int mL, .int mS, .int mM, .ref yro, .ref yhe, .ref ygr, .int mF, .int mC, .int mY, .ref yta, .int (nI (mz)), .int (nI (f2)), .int (nI (t2)), .int mv, .int mw, .ref ywa, .ref ybi, .ref ysi, .ref ynu, .ref ymo])), (yta, .inl (cI, 120, .inl tp))]) (va_A [(h0, .inr (9, [.ref ys, .ref yk, .ref yo, .ref yt, .int mk0, .ref yfa, .ref yfe, .int mL, .int mS, .int mM, .ref yro, .ref yhe, .ref ygr, .int mF, .int mC, .int mY, .ref yta, .int (nI (mz)), .int (nI (mf)), .int (nI (mt)), .int mv, .int mw, .ref ywa, .ref ybi, .ref ysi, .ref ynu, .ref ymo])), (yta, .inl (cI, 120, .inl tp))] sz)) 0 0 (va_A [(h0, .inr (9, [.ref ys, .ref yk, .ref yo, .ref yt, .int mk0, .ref yfa, .ref yfe, .int mL, .int mS, .int mM, .ref yro, .ref yhe, .ref ygr, .int mF, .int mC, .int mY, .ref yta, .int (nI (mz)), .int (nI (mf)), .int (nI (mt)), .int mv, .int mw, .ref ywa, .ref ybi, .ref ysi, .ref ynu, .ref ymo])), (yta, .inl (cI, 120, .inl tp))] sz) := by
  refine xh (QA := fun A => XQv (fun (u : Nat × Nat) => match u with | (f2, t2) => (f2 ≤ mz) ∧ (t2 ≤ mz) ∧ (f2 ≤ t2) ∧ (f2 < t2 ∨ f2 = mz) ∧ (mt ≤ f2)) D (fun (u : Nat × Nat) => match u with | (f2, t2) => [(h0, .inr (9, [.ref ys, .ref yk, .ref yo, .ref yt, .int mk0, .ref yfa, .ref yfe, .int mL, .int mS, .int mM, .ref yro, .ref yhe, .ref ygr, .int mF, .int mC, .int mY, .ref yta, .int (nI (mz)), .int (nI (f2)), .int (nI (t2)), .int mv, .int mw, .ref ywa, .ref ybi, .ref ysi, .ref ynu, .ref ymo])), (yta, .inl (cI, 120, .inl tp))]) A) (fr := fun A => A) (by decide) (Nat.le_of_ble_eq_true rfl) ?_
  intro p e s m below meth c ls A hF hr hlk hin hsz hP hK hD hN hZ hA hS hl
  have hF : CallFix p m c cX9_next 3 s _ _ RX9 := hF
  have hx := hF.1
  have hb := hF.2.1
  have hml := hF.2.2.1
  have hown := hF.2.2.2.1
  have hu : ∀ w ∈ wsU, w.before _ s = true := fun w h => hF.2.2.2.2 w (List.mem_cons_of_mem _ h)
  have hl : lv_has ls 3 [(0, .ref h0)] := hl
  refine lv_aload_n hx hb dX9_next_0 rfl (lv_at hl 0 rfl) ?_
  refine lv_aload_n hx hb dX9_next_1 rfl (lv_at hl 0 rfl) ?_
  refine xg hF kf_X9_251 hK hP 0 rfl rfl dX9_next_2 ?_
  refine xp hF kf_X9_254 tyX9_ok nmX9 hK hP hD hS 0 rfl rfl rfl rfl (Nat.le_of_ble_eq_true rfl) dX9_next_5 (fun H locs hP hD hS => ?_)
  have hP : va_P D vwCl [(h0, .inr (9, [.ref ys, .ref yk, .ref yo, .ref yt, .int mk0, .ref yfa, .ref yfe, .int mL, .int mS, .int mM, .ref yro, .ref yhe, .ref ygr, .int mF, .int mC, .int mY, .ref yta, .int (nI (mz)), .int (nI (mt)), .int (nI (mt)), .int mv, .int mw, .ref ywa, .ref ybi, .ref ysi, .ref ynu, .ref ymo])), (yta, .inl (cI, 120, .inl tp))] H := hP
  have hD : va_D A [(h0, .inr (9, [.ref ys, .ref yk, .ref yo, .ref yt, .int mk0, .ref yfa, .ref yfe, .int mL, .int mS, .int mM, .ref yro, .ref yhe, .ref ygr, .int mF, .int mC, .int mY, .ref yta, .int (nI (mz)), .int (nI (mt)), .int (nI (mt)), .int mv, .int mw, .ref ywa, .ref ybi, .ref ysi, .ref ynu, .ref ymo])), (yta, .inl (cI, 120, .inl tp))] := hD
  suffices loop_8 : ∀ (n_8 : Nat) (f8 : Nat) (H : Heap) (locs : List Loc) (ls : Array Slot), mz - f8 < n_8 → (f8 ≤ mz) → (mt ≤ f8) → va_P D vwCl [(h0, .inr (9, [.ref ys, .ref yk, .ref yo, .ref yt, .int mk0, .ref yfa, .ref yfe, .int mL, .int mS, .int mM, .ref yro, .ref yhe, .ref ygr, .int mF, .int mC, .int mY, .ref yta, .int (nI (mz)), .int (nI (f8)), .int (nI (mt)), .int mv, .int mw, .ref ywa, .ref ybi, .ref ysi, .ref ynu, .ref ymo])), (yta, .inl (cI, 120, .inl tp))] H → va_D A [(h0, .inr (9, [.ref ys, .ref yk, .ref yo, .ref yt, .int mk0, .ref yfa, .ref yfe, .int mL, .int mS, .int mM, .ref yro, .ref yhe, .ref ygr, .int mF, .int mC, .int mY, .ref yta, .int (nI (mz)), .int (nI (f8)), .int (nI (mt)), .int mv, .int mw, .ref ywa, .ref ybi, .ref ysi, .ref ynu, .ref ymo])), (yta, .inl (cI, 120, .inl tp))] → va_S A s.heap H locs → lv_has ls 3 [(0, .ref h0)] → W p l e ({ frames := 2, cells := 0, slots := 0, locals := 45 }) s m ([.ref h0] : List Value).toArray below meth c H locs 0 0 (MQ below (XQv (fun (u : Nat × Nat) => match u with | (f2, t2) => (f2 ≤ mz) ∧ (t2 ≤ mz) ∧ (f2 ≤ t2) ∧ (f2 < t2 ∨ f2 = mz) ∧ (mt ≤ f2)) D (fun (u : Nat × Nat) => match u with | (f2, t2) => [(h0, .inr (9, [.ref ys, .ref yk, .ref yo, .ref yt, .int mk0, .ref yfa, .ref yfe, .int mL, .int mS, .int mM, .ref yro, .ref yhe, .ref ygr, .int mF, .int mC, .int mY, .ref yta, .int (nI (mz)), .int (nI (f2)), .int (nI (t2)), .int mv, .int mw, .ref ywa, .ref ybi, .ref ysi, .ref ynu, .ref ymo])), (yta, .inl (cI, 120, .inl tp))]) A) ([.ref h0] : List Value).toArray s 0 0 A) (F0 m 8 ls []) by
    exact loop_8 _ mt _ _ _ (Nat.lt_succ_self _) (by omega) (by omega) hP hD hS (lv_sub hl [0] rfl)
  intro n_8
  induction n_8 with
  | zero =>
    intro f8 H locs ls hm_8
    exact absurd hm_8 (Nat.not_lt_zero _)
  | succ n_8 ih_8 =>
    intro f8 H locs ls hm_8 hf8 hg8 hP hD hS hl
    refine lv_aload_n hx hb dX9_next_8 rfl (lv_at hl 0 rfl) ?_
    refine lv_aload_n hx hb dX9_next_9 rfl (lv_at hl 0 rfl) ?_
    refine xg hF kf_X9_254 hK hP 0 rfl rfl dX9_next_10 ?_
    refine xc_Vr hF (c_X9_byteAt l D cI cJ cZ cS ta sa sv H.size h0 ys yk yo yt mk0 yfa yfe mL mS mM yro yhe ygr mF mC mY yta mz f8 mt mv mw ywa ybi ysi ynu ymo tp f8 (by omega) (by omega)) kv_X9_257 ⟨rfl, rfl, Nat.le_of_ble_eq_true rfl, Nat.le_of_ble_eq_true rfl⟩ ⟨Nat.le_of_ble_eq_true rfl, Nat.le_of_ble_eq_true rfl⟩ hK hN hZ hP hD hS hA [0, 1] rfl rfl 0 rfl rfl rfl rfl hl.1 rfl (Nat.le_of_ble_eq_true rfl) dX9_next_13 (fun r_1 hw_r_1 => ?_)
    rcases hw_r_1 with ⟨rfl, h_2⟩ | ⟨rfl, h_3⟩
    · skip
      refine lv_bipush (v := 32) hx hb dX9_next_16 (by decide) ?_
      refine lv_icmp_ne (tgt := 34) hx hb dX9_next_18 (by decide) (fun c_4 => ?_) (fun c_4 => ?_)
      · skip
        refine lv_aload_n hx hb dX9_next_34 rfl (lv_at hl 0 rfl) ?_
        refine lv_aload_n hx hb dX9_next_35 rfl (lv_at hl 0 rfl) ?_
        refine xg hF kf_X9_254 hK hP 0 rfl rfl dX9_next_36 ?_
        refine xc_Vr hF (c_X9_byteAt l D cI cJ cZ cS ta sa sv H.size h0 ys yk yo yt mk0 yfa yfe mL mS mM yro yhe ygr mF mC mY yta mz f8 mt mv mw ywa ybi ysi ynu ymo tp f8 (by omega) (by omega)) kv_X9_257 ⟨rfl, rfl, Nat.le_of_ble_eq_true rfl, Nat.le_of_ble_eq_true rfl⟩ ⟨Nat.le_of_ble_eq_true rfl, Nat.le_of_ble_eq_true rfl⟩ hK hN hZ hP hD hS hA [0, 1] rfl rfl 0 rfl rfl rfl rfl hl.1 rfl (Nat.le_of_ble_eq_true rfl) dX9_next_39 (fun r_5 hw_r_5 => ?_)
        rcases hw_r_5 with ⟨rfl, h_6⟩ | ⟨rfl, h_7⟩
        · skip
          refine xc_Sr hF (c_X9_isLetterF l D cI cJ cZ cS ta sa sv H.size (tp f8) ) ks_X9_260 ⟨rfl, rfl, Nat.le_of_ble_eq_true rfl, Nat.le_of_ble_eq_true rfl⟩ ⟨Nat.le_of_ble_eq_true rfl, Nat.le_of_ble_eq_true rfl⟩ hK hN hZ hP hD hS hA [] rfl rfl rfl hl.1 rfl (Nat.le_of_ble_eq_true rfl) dX9_next_42 (fun r_8 hw_r_8 => ?_)
          rcases hw_r_8 with ⟨rfl, h_9⟩ | rfl
          · skip
            refine lv_istore_n (lv' := [(1, .int 1), (0, .ref h0)]) hx hb dX9_next_45 rfl hl (by decide) rfl (fun ls hl => ?_)
            refine lv_aload_n hx hb dX9_next_46 rfl (lv_at hl 1 rfl) ?_
            refine lv_aload_n hx hb dX9_next_47 rfl (lv_at hl 1 rfl) ?_
            refine xg hF kf_X9_254 hK hP 0 rfl rfl dX9_next_48 ?_
            refine xc_Vr hF (c_X9_byteAt l D cI cJ cZ cS ta sa sv H.size h0 ys yk yo yt mk0 yfa yfe mL mS mM yro yhe ygr mF mC mY yta mz f8 mt mv mw ywa ybi ysi ynu ymo tp f8 (by omega) (by omega)) kv_X9_257 ⟨rfl, rfl, Nat.le_of_ble_eq_true rfl, Nat.le_of_ble_eq_true rfl⟩ ⟨Nat.le_of_ble_eq_true rfl, Nat.le_of_ble_eq_true rfl⟩ hK hN hZ hP hD hS hA [0, 1] rfl rfl 0 rfl rfl rfl rfl hl.1 rfl (Nat.le_of_ble_eq_true rfl) dX9_next_51 (fun r_10 hw_r_10 => ?_)
            rcases hw_r_10 with ⟨rfl, h_11⟩ | ⟨rfl, h_12⟩
            · skip
              refine xc_Sr hF (c_X9_isDigit l D cI cJ cZ cS ta sa sv H.size (tp f8) ) ks_X9_263 ⟨rfl, rfl, Nat.le_of_ble_eq_true rfl, Nat.le_of_ble_eq_true rfl⟩ ⟨Nat.le_of_ble_eq_true rfl, Nat.le_of_ble_eq_true rfl⟩ hK hN hZ hP hD hS hA [] rfl rfl rfl hl.1 rfl (Nat.le_of_ble_eq_true rfl) dX9_next_54 (fun r_13 hw_r_13 => ?_)
              rcases hw_r_13 with ⟨rfl, h_14, h_15⟩ | ⟨rfl, h_16⟩
              · skip
                refine lv_istore_n (lv' := [(2, .int 1), (1, .int 1), (0, .ref h0)]) hx hb dX9_next_57 rfl hl (by decide) rfl (fun ls hl => ?_)
                refine lv_aload_n hx hb dX9_next_58 rfl (lv_at hl 2 rfl) ?_
                refine lv_aload_n hx hb dX9_next_59 rfl (lv_at hl 2 rfl) ?_
                refine xg hF kf_X9_254 hK hP 0 rfl rfl dX9_next_60 ?_
                refine lv_aload_n hx hb dX9_next_63 rfl (lv_at hl 2 rfl) ?_
                refine xg hF kf_X9_240 hK hP 0 rfl rfl dX9_next_64 ?_
                refine lv_icmp_ge (tgt := 79) hx hb dX9_next_67 (by decide) (fun c_17 => ?_) (fun c_17 => ?_)
                · skip
                  have nc_17 : mz ≤ f8 := xn_le (a := mz) (b := f8) (by omega) (by omega) c_17
                  refine lv_aload_n hx hb dX9_next_79 rfl (lv_at hl 2 rfl) ?_
                  refine xg hF kf_X9_254 hK hP 0 rfl rfl dX9_next_80 ?_
                  refine xp hF kf_X9_251 tyX9_ok nmX9 hK hP hD hS 0 rfl rfl rfl rfl (Nat.le_of_ble_eq_true rfl) dX9_next_83 (fun H locs hP hD hS => ?_)
                  have hP : va_P D vwCl [(h0, .inr (9, [.ref ys, .ref yk, .ref yo, .ref yt, .int mk0, .ref yfa, .ref yfe, .int mL, .int mS, .int mM, .ref yro, .ref yhe, .ref ygr, .int mF, .int mC, .int mY, .ref yta, .int (nI (mz)), .int (nI (f8)), .int (nI (f8)), .int mv, .int mw, .ref ywa, .ref ybi, .ref ysi, .ref ynu, .ref ymo])), (yta, .inl (cI, 120, .inl tp))] H := hP
                  have hD : va_D A [(h0, .inr (9, [.ref ys, .ref yk, .ref yo, .ref yt, .int mk0, .ref yfa, .ref yfe, .int mL, .int mS, .int mM, .ref yro, .ref yhe, .ref ygr, .int mF, .int mC, .int mY, .ref yta, .int (nI (mz)), .int (nI (f8)), .int (nI (f8)), .int mv, .int mw, .ref ywa, .ref ybi, .ref ysi, .ref ynu, .ref ymo])), (yta, .inl (cI, 120, .inl tp))] := hD
                  suffices loop_86 : ∀ (n_86 : Nat) (t8 : Nat) (H : Heap) (locs : List Loc) (ls : Array Slot), mz - t8 < n_86 → (t8 ≤ mz) → (f8 ≤ t8) → (f8 < t8 ∨ f8 = mz) → va_P D vwCl [(h0, .inr (9, [.ref ys, .ref yk, .ref yo, .ref yt, .int mk0, .ref yfa, .ref yfe, .int mL, .int mS, .int mM, .ref yro, .ref yhe, .ref ygr, .int mF, .int mC, .int mY, .ref yta, .int (nI (mz)), .int (nI (f8)), .int (nI (t8)), .int mv, .int mw, .ref ywa, .ref ybi, .ref ysi, .ref ynu, .ref ymo])), (yta, .inl (cI, 120, .inl tp))] H → va_D A [(h0, .inr (9, [.ref ys, .ref yk, .ref yo, .ref yt, .int mk0, .ref yfa, .ref yfe, .int mL, .int mS, .int mM, .ref yro, .ref yhe, .ref ygr, .int mF, .int mC, .int mY, .ref yta, .int (nI (mz)), .int (nI (f8)), .int (nI (t8)), .int mv, .int mw, .ref ywa, .ref ybi, .ref ysi, .ref ynu, .ref ymo])), (yta, .inl (cI, 120, .inl tp))] → va_S A s.heap H locs → lv_has ls 3 [(2, .int 1), (1, .int 1), (0, .ref h0)] → W p l e ({ frames := 2, cells := 0, slots := 0, locals := 45 }) s m ([.ref h0] : List Value).toArray below meth c H locs 0 0 (MQ below (XQv (fun (u : Nat × Nat) => match u with | (f2, t2) => (f2 ≤ mz) ∧ (t2 ≤ mz) ∧ (f2 ≤ t2) ∧ (f2 < t2 ∨ f2 = mz) ∧ (mt ≤ f2)) D (fun (u : Nat × Nat) => match u with | (f2, t2) => [(h0, .inr (9, [.ref ys, .ref yk, .ref yo, .ref yt, .int mk0, .ref yfa, .ref yfe, .int mL, .int mS, .int mM, .ref yro, .ref yhe, .ref ygr, .int mF, .int mC, .int mY, .ref yta, .int (nI (mz)), .int (nI (f2)), .int (nI (t2)), .int mv, .int mw, .ref ywa, .ref ybi, .ref ysi, .ref ynu, .ref ymo])), (yta, .inl (cI, 120, .inl tp))]) A) ([.ref h0] : List Value).toArray s 0 0 A) (F0 m 86 ls []) by
                    exact loop_86 _ f8 _ _ _ (Nat.lt_succ_self _) (by omega) (by omega) (by omega) hP hD hS (lv_sub hl [0, 1, 2] rfl)
                  intro n_86
                  induction n_86 with
                  | zero =>
                    intro t8 H locs ls hm_86
                    exact absurd hm_86 (Nat.not_lt_zero _)
                  | succ n_86 ih_86 =>
                    intro t8 H locs ls hm_86 ht8 hu8 hv8 hP hD hS hl
                    refine lv_iload_n hx hb dX9_next_86 rfl (lv_at hl 1 rfl) ?_
                    refine lv_if_eq (tgt := 104) hx hb dX9_next_87 (by decide) (fun c_18 => absurd c_18 (by decide)) (fun c_18 => ?_)
                    refine lv_aload_n hx hb dX9_next_90 rfl (lv_at hl 2 rfl) ?_
                    refine lv_aload_n hx hb dX9_next_91 rfl (lv_at hl 2 rfl) ?_
                    refine xg hF kf_X9_251 hK hP 0 rfl rfl dX9_next_92 ?_
                    refine xc_Vr hF (c_X9_byteAt l D cI cJ cZ cS ta sa sv H.size h0 ys yk yo yt mk0 yfa yfe mL mS mM yro yhe ygr mF mC mY yta mz f8 t8 mv mw ywa ybi ysi ynu ymo tp t8 (by omega) (by omega)) kv_X9_257 ⟨rfl, rfl, Nat.le_of_ble_eq_true rfl, Nat.le_of_ble_eq_true rfl⟩ ⟨Nat.le_of_ble_eq_true rfl, Nat.le_of_ble_eq_true rfl⟩ hK hN hZ hP hD hS hA [0, 1] rfl rfl 0 rfl rfl rfl rfl hl.1 rfl (Nat.le_of_ble_eq_true rfl) dX9_next_95 (fun r_19 hw_r_19 => ?_)
                    rcases hw_r_19 with ⟨rfl, h_20⟩ | ⟨rfl, h_21⟩
                    · skip
                      refine xc_Sr hF (c_X9_isLetterF l D cI cJ cZ cS ta sa sv H.size (tp t8) ) ks_X9_260 ⟨rfl, rfl, Nat.le_of_ble_eq_true rfl, Nat.le_of_ble_eq_true rfl⟩ ⟨Nat.le_of_ble_eq_true rfl, Nat.le_of_ble_eq_true rfl⟩ hK hN hZ hP hD hS hA [] rfl rfl rfl hl.1 rfl (Nat.le_of_ble_eq_true rfl) dX9_next_98 (fun r_22 hw_r_22 => ?_)
                      rcases hw_r_22 with ⟨rfl, h_23⟩ | rfl
                      · skip
                        refine lv_if_ne (tgt := 122) hx hb dX9_next_101 (by decide) (fun c_24 => ?_) (fun c_24 => absurd c_24 (by decide))
                        refine lv_aload_n hx hb dX9_next_122 rfl (lv_at hl 2 rfl) ?_
                        refine lv_dup hx hb dX9_next_123 rfl ?_
                        refine xg hF kf_X9_251 hK hP 0 rfl rfl dX9_next_124 ?_
                        refine lv_iconst (v := 1) hx hb dX9_next_127 (by decide) ?_
                        refine lv_iadd hx hb dX9_next_128 ?_
                        refine xl_i (y := nI (t8 + 1)) (nI_add t8 1) ?_
                        refine xp hF kf_X9_251 tyX9_ok nmX9 hK hP hD hS 0 rfl rfl rfl rfl (Nat.le_of_ble_eq_true rfl) dX9_next_129 (fun H locs hP hD hS => ?_)
                        have hP : va_P D vwCl [(h0, .inr (9, [.ref ys, .ref yk, .ref yo, .ref yt, .int mk0, .ref yfa, .ref yfe, .int mL, .int mS, .int mM, .ref yro, .ref yhe, .ref ygr, .int mF, .int mC, .int mY, .ref yta, .int (nI (mz)), .int (nI (f8)), .int (nI (t8 + 1)), .int mv, .int mw, .ref ywa, .ref ybi, .ref ysi, .ref ynu, .ref ymo])), (yta, .inl (cI, 120, .inl tp))] H := hP
                        have hD : va_D A [(h0, .inr (9, [.ref ys, .ref yk, .ref yo, .ref yt, .int mk0, .ref yfa, .ref yfe, .int mL, .int mS, .int mM, .ref yro, .ref yhe, .ref ygr, .int mF, .int mC, .int mY, .ref yta, .int (nI (mz)), .int (nI (f8)), .int (nI (t8 + 1)), .int mv, .int mw, .ref ywa, .ref ybi, .ref ysi, .ref ynu, .ref ymo])), (yta, .inl (cI, 120, .inl tp))] := hD
                        refine lv_goto (tgt := 86) hx hb dX9_next_132 (by decide) ?_
                        exact ih_86 (t8 + 1) _ _ _ (by omega) (by omega) (by omega) (by omega) (hP.sub [0, 1] rfl) (hD.sub [0, 1] (by decide) rfl) hS (lv_sub hl [0, 1, 2] rfl)
                      · skip
                        refine lv_if_ne (tgt := 122) hx hb dX9_next_101 (by decide) (fun c_25 => absurd (by decide) c_25) (fun c_25 => ?_)
                        refine lv_iload_n hx hb dX9_next_104 rfl (lv_at hl 0 rfl) ?_
                        refine lv_if_eq (tgt := 135) hx hb dX9_next_105 (by decide) (fun c_26 => absurd c_26 (by decide)) (fun c_26 => ?_)
                        refine lv_aload_n hx hb dX9_next_108 rfl (lv_at hl 2 rfl) ?_
                        refine lv_aload_n hx hb dX9_next_109 rfl (lv_at hl 2 rfl) ?_
                        refine xg hF kf_X9_251 hK hP 0 rfl rfl dX9_next_110 ?_
                        refine xc_Vr hF (c_X9_byteAt l D cI cJ cZ cS ta sa sv H.size h0 ys yk yo yt mk0 yfa yfe mL mS mM yro yhe ygr mF mC mY yta mz f8 t8 mv mw ywa ybi ysi ynu ymo tp t8 (by omega) (by omega)) kv_X9_257 ⟨rfl, rfl, Nat.le_of_ble_eq_true rfl, Nat.le_of_ble_eq_true rfl⟩ ⟨Nat.le_of_ble_eq_true rfl, Nat.le_of_ble_eq_true rfl⟩ hK hN hZ hP hD hS hA [0, 1] rfl rfl 0 rfl rfl rfl rfl hl.1 rfl (Nat.le_of_ble_eq_true rfl) dX9_next_113 (fun r_27 hw_r_27 => ?_)
                        rcases hw_r_27 with ⟨rfl, h_28⟩ | ⟨rfl, h_29⟩
                        · skip
                          refine xc_Sr hF (c_X9_isDigit l D cI cJ cZ cS ta sa sv H.size (tp t8) ) ks_X9_263 ⟨rfl, rfl, Nat.le_of_ble_eq_true rfl, Nat.le_of_ble_eq_true rfl⟩ ⟨Nat.le_of_ble_eq_true rfl, Nat.le_of_ble_eq_true rfl⟩ hK hN hZ hP hD hS hA [] rfl rfl rfl hl.1 rfl (Nat.le_of_ble_eq_true rfl) dX9_next_116 (fun r_30 hw_r_30 => ?_)
                          rcases hw_r_30 with ⟨rfl, h_31, h_32⟩ | ⟨rfl, h_33⟩
                          · skip
                            refine lv_if_eq (tgt := 135) hx hb dX9_next_119 (by decide) (fun c_34 => absurd c_34 (by decide)) (fun c_34 => ?_)
                            refine lv_aload_n hx hb dX9_next_122 rfl (lv_at hl 2 rfl) ?_
                            refine lv_dup hx hb dX9_next_123 rfl ?_
                            refine xg hF kf_X9_251 hK hP 0 rfl rfl dX9_next_124 ?_
                            refine lv_iconst (v := 1) hx hb dX9_next_127 (by decide) ?_
                            refine lv_iadd hx hb dX9_next_128 ?_
                            refine xl_i (y := nI (t8 + 1)) (nI_add t8 1) ?_
                            refine xp hF kf_X9_251 tyX9_ok nmX9 hK hP hD hS 0 rfl rfl rfl rfl (Nat.le_of_ble_eq_true rfl) dX9_next_129 (fun H locs hP hD hS => ?_)
                            have hP : va_P D vwCl [(h0, .inr (9, [.ref ys, .ref yk, .ref yo, .ref yt, .int mk0, .ref yfa, .ref yfe, .int mL, .int mS, .int mM, .ref yro, .ref yhe, .ref ygr, .int mF, .int mC, .int mY, .ref yta, .int (nI (mz)), .int (nI (f8)), .int (nI (t8 + 1)), .int mv, .int mw, .ref ywa, .ref ybi, .ref ysi, .ref ynu, .ref ymo])), (yta, .inl (cI, 120, .inl tp))] H := hP
                            have hD : va_D A [(h0, .inr (9, [.ref ys, .ref yk, .ref yo, .ref yt, .int mk0, .ref yfa, .ref yfe, .int mL, .int mS, .int mM, .ref yro, .ref yhe, .ref ygr, .int mF, .int mC, .int mY, .ref yta, .int (nI (mz)), .int (nI (f8)), .int (nI (t8 + 1)), .int mv, .int mw, .ref ywa, .ref ybi, .ref ysi, .ref ynu, .ref ymo])), (yta, .inl (cI, 120, .inl tp))] := hD
                            refine lv_goto (tgt := 86) hx hb dX9_next_132 (by decide) ?_
                            exact ih_86 (t8 + 1) _ _ _ (by omega) (by omega) (by omega) (by omega) (hP.sub [0, 1] rfl) (hD.sub [0, 1] (by decide) rfl) hS (lv_sub hl [0, 1, 2] rfl)
                          · skip
                            refine lv_if_eq (tgt := 135) hx hb dX9_next_119 (by decide) (fun c_35 => ?_) (fun c_35 => absurd (by decide) c_35)
                            exact W.vret hx hb hr (fun t ht hW => ⟨⟨(f8, t8), rfl, ⟨(by first | assumption | omega), (by first | assumption | omega), (by first | assumption | omega), (by first | assumption | omega), (by first | assumption | omega)⟩, by rw [ht]; exact hP.sub [0, 1] rfl, hD.sub [0, 1] (by decide) rfl⟩, hS.F ht⟩) hS.2.2 dX9_next_135 hlk
                        · skip
                          refine xc_Sr hF (c_X9_isDigit l D cI cJ cZ cS ta sa sv H.size (-1) ) ks_X9_263 ⟨rfl, rfl, Nat.le_of_ble_eq_true rfl, Nat.le_of_ble_eq_true rfl⟩ ⟨Nat.le_of_ble_eq_true rfl, Nat.le_of_ble_eq_true rfl⟩ hK hN hZ hP hD hS hA [] rfl rfl rfl hl.1 rfl (Nat.le_of_ble_eq_true rfl) dX9_next_116 (fun r_36 hw_r_36 => ?_)
                          rcases hw_r_36 with ⟨rfl, h_37, h_38⟩ | ⟨rfl, h_39⟩
                          · exact absurd (by decide) h_37
                          · skip
                            refine lv_if_eq (tgt := 135) hx hb dX9_next_119 (by decide) (fun c_40 => ?_) (fun c_40 => absurd (by decide) c_40)
                            exact W.vret hx hb hr (fun t ht hW => ⟨⟨(f8, t8), rfl, ⟨(by first | assumption | omega), (by first | assumption | omega), (by first | assumption | omega), (by first | assumption | omega), (by first | assumption | omega)⟩, by rw [ht]; exact hP.sub [0, 1] rfl, hD.sub [0, 1] (by decide) rfl⟩, hS.F ht⟩) hS.2.2 dX9_next_135 hlk
                    · skip
                      refine xc_Sr hF (c_X9_isLetterF l D cI cJ cZ cS ta sa sv H.size (-1) ) ks_X9_260 ⟨rfl, rfl, Nat.le_of_ble_eq_true rfl, Nat.le_of_ble_eq_true rfl⟩ ⟨Nat.le_of_ble_eq_true rfl, Nat.le_of_ble_eq_true rfl⟩ hK hN hZ hP hD hS hA [] rfl rfl rfl hl.1 rfl (Nat.le_of_ble_eq_true rfl) dX9_next_98 (fun r_41 hw_r_41 => ?_)
                      rcases hw_r_41 with ⟨rfl, h_42⟩ | rfl
                      · exact absurd (by decide) h_42
                      · skip
                        refine lv_if_ne (tgt := 122) hx hb dX9_next_101 (by decide) (fun c_43 => absurd (by decide) c_43) (fun c_43 => ?_)
                        refine lv_iload_n hx hb dX9_next_104 rfl (lv_at hl 0 rfl) ?_
                        refine lv_if_eq (tgt := 135) hx hb dX9_next_105 (by decide) (fun c_44 => absurd c_44 (by decide)) (fun c_44 => ?_)
                        refine lv_aload_n hx hb dX9_next_108 rfl (lv_at hl 2 rfl) ?_
                        refine lv_aload_n hx hb dX9_next_109 rfl (lv_at hl 2 rfl) ?_
                        refine xg hF kf_X9_251 hK hP 0 rfl rfl dX9_next_110 ?_
                        refine xc_Vr hF (c_X9_byteAt l D cI cJ cZ cS ta sa sv H.size h0 ys yk yo yt mk0 yfa yfe mL mS mM yro yhe ygr mF mC mY yta mz f8 t8 mv mw ywa ybi ysi ynu ymo tp t8 (by omega) (by omega)) kv_X9_257 ⟨rfl, rfl, Nat.le_of_ble_eq_true rfl, Nat.le_of_ble_eq_true rfl⟩ ⟨Nat.le_of_ble_eq_true rfl, Nat.le_of_ble_eq_true rfl⟩ hK hN hZ hP hD hS hA [0, 1] rfl rfl 0 rfl rfl rfl rfl hl.1 rfl (Nat.le_of_ble_eq_true rfl) dX9_next_113 (fun r_45 hw_r_45 => ?_)
                        rcases hw_r_45 with ⟨rfl, h_46⟩ | ⟨rfl, h_47⟩
                        · skip
                          refine xc_Sr hF (c_X9_isDigit l D cI cJ cZ cS ta sa sv H.size (tp t8) ) ks_X9_263 ⟨rfl, rfl, Nat.le_of_ble_eq_true rfl, Nat.le_of_ble_eq_true rfl⟩ ⟨Nat.le_of_ble_eq_true rfl, Nat.le_of_ble_eq_true rfl⟩ hK hN hZ hP hD hS hA [] rfl rfl rfl hl.1 rfl (Nat.le_of_ble_eq_true rfl) dX9_next_116 (fun r_48 hw_r_48 => ?_)
                          rcases hw_r_48 with ⟨rfl, h_49, h_50⟩ | ⟨rfl, h_51⟩
                          · skip
                            refine lv_if_eq (tgt := 135) hx hb dX9_next_119 (by decide) (fun c_52 => absurd c_52 (by decide)) (fun c_52 => ?_)
                            refine lv_aload_n hx hb dX9_next_122 rfl (lv_at hl 2 rfl) ?_
                            refine lv_dup hx hb dX9_next_123 rfl ?_
                            refine xg hF kf_X9_251 hK hP 0 rfl rfl dX9_next_124 ?_
                            refine lv_iconst (v := 1) hx hb dX9_next_127 (by decide) ?_
                            refine lv_iadd hx hb dX9_next_128 ?_
                            refine xl_i (y := nI (t8 + 1)) (nI_add t8 1) ?_
                            refine xp hF kf_X9_251 tyX9_ok nmX9 hK hP hD hS 0 rfl rfl rfl rfl (Nat.le_of_ble_eq_true rfl) dX9_next_129 (fun H locs hP hD hS => ?_)
                            have hP : va_P D vwCl [(h0, .inr (9, [.ref ys, .ref yk, .ref yo, .ref yt, .int mk0, .ref yfa, .ref yfe, .int mL, .int mS, .int mM, .ref yro, .ref yhe, .ref ygr, .int mF, .int mC, .int mY, .ref yta, .int (nI (mz)), .int (nI (f8)), .int (nI (t8 + 1)), .int mv, .int mw, .ref ywa, .ref ybi, .ref ysi, .ref ynu, .ref ymo])), (yta, .inl (cI, 120, .inl tp))] H := hP
                            have hD : va_D A [(h0, .inr (9, [.ref ys, .ref yk, .ref yo, .ref yt, .int mk0, .ref yfa, .ref yfe, .int mL, .int mS, .int mM, .ref yro, .ref yhe, .ref ygr, .int mF, .int mC, .int mY, .ref yta, .int (nI (mz)), .int (nI (f8)), .int (nI (t8 + 1)), .int mv, .int mw, .ref ywa, .ref ybi, .ref ysi, .ref ynu, .ref ymo])), (yta, .inl (cI, 120, .inl tp))] := hD
                            refine lv_goto (tgt := 86) hx hb dX9_next_132 (by decide) ?_
                            exact ih_86 (t8 + 1) _ _ _ (by omega) (by omega) (by omega) (by omega) (hP.sub [0, 1] rfl) (hD.sub [0, 1] (by decide) rfl) hS (lv_sub hl [0, 1, 2] rfl)
                          · skip
                            refine lv_if_eq (tgt := 135) hx hb dX9_next_119 (by decide) (fun c_53 => ?_) (fun c_53 => absurd (by decide) c_53)
                            exact W.vret hx hb hr (fun t ht hW => ⟨⟨(f8, t8), rfl, ⟨(by first | assumption | omega), (by first | assumption | omega), (by first | assumption | omega), (by first | assumption | omega), (by first | assumption | omega)⟩, by rw [ht]; exact hP.sub [0, 1] rfl, hD.sub [0, 1] (by decide) rfl⟩, hS.F ht⟩) hS.2.2 dX9_next_135 hlk
                        · skip
                          refine xc_Sr hF (c_X9_isDigit l D cI cJ cZ cS ta sa sv H.size (-1) ) ks_X9_263 ⟨rfl, rfl, Nat.le_of_ble_eq_true rfl, Nat.le_of_ble_eq_true rfl⟩ ⟨Nat.le_of_ble_eq_true rfl, Nat.le_of_ble_eq_true rfl⟩ hK hN hZ hP hD hS hA [] rfl rfl rfl hl.1 rfl (Nat.le_of_ble_eq_true rfl) dX9_next_116 (fun r_54 hw_r_54 => ?_)
                          rcases hw_r_54 with ⟨rfl, h_55, h_56⟩ | ⟨rfl, h_57⟩
                          · exact absurd (by decide) h_55
                          · skip
                            refine lv_if_eq (tgt := 135) hx hb dX9_next_119 (by decide) (fun c_58 => ?_) (fun c_58 => absurd (by decide) c_58)
                            exact W.vret hx hb hr (fun t ht hW => ⟨⟨(f8, t8), rfl, ⟨(by first | assumption | omega), (by first | assumption | omega), (by first | assumption | omega), (by first | assumption | omega), (by first | assumption | omega)⟩, by rw [ht]; exact hP.sub [0, 1] rfl, hD.sub [0, 1] (by decide) rfl⟩, hS.F ht⟩) hS.2.2 dX9_next_135 hlk
                · skip
                  have nc_17 : f8 < mz := xn_nle (a := mz) (b := f8) (by omega) (by omega) c_17
                  refine lv_aload_n hx hb dX9_next_70 rfl (lv_at hl 2 rfl) ?_
                  refine xg hF kf_X9_254 hK hP 0 rfl rfl dX9_next_71 ?_
                  refine lv_iconst (v := 1) hx hb dX9_next_74 (by decide) ?_
                  refine lv_iadd hx hb dX9_next_75 ?_
                  refine xl_i (y := nI (f8 + 1)) (nI_add f8 1) ?_
                  refine lv_goto (tgt := 83) hx hb dX9_next_76 (by decide) ?_
                  refine xp hF kf_X9_251 tyX9_ok nmX9 hK hP hD hS 0 rfl rfl rfl rfl (Nat.le_of_ble_eq_true rfl) dX9_next_83 (fun H locs hP hD hS => ?_)
                  have hP : va_P D vwCl [(h0, .inr (9, [.ref ys, .ref yk, .ref yo, .ref yt, .int mk0, .ref yfa, .ref yfe, .int mL, .int mS, .int mM, .ref yro, .ref yhe, .ref ygr, .int mF, .int mC, .int mY, .ref yta, .int (nI (mz)), .int (nI (f8)), .int (nI (f8 + 1)), .int mv, .int mw, .ref ywa, .ref ybi, .ref ysi, .ref ynu, .ref ymo])), (yta, .inl (cI, 120, .inl tp))] H := hP
                  have hD : va_D A [(h0, .inr (9, [.ref ys, .ref yk, .ref yo, .ref yt, .int mk0, .ref yfa, .ref yfe, .int mL, .int mS, .int mM, .ref yro, .ref yhe, .ref ygr, .int mF, .int mC, .int mY, .ref yta, .int (nI (mz)), .int (nI (f8)), .int (nI (f8 + 1)), .int mv, .int mw, .ref ywa, .ref ybi, .ref ysi, .ref ynu, .ref ymo])), (yta, .inl (cI, 120, .inl tp))] := hD
                  suffices loop_86 : ∀ (n_86 : Nat) (t8 : Nat) (H : Heap) (locs : List Loc) (ls : Array Slot), mz - t8 < n_86 → (t8 ≤ mz) → (f8 ≤ t8) → (f8 < t8 ∨ f8 = mz) → va_P D vwCl [(h0, .inr (9, [.ref ys, .ref yk, .ref yo, .ref yt, .int mk0, .ref yfa, .ref yfe, .int mL, .int mS, .int mM, .ref yro, .ref yhe, .ref ygr, .int mF, .int mC, .int mY, .ref yta, .int (nI (mz)), .int (nI (f8)), .int (nI (t8)), .int mv, .int mw, .ref ywa, .ref ybi, .ref ysi, .ref ynu, .ref ymo])), (yta, .inl (cI, 120, .inl tp))] H → va_D A [(h0, .inr (9, [.ref ys, .ref yk, .ref yo, .ref yt, .int mk0, .ref yfa, .ref yfe, .int mL, .int mS, .int mM, .ref yro, .ref yhe, .ref ygr, .int mF, .int mC, .int mY, .ref yta, .int (nI (mz)), .int (nI (f8)), .int (nI (t8)), .int mv, .int mw, .ref ywa, .ref ybi, .ref ysi, .ref ynu, .ref ymo])), (yta, .inl (cI, 120, .inl tp))] → va_S A s.heap H locs → lv_has ls 3 [(2, .int 1), (1, .int 1), (0, .ref h0)] → W p l e ({ frames := 2, cells := 0, slots := 0, locals := 45 }) s m ([.ref h0] : List Value).toArray below meth c H locs 0 0 (MQ below (XQv (fun (u : Nat × Nat) => match u with | (f2, t2) => (f2 ≤ mz) ∧ (t2 ≤ mz) ∧ (f2 ≤ t2) ∧ (f2 < t2 ∨ f2 = mz) ∧ (mt ≤ f2)) D (fun (u : Nat × Nat) => match u with | (f2, t2) => [(h0, .inr (9, [.ref ys, .ref yk, .ref yo, .ref yt, .int mk0, .ref yfa, .ref yfe, .int mL, .int mS, .int mM, .ref yro, .ref yhe, .ref ygr, .int mF, .int mC, .int mY, .ref yta, .int (nI (mz)), .int (nI (f2)), .int (nI (t2)), .int mv, .int mw, .ref ywa, .ref ybi, .ref ysi, .ref ynu, .ref ymo])), (yta, .inl (cI, 120, .inl tp))]) A) ([.ref h0] : List Value).toArray s 0 0 A) (F0 m 86 ls []) by
                    exact loop_86 _ (f8 + 1) _ _ _ (Nat.lt_succ_self _) (by omega) (by omega) (by omega) hP hD hS (lv_sub hl [0, 1, 2] rfl)
                  intro n_86
                  induction n_86 with
                  | zero =>
                    intro t8 H locs ls hm_86
                    exact absurd hm_86 (Nat.not_lt_zero _)
                  | succ n_86 ih_86 =>
                    intro t8 H locs ls hm_86 ht8 hu8 hv8 hP hD hS hl
                    refine lv_iload_n hx hb dX9_next_86 rfl (lv_at hl 1 rfl) ?_
                    refine lv_if_eq (tgt := 104) hx hb dX9_next_87 (by decide) (fun c_59 => absurd c_59 (by decide)) (fun c_59 => ?_)
                    refine lv_aload_n hx hb dX9_next_90 rfl (lv_at hl 2 rfl) ?_
                    refine lv_aload_n hx hb dX9_next_91 rfl (lv_at hl 2 rfl) ?_
                    refine xg hF kf_X9_251 hK hP 0 rfl rfl dX9_next_92 ?_
                    refine xc_Vr hF (c_X9_byteAt l D cI cJ cZ cS ta sa sv H.size h0 ys yk yo yt mk0 yfa yfe mL mS mM yro yhe ygr mF mC mY yta mz f8 t8 mv mw ywa ybi ysi ynu ymo tp t8 (by omega) (by omega)) kv_X9_257 ⟨rfl, rfl, Nat.le_of_ble_eq_true rfl, Nat.le_of_ble_eq_true rfl⟩ ⟨Nat.le_of_ble_eq_true rfl, Nat.le_of_ble_eq_true rfl⟩ hK hN hZ hP hD hS hA [0, 1] rfl rfl 0 rfl rfl rfl rfl hl.1 rfl (Nat.le_of_ble_eq_true rfl) dX9_next_95 (fun r_60 hw_r_60 => ?_)
                    rcases hw_r_60 with ⟨rfl, h_61⟩ | ⟨rfl, h_62⟩
                    · skip
                      refine xc_Sr hF (c_X9_isLetterF l D cI cJ cZ cS ta sa sv H.size (tp t8) ) ks_X9_260 ⟨rfl, rfl, Nat.le_of_ble_eq_true rfl, Nat.le_of_ble_eq_true rfl⟩ ⟨Nat.le_of_ble_eq_true rfl, Nat.le_of_ble_eq_true rfl⟩ hK hN hZ hP hD hS hA [] rfl rfl rfl hl.1 rfl (Nat.le_of_ble_eq_true rfl) dX9_next_98 (fun r_63 hw_r_63 => ?_)
                      rcases hw_r_63 with ⟨rfl, h_64⟩ | rfl
                      · skip
                        refine lv_if_ne (tgt := 122) hx hb dX9_next_101 (by decide) (fun c_65 => ?_) (fun c_65 => absurd c_65 (by decide))
                        refine lv_aload_n hx hb dX9_next_122 rfl (lv_at hl 2 rfl) ?_
                        refine lv_dup hx hb dX9_next_123 rfl ?_
                        refine xg hF kf_X9_251 hK hP 0 rfl rfl dX9_next_124 ?_
                        refine lv_iconst (v := 1) hx hb dX9_next_127 (by decide) ?_
                        refine lv_iadd hx hb dX9_next_128 ?_
                        refine xl_i (y := nI (t8 + 1)) (nI_add t8 1) ?_
                        refine xp hF kf_X9_251 tyX9_ok nmX9 hK hP hD hS 0 rfl rfl rfl rfl (Nat.le_of_ble_eq_true rfl) dX9_next_129 (fun H locs hP hD hS => ?_)
                        have hP : va_P D vwCl [(h0, .inr (9, [.ref ys, .ref yk, .ref yo, .ref yt, .int mk0, .ref yfa, .ref yfe, .int mL, .int mS, .int mM, .ref yro, .ref yhe, .ref ygr, .int mF, .int mC, .int mY, .ref yta, .int (nI (mz)), .int (nI (f8)), .int (nI (t8 + 1)), .int mv, .int mw, .ref ywa, .ref ybi, .ref ysi, .ref ynu, .ref ymo])), (yta, .inl (cI, 120, .inl tp))] H := hP
                        have hD : va_D A [(h0, .inr (9, [.ref ys, .ref yk, .ref yo, .ref yt, .int mk0, .ref yfa, .ref yfe, .int mL, .int mS, .int mM, .ref yro, .ref yhe, .ref ygr, .int mF, .int mC, .int mY, .ref yta, .int (nI (mz)), .int (nI (f8)), .int (nI (t8 + 1)), .int mv, .int mw, .ref ywa, .ref ybi, .ref ysi, .ref ynu, .ref ymo])), (yta, .inl (cI, 120, .inl tp))] := hD
                        refine lv_goto (tgt := 86) hx hb dX9_next_132 (by decide) ?_
                        exact ih_86 (t8 + 1) _ _ _ (by omega) (by omega) (by omega) (by omega) (hP.sub [0, 1] rfl) (hD.sub [0, 1] (by decide) rfl) hS (lv_sub hl [0, 1, 2] rfl)
                      · skip
                        refine lv_if_ne (tgt := 122) hx hb dX9_next_101 (by decide) (fun c_66 => absurd (by decide) c_66) (fun c_66 => ?_)
                        refine lv_iload_n hx hb dX9_next_104 rfl (lv_at hl 0 rfl) ?_
                        refine lv_if_eq (tgt := 135) hx hb dX9_next_105 (by decide) (fun c_67 => absurd c_67 (by decide)) (fun c_67 => ?_)
                        refine lv_aload_n hx hb dX9_next_108 rfl (lv_at hl 2 rfl) ?_
                        refine lv_aload_n hx hb dX9_next_109 rfl (lv_at hl 2 rfl) ?_
                        refine xg hF kf_X9_251 hK hP 0 rfl rfl dX9_next_110 ?_
                        refine xc_Vr hF (c_X9_byteAt l D cI cJ cZ cS ta sa sv H.size h0 ys yk yo yt mk0 yfa yfe mL mS mM yro yhe ygr mF mC mY yta mz f8 t8 mv mw ywa ybi ysi ynu ymo tp t8 (by omega) (by omega)) kv_X9_257 ⟨rfl, rfl, Nat.le_of_ble_eq_true rfl, Nat.le_of_ble_eq_true rfl⟩ ⟨Nat.le_of_ble_eq_true rfl, Nat.le_of_ble_eq_true rfl⟩ hK hN hZ hP hD hS hA [0, 1] rfl rfl 0 rfl rfl rfl rfl hl.1 rfl (Nat.le_of_ble_eq_true rfl) dX9_next_113 (fun r_68 hw_r_68 => ?_)
                        rcases hw_r_68 with ⟨rfl, h_69⟩ | ⟨rfl, h_70⟩
                        · skip
                          refine xc_Sr hF (c_X9_isDigit l D cI cJ cZ cS ta sa sv H.size (tp t8) ) ks_X9_263 ⟨rfl, rfl, Nat.le_of_ble_eq_true rfl, Nat.le_of_ble_eq_true rfl⟩ ⟨Nat.le_of_ble_eq_true rfl, Nat.le_of_ble_eq_true rfl⟩ hK hN hZ hP hD hS hA [] rfl rfl rfl hl.1 rfl (Nat.le_of_ble_eq_true rfl) dX9_next_116 (fun r_71 hw_r_71 => ?_)
                          rcases hw_r_71 with ⟨rfl, h_72, h_73⟩ | ⟨rfl, h_74⟩
                          · skip
                            refine lv_if_eq (tgt := 135) hx hb dX9_next_119 (by decide) (fun c_75 => absurd c_75 (by decide)) (fun c_75 => ?_)
                            refine lv_aload_n hx hb dX9_next_122 rfl (lv_at hl 2 rfl) ?_
                            refine lv_dup hx hb dX9_next_123 rfl ?_
                            refine xg hF kf_X9_251 hK hP 0 rfl rfl dX9_next_124 ?_
                            refine lv_iconst (v := 1) hx hb dX9_next_127 (by decide) ?_
                            refine lv_iadd hx hb dX9_next_128 ?_
                            refine xl_i (y := nI (t8 + 1)) (nI_add t8 1) ?_
                            refine xp hF kf_X9_251 tyX9_ok nmX9 hK hP hD hS 0 rfl rfl rfl rfl (Nat.le_of_ble_eq_true rfl) dX9_next_129 (fun H locs hP hD hS => ?_)
                            have hP : va_P D vwCl [(h0, .inr (9, [.ref ys, .ref yk, .ref yo, .ref yt, .int mk0, .ref yfa, .ref yfe, .int mL, .int mS, .int mM, .ref yro, .ref yhe, .ref ygr, .int mF, .int mC, .int mY, .ref yta, .int (nI (mz)), .int (nI (f8)), .int (nI (t8 + 1)), .int mv, .int mw, .ref ywa, .ref ybi, .ref ysi, .ref ynu, .ref ymo])), (yta, .inl (cI, 120, .inl tp))] H := hP
                            have hD : va_D A [(h0, .inr (9, [.ref ys, .ref yk, .ref yo, .ref yt, .int mk0, .ref yfa, .ref yfe, .int mL, .int mS, .int mM, .ref yro, .ref yhe, .ref ygr, .int mF, .int mC, .int mY, .ref yta, .int (nI (mz)), .int (nI (f8)), .int (nI (t8 + 1)), .int mv, .int mw, .ref ywa, .ref ybi, .ref ysi, .ref ynu, .ref ymo])), (yta, .inl (cI, 120, .inl tp))] := hD
                            refine lv_goto (tgt := 86) hx hb dX9_next_132 (by decide) ?_
                            exact ih_86 (t8 + 1) _ _ _ (by omega) (by omega) (by omega) (by omega) (hP.sub [0, 1] rfl) (hD.sub [0, 1] (by decide) rfl) hS (lv_sub hl [0, 1, 2] rfl)
                          · skip
                            refine lv_if_eq (tgt := 135) hx hb dX9_next_119 (by decide) (fun c_76 => ?_) (fun c_76 => absurd (by decide) c_76)
                            exact W.vret hx hb hr (fun t ht hW => ⟨⟨(f8, t8), rfl, ⟨(by first | assumption | omega), (by first | assumption | omega), (by first | assumption | omega), (by first | assumption | omega), (by first | assumption | omega)⟩, by rw [ht]; exact hP.sub [0, 1] rfl, hD.sub [0, 1] (by decide) rfl⟩, hS.F ht⟩) hS.2.2 dX9_next_135 hlk
                        · skip
                          refine xc_Sr hF (c_X9_isDigit l D cI cJ cZ cS ta sa sv H.size (-1) ) ks_X9_263 ⟨rfl, rfl, Nat.le_of_ble_eq_true rfl, Nat.le_of_ble_eq_true rfl⟩ ⟨Nat.le_of_ble_eq_true rfl, Nat.le_of_ble_eq_true rfl⟩ hK hN hZ hP hD hS hA [] rfl rfl rfl hl.1 rfl (Nat.le_of_ble_eq_true rfl) dX9_next_116 (fun r_77 hw_r_77 => ?_)
                          rcases hw_r_77 with ⟨rfl, h_78, h_79⟩ | ⟨rfl, h_80⟩
                          · exact absurd (by decide) h_78
                          · skip
                            refine lv_if_eq (tgt := 135) hx hb dX9_next_119 (by decide) (fun c_81 => ?_) (fun c_81 => absurd (by decide) c_81)
                            exact W.vret hx hb hr (fun t ht hW => ⟨⟨(f8, t8), rfl, ⟨(by first | assumption | omega), (by first | assumption | omega), (by first | assumption | omega), (by first | assumption | omega), (by first | assumption | omega)⟩, by rw [ht]; exact hP.sub [0, 1] rfl, hD.sub [0, 1] (by decide) rfl⟩, hS.F ht⟩) hS.2.2 dX9_next_135 hlk
                    · skip
                      refine xc_Sr hF (c_X9_isLetterF l D cI cJ cZ cS ta sa sv H.size (-1) ) ks_X9_260 ⟨rfl, rfl, Nat.le_of_ble_eq_true rfl, Nat.le_of_ble_eq_true rfl⟩ ⟨Nat.le_of_ble_eq_true rfl, Nat.le_of_ble_eq_true rfl⟩ hK hN hZ hP hD hS hA [] rfl rfl rfl hl.1 rfl (Nat.le_of_ble_eq_true rfl) dX9_next_98 (fun r_82 hw_r_82 => ?_)
                      rcases hw_r_82 with ⟨rfl, h_83⟩ | rfl
                      · exact absurd (by decide) h_83
                      · skip
                        refine lv_if_ne (tgt := 122) hx hb dX9_next_101 (by decide) (fun c_84 => absurd (by decide) c_84) (fun c_84 => ?_)
                        refine lv_iload_n hx hb dX9_next_104 rfl (lv_at hl 0 rfl) ?_
                        refine lv_if_eq (tgt := 135) hx hb dX9_next_105 (by decide) (fun c_85 => absurd c_85 (by decide)) (fun c_85 => ?_)
                        refine lv_aload_n hx hb dX9_next_108 rfl (lv_at hl 2 rfl) ?_
                        refine lv_aload_n hx hb dX9_next_109 rfl (lv_at hl 2 rfl) ?_
                        refine xg hF kf_X9_251 hK hP 0 rfl rfl dX9_next_110 ?_
                        refine xc_Vr hF (c_X9_byteAt l D cI cJ cZ cS ta sa sv H.size h0 ys yk yo yt mk0 yfa yfe mL mS mM yro yhe ygr mF mC mY yta mz f8 t8 mv mw ywa ybi ysi ynu ymo tp t8 (by omega) (by omega)) kv_X9_257 ⟨rfl, rfl, Nat.le_of_ble_eq_true rfl, Nat.le_of_ble_eq_true rfl⟩ ⟨Nat.le_of_ble_eq_true rfl, Nat.le_of_ble_eq_true rfl⟩ hK hN hZ hP hD hS hA [0, 1] rfl rfl 0 rfl rfl rfl rfl hl.1 rfl (Nat.le_of_ble_eq_true rfl) dX9_next_113 (fun r_86 hw_r_86 => ?_)
                        rcases hw_r_86 with ⟨rfl, h_87⟩ | ⟨rfl, h_88⟩
                        · skip
                          refine xc_Sr hF (c_X9_isDigit l D cI cJ cZ cS ta sa sv H.size (tp t8) ) ks_X9_263 ⟨rfl, rfl, Nat.le_of_ble_eq_true rfl, Nat.le_of_ble_eq_true rfl⟩ ⟨Nat.le_of_ble_eq_true rfl, Nat.le_of_ble_eq_true rfl⟩ hK hN hZ hP hD hS hA [] rfl rfl rfl hl.1 rfl (Nat.le_of_ble_eq_true rfl) dX9_next_116 (fun r_89 hw_r_89 => ?_)
                          rcases hw_r_89 with ⟨rfl, h_90, h_91⟩ | ⟨rfl, h_92⟩
                          · skip
                            refine lv_if_eq (tgt := 135) hx hb dX9_next_119 (by decide) (fun c_93 => absurd c_93 (by decide)) (fun c_93 => ?_)
                            refine lv_aload_n hx hb dX9_next_122 rfl (lv_at hl 2 rfl) ?_
                            refine lv_dup hx hb dX9_next_123 rfl ?_
                            refine xg hF kf_X9_251 hK hP 0 rfl rfl dX9_next_124 ?_
                            refine lv_iconst (v := 1) hx hb dX9_next_127 (by decide) ?_
                            refine lv_iadd hx hb dX9_next_128 ?_
                            refine xl_i (y := nI (t8 + 1)) (nI_add t8 1) ?_
                            refine xp hF kf_X9_251 tyX9_ok nmX9 hK hP hD hS 0 rfl rfl rfl rfl (Nat.le_of_ble_eq_true rfl) dX9_next_129 (fun H locs hP hD hS => ?_)
                            have hP : va_P D vwCl [(h0, .inr (9, [.ref ys, .ref yk, .ref yo, .ref yt, .int mk0, .ref yfa, .ref yfe, .int mL, .int mS, .int mM, .ref yro, .ref yhe, .ref ygr, .int mF, .int mC, .int mY, .ref yta, .int (nI (mz)), .int (nI (f8)), .int (nI (t8 + 1)), .int mv, .int mw, .ref ywa, .ref ybi, .ref ysi, .ref ynu, .ref ymo])), (yta, .inl (cI, 120, .inl tp))] H := hP
                            have hD : va_D A [(h0, .inr (9, [.ref ys, .ref yk, .ref yo, .ref yt, .int mk0, .ref yfa, .ref yfe, .int mL, .int mS, .int mM, .ref yro, .ref yhe, .ref ygr, .int mF, .int mC, .int mY, .ref yta, .int (nI (mz)), .int (nI (f8)), .int (nI (t8 + 1)), .int mv, .int mw, .ref ywa, .ref ybi, .ref ysi, .ref ynu, .ref ymo])), (yta, .inl (cI, 120, .inl tp))] := hD
                            refine lv_goto (tgt := 86) hx hb dX9_next_132 (by decide) ?_
                            exact ih_86 (t8 + 1) _ _ _ (by omega) (by omega) (by omega) (by omega) (hP.sub [0, 1] rfl) (hD.sub [0, 1] (by decide) rfl) hS (lv_sub hl [0, 1, 2] rfl)
                          · skip
                            refine lv_if_eq (tgt := 135) hx hb dX9_next_119 (by decide) (fun c_94 => ?_) (fun c_94 => absurd (by decide) c_94)
                            exact W.vret hx hb hr (fun t ht hW => ⟨⟨(f8, t8), rfl, ⟨(by first | assumption | omega), (by first | assumption | omega), (by first | assumption | omega), (by first | assumption | omega), (by first | assumption | omega)⟩, by rw [ht]; exact hP.sub [0, 1] rfl, hD.sub [0, 1] (by decide) rfl⟩, hS.F ht⟩) hS.2.2 dX9_next_135 hlk
                        · skip
                          refine xc_Sr hF (c_X9_isDigit l D cI cJ cZ cS ta sa sv H.size (-1) ) ks_X9_263 ⟨rfl, rfl, Nat.le_of_ble_eq_true rfl, Nat.le_of_ble_eq_true rfl⟩ ⟨Nat.le_of_ble_eq_true rfl, Nat.le_of_ble_eq_true rfl⟩ hK hN hZ hP hD hS hA [] rfl rfl rfl hl.1 rfl (Nat.le_of_ble_eq_true rfl) dX9_next_116 (fun r_95 hw_r_95 => ?_)
                          rcases hw_r_95 with ⟨rfl, h_96, h_97⟩ | ⟨rfl, h_98⟩
                          · exact absurd (by decide) h_96
                          · skip
                            refine lv_if_eq (tgt := 135) hx hb dX9_next_119 (by decide) (fun c_99 => ?_) (fun c_99 => absurd (by decide) c_99)
                            exact W.vret hx hb hr (fun t ht hW => ⟨⟨(f8, t8), rfl, ⟨(by first | assumption | omega), (by first | assumption | omega), (by first | assumption | omega), (by first | assumption | omega), (by first | assumption | omega)⟩, by rw [ht]; exact hP.sub [0, 1] rfl, hD.sub [0, 1] (by decide) rfl⟩, hS.F ht⟩) hS.2.2 dX9_next_135 hlk
              · skip
                refine lv_istore_n (lv' := [(2, .int 0), (1, .int 1), (0, .ref h0)]) hx hb dX9_next_57 rfl hl (by decide) rfl (fun ls hl => ?_)
                refine lv_aload_n hx hb dX9_next_58 rfl (lv_at hl 2 rfl) ?_
                refine lv_aload_n hx hb dX9_next_59 rfl (lv_at hl 2 rfl) ?_
                refine xg hF kf_X9_254 hK hP 0 rfl rfl dX9_next_60 ?_
                refine lv_aload_n hx hb dX9_next_63 rfl (lv_at hl 2 rfl) ?_
                refine xg hF kf_X9_240 hK hP 0 rfl rfl dX9_next_64 ?_
                refine lv_icmp_ge (tgt := 79) hx hb dX9_next_67 (by decide) (fun c_100 => ?_) (fun c_100 => ?_)
                · skip
                  have nc_100 : mz ≤ f8 := xn_le (a := mz) (b := f8) (by omega) (by omega) c_100
                  refine lv_aload_n hx hb dX9_next_79 rfl (lv_at hl 2 rfl) ?_
                  refine xg hF kf_X9_254 hK hP 0 rfl rfl dX9_next_80 ?_
                  refine xp hF kf_X9_251 tyX9_ok nmX9 hK hP hD hS 0 rfl rfl rfl rfl (Nat.le_of_ble_eq_true rfl) dX9_next_83 (fun H locs hP hD hS => ?_)
                  have hP : va_P D vwCl [(h0, .inr (9, [.ref ys, .ref yk, .ref yo, .ref yt, .int mk0, .ref yfa, .ref yfe, .int mL, .int mS, .int mM, .ref yro, .ref yhe, .ref ygr, .int mF, .int mC, .int mY, .ref yta, .int (nI (mz)), .int (nI (f8)), .int (nI (f8)), .int mv, .int mw, .ref ywa, .ref ybi, .ref ysi, .ref ynu, .ref ymo])), (yta, .inl (cI, 120, .inl tp))] H := hP
                  have hD : va_D A [(h0, .inr (9, [.ref ys, .ref yk, .ref yo, .ref yt, .int mk0, .ref yfa, .ref yfe, .int mL, .int mS, .int mM, .ref yro, .ref yhe, .ref ygr, .int mF, .int mC, .int mY, .ref yta, .int (nI (mz)), .int (nI (f8)), .int (nI (f8)), .int mv, .int mw, .ref ywa, .ref ybi, .ref ysi, .ref ynu, .ref ymo])), (yta, .inl (cI, 120, .inl tp))] := hD
                  suffices loop_86 : ∀ (n_86 : Nat) (t8 : Nat) (H : Heap) (locs : List Loc) (ls : Array Slot), mz - t8 < n_86 → (t8 ≤ mz) → (f8 ≤ t8) → (f8 < t8 ∨ f8 = mz) → va_P D vwCl [(h0, .inr (9, [.ref ys, .ref yk, .ref yo, .ref yt, .int mk0, .ref yfa, .ref yfe, .int mL, .int mS, .int mM, .ref yro, .ref yhe, .ref ygr, .int mF, .int mC, .int mY, .ref yta, .int (nI (mz)), .int (nI (f8)), .int (nI (t8)), .int mv, .int mw, .ref ywa, .ref ybi, .ref ysi, .ref ynu, .ref ymo])), (yta, .inl (cI, 120, .inl tp))] H → va_D A [(h0, .inr (9, [.ref ys, .ref yk, .ref yo, .ref yt, .int mk0, .ref yfa, .ref yfe, .int mL, .int mS, .int mM, .ref yro, .ref yhe, .ref ygr, .int mF, .int mC, .int mY, .ref yta, .int (nI (mz)), .int (nI (f8)), .int (nI (t8)), .int mv, .int mw, .ref ywa, .ref ybi, .ref ysi, .ref ynu, .ref ymo])), (yta, .inl (cI, 120, .inl tp))] → va_S A s.heap H locs → lv_has ls 3 [(2, .int 0), (1, .int 1), (0, .ref h0)] → W p l e ({ frames := 2, cells := 0, slots := 0, locals := 45 }) s m ([.ref h0] : List Value).toArray below meth c H locs 0 0 (MQ below (XQv (fun (u : Nat × Nat) => match u with | (f2, t2) => (f2 ≤ mz) ∧ (t2 ≤ mz) ∧ (f2 ≤ t2) ∧ (f2 < t2 ∨ f2 = mz) ∧ (mt ≤ f2)) D (fun (u : Nat × Nat) => match u with | (f2, t2) => [(h0, .inr (9, [.ref ys, .ref yk, .ref yo, .ref yt, .int mk0, .ref yfa, .ref yfe, .int mL, .int mS, .int mM, .ref yro, .ref yhe, .ref ygr, .int mF, .int mC, .int mY, .ref yta, .int (nI (mz)), .int (nI (f2)), .int (nI (t2)), .int mv, .int mw, .ref ywa, .ref ybi, .ref ysi, .ref ynu, .ref ymo])), (yta, .inl (cI, 120, .inl tp))]) A) ([.ref h0] : List Value).toArray s 0 0 A) (F0 m 86 ls []) by
                    exact loop_86 _ f8 _ _ _ (Nat.lt_succ_self _) (by omega) (by omega) (by omega) hP hD hS (lv_sub hl [0, 1, 2] rfl)
                  intro n_86
                  induction n_86 with
                  | zero =>
                    intro t8 H locs ls hm_86
                    exact absurd hm_86 (Nat.not_lt_zero _)
                  | succ n_86 ih_86 =>
                    intro t8 H locs ls hm_86 ht8 hu8 hv8 hP hD hS hl
                    refine lv_iload_n hx hb dX9_next_86 rfl (lv_at hl 1 rfl) ?_
                    refine lv_if_eq (tgt := 104) hx hb dX9_next_87 (by decide) (fun c_101 => absurd c_101 (by decide)) (fun c_101 => ?_)
                    refine lv_aload_n hx hb dX9_next_90 rfl (lv_at hl 2 rfl) ?_
                    refine lv_aload_n hx hb dX9_next_91 rfl (lv_at hl 2 rfl) ?_
                    refine xg hF kf_X9_251 hK hP 0 rfl rfl dX9_next_92 ?_
                    refine xc_Vr hF (c_X9_byteAt l D cI cJ cZ cS ta sa sv H.size h0 ys yk yo yt mk0 yfa yfe mL mS mM yro yhe ygr mF mC mY yta mz f8 t8 mv mw ywa ybi ysi ynu ymo tp t8 (by omega) (by omega)) kv_X9_257 ⟨rfl, rfl, Nat.le_of_ble_eq_true rfl, Nat.le_of_ble_eq_true rfl⟩ ⟨Nat.le_of_ble_eq_true rfl, Nat.le_of_ble_eq_true rfl⟩ hK hN hZ hP hD hS hA [0, 1] rfl rfl 0 rfl rfl rfl rfl hl.1 rfl (Nat.le_of_ble_eq_true rfl) dX9_next_95 (fun r_102 hw_r_102 => ?_)
                    rcases hw_r_102 with ⟨rfl, h_103⟩ | ⟨rfl, h_104⟩
                    · skip
                      refine xc_Sr hF (c_X9_isLetterF l D cI cJ cZ cS ta sa sv H.size (tp t8) ) ks_X9_260 ⟨rfl, rfl, Nat.le_of_ble_eq_true rfl, Nat.le_of_ble_eq_true rfl⟩ ⟨Nat.le_of_ble_eq_true rfl, Nat.le_of_ble_eq_true rfl⟩ hK hN hZ hP hD hS hA [] rfl rfl rfl hl.1 rfl (Nat.le_of_ble_eq_true rfl) dX9_next_98 (fun r_105 hw_r_105 => ?_)
                      rcases hw_r_105 with ⟨rfl, h_106⟩ | rfl
                      · skip
                        refine lv_if_ne (tgt := 122) hx hb dX9_next_101 (by decide) (fun c_107 => ?_) (fun c_107 => absurd c_107 (by decide))
                        refine lv_aload_n hx hb dX9_next_122 rfl (lv_at hl 2 rfl) ?_
                        refine lv_dup hx hb dX9_next_123 rfl ?_
                        refine xg hF kf_X9_251 hK hP 0 rfl rfl dX9_next_124 ?_
                        refine lv_iconst (v := 1) hx hb dX9_next_127 (by decide) ?_
                        refine lv_iadd hx hb dX9_next_128 ?_
                        refine xl_i (y := nI (t8 + 1)) (nI_add t8 1) ?_
                        refine xp hF kf_X9_251 tyX9_ok nmX9 hK hP hD hS 0 rfl rfl rfl rfl (Nat.le_of_ble_eq_true rfl) dX9_next_129 (fun H locs hP hD hS => ?_)
                        have hP : va_P D vwCl [(h0, .inr (9, [.ref ys, .ref yk, .ref yo, .ref yt, .int mk0, .ref yfa, .ref yfe, .int mL, .int mS, .int mM, .ref yro, .ref yhe, .ref ygr, .int mF, .int mC, .int mY, .ref yta, .int (nI (mz)), .int (nI (f8)), .int (nI (t8 + 1)), .int mv, .int mw, .ref ywa, .ref ybi, .ref ysi, .ref ynu, .ref ymo])), (yta, .inl (cI, 120, .inl tp))] H := hP
                        have hD : va_D A [(h0, .inr (9, [.ref ys, .ref yk, .ref yo, .ref yt, .int mk0, .ref yfa, .ref yfe, .int mL, .int mS, .int mM, .ref yro, .ref yhe, .ref ygr, .int mF, .int mC, .int mY, .ref yta, .int (nI (mz)), .int (nI (f8)), .int (nI (t8 + 1)), .int mv, .int mw, .ref ywa, .ref ybi, .ref ysi, .ref ynu, .ref ymo])), (yta, .inl (cI, 120, .inl tp))] := hD
                        refine lv_goto (tgt := 86) hx hb dX9_next_132 (by decide) ?_
                        exact ih_86 (t8 + 1) _ _ _ (by omega) (by omega) (by omega) (by omega) (hP.sub [0, 1] rfl) (hD.sub [0, 1] (by decide) rfl) hS (lv_sub hl [0, 1, 2] rfl)
                      · skip
                        refine lv_if_ne (tgt := 122) hx hb dX9_next_101 (by decide) (fun c_108 => absurd (by decide) c_108) (fun c_108 => ?_)
                        refine lv_iload_n hx hb dX9_next_104 rfl (lv_at hl 0 rfl) ?_
                        refine lv_if_eq (tgt := 135) hx hb dX9_next_105 (by decide) (fun c_109 => ?_) (fun c_109 => absurd (by decide) c_109)
                        exact W.vret hx hb hr (fun t ht hW => ⟨⟨(f8, t8), rfl, ⟨(by first | assumption | omega), (by first | assumption | omega), (by first | assumption | omega), (by first | assumption | omega), (by first | assumption | omega)⟩, by rw [ht]; exact hP.sub [0, 1] rfl, hD.sub [0, 1] (by decide) rfl⟩, hS.F ht⟩) hS.2.2 dX9_next_135 hlk
                    · skip
                      refine xc_Sr hF (c_X9_isLetterF l D cI cJ cZ cS ta sa sv H.size (-1) ) ks_X9_260 ⟨rfl, rfl, Nat.le_of_ble_eq_true rfl, Nat.le_of_ble_eq_true rfl⟩ ⟨Nat.le_of_ble_eq_true rfl, Nat.le_of_ble_eq_true rfl⟩ hK hN hZ hP hD hS hA [] rfl rfl rfl hl.1 rfl (Nat.le_of_ble_eq_true rfl) dX9_next_98 (fun r_110 hw_r_110 => ?_)
                      rcases hw_r_110 with ⟨rfl, h_111⟩ | rfl
                      · exact absurd (by decide) h_111
                      · skip
                        refine lv_if_ne (tgt := 122) hx hb dX9_next_101 (by decide) (fun c_112 => absurd (by decide) c_112) (fun c_112 => ?_)
                        refine lv_iload_n hx hb dX9_next_104 rfl (lv_at hl 0 rfl) ?_
                        refine lv_if_eq (tgt := 135) hx hb dX9_next_105 (by decide) (fun c_113 => ?_) (fun c_113 => absurd (by decide) c_113)
                        exact W.vret hx hb hr (fun t ht hW => ⟨⟨(f8, t8), rfl, ⟨(by first | assumption | omega), (by first | assumption | omega), (by first | assumption | omega), (by first | assumption | omega), (by first | assumption | omega)⟩, by rw [ht]; exact hP.sub [0, 1] rfl, hD.sub [0, 1] (by decide) rfl⟩, hS.F ht⟩) hS.2.2 dX9_next_135 hlk
                · skip
                  have nc_100 : f8 < mz := xn_nle (a := mz) (b := f8) (by omega) (by omega) c_100
                  refine lv_aload_n hx hb dX9_next_70 rfl (lv_at hl 2 rfl) ?_
                  refine xg hF kf_X9_254 hK hP 0 rfl rfl dX9_next_71 ?_
                  refine lv_iconst (v := 1) hx hb dX9_next_74 (by decide) ?_
                  refine lv_iadd hx hb dX9_next_75 ?_
                  refine xl_i (y := nI (f8 + 1)) (nI_add f8 1) ?_
                  refine lv_goto (tgt := 83) hx hb dX9_next_76 (by decide) ?_
                  refine xp hF kf_X9_251 tyX9_ok nmX9 hK hP hD hS 0 rfl rfl rfl rfl (Nat.le_of_ble_eq_true rfl) dX9_next_83 (fun H locs hP hD hS => ?_)
                  have hP : va_P D vwCl [(h0, .inr (9, [.ref ys, .ref yk, .ref yo, .ref yt, .int mk0, .ref yfa, .ref yfe, .int mL, .int mS, .int mM, .ref yro, .ref yhe, .ref ygr, .int mF, .int mC, .int mY, .ref yta, .int (nI (mz)), .int (nI (f8)), .int (nI (f8 + 1)), .int mv, .int mw, .ref ywa, .ref ybi, .ref ysi, .ref ynu, .ref ymo])), (yta, .inl (cI, 120, .inl tp))] H := hP
                  have hD : va_D A [(h0, .inr (9, [.ref ys, .ref yk, .ref yo, .ref yt, .int mk0, .ref yfa, .ref yfe, .int mL, .int mS, .int mM, .ref yro, .ref yhe, .ref ygr, .int mF, .int mC, .int mY, .ref yta, .int (nI (mz)), .int (nI (f8)), .int (nI (f8 + 1)), .int mv, .int mw, .ref ywa, .ref ybi, .ref ysi, .ref ynu, .ref ymo])), (yta, .inl (cI, 120, .inl tp))] := hD
                  suffices loop_86 : ∀ (n_86 : Nat) (t8 : Nat) (H : Heap) (locs : List Loc) (ls : Array Slot), mz - t8 < n_86 → (t8 ≤ mz) → (f8 ≤ t8) → (f8 < t8 ∨ f8 = mz) → va_P D vwCl [(h0, .inr (9, [.ref ys, .ref yk, .ref yo, .ref yt, .int mk0, .ref yfa, .ref yfe, .int mL, .int mS, .int mM, .ref yro, .ref yhe, .ref ygr, .int mF, .int mC, .int mY, .ref yta, .int (nI (mz)), .int (nI (f8)), .int (nI (t8)), .int mv, .int mw, .ref ywa, .ref ybi, .ref ysi, .ref ynu, .ref ymo])), (yta, .inl (cI, 120, .inl tp))] H → va_D A [(h0, .inr (9, [.ref ys, .ref yk, .ref yo, .ref yt, .int mk0, .ref yfa, .ref yfe, .int mL, .int mS, .int mM, .ref yro, .ref yhe, .ref ygr, .int mF, .int mC, .int mY, .ref yta, .int (nI (mz)), .int (nI (f8)), .int (nI (t8)), .int mv, .int mw, .ref ywa, .ref ybi, .ref ysi, .ref ynu, .ref ymo])), (yta, .inl (cI, 120, .inl tp))] → va_S A s.heap H locs → lv_has ls 3 [(2, .int 0), (1, .int 1), (0, .ref h0)] → W p l e ({ frames := 2, cells := 0, slots := 0, locals := 45 }) s m ([.ref h0] : List Value).toArray below meth c H locs 0 0 (MQ below (XQv (fun (u : Nat × Nat) => match u with | (f2, t2) => (f2 ≤ mz) ∧ (t2 ≤ mz) ∧ (f2 ≤ t2) ∧ (f2 < t2 ∨ f2 = mz) ∧ (mt ≤ f2)) D (fun (u : Nat × Nat) => match u with | (f2, t2) => [(h0, .inr (9, [.ref ys, .ref yk, .ref yo, .ref yt, .int mk0, .ref yfa, .ref yfe, .int mL, .int mS, .int mM, .ref yro, .ref yhe, .ref ygr, .int mF, .int mC, .int mY, .ref yta, .int (nI (mz)), .int (nI (f2)), .int (nI (t2)), .int mv, .int mw, .ref ywa, .ref ybi, .ref ysi, .ref ynu, .ref ymo])), (yta, .inl (cI, 120, .inl tp))]) A) ([.ref h0] : List Value).toArray s 0 0 A) (F0 m 86 ls []) by
                    exact loop_86 _ (f8 + 1) _ _ _ (Nat.lt_succ_self _) (by omega) (by omega) (by omega) hP hD hS (lv_sub hl [0, 1, 2] rfl)
                  intro n_86
                  induction n_86 with
                  | zero =>
                    intro t8 H locs ls hm_86
                    exact absurd hm_86 (Nat.not_lt_zero _)
                  | succ n_86 ih_86 =>
                    intro t8 H locs ls hm_86 ht8 hu8 hv8 hP hD hS hl
                    refine lv_iload_n hx hb dX9_next_86 rfl (lv_at hl 1 rfl) ?_
                    refine lv_if_eq (tgt := 104) hx hb dX9_next_87 (by decide) (fun c_114 => absurd c_114 (by decide)) (fun c_114 => ?_)
                    refine lv_aload_n hx hb dX9_next_90 rfl (lv_at hl 2 rfl) ?_
                    refine lv_aload_n hx hb dX9_next_91 rfl (lv_at hl 2 rfl) ?_
                    refine xg hF kf_X9_251 hK hP 0 rfl rfl dX9_next_92 ?_
                    refine xc_Vr hF (c_X9_byteAt l D cI cJ cZ cS ta sa sv H.size h0 ys yk yo yt mk0 yfa yfe mL mS mM yro yhe ygr mF mC mY yta mz f8 t8 mv mw ywa ybi ysi ynu ymo tp t8 (by omega) (by omega)) kv_X9_257 ⟨rfl, rfl, Nat.le_of_ble_eq_true rfl, Nat.le_of_ble_eq_true rfl⟩ ⟨Nat.le_of_ble_eq_true rfl, Nat.le_of_ble_eq_true rfl⟩ hK hN hZ hP hD hS hA [0, 1] rfl rfl 0 rfl rfl rfl rfl hl.1 rfl (Nat.le_of_ble_eq_true rfl) dX9_next_95 (fun r_115 hw_r_115 => ?_)
                    rcases hw_r_115 with ⟨rfl, h_116⟩ | ⟨rfl, h_117⟩
                    · skip
                      refine xc_Sr hF (c_X9_isLetterF l D cI cJ cZ cS ta sa sv H.size (tp t8) ) ks_X9_260 ⟨rfl, rfl, Nat.le_of_ble_eq_true rfl, Nat.le_of_ble_eq_true rfl⟩ ⟨Nat.le_of_ble_eq_true rfl, Nat.le_of_ble_eq_true rfl⟩ hK hN hZ hP hD hS hA [] rfl rfl rfl hl.1 rfl (Nat.le_of_ble_eq_true rfl) dX9_next_98 (fun r_118 hw_r_118 => ?_)
                      rcases hw_r_118 with ⟨rfl, h_119⟩ | rfl
                      · skip
                        refine lv_if_ne (tgt := 122) hx hb dX9_next_101 (by decide) (fun c_120 => ?_) (fun c_120 => absurd c_120 (by decide))
                        refine lv_aload_n hx hb dX9_next_122 rfl (lv_at hl 2 rfl) ?_
                        refine lv_dup hx hb dX9_next_123 rfl ?_
                        refine xg hF kf_X9_251 hK hP 0 rfl rfl dX9_next_124 ?_
                        refine lv_iconst (v := 1) hx hb dX9_next_127 (by decide) ?_
                        refine lv_iadd hx hb dX9_next_128 ?_
                        refine xl_i (y := nI (t8 + 1)) (nI_add t8 1) ?_
                        refine xp hF kf_X9_251 tyX9_ok nmX9 hK hP hD hS 0 rfl rfl rfl rfl (Nat.le_of_ble_eq_true rfl) dX9_next_129 (fun H locs hP hD hS => ?_)
                        have hP : va_P D vwCl [(h0, .inr (9, [.ref ys, .ref yk, .ref yo, .ref yt, .int mk0, .ref yfa, .ref yfe, .int mL, .int mS, .int mM, .ref yro, .ref yhe, .ref ygr, .int mF, .int mC, .int mY, .ref yta, .int (nI (mz)), .int (nI (f8)), .int (nI (t8 + 1)), .int mv, .int mw, .ref ywa, .ref ybi, .ref ysi, .ref ynu, .ref ymo])), (yta, .inl (cI, 120, .inl tp))] H := hP
                        have hD : va_D A [(h0, .inr (9, [.ref ys, .ref yk, .ref yo, .ref yt, .int mk0, .ref yfa, .ref yfe, .int mL, .int mS, .int mM, .ref yro, .ref yhe, .ref ygr, .int mF, .int mC, .int mY, .ref yta, .int (nI (mz)), .int (nI (f8)), .int (nI (t8 + 1)), .int mv, .int mw, .ref ywa, .ref ybi, .ref ysi, .ref ynu, .ref ymo])), (yta, .inl (cI, 120, .inl tp))] := hD
                        refine lv_goto (tgt := 86) hx hb dX9_next_132 (by decide) ?_
                        exact ih_86 (t8 + 1) _ _ _ (by omega) (by omega) (by omega) (by omega) (hP.sub [0, 1] rfl) (hD.sub [0, 1] (by decide) rfl) hS (lv_sub hl [0, 1, 2] rfl)
                      · skip
                        refine lv_if_ne (tgt := 122) hx hb dX9_next_101 (by decide) (fun c_121 => absurd (by decide) c_121) (fun c_121 => ?_)
                        refine lv_iload_n hx hb dX9_next_104 rfl (lv_at hl 0 rfl) ?_
                        refine lv_if_eq (tgt := 135) hx hb dX9_next_105 (by decide) (fun c_122 => ?_) (fun c_122 => absurd (by decide) c_122)
                        exact W.vret hx hb hr (fun t ht hW => ⟨⟨(f8, t8), rfl, ⟨(by first | assumption | omega), (by first | assumption | omega), (by first | assumption | omega), (by first | assumption | omega), (by first | assumption | omega)⟩, by rw [ht]; exact hP.sub [0, 1] rfl, hD.sub [0, 1] (by decide) rfl⟩, hS.F ht⟩) hS.2.2 dX9_next_135 hlk
                    · skip
                      refine xc_Sr hF (c_X9_isLetterF l D cI cJ cZ cS ta sa sv H.size (-1) ) ks_X9_260 ⟨rfl, rfl, Nat.le_of_ble_eq_true rfl, Nat.le_of_ble_eq_true rfl⟩ ⟨Nat.le_of_ble_eq_true rfl, Nat.le_of_ble_eq_true rfl⟩ hK hN hZ hP hD hS hA [] rfl rfl rfl hl.1 rfl (Nat.le_of_ble_eq_true rfl) dX9_next_98 (fun r_123 hw_r_123 => ?_)
                      rcases hw_r_123 with ⟨rfl, h_124⟩ | rfl
                      · exact absurd (by decide) h_124
                      · skip
                        refine lv_if_ne (tgt := 122) hx hb dX9_next_101 (by decide) (fun c_125 => absurd (by decide) c_125) (fun c_125 => ?_)
                        refine lv_iload_n hx hb dX9_next_104 rfl (lv_at hl 0 rfl) ?_
                        refine lv_if_eq (tgt := 135) hx hb dX9_next_105 (by decide) (fun c_126 => ?_) (fun c_126 => absurd (by decide) c_126)
                        exact W.vret hx hb hr (fun t ht hW => ⟨⟨(f8, t8), rfl, ⟨(by first | assumption | omega), (by first | assumption | omega), (by first | assumption | omega), (by first | assumption | omega), (by first | assumption | omega)⟩, by rw [ht]; exact hP.sub [0, 1] rfl, hD.sub [0, 1] (by decide) rfl⟩, hS.F ht⟩) hS.2.2 dX9_next_135 hlk
            · skip
              refine xc_Sr hF (c_X9_isDigit l D cI cJ cZ cS ta sa sv H.size (-1) ) ks_X9_263 ⟨rfl, rfl, Nat.le_of_ble_eq_true rfl, Nat.le_of_ble_eq_true rfl⟩ ⟨Nat.le_of_ble_eq_true rfl, Nat.le_of_ble_eq_true rfl⟩ hK hN hZ hP hD hS hA [] rfl rfl rfl hl.1 rfl (Nat.le_of_ble_eq_true rfl) dX9_next_54 (fun r_127 hw_r_127 => ?_)
              rcases hw_r_127 with ⟨rfl, h_128, h_129⟩ | ⟨rfl, h_130⟩
              · exact absurd (by decide) h_128
              · skip
                refine lv_istore_n (lv' := [(2, .int 0), (1, .int 1), (0, .ref h0)]) hx hb dX9_next_57 rfl hl (by decide) rfl (fun ls hl => ?_)
                refine lv_aload_n hx hb dX9_next_58 rfl (lv_at hl 2 rfl) ?_
                refine lv_aload_n hx hb dX9_next_59 rfl (lv_at hl 2 rfl) ?_
                refine xg hF kf_X9_254 hK hP 0 rfl rfl dX9_next_60 ?_
                refine lv_aload_n hx hb dX9_next_63 rfl (lv_at hl 2 rfl) ?_
                refine xg hF kf_X9_240 hK hP 0 rfl rfl dX9_next_64 ?_
                refine lv_icmp_ge (tgt := 79) hx hb dX9_next_67 (by decide) (fun c_131 => ?_) (fun c_131 => ?_)
                · skip
                  have nc_131 : mz ≤ f8 := xn_le (a := mz) (b := f8) (by omega) (by omega) c_131
                  refine lv_aload_n hx hb dX9_next_79 rfl (lv_at hl 2 rfl) ?_
                  refine xg hF kf_X9_254 hK hP 0 rfl rfl dX9_next_80 ?_
                  refine xp hF kf_X9_251 tyX9_ok nmX9 hK hP hD hS 0 rfl rfl rfl rfl (Nat.le_of_ble_eq_true rfl) dX9_next_83 (fun H locs hP hD hS => ?_)
                  have hP : va_P D vwCl [(h0, .inr (9, [.ref ys, .ref yk, .ref yo, .ref yt, .int mk0, .ref yfa, .ref yfe, .int mL, .int mS, .int mM, .ref yro, .ref yhe, .ref ygr, .int mF, .int mC, .int mY, .ref yta, .int (nI (mz)), .int (nI (f8)), .int (nI (f8)), .int mv, .int mw, .ref ywa, .ref ybi, .ref ysi, .ref ynu, .ref ymo])), (yta, .inl (cI, 120, .inl tp))] H := hP
                  have hD : va_D A [(h0, .inr (9, [.ref ys, .ref yk, .ref yo, .ref yt, .int mk0, .ref yfa, .ref yfe, .int mL, .int mS, .int mM, .ref yro, .ref yhe, .ref ygr, .int mF, .int mC, .int mY, .ref yta, .int (nI (mz)), .int (nI (f8)), .int (nI (f8)), .int mv, .int mw, .ref ywa, .ref ybi, .ref ysi, .ref ynu, .ref ymo])), (yta, .inl (cI, 120, .inl tp))] := hD
                  suffices loop_86 : ∀ (n_86 : Nat) (t8 : Nat) (H : Heap) (locs : List Loc) (ls : Array Slot), mz - t8 < n_86 → (t8 ≤ mz) → (f8 ≤ t8) → (f8 < t8 ∨ f8 = mz) → va_P D vwCl [(h0, .inr (9, [.ref ys, .ref yk, .ref yo, .ref yt, .int mk0, .ref yfa, .ref yfe, .int mL, .int mS, .int mM, .ref yro, .ref yhe, .ref ygr, .int mF, .int mC, .int mY, .ref yta, .int (nI (mz)), .int (nI (f8)), .int (nI (t8)), .int mv, .int mw, .ref ywa, .ref ybi, .ref ysi, .ref ynu, .ref ymo])), (yta, .inl (cI, 120, .inl tp))] H → va_D A [(h0, .inr (9, [.ref ys, .ref yk, .ref yo, .ref yt, .int mk0, .ref yfa, .ref yfe, .int mL, .int mS, .int mM, .ref yro, .ref yhe, .ref ygr, .int mF, .int mC, .int mY, .ref yta, .int (nI (mz)), .int (nI (f8)), .int (nI (t8)), .int mv, .int mw, .ref ywa, .ref ybi, .ref ysi, .ref ynu, .ref ymo])), (yta, .inl (cI, 120, .inl tp))] → va_S A s.heap H locs → lv_has ls 3 [(2, .int 0), (1, .int 1), (0, .ref h0)] → W p l e ({ frames := 2, cells := 0, slots := 0, locals := 45 }) s m ([.ref h0] : List Value).toArray below meth c H locs 0 0 (MQ below (XQv (fun (u : Nat × Nat) => match u with | (f2, t2) => (f2 ≤ mz) ∧ (t2 ≤ mz) ∧ (f2 ≤ t2) ∧ (f2 < t2 ∨ f2 = mz) ∧ (mt ≤ f2)) D (fun (u : Nat × Nat) => match u with | (f2, t2) => [(h0, .inr (9, [.ref ys, .ref yk, .ref yo, .ref yt, .int mk0, .ref yfa, .ref yfe, .int mL, .int mS, .int mM, .ref yro, .ref yhe, .ref ygr, .int mF, .int mC, .int mY, .ref yta, .int (nI (mz)), .int (nI (f2)), .int (nI (t2)), .int mv, .int mw, .ref ywa, .ref ybi, .ref ysi, .ref ynu, .ref ymo])), (yta, .inl (cI, 120, .inl tp))]) A) ([.ref h0] : List Value).toArray s 0 0 A) (F0 m 86 ls []) by
                    exact loop_86 _ f8 _ _ _ (Nat.lt_succ_self _) (by omega) (by omega) (by omega) hP hD hS (lv_sub hl [0, 1, 2] rfl)
                  intro n_86
                  induction n_86 with
                  | zero =>
                    intro t8 H locs ls hm_86
                    exact absurd hm_86 (Nat.not_lt_zero _)
                  | succ n_86 ih_86 =>
                    intro t8 H locs ls hm_86 ht8 hu8 hv8 hP hD hS hl
                    refine lv_iload_n hx hb dX9_next_86 rfl (lv_at hl 1 rfl) ?_
                    refine lv_if_eq (tgt := 104) hx hb dX9_next_87 (by decide) (fun c_132 => absurd c_132 (by decide)) (fun c_132 => ?_)
                    refine lv_aload_n hx hb dX9_next_90 rfl (lv_at hl 2 rfl) ?_
                    refine lv_aload_n hx hb dX9_next_91 rfl (lv_at hl 2 rfl) ?_
                    refine xg hF kf_X9_251 hK hP 0 rfl rfl dX9_next_92 ?_
                    refine xc_Vr hF (c_X9_byteAt l D cI cJ cZ cS ta sa sv H.size h0 ys yk yo yt mk0 yfa yfe mL mS mM yro yhe ygr mF mC mY yta mz f8 t8 mv mw ywa ybi ysi ynu ymo tp t8 (by omega) (by omega)) kv_X9_257 ⟨rfl, rfl, Nat.le_of_ble_eq_true rfl, Nat.le_of_ble_eq_true rfl⟩ ⟨Nat.le_of_ble_eq_true rfl, Nat.le_of_ble_eq_true rfl⟩ hK hN hZ hP hD hS hA [0, 1] rfl rfl 0 rfl rfl rfl rfl hl.1 rfl (Nat.le_of_ble_eq_true rfl) dX9_next_95 (fun r_133 hw_r_133 => ?_)
                    rcases hw_r_133 with ⟨rfl, h_134⟩ | ⟨rfl, h_135⟩
                    · skip
                      refine xc_Sr hF (c_X9_isLetterF l D cI cJ cZ cS ta sa sv H.size (tp t8) ) ks_X9_260 ⟨rfl, rfl, Nat.le_of_ble_eq_true rfl, Nat.le_of_ble_eq_true rfl⟩ ⟨Nat.le_of_ble_eq_true rfl, Nat.le_of_ble_eq_true rfl⟩ hK hN hZ hP hD hS hA [] rfl rfl rfl hl.1 rfl (Nat.le_of_ble_eq_true rfl) dX9_next_98 (fun r_136 hw_r_136 => ?_)
                      rcases hw_r_136 with ⟨rfl, h_137⟩ | rfl
                      · skip
                        refine lv_if_ne (tgt := 122) hx hb dX9_next_101 (by decide) (fun c_138 => ?_) (fun c_138 => absurd c_138 (by decide))
                        refine lv_aload_n hx hb dX9_next_122 rfl (lv_at hl 2 rfl) ?_
                        refine lv_dup hx hb dX9_next_123 rfl ?_
                        refine xg hF kf_X9_251 hK hP 0 rfl rfl dX9_next_124 ?_
                        refine lv_iconst (v := 1) hx hb dX9_next_127 (by decide) ?_
                        refine lv_iadd hx hb dX9_next_128 ?_
                        refine xl_i (y := nI (t8 + 1)) (nI_add t8 1) ?_
                        refine xp hF kf_X9_251 tyX9_ok nmX9 hK hP hD hS 0 rfl rfl rfl rfl (Nat.le_of_ble_eq_true rfl) dX9_next_129 (fun H locs hP hD hS => ?_)
                        have hP : va_P D vwCl [(h0, .inr (9, [.ref ys, .ref yk, .ref yo, .ref yt, .int mk0, .ref yfa, .ref yfe, .int mL, .int mS, .int mM, .ref yro, .ref yhe, .ref ygr, .int mF, .int mC, .int mY, .ref yta, .int (nI (mz)), .int (nI (f8)), .int (nI (t8 + 1)), .int mv, .int mw, .ref ywa, .ref ybi, .ref ysi, .ref ynu, .ref ymo])), (yta, .inl (cI, 120, .inl tp))] H := hP
                        have hD : va_D A [(h0, .inr (9, [.ref ys, .ref yk, .ref yo, .ref yt, .int mk0, .ref yfa, .ref yfe, .int mL, .int mS, .int mM, .ref yro, .ref yhe, .ref ygr, .int mF, .int mC, .int mY, .ref yta, .int (nI (mz)), .int (nI (f8)), .int (nI (t8 + 1)), .int mv, .int mw, .ref ywa, .ref ybi, .ref ysi, .ref ynu, .ref ymo])), (yta, .inl (cI, 120, .inl tp))] := hD
                        refine lv_goto (tgt := 86) hx hb dX9_next_132 (by decide) ?_
                        exact ih_86 (t8 + 1) _ _ _ (by omega) (by omega) (by omega) (by omega) (hP.sub [0, 1] rfl) (hD.sub [0, 1] (by decide) rfl) hS (lv_sub hl [0, 1, 2] rfl)
                      · skip
                        refine lv_if_ne (tgt := 122) hx hb dX9_next_101 (by decide) (fun c_139 => absurd (by decide) c_139) (fun c_139 => ?_)
                        refine lv_iload_n hx hb dX9_next_104 rfl (lv_at hl 0 rfl) ?_
                        refine lv_if_eq (tgt := 135) hx hb dX9_next_105 (by decide) (fun c_140 => ?_) (fun c_140 => absurd (by decide) c_140)
                        exact W.vret hx hb hr (fun t ht hW => ⟨⟨(f8, t8), rfl, ⟨(by first | assumption | omega), (by first | assumption | omega), (by first | assumption | omega), (by first | assumption | omega), (by first | assumption | omega)⟩, by rw [ht]; exact hP.sub [0, 1] rfl, hD.sub [0, 1] (by decide) rfl⟩, hS.F ht⟩) hS.2.2 dX9_next_135 hlk
                    · skip
                      refine xc_Sr hF (c_X9_isLetterF l D cI cJ cZ cS ta sa sv H.size (-1) ) ks_X9_260 ⟨rfl, rfl, Nat.le_of_ble_eq_true rfl, Nat.le_of_ble_eq_true rfl⟩ ⟨Nat.le_of_ble_eq_true rfl, Nat.le_of_ble_eq_true rfl⟩ hK hN hZ hP hD hS hA [] rfl rfl rfl hl.1 rfl (Nat.le_of_ble_eq_true rfl) dX9_next_98 (fun r_141 hw_r_141 => ?_)
                      rcases hw_r_141 with ⟨rfl, h_142⟩ | rfl
                      · exact absurd (by decide) h_142
                      · skip
                        refine lv_if_ne (tgt := 122) hx hb dX9_next_101 (by decide) (fun c_143 => absurd (by decide) c_143) (fun c_143 => ?_)
                        refine lv_iload_n hx hb dX9_next_104 rfl (lv_at hl 0 rfl) ?_
                        refine lv_if_eq (tgt := 135) hx hb dX9_next_105 (by decide) (fun c_144 => ?_) (fun c_144 => absurd (by decide) c_144)
                        exact W.vret hx hb hr (fun t ht hW => ⟨⟨(f8, t8), rfl, ⟨(by first | assumption | omega), (by first | assumption | omega), (by first | assumption | omega), (by first | assumption | omega), (by first | assumption | omega)⟩, by rw [ht]; exact hP.sub [0, 1] rfl, hD.sub [0, 1] (by decide) rfl⟩, hS.F ht⟩) hS.2.2 dX9_next_135 hlk
                · skip
                  have nc_131 : f8 < mz := xn_nle (a := mz) (b := f8) (by omega) (by omega) c_131
                  refine lv_aload_n hx hb dX9_next_70 rfl (lv_at hl 2 rfl) ?_
                  refine xg hF kf_X9_254 hK hP 0 rfl rfl dX9_next_71 ?_
                  refine lv_iconst (v := 1) hx hb dX9_next_74 (by decide) ?_
                  refine lv_iadd hx hb dX9_next_75 ?_
                  refine xl_i (y := nI (f8 + 1)) (nI_add f8 1) ?_
                  refine lv_goto (tgt := 83) hx hb dX9_next_76 (by decide) ?_
                  refine xp hF kf_X9_251 tyX9_ok nmX9 hK hP hD hS 0 rfl rfl rfl rfl (Nat.le_of_ble_eq_true rfl) dX9_next_83 (fun H locs hP hD hS => ?_)
                  have hP : va_P D vwCl [(h0, .inr (9, [.ref ys, .ref yk, .ref yo, .ref yt, .int mk0, .ref yfa, .ref yfe, .int mL, .int mS, .int mM, .ref yro, .ref yhe, .ref ygr, .int mF, .int mC, .int mY, .ref yta, .int (nI (mz)), .int (nI (f8)), .int (nI (f8 + 1)), .int mv, .int mw, .ref ywa, .ref ybi, .ref ysi, .ref ynu, .ref ymo])), (yta, .inl (cI, 120, .inl tp))] H := hP
                  have hD : va_D A [(h0, .inr (9, [.ref ys, .ref yk, .ref yo, .ref yt, .int mk0, .ref yfa, .ref yfe, .int mL, .int mS, .int mM, .ref yro, .ref yhe, .ref ygr, .int mF, .int mC, .int mY, .ref yta, .int (nI (mz)), .int (nI (f8)), .int (nI (f8 + 1)), .int mv, .int mw, .ref ywa, .ref ybi, .ref ysi, .ref ynu, .ref ymo])), (yta, .inl (cI, 120, .inl tp))] := hD
                  suffices loop_86 : ∀ (n_86 : Nat) (t8 : Nat) (H : Heap) (locs : List Loc) (ls : Array Slot), mz - t8 < n_86 → (t8 ≤ mz) → (f8 ≤ t8) → (f8 < t8 ∨ f8 = mz) → va_P D vwCl [(h0, .inr (9, [.ref ys, .ref yk, .ref yo, .ref yt, .int mk0, .ref yfa, .ref yfe, .int mL, .int mS, .int mM, .ref yro, .ref yhe, .ref ygr, .int mF, .int mC, .int mY, .ref yta, .int (nI (mz)), .int (nI (f8)), .int (nI (t8)), .int mv, .int mw, .ref ywa, .ref ybi, .ref ysi, .ref ynu, .ref ymo])), (yta, .inl (cI, 120, .inl tp))] H → va_D A [(h0, .inr (9, [.ref ys, .ref yk, .ref yo, .ref yt, .int mk0, .ref yfa, .ref yfe, .int mL, .int mS, .int mM, .ref yro, .ref yhe, .ref ygr, .int mF, .int mC, .int mY, .ref yta, .int (nI (mz)), .int (nI (f8)), .int (nI (t8)), .int mv, .int mw, .ref ywa, .ref ybi, .ref ysi, .ref ynu, .ref ymo])), (yta, .inl (cI, 120, .inl tp))] → va_S A s.heap H locs → lv_has ls 3 [(2, .int 0), (1, .int 1), (0, .ref h0)] → W p l e ({ frames := 2, cells := 0, slots := 0, locals := 45 }) s m ([.ref h0] : List Value).toArray below meth c H locs 0 0 (MQ below (XQv (fun (u : Nat × Nat) => match u with | (f2, t2) => (f2 ≤ mz) ∧ (t2 ≤ mz) ∧ (f2 ≤ t2) ∧ (f2 < t2 ∨ f2 = mz) ∧ (mt ≤ f2)) D (fun (u : Nat × Nat) => match u with | (f2, t2) => [(h0, .inr (9, [.ref ys, .ref yk, .ref yo, .ref yt, .int mk0, .ref yfa, .ref yfe, .int mL, .int mS, .int mM, .ref yro, .ref yhe, .ref ygr, .int mF, .int mC, .int mY, .ref yta, .int (nI (mz)), .int (nI (f2)), .int (nI (t2)), .int mv, .int mw, .ref ywa, .ref ybi, .ref ysi, .ref ynu, .ref ymo])), (yta, .inl (cI, 120, .inl tp))]) A) ([.ref h0] : List Value).toArray s 0 0 A) (F0 m 86 ls []) by
                    exact loop_86 _ (f8 + 1) _ _ _ (Nat.lt_succ_self _) (by omega) (by omega) (by omega) hP hD hS (lv_sub hl [0, 1, 2] rfl)
                  intro n_86
                  induction n_86 with
                  | zero =>
                    intro t8 H locs ls hm_86
                    exact absurd hm_86 (Nat.not_lt_zero _)
                  | succ n_86 ih_86 =>
                    intro t8 H locs ls hm_86 ht8 hu8 hv8 hP hD hS hl
                    refine lv_iload_n hx hb dX9_next_86 rfl (lv_at hl 1 rfl) ?_
                    refine lv_if_eq (tgt := 104) hx hb dX9_next_87 (by decide) (fun c_145 => absurd c_145 (by decide)) (fun c_145 => ?_)
                    refine lv_aload_n hx hb dX9_next_90 rfl (lv_at hl 2 rfl) ?_
                    refine lv_aload_n hx hb dX9_next_91 rfl (lv_at hl 2 rfl) ?_
                    refine xg hF kf_X9_251 hK hP 0 rfl rfl dX9_next_92 ?_
                    refine xc_Vr hF (c_X9_byteAt l D cI cJ cZ cS ta sa sv H.size h0 ys yk yo yt mk0 yfa yfe mL mS mM yro yhe ygr mF mC mY yta mz f8 t8 mv mw ywa ybi ysi ynu ymo tp t8 (by omega) (by omega)) kv_X9_257 ⟨rfl, rfl, Nat.le_of_ble_eq_true rfl, Nat.le_of_ble_eq_true rfl⟩ ⟨Nat.le_of_ble_eq_true rfl, Nat.le_of_ble_eq_true rfl⟩ hK hN hZ hP hD hS hA [0, 1] rfl rfl 0 rfl rfl rfl rfl hl.1 rfl (Nat.le_of_ble_eq_true rfl) dX9_next_95 (fun r_146 hw_r_146 => ?_)
                    rcases hw_r_146 with ⟨rfl, h_147⟩ | ⟨rfl, h_148⟩
                    · skip
                      refine xc_Sr hF (c_X9_isLetterF l D cI cJ cZ cS ta sa sv H.size (tp t8) ) ks_X9_260 ⟨rfl, rfl, Nat.le_of_ble_eq_true rfl, Nat.le_of_ble_eq_true rfl⟩ ⟨Nat.le_of_ble_eq_true rfl, Nat.le_of_ble_eq_true rfl⟩ hK hN hZ hP hD hS hA [] rfl rfl rfl hl.1 rfl (Nat.le_of_ble_eq_true rfl) dX9_next_98 (fun r_149 hw_r_149 => ?_)
                      rcases hw_r_149 with ⟨rfl, h_150⟩ | rfl
                      · skip
                        refine lv_if_ne (tgt := 122) hx hb dX9_next_101 (by decide) (fun c_151 => ?_) (fun c_151 => absurd c_151 (by decide))
                        refine lv_aload_n hx hb dX9_next_122 rfl (lv_at hl 2 rfl) ?_
                        refine lv_dup hx hb dX9_next_123 rfl ?_
                        refine xg hF kf_X9_251 hK hP 0 rfl rfl dX9_next_124 ?_
                        refine lv_iconst (v := 1) hx hb dX9_next_127 (by decide) ?_
                        refine lv_iadd hx hb dX9_next_128 ?_
                        refine xl_i (y := nI (t8 + 1)) (nI_add t8 1) ?_
                        refine xp hF kf_X9_251 tyX9_ok nmX9 hK hP hD hS 0 rfl rfl rfl rfl (Nat.le_of_ble_eq_true rfl) dX9_next_129 (fun H locs hP hD hS => ?_)
                        have hP : va_P D vwCl [(h0, .inr (9, [.ref ys, .ref yk, .ref yo, .ref yt, .int mk0, .ref yfa, .ref yfe, .int mL, .int mS, .int mM, .ref yro, .ref yhe, .ref ygr, .int mF, .int mC, .int mY, .ref yta, .int (nI (mz)), .int (nI (f8)), .int (nI (t8 + 1)), .int mv, .int mw, .ref ywa, .ref ybi, .ref ysi, .ref ynu, .ref ymo])), (yta, .inl (cI, 120, .inl tp))] H := hP
                        have hD : va_D A [(h0, .inr (9, [.ref ys, .ref yk, .ref yo, .ref yt, .int mk0, .ref yfa, .ref yfe, .int mL, .int mS, .int mM, .ref yro, .ref yhe, .ref ygr, .int mF, .int mC, .int mY, .ref yta, .int (nI (mz)), .int (nI (f8)), .int (nI (t8 + 1)), .int mv, .int mw, .ref ywa, .ref ybi, .ref ysi, .ref ynu, .ref ymo])), (yta, .inl (cI, 120, .inl tp))] := hD
                        refine lv_goto (tgt := 86) hx hb dX9_next_132 (by decide) ?_
                        exact ih_86 (t8 + 1) _ _ _ (by omega) (by omega) (by omega) (by omega) (hP.sub [0, 1] rfl) (hD.sub [0, 1] (by decide) rfl) hS (lv_sub hl [0, 1, 2] rfl)
                      · skip
                        refine lv_if_ne (tgt := 122) hx hb dX9_next_101 (by decide) (fun c_152 => absurd (by decide) c_152) (fun c_152 => ?_)
                        refine lv_iload_n hx hb dX9_next_104 rfl (lv_at hl 0 rfl) ?_
                        refine lv_if_eq (tgt := 135) hx hb dX9_next_105 (by decide) (fun c_153 => ?_) (fun c_153 => absurd (by decide) c_153)
                        exact W.vret hx hb hr (fun t ht hW => ⟨⟨(f8, t8), rfl, ⟨(by first | assumption | omega), (by first | assumption | omega), (by first | assumption | omega), (by first | assumption | omega), (by first | assumption | omega)⟩, by rw [ht]; exact hP.sub [0, 1] rfl, hD.sub [0, 1] (by decide) rfl⟩, hS.F ht⟩) hS.2.2 dX9_next_135 hlk
                    · skip
                      refine xc_Sr hF (c_X9_isLetterF l D cI cJ cZ cS ta sa sv H.size (-1) ) ks_X9_260 ⟨rfl, rfl, Nat.le_of_ble_eq_true rfl, Nat.le_of_ble_eq_true rfl⟩ ⟨Nat.le_of_ble_eq_true rfl, Nat.le_of_ble_eq_true rfl⟩ hK hN hZ hP hD hS hA [] rfl rfl rfl hl.1 rfl (Nat.le_of_ble_eq_true rfl) dX9_next_98 (fun r_154 hw_r_154 => ?_)
                      rcases hw_r_154 with ⟨rfl, h_155⟩ | rfl
                      · exact absurd (by decide) h_155
                      · skip
                        refine lv_if_ne (tgt := 122) hx hb dX9_next_101 (by decide) (fun c_156 => absurd (by decide) c_156) (fun c_156 => ?_)
                        refine lv_iload_n hx hb dX9_next_104 rfl (lv_at hl 0 rfl) ?_
                        refine lv_if_eq (tgt := 135) hx hb dX9_next_105 (by decide) (fun c_157 => ?_) (fun c_157 => absurd (by decide) c_157)
                        exact W.vret hx hb hr (fun t ht hW => ⟨⟨(f8, t8), rfl, ⟨(by first | assumption | omega), (by first | assumption | omega), (by first | assumption | omega), (by first | assumption | omega), (by first | assumption | omega)⟩, by rw [ht]; exact hP.sub [0, 1] rfl, hD.sub [0, 1] (by decide) rfl⟩, hS.F ht⟩) hS.2.2 dX9_next_135 hlk
          · skip
            refine lv_istore_n (lv' := [(1, .int 0), (0, .ref h0)]) hx hb dX9_next_45 rfl hl (by decide) rfl (fun ls hl => ?_)
            refine lv_aload_n hx hb dX9_next_46 rfl (lv_at hl 1 rfl) ?_
            refine lv_aload_n hx hb dX9_next_47 rfl (lv_at hl 1 rfl) ?_
            refine xg hF kf_X9_254 hK hP 0 rfl rfl dX9_next_48 ?_
            refine xc_Vr hF (c_X9_byteAt l D cI cJ cZ cS ta sa sv H.size h0 ys yk yo yt mk0 yfa yfe mL mS mM yro yhe ygr mF mC mY yta mz f8 mt mv mw ywa ybi ysi ynu ymo tp f8 (by omega) (by omega)) kv_X9_257 ⟨rfl, rfl, Nat.le_of_ble_eq_true rfl, Nat.le_of_ble_eq_true rfl⟩ ⟨Nat.le_of_ble_eq_true rfl, Nat.le_of_ble_eq_true rfl⟩ hK hN hZ hP hD hS hA [0, 1] rfl rfl 0 rfl rfl rfl rfl hl.1 rfl (Nat.le_of_ble_eq_true rfl) dX9_next_51 (fun r_158 hw_r_158 => ?_)
            rcases hw_r_158 with ⟨rfl, h_159⟩ | ⟨rfl, h_160⟩
            · skip
              refine xc_Sr hF (c_X9_isDigit l D cI cJ cZ cS ta sa sv H.size (tp f8) ) ks_X9_263 ⟨rfl, rfl, Nat.le_of_ble_eq_true rfl, Nat.le_of_ble_eq_true rfl⟩ ⟨Nat.le_of_ble_eq_true rfl, Nat.le_of_ble_eq_true rfl⟩ hK hN hZ hP hD hS hA [] rfl rfl rfl hl.1 rfl (Nat.le_of_ble_eq_true rfl) dX9_next_54 (fun r_161 hw_r_161 => ?_)
              rcases hw_r_161 with ⟨rfl, h_162, h_163⟩ | ⟨rfl, h_164⟩
              · skip
                refine lv_istore_n (lv' := [(2, .int 1), (1, .int 0), (0, .ref h0)]) hx hb dX9_next_57 rfl hl (by decide) rfl (fun ls hl => ?_)
                refine lv_aload_n hx hb dX9_next_58 rfl (lv_at hl 2 rfl) ?_
                refine lv_aload_n hx hb dX9_next_59 rfl (lv_at hl 2 rfl) ?_
                refine xg hF kf_X9_254 hK hP 0 rfl rfl dX9_next_60 ?_
                refine lv_aload_n hx hb dX9_next_63 rfl (lv_at hl 2 rfl) ?_
                refine xg hF kf_X9_240 hK hP 0 rfl rfl dX9_next_64 ?_
                refine lv_icmp_ge (tgt := 79) hx hb dX9_next_67 (by decide) (fun c_165 => ?_) (fun c_165 => ?_)
                · skip
                  have nc_165 : mz ≤ f8 := xn_le (a := mz) (b := f8) (by omega) (by omega) c_165
                  refine lv_aload_n hx hb dX9_next_79 rfl (lv_at hl 2 rfl) ?_
                  refine xg hF kf_X9_254 hK hP 0 rfl rfl dX9_next_80 ?_
                  refine xp hF kf_X9_251 tyX9_ok nmX9 hK hP hD hS 0 rfl rfl rfl rfl (Nat.le_of_ble_eq_true rfl) dX9_next_83 (fun H locs hP hD hS => ?_)
                  have hP : va_P D vwCl [(h0, .inr (9, [.ref ys, .ref yk, .ref yo, .ref yt, .int mk0, .ref yfa, .ref yfe, .int mL, .int mS, .int mM, .ref yro, .ref yhe, .ref ygr, .int mF, .int mC, .int mY, .ref yta, .int (nI (mz)), .int (nI (f8)), .int (nI (f8)), .int mv, .int mw, .ref ywa, .ref ybi, .ref ysi, .ref ynu, .ref ymo])), (yta, .inl (cI, 120, .inl tp))] H := hP
                  have hD : va_D A [(h0, .inr (9, [.ref ys, .ref yk, .ref yo, .ref yt, .int mk0, .ref yfa, .ref yfe, .int mL, .int mS, .int mM, .ref yro, .ref yhe, .ref ygr, .int mF, .int mC, .int mY, .ref yta, .int (nI (mz)), .int (nI (f8)), .int (nI (f8)), .int mv, .int mw, .ref ywa, .ref ybi, .ref ysi, .ref ynu, .ref ymo])), (yta, .inl (cI, 120, .inl tp))] := hD
                  suffices loop_86 : ∀ (n_86 : Nat) (t8 : Nat) (H : Heap) (locs : List Loc) (ls : Array Slot), mz - t8 < n_86 → (t8 ≤ mz) → (f8 ≤ t8) → (f8 < t8 ∨ f8 = mz) → va_P D vwCl [(h0, .inr (9, [.ref ys, .ref yk, .ref yo, .ref yt, .int mk0, .ref yfa, .ref yfe, .int mL, .int mS, .int mM, .ref yro, .ref yhe, .ref ygr, .int mF, .int mC, .int mY, .ref yta, .int (nI (mz)), .int (nI (f8)), .int (nI (t8)), .int mv, .int mw, .ref ywa, .ref ybi, .ref ysi, .ref ynu, .ref ymo])), (yta, .inl (cI, 120, .inl tp))] H → va_D A [(h0, .inr (9, [.ref ys, .ref yk, .ref yo, .ref yt, .int mk0, .ref yfa, .ref yfe, .int mL, .int mS, .int mM, .ref yro, .ref yhe, .ref ygr, .int mF, .int mC, .int mY, .ref yta, .int (nI (mz)), .int (nI (f8)), .int (nI (t8)), .int mv, .int mw, .ref ywa, .ref ybi, .ref ysi, .ref ynu, .ref ymo])), (yta, .inl (cI, 120, .inl tp))] → va_S A s.heap H locs → lv_has ls 3 [(2, .int 1), (1, .int 0), (0, .ref h0)] → W p l e ({ frames := 2, cells := 0, slots := 0, locals := 45 }) s m ([.ref h0] : List Value).toArray below meth c H locs 0 0 (MQ below (XQv (fun (u : Nat × Nat) => match u with | (f2, t2) => (f2 ≤ mz) ∧ (t2 ≤ mz) ∧ (f2 ≤ t2) ∧ (f2 < t2 ∨ f2 = mz) ∧ (mt ≤ f2)) D (fun (u : Nat × Nat) => match u with | (f2, t2) => [(h0, .inr (9, [.ref ys, .ref yk, .ref yo, .ref yt, .int mk0, .ref yfa, .ref yfe, .int mL, .int mS, .int mM, .ref yro, .ref yhe, .ref ygr, .int mF, .int mC, .int mY, .ref yta, .int (nI (mz)), .int (nI (f2)), .int (nI (t2)), .int mv, .int mw, .ref ywa, .ref ybi, .ref ysi, .ref ynu, .ref ymo])), (yta, .inl (cI, 120, .inl tp))]) A) ([.ref h0] : List Value).toArray s 0 0 A) (F0 m 86 ls []) by
                    exact loop_86 _ f8 _ _ _ (Nat.lt_succ_self _) (by omega) (by omega) (by omega) hP hD hS (lv_sub hl [0, 1, 2] rfl)
                  intro n_86
                  induction n_86 with
                  | zero =>
                    intro t8 H locs ls hm_86
                    exact absurd hm_86 (Nat.not_lt_zero _)
                  | succ n_86 ih_86 =>
                    intro t8 H locs ls hm_86 ht8 hu8 hv8 hP hD hS hl
                    refine lv_iload_n hx hb dX9_next_86 rfl (lv_at hl 1 rfl) ?_
                    refine lv_if_eq (tgt := 104) hx hb dX9_next_87 (by decide) (fun c_166 => ?_) (fun c_166 => absurd (by decide) c_166)
                    refine lv_iload_n hx hb dX9_next_104 rfl (lv_at hl 0 rfl) ?_
                    refine lv_if_eq (tgt := 135) hx hb dX9_next_105 (by decide) (fun c_167 => absurd c_167 (by decide)) (fun c_167 => ?_)
                    refine lv_aload_n hx hb dX9_next_108 rfl (lv_at hl 2 rfl) ?_
                    refine lv_aload_n hx hb dX9_next_109 rfl (lv_at hl 2 rfl) ?_
                    refine xg hF kf_X9_251 hK hP 0 rfl rfl dX9_next_110 ?_
                    refine xc_Vr hF (c_X9_byteAt l D cI cJ cZ cS ta sa sv H.size h0 ys yk yo yt mk0 yfa yfe mL mS mM yro yhe ygr mF mC mY yta mz f8 t8 mv mw ywa ybi ysi ynu ymo tp t8 (by omega) (by omega)) kv_X9_257 ⟨rfl, rfl, Nat.le_of_ble_eq_true rfl, Nat.le_of_ble_eq_true rfl⟩ ⟨Nat.le_of_ble_eq_true rfl, Nat.le_of_ble_eq_true rfl⟩ hK hN hZ hP hD hS hA [0, 1] rfl rfl 0 rfl rfl rfl rfl hl.1 rfl (Nat.le_of_ble_eq_true rfl) dX9_next_113 (fun r_168 hw_r_168 => ?_)
                    rcases hw_r_168 with ⟨rfl, h_169⟩ | ⟨rfl, h_170⟩
                    · skip
                      refine xc_Sr hF (c_X9_isDigit l D cI cJ cZ cS ta sa sv H.size (tp t8) ) ks_X9_263 ⟨rfl, rfl, Nat.le_of_ble_eq_true rfl, Nat.le_of_ble_eq_true rfl⟩ ⟨Nat.le_of_ble_eq_true rfl, Nat.le_of_ble_eq_true rfl⟩ hK hN hZ hP hD hS hA [] rfl rfl rfl hl.1 rfl (Nat.le_of_ble_eq_true rfl) dX9_next_116 (fun r_171 hw_r_171 => ?_)
                      rcases hw_r_171 with ⟨rfl, h_172, h_173⟩ | ⟨rfl, h_174⟩
                      · skip
                        refine lv_if_eq (tgt := 135) hx hb dX9_next_119 (by decide) (fun c_175 => absurd c_175 (by decide)) (fun c_175 => ?_)
                        refine lv_aload_n hx hb dX9_next_122 rfl (lv_at hl 2 rfl) ?_
                        refine lv_dup hx hb dX9_next_123 rfl ?_
                        refine xg hF kf_X9_251 hK hP 0 rfl rfl dX9_next_124 ?_
                        refine lv_iconst (v := 1) hx hb dX9_next_127 (by decide) ?_
                        refine lv_iadd hx hb dX9_next_128 ?_
                        refine xl_i (y := nI (t8 + 1)) (nI_add t8 1) ?_
                        refine xp hF kf_X9_251 tyX9_ok nmX9 hK hP hD hS 0 rfl rfl rfl rfl (Nat.le_of_ble_eq_true rfl) dX9_next_129 (fun H locs hP hD hS => ?_)
                        have hP : va_P D vwCl [(h0, .inr (9, [.ref ys, .ref yk, .ref yo, .ref yt, .int mk0, .ref yfa, .ref yfe, .int mL, .int mS, .int mM, .ref yro, .ref yhe, .ref ygr, .int mF, .int mC, .int mY, .ref yta, .int (nI (mz)), .int (nI (f8)), .int (nI (t8 + 1)), .int mv, .int mw, .ref ywa, .ref ybi, .ref ysi, .ref ynu, .ref ymo])), (yta, .inl (cI, 120, .inl tp))] H := hP
                        have hD : va_D A [(h0, .inr (9, [.ref ys, .ref yk, .ref yo, .ref yt, .int mk0, .ref yfa, .ref yfe, .int mL, .int mS, .int mM, .ref yro, .ref yhe, .ref ygr, .int mF, .int mC, .int mY, .ref yta, .int (nI (mz)), .int (nI (f8)), .int (nI (t8 + 1)), .int mv, .int mw, .ref ywa, .ref ybi, .ref ysi, .ref ynu, .ref ymo])), (yta, .inl (cI, 120, .inl tp))] := hD
                        refine lv_goto (tgt := 86) hx hb dX9_next_132 (by decide) ?_
                        exact ih_86 (t8 + 1) _ _ _ (by omega) (by omega) (by omega) (by omega) (hP.sub [0, 1] rfl) (hD.sub [0, 1] (by decide) rfl) hS (lv_sub hl [0, 1, 2] rfl)
                      · skip
                        refine lv_if_eq (tgt := 135) hx hb dX9_next_119 (by decide) (fun c_176 => ?_) (fun c_176 => absurd (by decide) c_176)
                        exact W.vret hx hb hr (fun t ht hW => ⟨⟨(f8, t8), rfl, ⟨(by first | assumption | omega), (by first | assumption | omega), (by first | assumption | omega), (by first | assumption | omega), (by first | assumption | omega)⟩, by rw [ht]; exact hP.sub [0, 1] rfl, hD.sub [0, 1] (by decide) rfl⟩, hS.F ht⟩) hS.2.2 dX9_next_135 hlk
                    · skip
                      refine xc_Sr hF (c_X9_isDigit l D cI cJ cZ cS ta sa sv H.size (-1) ) ks_X9_263 ⟨rfl, rfl, Nat.le_of_ble_eq_true rfl, Nat.le_of_ble_eq_true rfl⟩ ⟨Nat.le_of_ble_eq_true rfl, Nat.le_of_ble_eq_true rfl⟩ hK hN hZ hP hD hS hA [] rfl rfl rfl hl.1 rfl (Nat.le_of_ble_eq_true rfl) dX9_next_116 (fun r_177 hw_r_177 => ?_)
                      rcases hw_r_177 with ⟨rfl, h_178, h_179⟩ | ⟨rfl, h_180⟩
                      · exact absurd (by decide) h_178
                      · skip
                        refine lv_if_eq (tgt := 135) hx hb dX9_next_119 (by decide) (fun c_181 => ?_) (fun c_181 => absurd (by decide) c_181)
                        exact W.vret hx hb hr (fun t ht hW => ⟨⟨(f8, t8), rfl, ⟨(by first | assumption | omega), (by first | assumption | omega), (by first | assumption | omega), (by first | assumption | omega), (by first | assumption | omega)⟩, by rw [ht]; exact hP.sub [0, 1] rfl, hD.sub [0, 1] (by decide) rfl⟩, hS.F ht⟩) hS.2.2 dX9_next_135 hlk
                · skip
                  have nc_165 : f8 < mz := xn_nle (a := mz) (b := f8) (by omega) (by omega) c_165
                  refine lv_aload_n hx hb dX9_next_70 rfl (lv_at hl 2 rfl) ?_
                  refine xg hF kf_X9_254 hK hP 0 rfl rfl dX9_next_71 ?_
                  refine lv_iconst (v := 1) hx hb dX9_next_74 (by decide) ?_
                  refine lv_iadd hx hb dX9_next_75 ?_
                  refine xl_i (y := nI (f8 + 1)) (nI_add f8 1) ?_
                  refine lv_goto (tgt := 83) hx hb dX9_next_76 (by decide) ?_
                  refine xp hF kf_X9_251 tyX9_ok nmX9 hK hP hD hS 0 rfl rfl rfl rfl (Nat.le_of_ble_eq_true rfl) dX9_next_83 (fun H locs hP hD hS => ?_)
                  have hP : va_P D vwCl [(h0, .inr (9, [.ref ys, .ref yk, .ref yo, .ref yt, .int mk0, .ref yfa, .ref yfe, .int mL, .int mS, .int mM, .ref yro, .ref yhe, .ref ygr, .int mF, .int mC, .int mY, .ref yta, .int (nI (mz)), .int (nI (f8)), .int (nI (f8 + 1)), .int mv, .int mw, .ref ywa, .ref ybi, .ref ysi, .ref ynu, .ref ymo])), (yta, .inl (cI, 120, .inl tp))] H := hP
                  have hD : va_D A [(h0, .inr (9, [.ref ys, .ref yk, .ref yo, .ref yt, .int mk0, .ref yfa, .ref yfe, .int mL, .int mS, .int mM, .ref yro, .ref yhe, .ref ygr, .int mF, .int mC, .int mY, .ref yta, .int (nI (mz)), .int (nI (f8)), .int (nI (f8 + 1)), .int mv, .int mw, .ref ywa, .ref ybi, .ref ysi, .ref ynu, .ref ymo])), (yta, .inl (cI, 120, .inl tp))] := hD
                  suffices loop_86 : ∀ (n_86 : Nat) (t8 : Nat) (H : Heap) (locs : List Loc) (ls : Array Slot), mz - t8 < n_86 → (t8 ≤ mz) → (f8 ≤ t8) → (f8 < t8 ∨ f8 = mz) → va_P D vwCl [(h0, .inr (9, [.ref ys, .ref yk, .ref yo, .ref yt, .int mk0, .ref yfa, .ref yfe, .int mL, .int mS, .int mM, .ref yro, .ref yhe, .ref ygr, .int mF, .int mC, .int mY, .ref yta, .int (nI (mz)), .int (nI (f8)), .int (nI (t8)), .int mv, .int mw, .ref ywa, .ref ybi, .ref ysi, .ref ynu, .ref ymo])), (yta, .inl (cI, 120, .inl tp))] H → va_D A [(h0, .inr (9, [.ref ys, .ref yk, .ref yo, .ref yt, .int mk0, .ref yfa, .ref yfe, .int mL, .int mS, .int mM, .ref yro, .ref yhe, .ref ygr, .int mF, .int mC, .int mY, .ref yta, .int (nI (mz)), .int (nI (f8)), .int (nI (t8)), .int mv, .int mw, .ref ywa, .ref ybi, .ref ysi, .ref ynu, .ref ymo])), (yta, .inl (cI, 120, .inl tp))] → va_S A s.heap H locs → lv_has ls 3 [(2, .int 1), (1, .int 0), (0, .ref h0)] → W p l e ({ frames := 2, cells := 0, slots := 0, locals := 45 }) s m ([.ref h0] : List Value).toArray below meth c H locs 0 0 (MQ below (XQv (fun (u : Nat × Nat) => match u with | (f2, t2) => (f2 ≤ mz) ∧ (t2 ≤ mz) ∧ (f2 ≤ t2) ∧ (f2 < t2 ∨ f2 = mz) ∧ (mt ≤ f2)) D (fun (u : Nat × Nat) => match u with | (f2, t2) => [(h0, .inr (9, [.ref ys, .ref yk, .ref yo, .ref yt, .int mk0, .ref yfa, .ref yfe, .int mL, .int mS, .int mM, .ref yro, .ref yhe, .ref ygr, .int mF, .int mC, .int mY, .ref yta, .int (nI (mz)), .int (nI (f2)), .int (nI (t2)), .int mv, .int mw, .ref ywa, .ref ybi, .ref ysi, .ref ynu, .ref ymo])), (yta, .inl (cI, 120, .inl tp))]) A) ([.ref h0] : List Value).toArray s 0 0 A) (F0 m 86 ls []) by
                    exact loop_86 _ (f8 + 1) _ _ _ (Nat.lt_succ_self _) (by omega) (by omega) (by omega) hP hD hS (lv_sub hl [0, 1, 2] rfl)
                  intro n_86
                  induction n_86 with
                  | zero =>
                    intro t8 H locs ls hm_86
                    exact absurd hm_86 (Nat.not_lt_zero _)
                  | succ n_86 ih_86 =>
                    intro t8 H locs ls hm_86 ht8 hu8 hv8 hP hD hS hl
                    refine lv_iload_n hx hb dX9_next_86 rfl (lv_at hl 1 rfl) ?_
                    refine lv_if_eq (tgt := 104) hx hb dX9_next_87 (by decide) (fun c_182 => ?_) (fun c_182 => absurd (by decide) c_182)
                    refine lv_iload_n hx hb dX9_next_104 rfl (lv_at hl 0 rfl) ?_
                    refine lv_if_eq (tgt := 135) hx hb dX9_next_105 (by decide) (fun c_183 => absurd c_183 (by decide)) (fun c_183 => ?_)
                    refine lv_aload_n hx hb dX9_next_108 rfl (lv_at hl 2 rfl) ?_
                    refine lv_aload_n hx hb dX9_next_109 rfl (lv_at hl 2 rfl) ?_
                    refine xg hF kf_X9_251 hK hP 0 rfl rfl dX9_next_110 ?_
                    refine xc_Vr hF (c_X9_byteAt l D cI cJ cZ cS ta sa sv H.size h0 ys yk yo yt mk0 yfa yfe mL mS mM yro yhe ygr mF mC mY yta mz f8 t8 mv mw ywa ybi ysi ynu ymo tp t8 (by omega) (by omega)) kv_X9_257 ⟨rfl, rfl, Nat.le_of_ble_eq_true rfl, Nat.le_of_ble_eq_true rfl⟩ ⟨Nat.le_of_ble_eq_true rfl, Nat.le_of_ble_eq_true rfl⟩ hK hN hZ hP hD hS hA [0, 1] rfl rfl 0 rfl rfl rfl rfl hl.1 rfl (Nat.le_of_ble_eq_true rfl) dX9_next_113 (fun r_184 hw_r_184 => ?_)
                    rcases hw_r_184 with ⟨rfl, h_185⟩ | ⟨rfl, h_186⟩
                    · skip
                      refine xc_Sr hF (c_X9_isDigit l D cI cJ cZ cS ta sa sv H.size (tp t8) ) ks_X9_263 ⟨rfl, rfl, Nat.le_of_ble_eq_true rfl, Nat.le_of_ble_eq_true rfl⟩ ⟨Nat.le_of_ble_eq_true rfl, Nat.le_of_ble_eq_true rfl⟩ hK hN hZ hP hD hS hA [] rfl rfl rfl hl.1 rfl (Nat.le_of_ble_eq_true rfl) dX9_next_116 (fun r_187 hw_r_187 => ?_)
                      rcases hw_r_187 with ⟨rfl, h_188, h_189⟩ | ⟨rfl, h_190⟩
                      · skip
                        refine lv_if_eq (tgt := 135) hx hb dX9_next_119 (by decide) (fun c_191 => absurd c_191 (by decide)) (fun c_191 => ?_)
                        refine lv_aload_n hx hb dX9_next_122 rfl (lv_at hl 2 rfl) ?_
                        refine lv_dup hx hb dX9_next_123 rfl ?_
                        refine xg hF kf_X9_251 hK hP 0 rfl rfl dX9_next_124 ?_
                        refine lv_iconst (v := 1) hx hb dX9_next_127 (by decide) ?_
                        refine lv_iadd hx hb dX9_next_128 ?_
                        refine xl_i (y := nI (t8 + 1)) (nI_add t8 1) ?_
                        refine xp hF kf_X9_251 tyX9_ok nmX9 hK hP hD hS 0 rfl rfl rfl rfl (Nat.le_of_ble_eq_true rfl) dX9_next_129 (fun H locs hP hD hS => ?_)
                        have hP : va_P D vwCl [(h0, .inr (9, [.ref ys, .ref yk, .ref yo, .ref yt, .int mk0, .ref yfa, .ref yfe, .int mL, .int mS, .int mM, .ref yro, .ref yhe, .ref ygr, .int mF, .int mC, .int mY, .ref yta, .int (nI (mz)), .int (nI (f8)), .int (nI (t8 + 1)), .int mv, .int mw, .ref ywa, .ref ybi, .ref ysi, .ref ynu, .ref ymo])), (yta, .inl (cI, 120, .inl tp))] H := hP
                        have hD : va_D A [(h0, .inr (9, [.ref ys, .ref yk, .ref yo, .ref yt, .int mk0, .ref yfa, .ref yfe, .int mL, .int mS, .int mM, .ref yro, .ref yhe, .ref ygr, .int mF, .int mC, .int mY, .ref yta, .int (nI (mz)), .int (nI (f8)), .int (nI (t8 + 1)), .int mv, .int mw, .ref ywa, .ref ybi, .ref ysi, .ref ynu, .ref ymo])), (yta, .inl (cI, 120, .inl tp))] := hD
                        refine lv_goto (tgt := 86) hx hb dX9_next_132 (by decide) ?_
                        exact ih_86 (t8 + 1) _ _ _ (by omega) (by omega) (by omega) (by omega) (hP.sub [0, 1] rfl) (hD.sub [0, 1] (by decide) rfl) hS (lv_sub hl [0, 1, 2] rfl)
                      · skip
                        refine lv_if_eq (tgt := 135) hx hb dX9_next_119 (by decide) (fun c_192 => ?_) (fun c_192 => absurd (by decide) c_192)
                        exact W.vret hx hb hr (fun t ht hW => ⟨⟨(f8, t8), rfl, ⟨(by first | assumption | omega), (by first | assumption | omega), (by first | assumption | omega), (by first | assumption | omega), (by first | assumption | omega)⟩, by rw [ht]; exact hP.sub [0, 1] rfl, hD.sub [0, 1] (by decide) rfl⟩, hS.F ht⟩) hS.2.2 dX9_next_135 hlk
                    · skip
                      refine xc_Sr hF (c_X9_isDigit l D cI cJ cZ cS ta sa sv H.size (-1) ) ks_X9_263 ⟨rfl, rfl, Nat.le_of_ble_eq_true rfl, Nat.le_of_ble_eq_true rfl⟩ ⟨Nat.le_of_ble_eq_true rfl, Nat.le_of_ble_eq_true rfl⟩ hK hN hZ hP hD hS hA [] rfl rfl rfl hl.1 rfl (Nat.le_of_ble_eq_true rfl) dX9_next_116 (fun r_193 hw_r_193 => ?_)
                      rcases hw_r_193 with ⟨rfl, h_194, h_195⟩ | ⟨rfl, h_196⟩
                      · exact absurd (by decide) h_194
                      · skip
                        refine lv_if_eq (tgt := 135) hx hb dX9_next_119 (by decide) (fun c_197 => ?_) (fun c_197 => absurd (by decide) c_197)
                        exact W.vret hx hb hr (fun t ht hW => ⟨⟨(f8, t8), rfl, ⟨(by first | assumption | omega), (by first | assumption | omega), (by first | assumption | omega), (by first | assumption | omega), (by first | assumption | omega)⟩, by rw [ht]; exact hP.sub [0, 1] rfl, hD.sub [0, 1] (by decide) rfl⟩, hS.F ht⟩) hS.2.2 dX9_next_135 hlk
              · skip
                refine lv_istore_n (lv' := [(2, .int 0), (1, .int 0), (0, .ref h0)]) hx hb dX9_next_57 rfl hl (by decide) rfl (fun ls hl => ?_)
                refine lv_aload_n hx hb dX9_next_58 rfl (lv_at hl 2 rfl) ?_
                refine lv_aload_n hx hb dX9_next_59 rfl (lv_at hl 2 rfl) ?_
                refine xg hF kf_X9_254 hK hP 0 rfl rfl dX9_next_60 ?_
                refine lv_aload_n hx hb dX9_next_63 rfl (lv_at hl 2 rfl) ?_
                refine xg hF kf_X9_240 hK hP 0 rfl rfl dX9_next_64 ?_
                refine lv_icmp_ge (tgt := 79) hx hb dX9_next_67 (by decide) (fun c_198 => ?_) (fun c_198 => ?_)
                · skip
                  have nc_198 : mz ≤ f8 := xn_le (a := mz) (b := f8) (by omega) (by omega) c_198
                  refine lv_aload_n hx hb dX9_next_79 rfl (lv_at hl 2 rfl) ?_
                  refine xg hF kf_X9_254 hK hP 0 rfl rfl dX9_next_80 ?_
                  refine xp hF kf_X9_251 tyX9_ok nmX9 hK hP hD hS 0 rfl rfl rfl rfl (Nat.le_of_ble_eq_true rfl) dX9_next_83 (fun H locs hP hD hS => ?_)
                  have hP : va_P D vwCl [(h0, .inr (9, [.ref ys, .ref yk, .ref yo, .ref yt, .int mk0, .ref yfa, .ref yfe, .int mL, .int mS, .int mM, .ref yro, .ref yhe, .ref ygr, .int mF, .int mC, .int mY, .ref yta, .int (nI (mz)), .int (nI (f8)), .int (nI (f8)), .int mv, .int mw, .ref ywa, .ref ybi, .ref ysi, .ref ynu, .ref ymo])), (yta, .inl (cI, 120, .inl tp))] H := hP
                  have hD : va_D A [(h0, .inr (9, [.ref ys, .ref yk, .ref yo, .ref yt, .int mk0, .ref yfa, .ref yfe, .int mL, .int mS, .int mM, .ref yro, .ref yhe, .ref ygr, .int mF, .int mC, .int mY, .ref yta, .int (nI (mz)), .int (nI (f8)), .int (nI (f8)), .int mv, .int mw, .ref ywa, .ref ybi, .ref ysi, .ref ynu, .ref ymo])), (yta, .inl (cI, 120, .inl tp))] := hD
                  suffices loop_86 : ∀ (n_86 : Nat) (t8 : Nat) (H : Heap) (locs : List Loc) (ls : Array Slot), mz - t8 < n_86 → (t8 ≤ mz) → (f8 ≤ t8) → (f8 < t8 ∨ f8 = mz) → va_P D vwCl [(h0, .inr (9, [.ref ys, .ref yk, .ref yo, .ref yt, .int mk0, .ref yfa, .ref yfe, .int mL, .int mS, .int mM, .ref yro, .ref yhe, .ref ygr, .int mF, .int mC, .int mY, .ref yta, .int (nI (mz)), .int (nI (f8)), .int (nI (t8)), .int mv, .int mw, .ref ywa, .ref ybi, .ref ysi, .ref ynu, .ref ymo])), (yta, .inl (cI, 120, .inl tp))] H → va_D A [(h0, .inr (9, [.ref ys, .ref yk, .ref yo, .ref yt, .int mk0, .ref yfa, .ref yfe, .int mL, .int mS, .int mM, .ref yro, .ref yhe, .ref ygr, .int mF, .int mC, .int mY, .ref yta, .int (nI (mz)), .int (nI (f8)), .int (nI (t8)), .int mv, .int mw, .ref ywa, .ref ybi, .ref ysi, .ref ynu, .ref ymo])), (yta, .inl (cI, 120, .inl tp))] → va_S A s.heap H locs → lv_has ls 3 [(2, .int 0), (1, .int 0), (0, .ref h0)] → W p l e ({ frames := 2, cells := 0, slots := 0, locals := 45 }) s m ([.ref h0] : List Value).toArray below meth c H locs 0 0 (MQ below (XQv (fun (u : Nat × Nat) => match u with | (f2, t2) => (f2 ≤ mz) ∧ (t2 ≤ mz) ∧ (f2 ≤ t2) ∧ (f2 < t2 ∨ f2 = mz) ∧ (mt ≤ f2)) D (fun (u : Nat × Nat) => match u with | (f2, t2) => [(h0, .inr (9, [.ref ys, .ref yk, .ref yo, .ref yt, .int mk0, .ref yfa, .ref yfe, .int mL, .int mS, .int mM, .ref yro, .ref yhe, .ref ygr, .int mF, .int mC, .int mY, .ref yta, .int (nI (mz)), .int (nI (f2)), .int (nI (t2)), .int mv, .int mw, .ref ywa, .ref ybi, .ref ysi, .ref ynu, .ref ymo])), (yta, .inl (cI, 120, .inl tp))]) A) ([.ref h0] : List Value).toArray s 0 0 A) (F0 m 86 ls []) by
                    exact loop_86 _ f8 _ _ _ (Nat.lt_succ_self _) (by omega) (by omega) (by omega) hP hD hS (lv_sub hl [0, 1, 2] rfl)
                  intro n_86
                  induction n_86 with
                  | zero =>
                    intro t8 H locs ls hm_86
                    exact absurd hm_86 (Nat.not_lt_zero _)
                  | succ n_86 ih_86 =>
                    intro t8 H locs ls hm_86 ht8 hu8 hv8 hP hD hS hl
                    refine lv_iload_n hx hb dX9_next_86 rfl (lv_at hl 1 rfl) ?_
                    refine lv_if_eq (tgt := 104) hx hb dX9_next_87 (by decide) (fun c_199 => ?_) (fun c_199 => absurd (by decide) c_199)
                    refine lv_iload_n hx hb dX9_next_104 rfl (lv_at hl 0 rfl) ?_
                    refine lv_if_eq (tgt := 135) hx hb dX9_next_105 (by decide) (fun c_200 => ?_) (fun c_200 => absurd (by decide) c_200)
                    exact W.vret hx hb hr (fun t ht hW => ⟨⟨(f8, t8), rfl, ⟨(by first | assumption | omega), (by first | assumption | omega), (by first | assumption | omega), (by first | assumption | omega), (by first | assumption | omega)⟩, by rw [ht]; exact hP.sub [0, 1] rfl, hD.sub [0, 1] (by decide) rfl⟩, hS.F ht⟩) hS.2.2 dX9_next_135 hlk
                · skip
                  have nc_198 : f8 < mz := xn_nle (a := mz) (b := f8) (by omega) (by omega) c_198
                  refine lv_aload_n hx hb dX9_next_70 rfl (lv_at hl 2 rfl) ?_
                  refine xg hF kf_X9_254 hK hP 0 rfl rfl dX9_next_71 ?_
                  refine lv_iconst (v := 1) hx hb dX9_next_74 (by decide) ?_
                  refine lv_iadd hx hb dX9_next_75 ?_
                  refine xl_i (y := nI (f8 + 1)) (nI_add f8 1) ?_
                  refine lv_goto (tgt := 83) hx hb dX9_next_76 (by decide) ?_
                  refine xp hF kf_X9_251 tyX9_ok nmX9 hK hP hD hS 0 rfl rfl rfl rfl (Nat.le_of_ble_eq_true rfl) dX9_next_83 (fun H locs hP hD hS => ?_)
                  have hP : va_P D vwCl [(h0, .inr (9, [.ref ys, .ref yk, .ref yo, .ref yt, .int mk0, .ref yfa, .ref yfe, .int mL, .int mS, .int mM, .ref yro, .ref yhe, .ref ygr, .int mF, .int mC, .int mY, .ref yta, .int (nI (mz)), .int (nI (f8)), .int (nI (f8 + 1)), .int mv, .int mw, .ref ywa, .ref ybi, .ref ysi, .ref ynu, .ref ymo])), (yta, .inl (cI, 120, .inl tp))] H := hP
                  have hD : va_D A [(h0, .inr (9, [.ref ys, .ref yk, .ref yo, .ref yt, .int mk0, .ref yfa, .ref yfe, .int mL, .int mS, .int mM, .ref yro, .ref yhe, .ref ygr, .int mF, .int mC, .int mY, .ref yta, .int (nI (mz)), .int (nI (f8)), .int (nI (f8 + 1)), .int mv, .int mw, .ref ywa, .ref ybi, .ref ysi, .ref ynu, .ref ymo])), (yta, .inl (cI, 120, .inl tp))] := hD
                  suffices loop_86 : ∀ (n_86 : Nat) (t8 : Nat) (H : Heap) (locs : List Loc) (ls : Array Slot), mz - t8 < n_86 → (t8 ≤ mz) → (f8 ≤ t8) → (f8 < t8 ∨ f8 = mz) → va_P D vwCl [(h0, .inr (9, [.ref ys, .ref yk, .ref yo, .ref yt, .int mk0, .ref yfa, .ref yfe, .int mL, .int mS, .int mM, .ref yro, .ref yhe, .ref ygr, .int mF, .int mC, .int mY, .ref yta, .int (nI (mz)), .int (nI (f8)), .int (nI (t8)), .int mv, .int mw, .ref ywa, .ref ybi, .ref ysi, .ref ynu, .ref ymo])), (yta, .inl (cI, 120, .inl tp))] H → va_D A [(h0, .inr (9, [.ref ys, .ref yk, .ref yo, .ref yt, .int mk0, .ref yfa, .ref yfe, .int mL, .int mS, .int mM, .ref yro, .ref yhe, .ref ygr, .int mF, .int mC, .int mY, .ref yta, .int (nI (mz)), .int (nI (f8)), .int (nI (t8)), .int mv, .int mw, .ref ywa, .ref ybi, .ref ysi, .ref ynu, .ref ymo])), (yta, .inl (cI, 120, .inl tp))] → va_S A s.heap H locs → lv_has ls 3 [(2, .int 0), (1, .int 0), (0, .ref h0)] → W p l e ({ frames := 2, cells := 0, slots := 0, locals := 45 }) s m ([.ref h0] : List Value).toArray below meth c H locs 0 0 (MQ below (XQv (fun (u : Nat × Nat) => match u with | (f2, t2) => (f2 ≤ mz) ∧ (t2 ≤ mz) ∧ (f2 ≤ t2) ∧ (f2 < t2 ∨ f2 = mz) ∧ (mt ≤ f2)) D (fun (u : Nat × Nat) => match u with | (f2, t2) => [(h0, .inr (9, [.ref ys, .ref yk, .ref yo, .ref yt, .int mk0, .ref yfa, .ref yfe, .int mL, .int mS, .int mM, .ref yro, .ref yhe, .ref ygr, .int mF, .int mC, .int mY, .ref yta, .int (nI (mz)), .int (nI (f2)), .int (nI (t2)), .int mv, .int mw, .ref ywa, .ref ybi, .ref ysi, .ref ynu, .ref ymo])), (yta, .inl (cI, 120, .inl tp))]) A) ([.ref h0] : List Value).toArray s 0 0 A) (F0 m 86 ls []) by
                    exact loop_86 _ (f8 + 1) _ _ _ (Nat.lt_succ_self _) (by omega) (by omega) (by omega) hP hD hS (lv_sub hl [0, 1, 2] rfl)
                  intro n_86
                  induction n_86 with
                  | zero =>
                    intro t8 H locs ls hm_86
                    exact absurd hm_86 (Nat.not_lt_zero _)
                  | succ n_86 ih_86 =>
                    intro t8 H locs ls hm_86 ht8 hu8 hv8 hP hD hS hl
                    refine lv_iload_n hx hb dX9_next_86 rfl (lv_at hl 1 rfl) ?_
                    refine lv_if_eq (tgt := 104) hx hb dX9_next_87 (by decide) (fun c_201 => ?_) (fun c_201 => absurd (by decide) c_201)
                    refine lv_iload_n hx hb dX9_next_104 rfl (lv_at hl 0 rfl) ?_
                    refine lv_if_eq (tgt := 135) hx hb dX9_next_105 (by decide) (fun c_202 => ?_) (fun c_202 => absurd (by decide) c_202)
                    exact W.vret hx hb hr (fun t ht hW => ⟨⟨(f8, t8), rfl, ⟨(by first | assumption | omega), (by first | assumption | omega), (by first | assumption | omega), (by first | assumption | omega), (by first | assumption | omega)⟩, by rw [ht]; exact hP.sub [0, 1] rfl, hD.sub [0, 1] (by decide) rfl⟩, hS.F ht⟩) hS.2.2 dX9_next_135 hlk
            · skip
              refine xc_Sr hF (c_X9_isDigit l D cI cJ cZ cS ta sa sv H.size (-1) ) ks_X9_263 ⟨rfl, rfl, Nat.le_of_ble_eq_true rfl, Nat.le_of_ble_eq_true rfl⟩ ⟨Nat.le_of_ble_eq_true rfl, Nat.le_of_ble_eq_true rfl⟩ hK hN hZ hP hD hS hA [] rfl rfl rfl hl.1 rfl (Nat.le_of_ble_eq_true rfl) dX9_next_54 (fun r_203 hw_r_203 => ?_)
              rcases hw_r_203 with ⟨rfl, h_204, h_205⟩ | ⟨rfl, h_206⟩
              · exact absurd (by decide) h_204
              · skip
                refine lv_istore_n (lv' := [(2, .int 0), (1, .int 0), (0, .ref h0)]) hx hb dX9_next_57 rfl hl (by decide) rfl (fun ls hl => ?_)
                refine lv_aload_n hx hb dX9_next_58 rfl (lv_at hl 2 rfl) ?_
                refine lv_aload_n hx hb dX9_next_59 rfl (lv_at hl 2 rfl) ?_
                refine xg hF kf_X9_254 hK hP 0 rfl rfl dX9_next_60 ?_
                refine lv_aload_n hx hb dX9_next_63 rfl (lv_at hl 2 rfl) ?_
                refine xg hF kf_X9_240 hK hP 0 rfl rfl dX9_next_64 ?_
                refine lv_icmp_ge (tgt := 79) hx hb dX9_next_67 (by decide) (fun c_207 => ?_) (fun c_207 => ?_)
                · skip
                  have nc_207 : mz ≤ f8 := xn_le (a := mz) (b := f8) (by omega) (by omega) c_207
                  refine lv_aload_n hx hb dX9_next_79 rfl (lv_at hl 2 rfl) ?_
                  refine xg hF kf_X9_254 hK hP 0 rfl rfl dX9_next_80 ?_
                  refine xp hF kf_X9_251 tyX9_ok nmX9 hK hP hD hS 0 rfl rfl rfl rfl (Nat.le_of_ble_eq_true rfl) dX9_next_83 (fun H locs hP hD hS => ?_)
                  have hP : va_P D vwCl [(h0, .inr (9, [.ref ys, .ref yk, .ref yo, .ref yt, .int mk0, .ref yfa, .ref yfe, .int mL, .int mS, .int mM, .ref yro, .ref yhe, .ref ygr, .int mF, .int mC, .int mY, .ref yta, .int (nI (mz)), .int (nI (f8)), .int (nI (f8)), .int mv, .int mw, .ref ywa, .ref ybi, .ref ysi, .ref ynu, .ref ymo])), (yta, .inl (cI, 120, .inl tp))] H := hP
                  have hD : va_D A [(h0, .inr (9, [.ref ys, .ref yk, .ref yo, .ref yt, .int mk0, .ref yfa, .ref yfe, .int mL, .int mS, .int mM, .ref yro, .ref yhe, .ref ygr, .int mF, .int mC, .int mY, .ref yta, .int (nI (mz)), .int (nI (f8)), .int (nI (f8)), .int mv, .int mw, .ref ywa, .ref ybi, .ref ysi, .ref ynu, .ref ymo])), (yta, .inl (cI, 120, .inl tp))] := hD
                  suffices loop_86 : ∀ (n_86 : Nat) (t8 : Nat) (H : Heap) (locs : List Loc) (ls : Array Slot), mz - t8 < n_86 → (t8 ≤ mz) → (f8 ≤ t8) → (f8 < t8 ∨ f8 = mz) → va_P D vwCl [(h0, .inr (9, [.ref ys, .ref yk, .ref yo, .ref yt, .int mk0, .ref yfa, .ref yfe, .int mL, .int mS, .int mM, .ref yro, .ref yhe, .ref ygr, .int mF, .int mC, .int mY, .ref yta, .int (nI (mz)), .int (nI (f8)), .int (nI (t8)), .int mv, .int mw, .ref ywa, .ref ybi, .ref ysi, .ref ynu, .ref ymo])), (yta, .inl (cI, 120, .inl tp))] H → va_D A [(h0, .inr (9, [.ref ys, .ref yk, .ref yo, .ref yt, .int mk0, .ref yfa, .ref yfe, .int mL, .int mS, .int mM, .ref yro, .ref yhe, .ref ygr, .int mF, .int mC, .int mY, .ref yta, .int (nI (mz)), .int (nI (f8)), .int (nI (t8)), .int mv, .int mw, .ref ywa, .ref ybi, .ref ysi, .ref ynu, .ref ymo])), (yta, .inl (cI, 120, .inl tp))] → va_S A s.heap H locs → lv_has ls 3 [(2, .int 0), (1, .int 0), (0, .ref h0)] → W p l e ({ frames := 2, cells := 0, slots := 0, locals := 45 }) s m ([.ref h0] : List Value).toArray below meth c H locs 0 0 (MQ below (XQv (fun (u : Nat × Nat) => match u with | (f2, t2) => (f2 ≤ mz) ∧ (t2 ≤ mz) ∧ (f2 ≤ t2) ∧ (f2 < t2 ∨ f2 = mz) ∧ (mt ≤ f2)) D (fun (u : Nat × Nat) => match u with | (f2, t2) => [(h0, .inr (9, [.ref ys, .ref yk, .ref yo, .ref yt, .int mk0, .ref yfa, .ref yfe, .int mL, .int mS, .int mM, .ref yro, .ref yhe, .ref ygr, .int mF, .int mC, .int mY, .ref yta, .int (nI (mz)), .int (nI (f2)), .int (nI (t2)), .int mv, .int mw, .ref ywa, .ref ybi, .ref ysi, .ref ynu, .ref ymo])), (yta, .inl (cI, 120, .inl tp))]) A) ([.ref h0] : List Value).toArray s 0 0 A) (F0 m 86 ls []) by
                    exact loop_86 _ f8 _ _ _ (Nat.lt_succ_self _) (by omega) (by omega) (by omega) hP hD hS (lv_sub hl [0, 1, 2] rfl)
                  intro n_86
                  induction n_86 with
                  | zero =>
                    intro t8 H locs ls hm_86
                    exact absurd hm_86 (Nat.not_lt_zero _)
                  | succ n_86 ih_86 =>
                    intro t8 H locs ls hm_86 ht8 hu8 hv8 hP hD hS hl
                    refine lv_iload_n hx hb dX9_next_86 rfl (lv_at hl 1 rfl) ?_
                    refine lv_if_eq (tgt := 104) hx hb dX9_next_87 (by decide) (fun c_208 => ?_) (fun c_208 => absurd (by decide) c_208)
                    refine lv_iload_n hx hb dX9_next_104 rfl (lv_at hl 0 rfl) ?_
                    refine lv_if_eq (tgt := 135) hx hb dX9_next_105 (by decide) (fun c_209 => ?_) (fun c_209 => absurd (by decide) c_209)
                    exact W.vret hx hb hr (fun t ht hW => ⟨⟨(f8, t8), rfl, ⟨(by first | assumption | omega), (by first | assumption | omega), (by first | assumption | omega), (by first | assumption | omega), (by first | assumption | omega)⟩, by rw [ht]; exact hP.sub [0, 1] rfl, hD.sub [0, 1] (by decide) rfl⟩, hS.F ht⟩) hS.2.2 dX9_next_135 hlk
                · skip
                  have nc_207 : f8 < mz := xn_nle (a := mz) (b := f8) (by omega) (by omega) c_207
                  refine lv_aload_n hx hb dX9_next_70 rfl (lv_at hl 2 rfl) ?_
                  refine xg hF kf_X9_254 hK hP 0 rfl rfl dX9_next_71 ?_
                  refine lv_iconst (v := 1) hx hb dX9_next_74 (by decide) ?_
                  refine lv_iadd hx hb dX9_next_75 ?_
                  refine xl_i (y := nI (f8 + 1)) (nI_add f8 1) ?_
                  refine lv_goto (tgt := 83) hx hb dX9_next_76 (by decide) ?_
                  refine xp hF kf_X9_251 tyX9_ok nmX9 hK hP hD hS 0 rfl rfl rfl rfl (Nat.le_of_ble_eq_true rfl) dX9_next_83 (fun H locs hP hD hS => ?_)
                  have hP : va_P D vwCl [(h0, .inr (9, [.ref ys, .ref yk, .ref yo, .ref yt, .int mk0, .ref yfa, .ref yfe, .int mL, .int mS, .int mM, .ref yro, .ref yhe, .ref ygr, .int mF, .int mC, .int mY, .ref yta, .int (nI (mz)), .int (nI (f8)), .int (nI (f8 + 1)), .int mv, .int mw, .ref ywa, .ref ybi, .ref ysi, .ref ynu, .ref ymo])), (yta, .inl (cI, 120, .inl tp))] H := hP
                  have hD : va_D A [(h0, .inr (9, [.ref ys, .ref yk, .ref yo, .ref yt, .int mk0, .ref yfa, .ref yfe, .int mL, .int mS, .int mM, .ref yro, .ref yhe, .ref ygr, .int mF, .int mC, .int mY, .ref yta, .int (nI (mz)), .int (nI (f8)), .int (nI (f8 + 1)), .int mv, .int mw, .ref ywa, .ref ybi, .ref ysi, .ref ynu, .ref ymo])), (yta, .inl (cI, 120, .inl tp))] := hD
                  suffices loop_86 : ∀ (n_86 : Nat) (t8 : Nat) (H : Heap) (locs : List Loc) (ls : Array Slot), mz - t8 < n_86 → (t8 ≤ mz) → (f8 ≤ t8) → (f8 < t8 ∨ f8 = mz) → va_P D vwCl [(h0, .inr (9, [.ref ys, .ref yk, .ref yo, .ref yt, .int mk0, .ref yfa, .ref yfe, .int mL, .int mS, .int mM, .ref yro, .ref yhe, .ref ygr, .int mF, .int mC, .int mY, .ref yta, .int (nI (mz)), .int (nI (f8)), .int (nI (t8)), .int mv, .int mw, .ref ywa, .ref ybi, .ref ysi, .ref ynu, .ref ymo])), (yta, .inl (cI, 120, .inl tp))] H → va_D A [(h0, .inr (9, [.ref ys, .ref yk, .ref yo, .ref yt, .int mk0, .ref yfa, .ref yfe, .int mL, .int mS, .int mM, .ref yro, .ref yhe, .ref ygr, .int mF, .int mC, .int mY, .ref yta, .int (nI (mz)), .int (nI (f8)), .int (nI (t8)), .int mv, .int mw, .ref ywa, .ref ybi, .ref ysi, .ref ynu, .ref ymo])), (yta, .inl (cI, 120, .inl tp))] → va_S A s.heap H locs → lv_has ls 3 [(2, .int 0), (1, .int 0), (0, .ref h0)] → W p l e ({ frames := 2, cells := 0, slots := 0, locals := 45 }) s m ([.ref h0] : List Value).toArray below meth c H locs 0 0 (MQ below (XQv (fun (u : Nat × Nat) => match u with | (f2, t2) => (f2 ≤ mz) ∧ (t2 ≤ mz) ∧ (f2 ≤ t2) ∧ (f2 < t2 ∨ f2 = mz) ∧ (mt ≤ f2)) D (fun (u : Nat × Nat) => match u with | (f2, t2) => [(h0, .inr (9, [.ref ys, .ref yk, .ref yo, .ref yt, .int mk0, .ref yfa, .ref yfe, .int mL, .int mS, .int mM, .ref yro, .ref yhe, .ref ygr, .int mF, .int mC, .int mY, .ref yta, .int (nI (mz)), .int (nI (f2)), .int (nI (t2)), .int mv, .int mw, .ref ywa, .ref ybi, .ref ysi, .ref ynu, .ref ymo])), (yta, .inl (cI, 120, .inl tp))]) A) ([.ref h0] : List Value).toArray s 0 0 A) (F0 m 86 ls []) by
                    exact loop_86 _ (f8 + 1) _ _ _ (Nat.lt_succ_self _) (by omega) (by omega) (by omega) hP hD hS (lv_sub hl [0, 1, 2] rfl)
                  intro n_86
                  induction n_86 with
                  | zero =>
                    intro t8 H locs ls hm_86
                    exact absurd hm_86 (Nat.not_lt_zero _)
                  | succ n_86 ih_86 =>
                    intro t8 H locs ls hm_86 ht8 hu8 hv8 hP hD hS hl
                    refine lv_iload_n hx hb dX9_next_86 rfl (lv_at hl 1 rfl) ?_
                    refine lv_if_eq (tgt := 104) hx hb dX9_next_87 (by decide) (fun c_210 => ?_) (fun c_210 => absurd (by decide) c_210)
                    refine lv_iload_n hx hb dX9_next_104 rfl (lv_at hl 0 rfl) ?_
                    refine lv_if_eq (tgt := 135) hx hb dX9_next_105 (by decide) (fun c_211 => ?_) (fun c_211 => absurd (by decide) c_211)
                    exact W.vret hx hb hr (fun t ht hW => ⟨⟨(f8, t8), rfl, ⟨(by first | assumption | omega), (by first | assumption | omega), (by first | assumption | omega), (by first | assumption | omega), (by first | assumption | omega)⟩, by rw [ht]; exact hP.sub [0, 1] rfl, hD.sub [0, 1] (by decide) rfl⟩, hS.F ht⟩) hS.2.2 dX9_next_135 hlk
        · skip
          refine xc_Sr hF (c_X9_isLetterF l D cI cJ cZ cS ta sa sv H.size (-1) ) ks_X9_260 ⟨rfl, rfl, Nat.le_of_ble_eq_true rfl, Nat.le_of_ble_eq_true rfl⟩ ⟨Nat.le_of_ble_eq_true rfl, Nat.le_of_ble_eq_true rfl⟩ hK hN hZ hP hD hS hA [] rfl rfl rfl hl.1 rfl (Nat.le_of_ble_eq_true rfl) dX9_next_42 (fun r_212 hw_r_212 => ?_)
          rcases hw_r_212 with ⟨rfl, h_213⟩ | rfl
          · exact absurd (by decide) h_213
          · skip
            refine lv_istore_n (lv' := [(1, .int 0), (0, .ref h0)]) hx hb dX9_next_45 rfl hl (by decide) rfl (fun ls hl => ?_)
            refine lv_aload_n hx hb dX9_next_46 rfl (lv_at hl 1 rfl) ?_
            refine lv_aload_n hx hb dX9_next_47 rfl (lv_at hl 1 rfl) ?_
            refine xg hF kf_X9_254 hK hP 0 rfl rfl dX9_next_48 ?_
            refine xc_Vr hF (c_X9_byteAt l D cI cJ cZ cS ta sa sv H.size h0 ys yk yo yt mk0 yfa yfe mL mS mM yro yhe ygr mF mC mY yta mz f8 mt mv mw ywa ybi ysi ynu ymo tp f8 (by omega) (by omega)) kv_X9_257 ⟨rfl, rfl, Nat.le_of_ble_eq_true rfl, Nat.le_of_ble_eq_true rfl⟩ ⟨Nat.le_of_ble_eq_true rfl, Nat.le_of_ble_eq_true rfl⟩ hK hN hZ hP hD hS hA [0, 1] rfl rfl 0 rfl rfl rfl rfl hl.1 rfl (Nat.le_of_ble_eq_true rfl) dX9_next_51 (fun r_214 hw_r_214 => ?_)
            rcases hw_r_214 with ⟨rfl, h_215⟩ | ⟨rfl, h_216⟩
            · skip
              refine xc_Sr hF (c_X9_isDigit l D cI cJ cZ cS ta sa sv H.size (tp f8) ) ks_X9_263 ⟨rfl, rfl, Nat.le_of_ble_eq_true rfl, Nat.le_of_ble_eq_true rfl⟩ ⟨Nat.le_of_ble_eq_true rfl, Nat.le_of_ble_eq_true rfl⟩ hK hN hZ hP hD hS hA [] rfl rfl rfl hl.1 rfl (Nat.le_of_ble_eq_true rfl) dX9_next_54 (fun r_217 hw_r_217 => ?_)
              rcases hw_r_217 with ⟨rfl, h_218, h_219⟩ | ⟨rfl, h_220⟩
              · skip
                refine lv_istore_n (lv' := [(2, .int 1), (1, .int 0), (0, .ref h0)]) hx hb dX9_next_57 rfl hl (by decide) rfl (fun ls hl => ?_)
                refine lv_aload_n hx hb dX9_next_58 rfl (lv_at hl 2 rfl) ?_
                refine lv_aload_n hx hb dX9_next_59 rfl (lv_at hl 2 rfl) ?_
                refine xg hF kf_X9_254 hK hP 0 rfl rfl dX9_next_60 ?_
                refine lv_aload_n hx hb dX9_next_63 rfl (lv_at hl 2 rfl) ?_
                refine xg hF kf_X9_240 hK hP 0 rfl rfl dX9_next_64 ?_
                refine lv_icmp_ge (tgt := 79) hx hb dX9_next_67 (by decide) (fun c_221 => ?_) (fun c_221 => ?_)
                · skip
                  have nc_221 : mz ≤ f8 := xn_le (a := mz) (b := f8) (by omega) (by omega) c_221
                  refine lv_aload_n hx hb dX9_next_79 rfl (lv_at hl 2 rfl) ?_
                  refine xg hF kf_X9_254 hK hP 0 rfl rfl dX9_next_80 ?_
                  refine xp hF kf_X9_251 tyX9_ok nmX9 hK hP hD hS 0 rfl rfl rfl rfl (Nat.le_of_ble_eq_true rfl) dX9_next_83 (fun H locs hP hD hS => ?_)
                  have hP : va_P D vwCl [(h0, .inr (9, [.ref ys, .ref yk, .ref yo, .ref yt, .int mk0, .ref yfa, .ref yfe, .int mL, .int mS, .int mM, .ref yro, .ref yhe, .ref ygr, .int mF, .int mC, .int mY, .ref yta, .int (nI (mz)), .int (nI (f8)), .int (nI (f8)), .int mv, .int mw, .ref ywa, .ref ybi, .ref ysi, .ref ynu, .ref ymo])), (yta, .inl (cI, 120, .inl tp))] H := hP
                  have hD : va_D A [(h0, .inr (9, [.ref ys, .ref yk, .ref yo, .ref yt, .int mk0, .ref yfa, .ref yfe, .int mL, .int mS, .int mM, .ref yro, .ref yhe, .ref ygr, .int mF, .int mC, .int mY, .ref yta, .int (nI (mz)), .int (nI (f8)), .int (nI (f8)), .int mv, .int mw, .ref ywa, .ref ybi, .ref ysi, .ref ynu, .ref ymo])), (yta, .inl (cI, 120, .inl tp))] := hD
                  suffices loop_86 : ∀ (n_86 : Nat) (t8 : Nat) (H : Heap) (locs : List Loc) (ls : Array Slot), mz - t8 < n_86 → (t8 ≤ mz) → (f8 ≤ t8) → (f8 < t8 ∨ f8 = mz) → va_P D vwCl [(h0, .inr (9, [.ref ys, .ref yk, .ref yo, .ref yt, .int mk0, .ref yfa, .ref yfe, .int mL, .int mS, .int mM, .ref yro, .ref yhe, .ref ygr, .int mF, .int mC, .int mY, .ref yta, .int (nI (mz)), .int (nI (f8)), .int (nI (t8)), .int mv, .int mw, .ref ywa, .ref ybi, .ref ysi, .ref ynu, .ref ymo])), (yta, .inl (cI, 120, .inl tp))] H → va_D A [(h0, .inr (9, [.ref ys, .ref yk, .ref yo, .ref yt, .int mk0, .ref yfa, .ref yfe, .int mL, .int mS, .int mM, .ref yro, .ref yhe, .ref ygr, .int mF, .int mC, .int mY, .ref yta, .int (nI (mz)), .int (nI (f8)), .int (nI (t8)), .int mv, .int mw, .ref ywa, .ref ybi, .ref ysi, .ref ynu, .ref ymo])), (yta, .inl (cI, 120, .inl tp))] → va_S A s.heap H locs → lv_has ls 3 [(2, .int 1), (1, .int 0), (0, .ref h0)] → W p l e ({ frames := 2, cells := 0, slots := 0, locals := 45 }) s m ([.ref h0] : List Value).toArray below meth c H locs 0 0 (MQ below (XQv (fun (u : Nat × Nat) => match u with | (f2, t2) => (f2 ≤ mz) ∧ (t2 ≤ mz) ∧ (f2 ≤ t2) ∧ (f2 < t2 ∨ f2 = mz) ∧ (mt ≤ f2)) D (fun (u : Nat × Nat) => match u with | (f2, t2) => [(h0, .inr (9, [.ref ys, .ref yk, .ref yo, .ref yt, .int mk0, .ref yfa, .ref yfe, .int mL, .int mS, .int mM, .ref yro, .ref yhe, .ref ygr, .int mF, .int mC, .int mY, .ref yta, .int (nI (mz)), .int (nI (f2)), .int (nI (t2)), .int mv, .int mw, .ref ywa, .ref ybi, .ref ysi, .ref ynu, .ref ymo])), (yta, .inl (cI, 120, .inl tp))]) A) ([.ref h0] : List Value).toArray s 0 0 A) (F0 m 86 ls []) by
                    exact loop_86 _ f8 _ _ _ (Nat.lt_succ_self _) (by omega) (by omega) (by omega) hP hD hS (lv_sub hl [0, 1, 2] rfl)
                  intro n_86
                  induction n_86 with
                  | zero =>
                    intro t8 H locs ls hm_86
                    exact absurd hm_86 (Nat.not_lt_zero _)
                  | succ n_86 ih_86 =>
                    intro t8 H locs ls hm_86 ht8 hu8 hv8 hP hD hS hl
                    refine lv_iload_n hx hb dX9_next_86 rfl (lv_at hl 1 rfl) ?_
                    refine lv_if_eq (tgt := 104) hx hb dX9_next_87 (by decide) (fun c_222 => ?_) (fun c_222 => absurd (by decide) c_222)
                    refine lv_iload_n hx hb dX9_next_104 rfl (lv_at hl 0 rfl) ?_
                    refine lv_if_eq (tgt := 135) hx hb dX9_next_105 (by decide) (fun c_223 => absurd c_223 (by decide)) (fun c_223 => ?_)
                    refine lv_aload_n hx hb dX9_next_108 rfl (lv_at hl 2 rfl) ?_
                    refine lv_aload_n hx hb dX9_next_109 rfl (lv_at hl 2 rfl) ?_
                    refine xg hF kf_X9_251 hK hP 0 rfl rfl dX9_next_110 ?_
                    refine xc_Vr hF (c_X9_byteAt l D cI cJ cZ cS ta sa sv H.size h0 ys yk yo yt mk0 yfa yfe mL mS mM yro yhe ygr mF mC mY yta mz f8 t8 mv mw ywa ybi ysi ynu ymo tp t8 (by omega) (by omega)) kv_X9_257 ⟨rfl, rfl, Nat.le_of_ble_eq_true rfl, Nat.le_of_ble_eq_true rfl⟩ ⟨Nat.le_of_ble_eq_true rfl, Nat.le_of_ble_eq_true rfl⟩ hK hN hZ hP hD hS hA [0, 1] rfl rfl 0 rfl rfl rfl rfl hl.1 rfl (Nat.le_of_ble_eq_true rfl) dX9_next_113 (fun r_224 hw_r_224 => ?_)
                    rcases hw_r_224 with ⟨rfl, h_225⟩ | ⟨rfl, h_226⟩
                    · skip
                      refine xc_Sr hF (c_X9_isDigit l D cI cJ cZ cS ta sa sv H.size (tp t8) ) ks_X9_263 ⟨rfl, rfl, Nat.le_of_ble_eq_true rfl, Nat.le_of_ble_eq_true rfl⟩ ⟨Nat.le_of_ble_eq_true rfl, Nat.le_of_ble_eq_true rfl⟩ hK hN hZ hP hD hS hA [] rfl rfl rfl hl.1 rfl (Nat.le_of_ble_eq_true rfl) dX9_next_116 (fun r_227 hw_r_227 => ?_)
                      rcases hw_r_227 with ⟨rfl, h_228, h_229⟩ | ⟨rfl, h_230⟩
                      · skip
                        refine lv_if_eq (tgt := 135) hx hb dX9_next_119 (by decide) (fun c_231 => absurd c_231 (by decide)) (fun c_231 => ?_)
                        refine lv_aload_n hx hb dX9_next_122 rfl (lv_at hl 2 rfl) ?_
                        refine lv_dup hx hb dX9_next_123 rfl ?_
                        refine xg hF kf_X9_251 hK hP 0 rfl rfl dX9_next_124 ?_
                        refine lv_iconst (v := 1) hx hb dX9_next_127 (by decide) ?_
                        refine lv_iadd hx hb dX9_next_128 ?_
                        refine xl_i (y := nI (t8 + 1)) (nI_add t8 1) ?_
                        refine xp hF kf_X9_251 tyX9_ok nmX9 hK hP hD hS 0 rfl rfl rfl rfl (Nat.le_of_ble_eq_true rfl) dX9_next_129 (fun H locs hP hD hS => ?_)
                        have hP : va_P D vwCl [(h0, .inr (9, [.ref ys, .ref yk, .ref yo, .ref yt, .int mk0, .ref yfa, .ref yfe, .int mL, .int mS, .int mM, .ref yro, .ref yhe, .ref ygr, .int mF, .int mC, .int mY, .ref yta, .int (nI (mz)), .int (nI (f8)), .int (nI (t8 + 1)), .int mv, .int mw, .ref ywa, .ref ybi, .ref ysi, .ref ynu, .ref ymo])), (yta, .inl (cI, 120, .inl tp))] H := hP
                        have hD : va_D A [(h0, .inr (9, [.ref ys, .ref yk, .ref yo, .ref yt, .int mk0, .ref yfa, .ref yfe, .int mL, .int mS, .int mM, .ref yro, .ref yhe, .ref ygr, .int mF, .int mC, .int mY, .ref yta, .int (nI (mz)), .int (nI (f8)), .int (nI (t8 + 1)), .int mv, .int mw, .ref ywa, .ref ybi, .ref ysi, .ref ynu, .ref ymo])), (yta, .inl (cI, 120, .inl tp))] := hD
                        refine lv_goto (tgt := 86) hx hb dX9_next_132 (by decide) ?_
                        exact ih_86 (t8 + 1) _ _ _ (by omega) (by omega) (by omega) (by omega) (hP.sub [0, 1] rfl) (hD.sub [0, 1] (by decide) rfl) hS (lv_sub hl [0, 1, 2] rfl)
                      · skip
                        refine lv_if_eq (tgt := 135) hx hb dX9_next_119 (by decide) (fun c_232 => ?_) (fun c_232 => absurd (by decide) c_232)
                        exact W.vret hx hb hr (fun t ht hW => ⟨⟨(f8, t8), rfl, ⟨(by first | assumption | omega), (by first | assumption | omega), (by first | assumption | omega), (by first | assumption | omega), (by first | assumption | omega)⟩, by rw [ht]; exact hP.sub [0, 1] rfl, hD.sub [0, 1] (by decide) rfl⟩, hS.F ht⟩) hS.2.2 dX9_next_135 hlk
                    · skip
                      refine xc_Sr hF (c_X9_isDigit l D cI cJ cZ cS ta sa sv H.size (-1) ) ks_X9_263 ⟨rfl, rfl, Nat.le_of_ble_eq_true rfl, Nat.le_of_ble_eq_true rfl⟩ ⟨Nat.le_of_ble_eq_true rfl, Nat.le_of_ble_eq_true rfl⟩ hK hN hZ hP hD hS hA [] rfl rfl rfl hl.1 rfl (Nat.le_of_ble_eq_true rfl) dX9_next_116 (fun r_233 hw_r_233 => ?_)
                      rcases hw_r_233 with ⟨rfl, h_234, h_235⟩ | ⟨rfl, h_236⟩
                      · exact absurd (by decide) h_234
                      · skip
                        refine lv_if_eq (tgt := 135) hx hb dX9_next_119 (by decide) (fun c_237 => ?_) (fun c_237 => absurd (by decide) c_237)
                        exact W.vret hx hb hr (fun t ht hW => ⟨⟨(f8, t8), rfl, ⟨(by first | assumption | omega), (by first | assumption | omega), (by first | assumption | omega), (by first | assumption | omega), (by first | assumption | omega)⟩, by rw [ht]; exact hP.sub [0, 1] rfl, hD.sub [0, 1] (by decide) rfl⟩, hS.F ht⟩) hS.2.2 dX9_next_135 hlk
                · skip
                  have nc_221 : f8 < mz := xn_nle (a := mz) (b := f8) (by omega) (by omega) c_221
                  refine lv_aload_n hx hb dX9_next_70 rfl (lv_at hl 2 rfl) ?_
                  refine xg hF kf_X9_254 hK hP 0 rfl rfl dX9_next_71 ?_
                  refine lv_iconst (v := 1) hx hb dX9_next_74 (by decide) ?_
                  refine lv_iadd hx hb dX9_next_75 ?_
                  refine xl_i (y := nI (f8 + 1)) (nI_add f8 1) ?_
                  refine lv_goto (tgt := 83) hx hb dX9_next_76 (by decide) ?_
                  refine xp hF kf_X9_251 tyX9_ok nmX9 hK hP hD hS 0 rfl rfl rfl rfl (Nat.le_of_ble_eq_true rfl) dX9_next_83 (fun H locs hP hD hS => ?_)
                  have hP : va_P D vwCl [(h0, .inr (9, [.ref ys, .ref yk, .ref yo, .ref yt, .int mk0, .ref yfa, .ref yfe, .int mL, .int mS, .int mM, .ref yro, .ref yhe, .ref ygr, .int mF, .int mC, .int mY, .ref yta, .int (nI (mz)), .int (nI (f8)), .int (nI (f8 + 1)), .int mv, .int mw, .ref ywa, .ref ybi, .ref ysi, .ref ynu, .ref ymo])), (yta, .inl (cI, 120, .inl tp))] H := hP
                  have hD : va_D A [(h0, .inr (9, [.ref ys, .ref yk, .ref yo, .ref yt, .int mk0, .ref yfa, .ref yfe, .int mL, .int mS, .int mM, .ref yro, .ref yhe, .ref ygr, .int mF, .int mC, .int mY, .ref yta, .int (nI (mz)), .int (nI (f8)), .int (nI (f8 + 1)), .int mv, .int mw, .ref ywa, .ref ybi, .ref ysi, .ref ynu, .ref ymo])), (yta, .inl (cI, 120, .inl tp))] := hD
                  suffices loop_86 : ∀ (n_86 : Nat) (t8 : Nat) (H : Heap) (locs : List Loc) (ls : Array Slot), mz - t8 < n_86 → (t8 ≤ mz) → (f8 ≤ t8) → (f8 < t8 ∨ f8 = mz) → va_P D vwCl [(h0, .inr (9, [.ref ys, .ref yk, .ref yo, .ref yt, .int mk0, .ref yfa, .ref yfe, .int mL, .int mS, .int mM, .ref yro, .ref yhe, .ref ygr, .int mF, .int mC, .int mY, .ref yta, .int (nI (mz)), .int (nI (f8)), .int (nI (t8)), .int mv, .int mw, .ref ywa, .ref ybi, .ref ysi, .ref ynu, .ref ymo])), (yta, .inl (cI, 120, .inl tp))] H → va_D A [(h0, .inr (9, [.ref ys, .ref yk, .ref yo, .ref yt, .int mk0, .ref yfa, .ref yfe, .int mL, .int mS, .int mM, .ref yro, .ref yhe, .ref ygr, .int mF, .int mC, .int mY, .ref yta, .int (nI (mz)), .int (nI (f8)), .int (nI (t8)), .int mv, .int mw, .ref ywa, .ref ybi, .ref ysi, .ref ynu, .ref ymo])), (yta, .inl (cI, 120, .inl tp))] → va_S A s.heap H locs → lv_has ls 3 [(2, .int 1), (1, .int 0), (0, .ref h0)] → W p l e ({ frames := 2, cells := 0, slots := 0, locals := 45 }) s m ([.ref h0] : List Value).toArray below meth c H locs 0 0 (MQ below (XQv (fun (u : Nat × Nat) => match u with | (f2, t2) => (f2 ≤ mz) ∧ (t2 ≤ mz) ∧ (f2 ≤ t2) ∧ (f2 < t2 ∨ f2 = mz) ∧ (mt ≤ f2)) D (fun (u : Nat × Nat) => match u with | (f2, t2) => [(h0, .inr (9, [.ref ys, .ref yk, .ref yo, .ref yt, .int mk0, .ref yfa, .ref yfe, .int mL, .int mS, .int mM, .ref yro, .ref yhe, .ref ygr, .int mF, .int mC, .int mY, .ref yta, .int (nI (mz)), .int (nI (f2)), .int (nI (t2)), .int mv, .int mw, .ref ywa, .ref ybi, .ref ysi, .ref ynu, .ref ymo])), (yta, .inl (cI, 120, .inl tp))]) A) ([.ref h0] : List Value).toArray s 0 0 A) (F0 m 86 ls []) by
                    exact loop_86 _ (f8 + 1) _ _ _ (Nat.lt_succ_self _) (by omega) (by omega) (by omega) hP hD hS (lv_sub hl [0, 1, 2] rfl)
                  intro n_86
                  induction n_86 with
                  | zero =>
                    intro t8 H locs ls hm_86
                    exact absurd hm_86 (Nat.not_lt_zero _)
                  | succ n_86 ih_86 =>
                    intro t8 H locs ls hm_86 ht8 hu8 hv8 hP hD hS hl
                    refine lv_iload_n hx hb dX9_next_86 rfl (lv_at hl 1 rfl) ?_
                    refine lv_if_eq (tgt := 104) hx hb dX9_next_87 (by decide) (fun c_238 => ?_) (fun c_238 => absurd (by decide) c_238)
                    refine lv_iload_n hx hb dX9_next_104 rfl (lv_at hl 0 rfl) ?_
                    refine lv_if_eq (tgt := 135) hx hb dX9_next_105 (by decide) (fun c_239 => absurd c_239 (by decide)) (fun c_239 => ?_)
                    refine lv_aload_n hx hb dX9_next_108 rfl (lv_at hl 2 rfl) ?_
                    refine lv_aload_n hx hb dX9_next_109 rfl (lv_at hl 2 rfl) ?_
                    refine xg hF kf_X9_251 hK hP 0 rfl rfl dX9_next_110 ?_
                    refine xc_Vr hF (c_X9_byteAt l D cI cJ cZ cS ta sa sv H.size h0 ys yk yo yt mk0 yfa yfe mL mS mM yro yhe ygr mF mC mY yta mz f8 t8 mv mw ywa ybi ysi ynu ymo tp t8 (by omega) (by omega)) kv_X9_257 ⟨rfl, rfl, Nat.le_of_ble_eq_true rfl, Nat.le_of_ble_eq_true rfl⟩ ⟨Nat.le_of_ble_eq_true rfl, Nat.le_of_ble_eq_true rfl⟩ hK hN hZ hP hD hS hA [0, 1] rfl rfl 0 rfl rfl rfl rfl hl.1 rfl (Nat.le_of_ble_eq_true rfl) dX9_next_113 (fun r_240 hw_r_240 => ?_)
                    rcases hw_r_240 with ⟨rfl, h_241⟩ | ⟨rfl, h_242⟩
                    · skip
                      refine xc_Sr hF (c_X9_isDigit l D cI cJ cZ cS ta sa sv H.size (tp t8) ) ks_X9_263 ⟨rfl, rfl, Nat.le_of_ble_eq_true rfl, Nat.le_of_ble_eq_true rfl⟩ ⟨Nat.le_of_ble_eq_true rfl, Nat.le_of_ble_eq_true rfl⟩ hK hN hZ hP hD hS hA [] rfl rfl rfl hl.1 rfl (Nat.le_of_ble_eq_true rfl) dX9_next_116 (fun r_243 hw_r_243 => ?_)
                      rcases hw_r_243 with ⟨rfl, h_244, h_245⟩ | ⟨rfl, h_246⟩
                      · skip
                        refine lv_if_eq (tgt := 135) hx hb dX9_next_119 (by decide) (fun c_247 => absurd c_247 (by decide)) (fun c_247 => ?_)
                        refine lv_aload_n hx hb dX9_next_122 rfl (lv_at hl 2 rfl) ?_
                        refine lv_dup hx hb dX9_next_123 rfl ?_
                        refine xg hF kf_X9_251 hK hP 0 rfl rfl dX9_next_124 ?_
                        refine lv_iconst (v := 1) hx hb dX9_next_127 (by decide) ?_
                        refine lv_iadd hx hb dX9_next_128 ?_
                        refine xl_i (y := nI (t8 + 1)) (nI_add t8 1) ?_
                        refine xp hF kf_X9_251 tyX9_ok nmX9 hK hP hD hS 0 rfl rfl rfl rfl (Nat.le_of_ble_eq_true rfl) dX9_next_129 (fun H locs hP hD hS => ?_)
                        have hP : va_P D vwCl [(h0, .inr (9, [.ref ys, .ref yk, .ref yo, .ref yt, .int mk0, .ref yfa, .ref yfe, .int mL, .int mS, .int mM, .ref yro, .ref yhe, .ref ygr, .int mF, .int mC, .int mY, .ref yta, .int (nI (mz)), .int (nI (f8)), .int (nI (t8 + 1)), .int mv, .int mw, .ref ywa, .ref ybi, .ref ysi, .ref ynu, .ref ymo])), (yta, .inl (cI, 120, .inl tp))] H := hP
                        have hD : va_D A [(h0, .inr (9, [.ref ys, .ref yk, .ref yo, .ref yt, .int mk0, .ref yfa, .ref yfe, .int mL, .int mS, .int mM, .ref yro, .ref yhe, .ref ygr, .int mF, .int mC, .int mY, .ref yta, .int (nI (mz)), .int (nI (f8)), .int (nI (t8 + 1)), .int mv, .int mw, .ref ywa, .ref ybi, .ref ysi, .ref ynu, .ref ymo])), (yta, .inl (cI, 120, .inl tp))] := hD
                        refine lv_goto (tgt := 86) hx hb dX9_next_132 (by decide) ?_
                        exact ih_86 (t8 + 1) _ _ _ (by omega) (by omega) (by omega) (by omega) (hP.sub [0, 1] rfl) (hD.sub [0, 1] (by decide) rfl) hS (lv_sub hl [0, 1, 2] rfl)
                      · skip
                        refine lv_if_eq (tgt := 135) hx hb dX9_next_119 (by decide) (fun c_248 => ?_) (fun c_248 => absurd (by decide) c_248)
                        exact W.vret hx hb hr (fun t ht hW => ⟨⟨(f8, t8), rfl, ⟨(by first | assumption | omega), (by first | assumption | omega), (by first | assumption | omega), (by first | assumption | omega), (by first | assumption | omega)⟩, by rw [ht]; exact hP.sub [0, 1] rfl, hD.sub [0, 1] (by decide) rfl⟩, hS.F ht⟩) hS.2.2 dX9_next_135 hlk
                    · skip
                      refine xc_Sr hF (c_X9_isDigit l D cI cJ cZ cS ta sa sv H.size (-1) ) ks_X9_263 ⟨rfl, rfl, Nat.le_of_ble_eq_true rfl, Nat.le_of_ble_eq_true rfl⟩ ⟨Nat.le_of_ble_eq_true rfl, Nat.le_of_ble_eq_true rfl⟩ hK hN hZ hP hD hS hA [] rfl rfl rfl hl.1 rfl (Nat.le_of_ble_eq_true rfl) dX9_next_116 (fun r_249 hw_r_249 => ?_)
                      rcases hw_r_249 with ⟨rfl, h_250, h_251⟩ | ⟨rfl, h_252⟩
                      · exact absurd (by decide) h_250
                      · skip
                        refine lv_if_eq (tgt := 135) hx hb dX9_next_119 (by decide) (fun c_253 => ?_) (fun c_253 => absurd (by decide) c_253)
                        exact W.vret hx hb hr (fun t ht hW => ⟨⟨(f8, t8), rfl, ⟨(by first | assumption | omega), (by first | assumption | omega), (by first | assumption | omega), (by first | assumption | omega), (by first | assumption | omega)⟩, by rw [ht]; exact hP.sub [0, 1] rfl, hD.sub [0, 1] (by decide) rfl⟩, hS.F ht⟩) hS.2.2 dX9_next_135 hlk
              · skip
                refine lv_istore_n (lv' := [(2, .int 0), (1, .int 0), (0, .ref h0)]) hx hb dX9_next_57 rfl hl (by decide) rfl (fun ls hl => ?_)
                refine lv_aload_n hx hb dX9_next_58 rfl (lv_at hl 2 rfl) ?_
                refine lv_aload_n hx hb dX9_next_59 rfl (lv_at hl 2 rfl) ?_
                refine xg hF kf_X9_254 hK hP 0 rfl rfl dX9_next_60 ?_
                refine lv_aload_n hx hb dX9_next_63 rfl (lv_at hl 2 rfl) ?_
                refine xg hF kf_X9_240 hK hP 0 rfl rfl dX9_next_64 ?_
                refine lv_icmp_ge (tgt := 79) hx hb dX9_next_67 (by decide) (fun c_254 => ?_) (fun c_254 => ?_)
                · skip
                  have nc_254 : mz ≤ f8 := xn_le (a := mz) (b := f8) (by omega) (by omega) c_254
                  refine lv_aload_n hx hb dX9_next_79 rfl (lv_at hl 2 rfl) ?_
                  refine xg hF kf_X9_254 hK hP 0 rfl rfl dX9_next_80 ?_
                  refine xp hF kf_X9_251 tyX9_ok nmX9 hK hP hD hS 0 rfl rfl rfl rfl (Nat.le_of_ble_eq_true rfl) dX9_next_83 (fun H locs hP hD hS => ?_)
                  have hP : va_P D vwCl [(h0, .inr (9, [.ref ys, .ref yk, .ref yo, .ref yt, .int mk0, .ref yfa, .ref yfe, .int mL, .int mS, .int mM, .ref yro, .ref yhe, .ref ygr, .int mF, .int mC, .int mY, .ref yta, .int (nI (mz)), .int (nI (f8)), .int (nI (f8)), .int mv, .int mw, .ref ywa, .ref ybi, .ref ysi, .ref ynu, .ref ymo])), (yta, .inl (cI, 120, .inl tp))] H := hP
                  have hD : va_D A [(h0, .inr (9, [.ref ys, .ref yk, .ref yo, .ref yt, .int mk0, .ref yfa, .ref yfe, .int mL, .int mS, .int mM, .ref yro, .ref yhe, .ref ygr, .int mF, .int mC, .int mY, .ref yta, .int (nI (mz)), .int (nI (f8)), .int (nI (f8)), .int mv, .int mw, .ref ywa, .ref ybi, .ref ysi, .ref ynu, .ref ymo])), (yta, .inl (cI, 120, .inl tp))] := hD
                  suffices loop_86 : ∀ (n_86 : Nat) (t8 : Nat) (H : Heap) (locs : List Loc) (ls : Array Slot), mz - t8 < n_86 → (t8 ≤ mz) → (f8 ≤ t8) → (f8 < t8 ∨ f8 = mz) → va_P D vwCl [(h0, .inr (9, [.ref ys, .ref yk, .ref yo, .ref yt, .int mk0, .ref yfa, .ref yfe, .int mL, .int mS, .int mM, .ref yro, .ref yhe, .ref ygr, .int mF, .int mC, .int mY, .ref yta, .int (nI (mz)), .int (nI (f8)), .int (nI (t8)), .int mv, .int mw, .ref ywa, .ref ybi, .ref ysi, .ref ynu, .ref ymo])), (yta, .inl (cI, 120, .inl tp))] H → va_D A [(h0, .inr (9, [.ref ys, .ref yk, .ref yo, .ref yt, .int mk0, .ref yfa, .ref yfe, .int mL, .int mS, .int mM, .ref yro, .ref yhe, .ref ygr, .int mF, .int mC, .int mY, .ref yta, .int (nI (mz)), .int (nI (f8)), .int (nI (t8)), .int mv, .int mw, .ref ywa, .ref ybi, .ref ysi, .ref ynu, .ref ymo])), (yta, .inl (cI, 120, .inl tp))] → va_S A s.heap H locs → lv_has ls 3 [(2, .int 0), (1, .int 0), (0, .ref h0)] → W p l e ({ frames := 2, cells := 0, slots := 0, locals := 45 }) s m ([.ref h0] : List Value).toArray below meth c H locs 0 0 (MQ below (XQv (fun (u : Nat × Nat) => match u with | (f2, t2) => (f2 ≤ mz) ∧ (t2 ≤ mz) ∧ (f2 ≤ t2) ∧ (f2 < t2 ∨ f2 = mz) ∧ (mt ≤ f2)) D (fun (u : Nat × Nat) => match u with | (f2, t2) => [(h0, .inr (9, [.ref ys, .ref yk, .ref yo, .ref yt, .int mk0, .ref yfa, .ref yfe, .int mL, .int mS, .int mM, .ref yro, .ref yhe, .ref ygr, .int mF, .int mC, .int mY, .ref yta, .int (nI (mz)), .int (nI (f2)), .int (nI (t2)), .int mv, .int mw, .ref ywa, .ref ybi, .ref ysi, .ref ynu, .ref ymo])), (yta, .inl (cI, 120, .inl tp))]) A) ([.ref h0] : List Value).toArray s 0 0 A) (F0 m 86 ls []) by
                    exact loop_86 _ f8 _ _ _ (Nat.lt_succ_self _) (by omega) (by omega) (by omega) hP hD hS (lv_sub hl [0, 1, 2] rfl)
                  intro n_86
                  induction n_86 with
                  | zero =>
                    intro t8 H locs ls hm_86
                    exact absurd hm_86 (Nat.not_lt_zero _)
                  | succ n_86 ih_86 =>
                    intro t8 H locs ls hm_86 ht8 hu8 hv8 hP hD hS hl
                    refine lv_iload_n hx hb dX9_next_86 rfl (lv_at hl 1 rfl) ?_
                    refine lv_if_eq (tgt := 104) hx hb dX9_next_87 (by decide) (fun c_255 => ?_) (fun c_255 => absurd (by decide) c_255)
                    refine lv_iload_n hx hb dX9_next_104 rfl (lv_at hl 0 rfl) ?_
                    refine lv_if_eq (tgt := 135) hx hb dX9_next_105 (by decide) (fun c_256 => ?_) (fun c_256 => absurd (by decide) c_256)
                    exact W.vret hx hb hr (fun t ht hW => ⟨⟨(f8, t8), rfl, ⟨(by first | assumption | omega), (by first | assumption | omega), (by first | assumption | omega), (by first | assumption | omega), (by first | assumption | omega)⟩, by rw [ht]; exact hP.sub [0, 1] rfl, hD.sub [0, 1] (by decide) rfl⟩, hS.F ht⟩) hS.2.2 dX9_next_135 hlk
                · skip
                  have nc_254 : f8 < mz := xn_nle (a := mz) (b := f8) (by omega) (by omega) c_254
                  refine lv_aload_n hx hb dX9_next_70 rfl (lv_at hl 2 rfl) ?_
                  refine xg hF kf_X9_254 hK hP 0 rfl rfl dX9_next_71 ?_
                  refine lv_iconst (v := 1) hx hb dX9_next_74 (by decide) ?_
                  refine lv_iadd hx hb dX9_next_75 ?_
                  refine xl_i (y := nI (f8 + 1)) (nI_add f8 1) ?_
                  refine lv_goto (tgt := 83) hx hb dX9_next_76 (by decide) ?_
                  refine xp hF kf_X9_251 tyX9_ok nmX9 hK hP hD hS 0 rfl rfl rfl rfl (Nat.le_of_ble_eq_true rfl) dX9_next_83 (fun H locs hP hD hS => ?_)
                  have hP : va_P D vwCl [(h0, .inr (9, [.ref ys, .ref yk, .ref yo, .ref yt, .int mk0, .ref yfa, .ref yfe, .int mL, .int mS, .int mM, .ref yro, .ref yhe, .ref ygr, .int mF, .int mC, .int mY, .ref yta, .int (nI (mz)), .int (nI (f8)), .int (nI (f8 + 1)), .int mv, .int mw, .ref ywa, .ref ybi, .ref ysi, .ref ynu, .ref ymo])), (yta, .inl (cI, 120, .inl tp))] H := hP
                  have hD : va_D A [(h0, .inr (9, [.ref ys, .ref yk, .ref yo, .ref yt, .int mk0, .ref yfa, .ref yfe, .int mL, .int mS, .int mM, .ref yro, .ref yhe, .ref ygr, .int mF, .int mC, .int mY, .ref yta, .int (nI (mz)), .int (nI (f8)), .int (nI (f8 + 1)), .int mv, .int mw, .ref ywa, .ref ybi, .ref ysi, .ref ynu, .ref ymo])), (yta, .inl (cI, 120, .inl tp))] := hD
                  suffices loop_86 : ∀ (n_86 : Nat) (t8 : Nat) (H : Heap) (locs : List Loc) (ls : Array Slot), mz - t8 < n_86 → (t8 ≤ mz) → (f8 ≤ t8) → (f8 < t8 ∨ f8 = mz) → va_P D vwCl [(h0, .inr (9, [.ref ys, .ref yk, .ref yo, .ref yt, .int mk0, .ref yfa, .ref yfe, .int mL, .int mS, .int mM, .ref yro, .ref yhe, .ref ygr, .int mF, .int mC, .int mY, .ref yta, .int (nI (mz)), .int (nI (f8)), .int (nI (t8)), .int mv, .int mw, .ref ywa, .ref ybi, .ref ysi, .ref ynu, .ref ymo])), (yta, .inl (cI, 120, .inl tp))] H → va_D A [(h0, .inr (9, [.ref ys, .ref yk, .ref yo, .ref yt, .int mk0, .ref yfa, .ref yfe, .int mL, .int mS, .int mM, .ref yro, .ref yhe, .ref ygr, .int mF, .int mC, .int mY, .ref yta, .int (nI (mz)), .int (nI (f8)), .int (nI (t8)), .int mv, .int mw, .ref ywa, .ref ybi, .ref ysi, .ref ynu, .ref ymo])), (yta, .inl (cI, 120, .inl tp))] → va_S A s.heap H locs → lv_has ls 3 [(2, .int 0), (1, .int 0), (0, .ref h0)] → W p l e ({ frames := 2, cells := 0, slots := 0, locals := 45 }) s m ([.ref h0] : List Value).toArray below meth c H locs 0 0 (MQ below (XQv (fun (u : Nat × Nat) => match u with | (f2, t2) => (f2 ≤ mz) ∧ (t2 ≤ mz) ∧ (f2 ≤ t2) ∧ (f2 < t2 ∨ f2 = mz) ∧ (mt ≤ f2)) D (fun (u : Nat × Nat) => match u with | (f2, t2) => [(h0, .inr (9, [.ref ys, .ref yk, .ref yo, .ref yt, .int mk0, .ref yfa, .ref yfe, .int mL, .int mS, .int mM, .ref yro, .ref yhe, .ref ygr, .int mF, .int mC, .int mY, .ref yta, .int (nI (mz)), .int (nI (f2)), .int (nI (t2)), .int mv, .int mw, .ref ywa, .ref ybi, .ref ysi, .ref ynu, .ref ymo])), (yta, .inl (cI, 120, .inl tp))]) A) ([.ref h0] : List Value).toArray s 0 0 A) (F0 m 86 ls []) by
                    exact loop_86 _ (f8 + 1) _ _ _ (Nat.lt_succ_self _) (by omega) (by omega) (by omega) hP hD hS (lv_sub hl [0, 1, 2] rfl)
                  intro n_86
                  induction n_86 with
                  | zero =>
                    intro t8 H locs ls hm_86
                    exact absurd hm_86 (Nat.not_lt_zero _)
                  | succ n_86 ih_86 =>
                    intro t8 H locs ls hm_86 ht8 hu8 hv8 hP hD hS hl
                    refine lv_iload_n hx hb dX9_next_86 rfl (lv_at hl 1 rfl) ?_
                    refine lv_if_eq (tgt := 104) hx hb dX9_next_87 (by decide) (fun c_257 => ?_) (fun c_257 => absurd (by decide) c_257)
                    refine lv_iload_n hx hb dX9_next_104 rfl (lv_at hl 0 rfl) ?_
                    refine lv_if_eq (tgt := 135) hx hb dX9_next_105 (by decide) (fun c_258 => ?_) (fun c_258 => absurd (by decide) c_258)
                    exact W.vret hx hb hr (fun t ht hW => ⟨⟨(f8, t8), rfl, ⟨(by first | assumption | omega), (by first | assumption | omega), (by first | assumption | omega), (by first | assumption | omega), (by first | assumption | omega)⟩, by rw [ht]; exact hP.sub [0, 1] rfl, hD.sub [0, 1] (by decide) rfl⟩, hS.F ht⟩) hS.2.2 dX9_next_135 hlk
            · skip
              refine xc_Sr hF (c_X9_isDigit l D cI cJ cZ cS ta sa sv H.size (-1) ) ks_X9_263 ⟨rfl, rfl, Nat.le_of_ble_eq_true rfl, Nat.le_of_ble_eq_true rfl⟩ ⟨Nat.le_of_ble_eq_true rfl, Nat.le_of_ble_eq_true rfl⟩ hK hN hZ hP hD hS hA [] rfl rfl rfl hl.1 rfl (Nat.le_of_ble_eq_true rfl) dX9_next_54 (fun r_259 hw_r_259 => ?_)
              rcases hw_r_259 with ⟨rfl, h_260, h_261⟩ | ⟨rfl, h_262⟩
              · exact absurd (by decide) h_260
              · skip
                refine lv_istore_n (lv' := [(2, .int 0), (1, .int 0), (0, .ref h0)]) hx hb dX9_next_57 rfl hl (by decide) rfl (fun ls hl => ?_)
                refine lv_aload_n hx hb dX9_next_58 rfl (lv_at hl 2 rfl) ?_
                refine lv_aload_n hx hb dX9_next_59 rfl (lv_at hl 2 rfl) ?_
                refine xg hF kf_X9_254 hK hP 0 rfl rfl dX9_next_60 ?_
                refine lv_aload_n hx hb dX9_next_63 rfl (lv_at hl 2 rfl) ?_
                refine xg hF kf_X9_240 hK hP 0 rfl rfl dX9_next_64 ?_
                refine lv_icmp_ge (tgt := 79) hx hb dX9_next_67 (by decide) (fun c_263 => ?_) (fun c_263 => ?_)
                · skip
                  have nc_263 : mz ≤ f8 := xn_le (a := mz) (b := f8) (by omega) (by omega) c_263
                  refine lv_aload_n hx hb dX9_next_79 rfl (lv_at hl 2 rfl) ?_
                  refine xg hF kf_X9_254 hK hP 0 rfl rfl dX9_next_80 ?_
                  refine xp hF kf_X9_251 tyX9_ok nmX9 hK hP hD hS 0 rfl rfl rfl rfl (Nat.le_of_ble_eq_true rfl) dX9_next_83 (fun H locs hP hD hS => ?_)
                  have hP : va_P D vwCl [(h0, .inr (9, [.ref ys, .ref yk, .ref yo, .ref yt, .int mk0, .ref yfa, .ref yfe, .int mL, .int mS, .int mM, .ref yro, .ref yhe, .ref ygr, .int mF, .int mC, .int mY, .ref yta, .int (nI (mz)), .int (nI (f8)), .int (nI (f8)), .int mv, .int mw, .ref ywa, .ref ybi, .ref ysi, .ref ynu, .ref ymo])), (yta, .inl (cI, 120, .inl tp))] H := hP
                  have hD : va_D A [(h0, .inr (9, [.ref ys, .ref yk, .ref yo, .ref yt, .int mk0, .ref yfa, .ref yfe, .int mL, .int mS, .int mM, .ref yro, .ref yhe, .ref ygr, .int mF, .int mC, .int mY, .ref yta, .int (nI (mz)), .int (nI (f8)), .int (nI (f8)), .int mv, .int mw, .ref ywa, .ref ybi, .ref ysi, .ref ynu, .ref ymo])), (yta, .inl (cI, 120, .inl tp))] := hD
                  suffices loop_86 : ∀ (n_86 : Nat) (t8 : Nat) (H : Heap) (locs : List Loc) (ls : Array Slot), mz - t8 < n_86 → (t8 ≤ mz) → (f8 ≤ t8) → (f8 < t8 ∨ f8 = mz) → va_P D vwCl [(h0, .inr (9, [.ref ys, .ref yk, .ref yo, .ref yt, .int mk0, .ref yfa, .ref yfe, .int mL, .int mS, .int mM, .ref yro, .ref yhe, .ref ygr, .int mF, .int mC, .int mY, .ref yta, .int (nI (mz)), .int (nI (f8)), .int (nI (t8)), .int mv, .int mw, .ref ywa, .ref ybi, .ref ysi, .ref ynu, .ref ymo])), (yta, .inl (cI, 120, .inl tp))] H → va_D A [(h0, .inr (9, [.ref ys, .ref yk, .ref yo, .ref yt, .int mk0, .ref yfa, .ref yfe, .int mL, .int mS, .int mM, .ref yro, .ref yhe, .ref ygr, .int mF, .int mC, .int mY, .ref yta, .int (nI (mz)), .int (nI (f8)), .int (nI (t8)), .int mv, .int mw, .ref ywa, .ref ybi, .ref ysi, .ref ynu, .ref ymo])), (yta, .inl (cI, 120, .inl tp))] → va_S A s.heap H locs → lv_has ls 3 [(2, .int 0), (1, .int 0), (0, .ref h0)] → W p l e ({ frames := 2, cells := 0, slots := 0, locals := 45 }) s m ([.ref h0] : List Value).toArray below meth c H locs 0 0 (MQ below (XQv (fun (u : Nat × Nat) => match u with | (f2, t2) => (f2 ≤ mz) ∧ (t2 ≤ mz) ∧ (f2 ≤ t2) ∧ (f2 < t2 ∨ f2 = mz) ∧ (mt ≤ f2)) D (fun (u : Nat × Nat) => match u with | (f2, t2) => [(h0, .inr (9, [.ref ys, .ref yk, .ref yo, .ref yt, .int mk0, .ref yfa, .ref yfe, .int mL, .int mS, .int mM, .ref yro, .ref yhe, .ref ygr, .int mF, .int mC, .int mY, .ref yta, .int (nI (mz)), .int (nI (f2)), .int (nI (t2)), .int mv, .int mw, .ref ywa, .ref ybi, .ref ysi, .ref ynu, .ref ymo])), (yta, .inl (cI, 120, .inl tp))]) A) ([.ref h0] : List Value).toArray s 0 0 A) (F0 m 86 ls []) by
                    exact loop_86 _ f8 _ _ _ (Nat.lt_succ_self _) (by omega) (by omega) (by omega) hP hD hS (lv_sub hl [0, 1, 2] rfl)
                  intro n_86
                  induction n_86 with
                  | zero =>
                    intro t8 H locs ls hm_86
                    exact absurd hm_86 (Nat.not_lt_zero _)
                  | succ n_86 ih_86 =>
                    intro t8 H locs ls hm_86 ht8 hu8 hv8 hP hD hS hl
                    refine lv_iload_n hx hb dX9_next_86 rfl (lv_at hl 1 rfl) ?_
                    refine lv_if_eq (tgt := 104) hx hb dX9_next_87 (by decide) (fun c_264 => ?_) (fun c_264 => absurd (by decide) c_264)
                    refine lv_iload_n hx hb dX9_next_104 rfl (lv_at hl 0 rfl) ?_
                    refine lv_if_eq (tgt := 135) hx hb dX9_next_105 (by decide) (fun c_265 => ?_) (fun c_265 => absurd (by decide) c_265)
                    exact W.vret hx hb hr (fun t ht hW => ⟨⟨(f8, t8), rfl, ⟨(by first | assumption | omega), (by first | assumption | omega), (by first | assumption | omega), (by first | assumption | omega), (by first | assumption | omega)⟩, by rw [ht]; exact hP.sub [0, 1] rfl, hD.sub [0, 1] (by decide) rfl⟩, hS.F ht⟩) hS.2.2 dX9_next_135 hlk
                · skip
                  have nc_263 : f8 < mz := xn_nle (a := mz) (b := f8) (by omega) (by omega) c_263
                  refine lv_aload_n hx hb dX9_next_70 rfl (lv_at hl 2 rfl) ?_
                  refine xg hF kf_X9_254 hK hP 0 rfl rfl dX9_next_71 ?_
                  refine lv_iconst (v := 1) hx hb dX9_next_74 (by decide) ?_
                  refine lv_iadd hx hb dX9_next_75 ?_
                  refine xl_i (y := nI (f8 + 1)) (nI_add f8 1) ?_
                  refine lv_goto (tgt := 83) hx hb dX9_next_76 (by decide) ?_
                  refine xp hF kf_X9_251 tyX9_ok nmX9 hK hP hD hS 0 rfl rfl rfl rfl (Nat.le_of_ble_eq_true rfl) dX9_next_83 (fun H locs hP hD hS => ?_)
                  have hP : va_P D vwCl [(h0, .inr (9, [.ref ys, .ref yk, .ref yo, .ref yt, .int mk0, .ref yfa, .ref yfe, .int mL, .int mS, .int mM, .ref yro, .ref yhe, .ref ygr, .int mF, .int mC, .int mY, .ref yta, .int (nI (mz)), .int (nI (f8)), .int (nI (f8 + 1)), .int mv, .int mw, .ref ywa, .ref ybi, .ref ysi, .ref ynu, .ref ymo])), (yta, .inl (cI, 120, .inl tp))] H := hP
                  have hD : va_D A [(h0, .inr (9, [.ref ys, .ref yk, .ref yo, .ref yt, .int mk0, .ref yfa, .ref yfe, .int mL, .int mS, .int mM, .ref yro, .ref yhe, .ref ygr, .int mF, .int mC, .int mY, .ref yta, .int (nI (mz)), .int (nI (f8)), .int (nI (f8 + 1)), .int mv, .int mw, .ref ywa, .ref ybi, .ref ysi, .ref ynu, .ref ymo])), (yta, .inl (cI, 120, .inl tp))] := hD
                  suffices loop_86 : ∀ (n_86 : Nat) (t8 : Nat) (H : Heap) (locs : List Loc) (ls : Array Slot), mz - t8 < n_86 → (t8 ≤ mz) → (f8 ≤ t8) → (f8 < t8 ∨ f8 = mz) → va_P D vwCl [(h0, .inr (9, [.ref ys, .ref yk, .ref yo, .ref yt, .int mk0, .ref yfa, .ref yfe, .int mL, .int mS, .int mM, .ref yro, .ref yhe, .ref ygr, .int mF, .int mC, .int mY, .ref yta, .int (nI (mz)), .int (nI (f8)), .int (nI (t8)), .int mv, .int mw, .ref ywa, .ref ybi, .ref ysi, .ref ynu, .ref ymo])), (yta, .inl (cI, 120, .inl tp))] H → va_D A [(h0, .inr (9, [.ref ys, .ref yk, .ref yo, .ref yt, .int mk0, .ref yfa, .ref yfe, .int mL, .int mS, .int mM, .ref yro, .ref yhe, .ref ygr, .int mF, .int mC, .int mY, .ref yta, .int (nI (mz)), .int (nI (f8)), .int (nI (t8)), .int mv, .int mw, .ref ywa, .ref ybi, .ref ysi, .ref ynu, .ref ymo])), (yta, .inl (cI, 120, .inl tp))] → va_S A s.heap H locs → lv_has ls 3 [(2, .int 0), (1, .int 0), (0, .ref h0)] → W p l e ({ frames := 2, cells := 0, slots := 0, locals := 45 }) s m ([.ref h0] : List Value).toArray below meth c H locs 0 0 (MQ below (XQv (fun (u : Nat × Nat) => match u with | (f2, t2) => (f2 ≤ mz) ∧ (t2 ≤ mz) ∧ (f2 ≤ t2) ∧ (f2 < t2 ∨ f2 = mz) ∧ (mt ≤ f2)) D (fun (u : Nat × Nat) => match u with | (f2, t2) => [(h0, .inr (9, [.ref ys, .ref yk, .ref yo, .ref yt, .int mk0, .ref yfa, .ref yfe, .int mL, .int mS, .int mM, .ref yro, .ref yhe, .ref ygr, .int mF, .int mC, .int mY, .ref yta, .int (nI (mz)), .int (nI (f2)), .int (nI (t2)), .int mv, .int mw, .ref ywa, .ref ybi, .ref ysi, .ref ynu, .ref ymo])), (yta, .inl (cI, 120, .inl tp))]) A) ([.ref h0] : List Value).toArray s 0 0 A) (F0 m 86 ls []) by
                    exact loop_86 _ (f8 + 1) _ _ _ (Nat.lt_succ_self _) (by omega) (by omega) (by omega) hP hD hS (lv_sub hl [0, 1, 2] rfl)
                  intro n_86
                  induction n_86 with
                  | zero =>
                    intro t8 H locs ls hm_86
                    exact absurd hm_86 (Nat.not_lt_zero _)
                  | succ n_86 ih_86 =>
                    intro t8 H locs ls hm_86 ht8 hu8 hv8 hP hD hS hl
                    refine lv_iload_n hx hb dX9_next_86 rfl (lv_at hl 1 rfl) ?_
                    refine lv_if_eq (tgt := 104) hx hb dX9_next_87 (by decide) (fun c_266 => ?_) (fun c_266 => absurd (by decide) c_266)
                    refine lv_iload_n hx hb dX9_next_104 rfl (lv_at hl 0 rfl) ?_
                    refine lv_if_eq (tgt := 135) hx hb dX9_next_105 (by decide) (fun c_267 => ?_) (fun c_267 => absurd (by decide) c_267)
                    exact W.vret hx hb hr (fun t ht hW => ⟨⟨(f8, t8), rfl, ⟨(by first | assumption | omega), (by first | assumption | omega), (by first | assumption | omega), (by first | assumption | omega), (by first | assumption | omega)⟩, by rw [ht]; exact hP.sub [0, 1] rfl, hD.sub [0, 1] (by decide) rfl⟩, hS.F ht⟩) hS.2.2 dX9_next_135 hlk
      · skip
        refine lv_aload_n hx hb dX9_next_21 rfl (lv_at hl 0 rfl) ?_
        refine lv_dup hx hb dX9_next_22 rfl ?_
        refine xg hF kf_X9_254 hK hP 0 rfl rfl dX9_next_23 ?_
        refine lv_iconst (v := 1) hx hb dX9_next_26 (by decide) ?_
        refine lv_iadd hx hb dX9_next_27 ?_
        refine xl_i (y := nI (f8 + 1)) (nI_add f8 1) ?_
        refine xp hF kf_X9_254 tyX9_ok nmX9 hK hP hD hS 0 rfl rfl rfl rfl (Nat.le_of_ble_eq_true rfl) dX9_next_28 (fun H locs hP hD hS => ?_)
        have hP : va_P D vwCl [(h0, .inr (9, [.ref ys, .ref yk, .ref yo, .ref yt, .int mk0, .ref yfa, .ref yfe, .int mL, .int mS, .int mM, .ref yro, .ref yhe, .ref ygr, .int mF, .int mC, .int mY, .ref yta, .int (nI (mz)), .int (nI (f8 + 1)), .int (nI (mt)), .int mv, .int mw, .ref ywa, .ref ybi, .ref ysi, .ref ynu, .ref ymo])), (yta, .inl (cI, 120, .inl tp))] H := hP
        have hD : va_D A [(h0, .inr (9, [.ref ys, .ref yk, .ref yo, .ref yt, .int mk0, .ref yfa, .ref yfe, .int mL, .int mS, .int mM, .ref yro, .ref yhe, .ref ygr, .int mF, .int mC, .int mY, .ref yta, .int (nI (mz)), .int (nI (f8 + 1)), .int (nI (mt)), .int mv, .int mw, .ref ywa, .ref ybi, .ref ysi, .ref ynu, .ref ymo])), (yta, .inl (cI, 120, .inl tp))] := hD
        refine lv_goto (tgt := 8) hx hb dX9_next_31 (by decide) ?_
        exact ih_8 (f8 + 1) _ _ _ (by omega) (by omega) (by omega) (hP.sub [0, 1] rfl) (hD.sub [0, 1] (by decide) rfl) hS (lv_sub hl [0] rfl)
    · skip
      refine lv_bipush (v := 32) hx hb dX9_next_16 (by decide) ?_
      refine lv_icmp_ne (tgt := 34) hx hb dX9_next_18 (by decide) (fun c_268 => ?_) (fun c_268 => absurd c_268 (by decide))
      refine lv_aload_n hx hb dX9_next_34 rfl (lv_at hl 0 rfl) ?_
      refine lv_aload_n hx hb dX9_next_35 rfl (lv_at hl 0 rfl) ?_
      refine xg hF kf_X9_254 hK hP 0 rfl rfl dX9_next_36 ?_
      refine xc_Vr hF (c_X9_byteAt l D cI cJ cZ cS ta sa sv H.size h0 ys yk yo yt mk0 yfa yfe mL mS mM yro yhe ygr mF mC mY yta mz f8 mt mv mw ywa ybi ysi ynu ymo tp f8 (by omega) (by omega)) kv_X9_257 ⟨rfl, rfl, Nat.le_of_ble_eq_true rfl, Nat.le_of_ble_eq_true rfl⟩ ⟨Nat.le_of_ble_eq_true rfl, Nat.le_of_ble_eq_true rfl⟩ hK hN hZ hP hD hS hA [0, 1] rfl rfl 0 rfl rfl rfl rfl hl.1 rfl (Nat.le_of_ble_eq_true rfl) dX9_next_39 (fun r_269 hw_r_269 => ?_)
      rcases hw_r_269 with ⟨rfl, h_270⟩ | ⟨rfl, h_271⟩
      · skip
        refine xc_Sr hF (c_X9_isLetterF l D cI cJ cZ cS ta sa sv H.size (tp f8) ) ks_X9_260 ⟨rfl, rfl, Nat.le_of_ble_eq_true rfl, Nat.le_of_ble_eq_true rfl⟩ ⟨Nat.le_of_ble_eq_true rfl, Nat.le_of_ble_eq_true rfl⟩ hK hN hZ hP hD hS hA [] rfl rfl rfl hl.1 rfl (Nat.le_of_ble_eq_true rfl) dX9_next_42 (fun r_272 hw_r_272 => ?_)
        rcases hw_r_272 with ⟨rfl, h_273⟩ | rfl
        · skip
          refine lv_istore_n (lv' := [(1, .int 1), (0, .ref h0)]) hx hb dX9_next_45 rfl hl (by decide) rfl (fun ls hl => ?_)
          refine lv_aload_n hx hb dX9_next_46 rfl (lv_at hl 1 rfl) ?_
          refine lv_aload_n hx hb dX9_next_47 rfl (lv_at hl 1 rfl) ?_
          refine xg hF kf_X9_254 hK hP 0 rfl rfl dX9_next_48 ?_
          refine xc_Vr hF (c_X9_byteAt l D cI cJ cZ cS ta sa sv H.size h0 ys yk yo yt mk0 yfa yfe mL mS mM yro yhe ygr mF mC mY yta mz f8 mt mv mw ywa ybi ysi ynu ymo tp f8 (by omega) (by omega)) kv_X9_257 ⟨rfl, rfl, Nat.le_of_ble_eq_true rfl, Nat.le_of_ble_eq_true rfl⟩ ⟨Nat.le_of_ble_eq_true rfl, Nat.le_of_ble_eq_true rfl⟩ hK hN hZ hP hD hS hA [0, 1] rfl rfl 0 rfl rfl rfl rfl hl.1 rfl (Nat.le_of_ble_eq_true rfl) dX9_next_51 (fun r_274 hw_r_274 => ?_)
          rcases hw_r_274 with ⟨rfl, h_275⟩ | ⟨rfl, h_276⟩
          · skip
            refine xc_Sr hF (c_X9_isDigit l D cI cJ cZ cS ta sa sv H.size (tp f8) ) ks_X9_263 ⟨rfl, rfl, Nat.le_of_ble_eq_true rfl, Nat.le_of_ble_eq_true rfl⟩ ⟨Nat.le_of_ble_eq_true rfl, Nat.le_of_ble_eq_true rfl⟩ hK hN hZ hP hD hS hA [] rfl rfl rfl hl.1 rfl (Nat.le_of_ble_eq_true rfl) dX9_next_54 (fun r_277 hw_r_277 => ?_)
            rcases hw_r_277 with ⟨rfl, h_278, h_279⟩ | ⟨rfl, h_280⟩
            · skip
              refine lv_istore_n (lv' := [(2, .int 1), (1, .int 1), (0, .ref h0)]) hx hb dX9_next_57 rfl hl (by decide) rfl (fun ls hl => ?_)
              refine lv_aload_n hx hb dX9_next_58 rfl (lv_at hl 2 rfl) ?_
              refine lv_aload_n hx hb dX9_next_59 rfl (lv_at hl 2 rfl) ?_
              refine xg hF kf_X9_254 hK hP 0 rfl rfl dX9_next_60 ?_
              refine lv_aload_n hx hb dX9_next_63 rfl (lv_at hl 2 rfl) ?_
              refine xg hF kf_X9_240 hK hP 0 rfl rfl dX9_next_64 ?_
              refine lv_icmp_ge (tgt := 79) hx hb dX9_next_67 (by decide) (fun c_281 => ?_) (fun c_281 => ?_)
              · skip
                have nc_281 : mz ≤ f8 := xn_le (a := mz) (b := f8) (by omega) (by omega) c_281
                refine lv_aload_n hx hb dX9_next_79 rfl (lv_at hl 2 rfl) ?_
                refine xg hF kf_X9_254 hK hP 0 rfl rfl dX9_next_80 ?_
                refine xp hF kf_X9_251 tyX9_ok nmX9 hK hP hD hS 0 rfl rfl rfl rfl (Nat.le_of_ble_eq_true rfl) dX9_next_83 (fun H locs hP hD hS => ?_)
                have hP : va_P D vwCl [(h0, .inr (9, [.ref ys, .ref yk, .ref yo, .ref yt, .int mk0, .ref yfa, .ref yfe, .int mL, .int mS, .int mM, .ref yro, .ref yhe, .ref ygr, .int mF, .int mC, .int mY, .ref yta, .int (nI (mz)), .int (nI (f8)), .int (nI (f8)), .int mv, .int mw, .ref ywa, .ref ybi, .ref ysi, .ref ynu, .ref ymo])), (yta, .inl (cI, 120, .inl tp))] H := hP
                have hD : va_D A [(h0, .inr (9, [.ref ys, .ref yk, .ref yo, .ref yt, .int mk0, .ref yfa, .ref yfe, .int mL, .int mS, .int mM, .ref yro, .ref yhe, .ref ygr, .int mF, .int mC, .int mY, .ref yta, .int (nI (mz)), .int (nI (f8)), .int (nI (f8)), .int mv, .int mw, .ref ywa, .ref ybi, .ref ysi, .ref ynu, .ref ymo])), (yta, .inl (cI, 120, .inl tp))] := hD
                suffices loop_86 : ∀ (n_86 : Nat) (t8 : Nat) (H : Heap) (locs : List Loc) (ls : Array Slot), mz - t8 < n_86 → (t8 ≤ mz) → (f8 ≤ t8) → (f8 < t8 ∨ f8 = mz) → va_P D vwCl [(h0, .inr (9, [.ref ys, .ref yk, .ref yo, .ref yt, .int mk0, .ref yfa, .ref yfe, .int mL, .int mS, .int mM, .ref yro, .ref yhe, .ref ygr, .int mF, .int mC, .int mY, .ref yta, .int (nI (mz)), .int (nI (f8)), .int (nI (t8)), .int mv, .int mw, .ref ywa, .ref ybi, .ref ysi, .ref ynu, .ref ymo])), (yta, .inl (cI, 120, .inl tp))] H → va_D A [(h0, .inr (9, [.ref ys, .ref yk, .ref yo, .ref yt, .int mk0, .ref yfa, .ref yfe, .int mL, .int mS, .int mM, .ref yro, .ref yhe, .ref ygr, .int mF, .int mC, .int mY, .ref yta, .int (nI (mz)), .int (nI (f8)), .int (nI (t8)), .int mv, .int mw, .ref ywa, .ref ybi, .ref ysi, .ref ynu, .ref ymo])), (yta, .inl (cI, 120, .inl tp))] → va_S A s.heap H locs → lv_has ls 3 [(2, .int 1), (1, .int 1), (0, .ref h0)] → W p l e ({ frames := 2, cells := 0, slots := 0, locals := 45 }) s m ([.ref h0] : List Value).toArray below meth c H locs 0 0 (MQ below (XQv (fun (u : Nat × Nat) => match u with | (f2, t2) => (f2 ≤ mz) ∧ (t2 ≤ mz) ∧ (f2 ≤ t2) ∧ (f2 < t2 ∨ f2 = mz) ∧ (mt ≤ f2)) D (fun (u : Nat × Nat) => match u with | (f2, t2) => [(h0, .inr (9, [.ref ys, .ref yk, .ref yo, .ref yt, .int mk0, .ref yfa, .ref yfe, .int mL, .int mS, .int mM, .ref yro, .ref yhe, .ref ygr, .int mF, .int mC, .int mY, .ref yta, .int (nI (mz)), .int (nI (f2)), .int (nI (t2)), .int mv, .int mw, .ref ywa, .ref ybi, .ref ysi, .ref ynu, .ref ymo])), (yta, .inl (cI, 120, .inl tp))]) A) ([.ref h0] : List Value).toArray s 0 0 A) (F0 m 86 ls []) by
                  exact loop_86 _ f8 _ _ _ (Nat.lt_succ_self _) (by omega) (by omega) (by omega) hP hD hS (lv_sub hl [0, 1, 2] rfl)
                intro n_86
                induction n_86 with
                | zero =>
                  intro t8 H locs ls hm_86
                  exact absurd hm_86 (Nat.not_lt_zero _)
                | succ n_86 ih_86 =>
                  intro t8 H locs ls hm_86 ht8 hu8 hv8 hP hD hS hl
                  refine lv_iload_n hx hb dX9_next_86 rfl (lv_at hl 1 rfl) ?_
                  refine lv_if_eq (tgt := 104) hx hb dX9_next_87 (by decide) (fun c_282 => absurd c_282 (by decide)) (fun c_282 => ?_)
                  refine lv_aload_n hx hb dX9_next_90 rfl (lv_at hl 2 rfl) ?_
                  refine lv_aload_n hx hb dX9_next_91 rfl (lv_at hl 2 rfl) ?_
                  refine xg hF kf_X9_251 hK hP 0 rfl rfl dX9_next_92 ?_
                  refine xc_Vr hF (c_X9_byteAt l D cI cJ cZ cS ta sa sv H.size h0 ys yk yo yt mk0 yfa yfe mL mS mM yro yhe ygr mF mC mY yta mz f8 t8 mv mw ywa ybi ysi ynu ymo tp t8 (by omega) (by omega)) kv_X9_257 ⟨rfl, rfl, Nat.le_of_ble_eq_true rfl, Nat.le_of_ble_eq_true rfl⟩ ⟨Nat.le_of_ble_eq_true rfl, Nat.le_of_ble_eq_true rfl⟩ hK hN hZ hP hD hS hA [0, 1] rfl rfl 0 rfl rfl rfl rfl hl.1 rfl (Nat.le_of_ble_eq_true rfl) dX9_next_95 (fun r_283 hw_r_283 => ?_)
                  rcases hw_r_283 with ⟨rfl, h_284⟩ | ⟨rfl, h_285⟩
                  · skip
                    refine xc_Sr hF (c_X9_isLetterF l D cI cJ cZ cS ta sa sv H.size (tp t8) ) ks_X9_260 ⟨rfl, rfl, Nat.le_of_ble_eq_true rfl, Nat.le_of_ble_eq_true rfl⟩ ⟨Nat.le_of_ble_eq_true rfl, Nat.le_of_ble_eq_true rfl⟩ hK hN hZ hP hD hS hA [] rfl rfl rfl hl.1 rfl (Nat.le_of_ble_eq_true rfl) dX9_next_98 (fun r_286 hw_r_286 => ?_)
                    rcases hw_r_286 with ⟨rfl, h_287⟩ | rfl
                    · skip
                      refine lv_if_ne (tgt := 122) hx hb dX9_next_101 (by decide) (fun c_288 => ?_) (fun c_288 => absurd c_288 (by decide))
                      refine lv_aload_n hx hb dX9_next_122 rfl (lv_at hl 2 rfl) ?_
                      refine lv_dup hx hb dX9_next_123 rfl ?_
                      refine xg hF kf_X9_251 hK hP 0 rfl rfl dX9_next_124 ?_
                      refine lv_iconst (v := 1) hx hb dX9_next_127 (by decide) ?_
                      refine lv_iadd hx hb dX9_next_128 ?_
                      refine xl_i (y := nI (t8 + 1)) (nI_add t8 1) ?_
                      refine xp hF kf_X9_251 tyX9_ok nmX9 hK hP hD hS 0 rfl rfl rfl rfl (Nat.le_of_ble_eq_true rfl) dX9_next_129 (fun H locs hP hD hS => ?_)
                      have hP : va_P D vwCl [(h0, .inr (9, [.ref ys, .ref yk, .ref yo, .ref yt, .int mk0, .ref yfa, .ref yfe, .int mL, .int mS, .int mM, .ref yro, .ref yhe, .ref ygr, .int mF, .int mC, .int mY, .ref yta, .int (nI (mz)), .int (nI (f8)), .int (nI (t8 + 1)), .int mv, .int mw, .ref ywa, .ref ybi, .ref ysi, .ref ynu, .ref ymo])), (yta, .inl (cI, 120, .inl tp))] H := hP
                      have hD : va_D A [(h0, .inr (9, [.ref ys, .ref yk, .ref yo, .ref yt, .int mk0, .ref yfa, .ref yfe, .int mL, .int mS, .int mM, .ref yro, .ref yhe, .ref ygr, .int mF, .int mC, .int mY, .ref yta, .int (nI (mz)), .int (nI (f8)), .int (nI (t8 + 1)), .int mv, .int mw, .ref ywa, .ref ybi, .ref ysi, .ref ynu, .ref ymo])), (yta, .inl (cI, 120, .inl tp))] := hD
                      refine lv_goto (tgt := 86) hx hb dX9_next_132 (by decide) ?_
                      exact ih_86 (t8 + 1) _ _ _ (by omega) (by omega) (by omega) (by omega) (hP.sub [0, 1] rfl) (hD.sub [0, 1] (by decide) rfl) hS (lv_sub hl [0, 1, 2] rfl)
                    · skip
                      refine lv_if_ne (tgt := 122) hx hb dX9_next_101 (by decide) (fun c_289 => absurd (by decide) c_289) (fun c_289 => ?_)
                      refine lv_iload_n hx hb dX9_next_104 rfl (lv_at hl 0 rfl) ?_
                      refine lv_if_eq (tgt := 135) hx hb dX9_next_105 (by decide) (fun c_290 => absurd c_290 (by decide)) (fun c_290 => ?_)
                      refine lv_aload_n hx hb dX9_next_108 rfl (lv_at hl 2 rfl) ?_
                      refine lv_aload_n hx hb dX9_next_109 rfl (lv_at hl 2 rfl) ?_
                      refine xg hF kf_X9_251 hK hP 0 rfl rfl dX9_next_110 ?_
                      refine xc_Vr hF (c_X9_byteAt l D cI cJ cZ cS ta sa sv H.size h0 ys yk yo yt mk0 yfa yfe mL mS mM yro yhe ygr mF mC mY yta mz f8 t8 mv mw ywa ybi ysi ynu ymo tp t8 (by omega) (by omega)) kv_X9_257 ⟨rfl, rfl, Nat.le_of_ble_eq_true rfl, Nat.le_of_ble_eq_true rfl⟩ ⟨Nat.le_of_ble_eq_true rfl, Nat.le_of_ble_eq_true rfl⟩ hK hN hZ hP hD hS hA [0, 1] rfl rfl 0 rfl rfl rfl rfl hl.1 rfl (Nat.le_of_ble_eq_true rfl) dX9_next_113 (fun r_291 hw_r_291 => ?_)
                      rcases hw_r_291 with ⟨rfl, h_292⟩ | ⟨rfl, h_293⟩
                      · skip
                        refine xc_Sr hF (c_X9_isDigit l D cI cJ cZ cS ta sa sv H.size (tp t8) ) ks_X9_263 ⟨rfl, rfl, Nat.le_of_ble_eq_true rfl, Nat.le_of_ble_eq_true rfl⟩ ⟨Nat.le_of_ble_eq_true rfl, Nat.le_of_ble_eq_true rfl⟩ hK hN hZ hP hD hS hA [] rfl rfl rfl hl.1 rfl (Nat.le_of_ble_eq_true rfl) dX9_next_116 (fun r_294 hw_r_294 => ?_)
                        rcases hw_r_294 with ⟨rfl, h_295, h_296⟩ | ⟨rfl, h_297⟩
                        · skip
                          refine lv_if_eq (tgt := 135) hx hb dX9_next_119 (by decide) (fun c_298 => absurd c_298 (by decide)) (fun c_298 => ?_)
                          refine lv_aload_n hx hb dX9_next_122 rfl (lv_at hl 2 rfl) ?_
                          refine lv_dup hx hb dX9_next_123 rfl ?_
                          refine xg hF kf_X9_251 hK hP 0 rfl rfl dX9_next_124 ?_
                          refine lv_iconst (v := 1) hx hb dX9_next_127 (by decide) ?_
                          refine lv_iadd hx hb dX9_next_128 ?_
                          refine xl_i (y := nI (t8 + 1)) (nI_add t8 1) ?_
                          refine xp hF kf_X9_251 tyX9_ok nmX9 hK hP hD hS 0 rfl rfl rfl rfl (Nat.le_of_ble_eq_true rfl) dX9_next_129 (fun H locs hP hD hS => ?_)
                          have hP : va_P D vwCl [(h0, .inr (9, [.ref ys, .ref yk, .ref yo, .ref yt, .int mk0, .ref yfa, .ref yfe, .int mL, .int mS, .int mM, .ref yro, .ref yhe, .ref ygr, .int mF, .int mC, .int mY, .ref yta, .int (nI (mz)), .int (nI (f8)), .int (nI (t8 + 1)), .int mv, .int mw, .ref ywa, .ref ybi, .ref ysi, .ref ynu, .ref ymo])), (yta, .inl (cI, 120, .inl tp))] H := hP
                          have hD : va_D A [(h0, .inr (9, [.ref ys, .ref yk, .ref yo, .ref yt, .int mk0, .ref yfa, .ref yfe, .int mL, .int mS, .int mM, .ref yro, .ref yhe, .ref ygr, .int mF, .int mC, .int mY, .ref yta, .int (nI (mz)), .int (nI (f8)), .int (nI (t8 + 1)), .int mv, .int mw, .ref ywa, .ref ybi, .ref ysi, .ref ynu, .ref ymo])), (yta, .inl (cI, 120, .inl tp))] := hD
                          refine lv_goto (tgt := 86) hx hb dX9_next_132 (by decide) ?_
                          exact ih_86 (t8 + 1) _ _ _ (by omega) (by omega) (by omega) (by omega) (hP.sub [0, 1] rfl) (hD.sub [0, 1] (by decide) rfl) hS (lv_sub hl [0, 1, 2] rfl)
                        · skip
                          refine lv_if_eq (tgt := 135) hx hb dX9_next_119 (by decide) (fun c_299 => ?_) (fun c_299 => absurd (by decide) c_299)
                          exact W.vret hx hb hr (fun t ht hW => ⟨⟨(f8, t8), rfl, ⟨(by first | assumption | omega), (by first | assumption | omega), (by first | assumption | omega), (by first | assumption | omega), (by first | assumption | omega)⟩, by rw [ht]; exact hP.sub [0, 1] rfl, hD.sub [0, 1] (by decide) rfl⟩, hS.F ht⟩) hS.2.2 dX9_next_135 hlk
                      · skip
                        refine xc_Sr hF (c_X9_isDigit l D cI cJ cZ cS ta sa sv H.size (-1) ) ks_X9_263 ⟨rfl, rfl, Nat.le_of_ble_eq_true rfl, Nat.le_of_ble_eq_true rfl⟩ ⟨Nat.le_of_ble_eq_true rfl, Nat.le_of_ble_eq_true rfl⟩ hK hN hZ hP hD hS hA [] rfl rfl rfl hl.1 rfl (Nat.le_of_ble_eq_true rfl) dX9_next_116 (fun r_300 hw_r_300 => ?_)
                        rcases hw_r_300 with ⟨rfl, h_301, h_302⟩ | ⟨rfl, h_303⟩
                        · exact absurd (by decide) h_301
                        · skip
                          refine lv_if_eq (tgt := 135) hx hb dX9_next_119 (by decide) (fun c_304 => ?_) (fun c_304 => absurd (by decide) c_304)
                          exact W.vret hx hb hr (fun t ht hW => ⟨⟨(f8, t8), rfl, ⟨(by first | assumption | omega), (by first | assumption | omega), (by first | assumption | omega), (by first | assumption | omega), (by first | assumption | omega)⟩, by rw [ht]; exact hP.sub [0, 1] rfl, hD.sub [0, 1] (by decide) rfl⟩, hS.F ht⟩) hS.2.2 dX9_next_135 hlk
                  · skip
                    refine xc_Sr hF (c_X9_isLetterF l D cI cJ cZ cS ta sa sv H.size (-1) ) ks_X9_260 ⟨rfl, rfl, Nat.le_of_ble_eq_true rfl, Nat.le_of_ble_eq_true rfl⟩ ⟨Nat.le_of_ble_eq_true rfl, Nat.le_of_ble_eq_true rfl⟩ hK hN hZ hP hD hS hA [] rfl rfl rfl hl.1 rfl (Nat.le_of_ble_eq_true rfl) dX9_next_98 (fun r_305 hw_r_305 => ?_)
                    rcases hw_r_305 with ⟨rfl, h_306⟩ | rfl
                    · exact absurd (by decide) h_306
                    · skip
                      refine lv_if_ne (tgt := 122) hx hb dX9_next_101 (by decide) (fun c_307 => absurd (by decide) c_307) (fun c_307 => ?_)
                      refine lv_iload_n hx hb dX9_next_104 rfl (lv_at hl 0 rfl) ?_
                      refine lv_if_eq (tgt := 135) hx hb dX9_next_105 (by decide) (fun c_308 => absurd c_308 (by decide)) (fun c_308 => ?_)
                      refine lv_aload_n hx hb dX9_next_108 rfl (lv_at hl 2 rfl) ?_
                      refine lv_aload_n hx hb dX9_next_109 rfl (lv_at hl 2 rfl) ?_
                      refine xg hF kf_X9_251 hK hP 0 rfl rfl dX9_next_110 ?_
                      refine xc_Vr hF (c_X9_byteAt l D cI cJ cZ cS ta sa sv H.size h0 ys yk yo yt mk0 yfa yfe mL mS mM yro yhe ygr mF mC mY yta mz f8 t8 mv mw ywa ybi ysi ynu ymo tp t8 (by omega) (by omega)) kv_X9_257 ⟨rfl, rfl, Nat.le_of_ble_eq_true rfl, Nat.le_of_ble_eq_true rfl⟩ ⟨Nat.le_of_ble_eq_true rfl, Nat.le_of_ble_eq_true rfl⟩ hK hN hZ hP hD hS hA [0, 1] rfl rfl 0 rfl rfl rfl rfl hl.1 rfl (Nat.le_of_ble_eq_true rfl) dX9_next_113 (fun r_309 hw_r_309 => ?_)
                      rcases hw_r_309 with ⟨rfl, h_310⟩ | ⟨rfl, h_311⟩
                      · skip
                        refine xc_Sr hF (c_X9_isDigit l D cI cJ cZ cS ta sa sv H.size (tp t8) ) ks_X9_263 ⟨rfl, rfl, Nat.le_of_ble_eq_true rfl, Nat.le_of_ble_eq_true rfl⟩ ⟨Nat.le_of_ble_eq_true rfl, Nat.le_of_ble_eq_true rfl⟩ hK hN hZ hP hD hS hA [] rfl rfl rfl hl.1 rfl (Nat.le_of_ble_eq_true rfl) dX9_next_116 (fun r_312 hw_r_312 => ?_)
                        rcases hw_r_312 with ⟨rfl, h_313, h_314⟩ | ⟨rfl, h_315⟩
                        · skip
                          refine lv_if_eq (tgt := 135) hx hb dX9_next_119 (by decide) (fun c_316 => absurd c_316 (by decide)) (fun c_316 => ?_)
                          refine lv_aload_n hx hb dX9_next_122 rfl (lv_at hl 2 rfl) ?_
                          refine lv_dup hx hb dX9_next_123 rfl ?_
                          refine xg hF kf_X9_251 hK hP 0 rfl rfl dX9_next_124 ?_
                          refine lv_iconst (v := 1) hx hb dX9_next_127 (by decide) ?_
                          refine lv_iadd hx hb dX9_next_128 ?_
                          refine xl_i (y := nI (t8 + 1)) (nI_add t8 1) ?_
                          refine xp hF kf_X9_251 tyX9_ok nmX9 hK hP hD hS 0 rfl rfl rfl rfl (Nat.le_of_ble_eq_true rfl) dX9_next_129 (fun H locs hP hD hS => ?_)
                          have hP : va_P D vwCl [(h0, .inr (9, [.ref ys, .ref yk, .ref yo, .ref yt, .int mk0, .ref yfa, .ref yfe, .int mL, .int mS, .int mM, .ref yro, .ref yhe, .ref ygr, .int mF, .int mC, .int mY, .ref yta, .int (nI (mz)), .int (nI (f8)), .int (nI (t8 + 1)), .int mv, .int mw, .ref ywa, .ref ybi, .ref ysi, .ref ynu, .ref ymo])), (yta, .inl (cI, 120, .inl tp))] H := hP
                          have hD : va_D A [(h0, .inr (9, [.ref ys, .ref yk, .ref yo, .ref yt, .int mk0, .ref yfa, .ref yfe, .int mL, .int mS, .int mM, .ref yro, .ref yhe, .ref ygr, .int mF, .int mC, .int mY, .ref yta, .int (nI (mz)), .int (nI (f8)), .int (nI (t8 + 1)), .int mv, .int mw, .ref ywa, .ref ybi, .ref ysi, .ref ynu, .ref ymo])), (yta, .inl (cI, 120, .inl tp))] := hD
                          refine lv_goto (tgt := 86) hx hb dX9_next_132 (by decide) ?_
                          exact ih_86 (t8 + 1) _ _ _ (by omega) (by omega) (by omega) (by omega) (hP.sub [0, 1] rfl) (hD.sub [0, 1] (by decide) rfl) hS (lv_sub hl [0, 1, 2] rfl)
                        · skip
                          refine lv_if_eq (tgt := 135) hx hb dX9_next_119 (by decide) (fun c_317 => ?_) (fun c_317 => absurd (by decide) c_317)
                          exact W.vret hx hb hr (fun t ht hW => ⟨⟨(f8, t8), rfl, ⟨(by first | assumption | omega), (by first | assumption | omega), (by first | assumption | omega), (by first | assumption | omega), (by first | assumption | omega)⟩, by rw [ht]; exact hP.sub [0, 1] rfl, hD.sub [0, 1] (by decide) rfl⟩, hS.F ht⟩) hS.2.2 dX9_next_135 hlk
                      · skip
                        refine xc_Sr hF (c_X9_isDigit l D cI cJ cZ cS ta sa sv H.size (-1) ) ks_X9_263 ⟨rfl, rfl, Nat.le_of_ble_eq_true rfl, Nat.le_of_ble_eq_true rfl⟩ ⟨Nat.le_of_ble_eq_true rfl, Nat.le_of_ble_eq_true rfl⟩ hK hN hZ hP hD hS hA [] rfl rfl rfl hl.1 rfl (Nat.le_of_ble_eq_true rfl) dX9_next_116 (fun r_318 hw_r_318 => ?_)
                        rcases hw_r_318 with ⟨rfl, h_319, h_320⟩ | ⟨rfl, h_321⟩
                        · exact absurd (by decide) h_319
                        · skip
                          refine lv_if_eq (tgt := 135) hx hb dX9_next_119 (by decide) (fun c_322 => ?_) (fun c_322 => absurd (by decide) c_322)
                          exact W.vret hx hb hr (fun t ht hW => ⟨⟨(f8, t8), rfl, ⟨(by first | assumption | omega), (by first | assumption | omega), (by first | assumption | omega), (by first | assumption | omega), (by first | assumption | omega)⟩, by rw [ht]; exact hP.sub [0, 1] rfl, hD.sub [0, 1] (by decide) rfl⟩, hS.F ht⟩) hS.2.2 dX9_next_135 hlk
              · skip
                have nc_281 : f8 < mz := xn_nle (a := mz) (b := f8) (by omega) (by omega) c_281
                refine lv_aload_n hx hb dX9_next_70 rfl (lv_at hl 2 rfl) ?_
                refine xg hF kf_X9_254 hK hP 0 rfl rfl dX9_next_71 ?_
                refine lv_iconst (v := 1) hx hb dX9_next_74 (by decide) ?_
                refine lv_iadd hx hb dX9_next_75 ?_
                refine xl_i (y := nI (f8 + 1)) (nI_add f8 1) ?_
                refine lv_goto (tgt := 83) hx hb dX9_next_76 (by decide) ?_
                refine xp hF kf_X9_251 tyX9_ok nmX9 hK hP hD hS 0 rfl rfl rfl rfl (Nat.le_of_ble_eq_true rfl) dX9_next_83 (fun H locs hP hD hS => ?_)
                have hP : va_P D vwCl [(h0, .inr (9, [.ref ys, .ref yk, .ref yo, .ref yt, .int mk0, .ref yfa, .ref yfe, .int mL, .int mS, .int mM, .ref yro, .ref yhe, .ref ygr, .int mF, .int mC, .int mY, .ref yta, .int (nI (mz)), .int (nI (f8)), .int (nI (f8 + 1)), .int mv, .int mw, .ref ywa, .ref ybi, .ref ysi, .ref ynu, .ref ymo])), (yta, .inl (cI, 120, .inl tp))] H := hP
                have hD : va_D A [(h0, .inr (9, [.ref ys, .ref yk, .ref yo, .ref yt, .int mk0, .ref yfa, .ref yfe, .int mL, .int mS, .int mM, .ref yro, .ref yhe, .ref ygr, .int mF, .int mC, .int mY, .ref yta, .int (nI (mz)), .int (nI (f8)), .int (nI (f8 + 1)), .int mv, .int mw, .ref ywa, .ref ybi, .ref ysi, .ref ynu, .ref ymo])), (yta, .inl (cI, 120, .inl tp))] := hD
                suffices loop_86 : ∀ (n_86 : Nat) (t8 : Nat) (H : Heap) (locs : List Loc) (ls : Array Slot), mz - t8 < n_86 → (t8 ≤ mz) → (f8 ≤ t8) → (f8 < t8 ∨ f8 = mz) → va_P D vwCl [(h0, .inr (9, [.ref ys, .ref yk, .ref yo, .ref yt, .int mk0, .ref yfa, .ref yfe, .int mL, .int mS, .int mM, .ref yro, .ref yhe, .ref ygr, .int mF, .int mC, .int mY, .ref yta, .int (nI (mz)), .int (nI (f8)), .int (nI (t8)), .int mv, .int mw, .ref ywa, .ref ybi, .ref ysi, .ref ynu, .ref ymo])), (yta, .inl (cI, 120, .inl tp))] H → va_D A [(h0, .inr (9, [.ref ys, .ref yk, .ref yo, .ref yt, .int mk0, .ref yfa, .ref yfe, .int mL, .int mS, .int mM, .ref yro, .ref yhe, .ref ygr, .int mF, .int mC, .int mY, .ref yta, .int (nI (mz)), .int (nI (f8)), .int (nI (t8)), .int mv, .int mw, .ref ywa, .ref ybi, .ref ysi, .ref ynu, .ref ymo])), (yta, .inl (cI, 120, .inl tp))] → va_S A s.heap H locs → lv_has ls 3 [(2, .int 1), (1, .int 1), (0, .ref h0)] → W p l e ({ frames := 2, cells := 0, slots := 0, locals := 45 }) s m ([.ref h0] : List Value).toArray below meth c H locs 0 0 (MQ below (XQv (fun (u : Nat × Nat) => match u with | (f2, t2) => (f2 ≤ mz) ∧ (t2 ≤ mz) ∧ (f2 ≤ t2) ∧ (f2 < t2 ∨ f2 = mz) ∧ (mt ≤ f2)) D (fun (u : Nat × Nat) => match u with | (f2, t2) => [(h0, .inr (9, [.ref ys, .ref yk, .ref yo, .ref yt, .int mk0, .ref yfa, .ref yfe, .int mL, .int mS, .int mM, .ref yro, .ref yhe, .ref ygr, .int mF, .int mC, .int mY, .ref yta, .int (nI (mz)), .int (nI (f2)), .int (nI (t2)), .int mv, .int mw, .ref ywa, .ref ybi, .ref ysi, .ref ynu, .ref ymo])), (yta, .inl (cI, 120, .inl tp))]) A) ([.ref h0] : List Value).toArray s 0 0 A) (F0 m 86 ls []) by
                  exact loop_86 _ (f8 + 1) _ _ _ (Nat.lt_succ_self _) (by omega) (by omega) (by omega) hP hD hS (lv_sub hl [0, 1, 2] rfl)
                intro n_86
                induction n_86 with
                | zero =>
                  intro t8 H locs ls hm_86
                  exact absurd hm_86 (Nat.not_lt_zero _)
                | succ n_86 ih_86 =>
                  intro t8 H locs ls hm_86 ht8 hu8 hv8 hP hD hS hl
                  refine lv_iload_n hx hb dX9_next_86 rfl (lv_at hl 1 rfl) ?_
                  refine lv_if_eq (tgt := 104) hx hb dX9_next_87 (by decide) (fun c_323 => absurd c_323 (by decide)) (fun c_323 => ?_)
                  refine lv_aload_n hx hb dX9_next_90 rfl (lv_at hl 2 rfl) ?_
                  refine lv_aload_n hx hb dX9_next_91 rfl (lv_at hl 2 rfl) ?_
                  refine xg hF kf_X9_251 hK hP 0 rfl rfl dX9_next_92 ?_
                  refine xc_Vr hF (c_X9_byteAt l D cI cJ cZ cS ta sa sv H.size h0 ys yk yo yt mk0 yfa yfe mL mS mM yro yhe ygr mF mC mY yta mz f8 t8 mv mw ywa ybi ysi ynu ymo tp t8 (by omega) (by omega)) kv_X9_257 ⟨rfl, rfl, Nat.le_of_ble_eq_true rfl, Nat.le_of_ble_eq_true rfl⟩ ⟨Nat.le_of_ble_eq_true rfl, Nat.le_of_ble_eq_true rfl⟩ hK hN hZ hP hD hS hA [0, 1] rfl rfl 0 rfl rfl rfl rfl hl.1 rfl (Nat.le_of_ble_eq_true rfl) dX9_next_95 (fun r_324 hw_r_324 => ?_)
                  rcases hw_r_324 with ⟨rfl, h_325⟩ | ⟨rfl, h_326⟩
                  · skip
                    refine xc_Sr hF (c_X9_isLetterF l D cI cJ cZ cS ta sa sv H.size (tp t8) ) ks_X9_260 ⟨rfl, rfl, Nat.le_of_ble_eq_true rfl, Nat.le_of_ble_eq_true rfl⟩ ⟨Nat.le_of_ble_eq_true rfl, Nat.le_of_ble_eq_true rfl⟩ hK hN hZ hP hD hS hA [] rfl rfl rfl hl.1 rfl (Nat.le_of_ble_eq_true rfl) dX9_next_98 (fun r_327 hw_r_327 => ?_)
                    rcases hw_r_327 with ⟨rfl, h_328⟩ | rfl
                    · skip
                      refine lv_if_ne (tgt := 122) hx hb dX9_next_101 (by decide) (fun c_329 => ?_) (fun c_329 => absurd c_329 (by decide))
                      refine lv_aload_n hx hb dX9_next_122 rfl (lv_at hl 2 rfl) ?_
                      refine lv_dup hx hb dX9_next_123 rfl ?_
                      refine xg hF kf_X9_251 hK hP 0 rfl rfl dX9_next_124 ?_
                      refine lv_iconst (v := 1) hx hb dX9_next_127 (by decide) ?_
                      refine lv_iadd hx hb dX9_next_128 ?_
                      refine xl_i (y := nI (t8 + 1)) (nI_add t8 1) ?_
                      refine xp hF kf_X9_251 tyX9_ok nmX9 hK hP hD hS 0 rfl rfl rfl rfl (Nat.le_of_ble_eq_true rfl) dX9_next_129 (fun H locs hP hD hS => ?_)
                      have hP : va_P D vwCl [(h0, .inr (9, [.ref ys, .ref yk, .ref yo, .ref yt, .int mk0, .ref yfa, .ref yfe, .int mL, .int mS, .int mM, .ref yro, .ref yhe, .ref ygr, .int mF, .int mC, .int mY, .ref yta, .int (nI (mz)), .int (nI (f8)), .int (nI (t8 + 1)), .int mv, .int mw, .ref ywa, .ref ybi, .ref ysi, .ref ynu, .ref ymo])), (yta, .inl (cI, 120, .inl tp))] H := hP
                      have hD : va_D A [(h0, .inr (9, [.ref ys, .ref yk, .ref yo, .ref yt, .int mk0, .ref yfa, .ref yfe, .int mL, .int mS, .int mM, .ref yro, .ref yhe, .ref ygr, .int mF, .int mC, .int mY, .ref yta, .int (nI (mz)), .int (nI (f8)), .int (nI (t8 + 1)), .int mv, .int mw, .ref ywa, .ref ybi, .ref ysi, .ref ynu, .ref ymo])), (yta, .inl (cI, 120, .inl tp))] := hD
                      refine lv_goto (tgt := 86) hx hb dX9_next_132 (by decide) ?_
                      exact ih_86 (t8 + 1) _ _ _ (by omega) (by omega) (by omega) (by omega) (hP.sub [0, 1] rfl) (hD.sub [0, 1] (by decide) rfl) hS (lv_sub hl [0, 1, 2] rfl)
                    · skip
                      refine lv_if_ne (tgt := 122) hx hb dX9_next_101 (by decide) (fun c_330 => absurd (by decide) c_330) (fun c_330 => ?_)
                      refine lv_iload_n hx hb dX9_next_104 rfl (lv_at hl 0 rfl) ?_
                      refine lv_if_eq (tgt := 135) hx hb dX9_next_105 (by decide) (fun c_331 => absurd c_331 (by decide)) (fun c_331 => ?_)
                      refine lv_aload_n hx hb dX9_next_108 rfl (lv_at hl 2 rfl) ?_
                      refine lv_aload_n hx hb dX9_next_109 rfl (lv_at hl 2 rfl) ?_
                      refine xg hF kf_X9_251 hK hP 0 rfl rfl dX9_next_110 ?_
                      refine xc_Vr hF (c_X9_byteAt l D cI cJ cZ cS ta sa sv H.size h0 ys yk yo yt mk0 yfa yfe mL mS mM yro yhe ygr mF mC mY yta mz f8 t8 mv mw ywa ybi ysi ynu ymo tp t8 (by omega) (by omega)) kv_X9_257 ⟨rfl, rfl, Nat.le_of_ble_eq_true rfl, Nat.le_of_ble_eq_true rfl⟩ ⟨Nat.le_of_ble_eq_true rfl, Nat.le_of_ble_eq_true rfl⟩ hK hN hZ hP hD hS hA [0, 1] rfl rfl 0 rfl rfl rfl rfl hl.1 rfl (Nat.le_of_ble_eq_true rfl) dX9_next_113 (fun r_332 hw_r_332 => ?_)
                      rcases hw_r_332 with ⟨rfl, h_333⟩ | ⟨rfl, h_334⟩
                      · skip
                        refine xc_Sr hF (c_X9_isDigit l D cI cJ cZ cS ta sa sv H.size (tp t8) ) ks_X9_263 ⟨rfl, rfl, Nat.le_of_ble_eq_true rfl, Nat.le_of_ble_eq_true rfl⟩ ⟨Nat.le_of_ble_eq_true rfl, Nat.le_of_ble_eq_true rfl⟩ hK hN hZ hP hD hS hA [] rfl rfl rfl hl.1 rfl (Nat.le_of_ble_eq_true rfl) dX9_next_116 (fun r_335 hw_r_335 => ?_)
                        rcases hw_r_335 with ⟨rfl, h_336, h_337⟩ | ⟨rfl, h_338⟩
                        · skip
                          refine lv_if_eq (tgt := 135) hx hb dX9_next_119 (by decide) (fun c_339 => absurd c_339 (by decide)) (fun c_339 => ?_)
                          refine lv_aload_n hx hb dX9_next_122 rfl (lv_at hl 2 rfl) ?_
                          refine lv_dup hx hb dX9_next_123 rfl ?_
                          refine xg hF kf_X9_251 hK hP 0 rfl rfl dX9_next_124 ?_
                          refine lv_iconst (v := 1) hx hb dX9_next_127 (by decide) ?_
                          refine lv_iadd hx hb dX9_next_128 ?_
                          refine xl_i (y := nI (t8 + 1)) (nI_add t8 1) ?_
                          refine xp hF kf_X9_251 tyX9_ok nmX9 hK hP hD hS 0 rfl rfl rfl rfl (Nat.le_of_ble_eq_true rfl) dX9_next_129 (fun H locs hP hD hS => ?_)
                          have hP : va_P D vwCl [(h0, .inr (9, [.ref ys, .ref yk, .ref yo, .ref yt, .int mk0, .ref yfa, .ref yfe, .int mL, .int mS, .int mM, .ref yro, .ref yhe, .ref ygr, .int mF, .int mC, .int mY, .ref yta, .int (nI (mz)), .int (nI (f8)), .int (nI (t8 + 1)), .int mv, .int mw, .ref ywa, .ref ybi, .ref ysi, .ref ynu, .ref ymo])), (yta, .inl (cI, 120, .inl tp))] H := hP
                          have hD : va_D A [(h0, .inr (9, [.ref ys, .ref yk, .ref yo, .ref yt, .int mk0, .ref yfa, .ref yfe, .int mL, .int mS, .int mM, .ref yro, .ref yhe, .ref ygr, .int mF, .int mC, .int mY, .ref yta, .int (nI (mz)), .int (nI (f8)), .int (nI (t8 + 1)), .int mv, .int mw, .ref ywa, .ref ybi, .ref ysi, .ref ynu, .ref ymo])), (yta, .inl (cI, 120, .inl tp))] := hD
                          refine lv_goto (tgt := 86) hx hb dX9_next_132 (by decide) ?_
                          exact ih_86 (t8 + 1) _ _ _ (by omega) (by omega) (by omega) (by omega) (hP.sub [0, 1] rfl) (hD.sub [0, 1] (by decide) rfl) hS (lv_sub hl [0, 1, 2] rfl)
                        · skip
                          refine lv_if_eq (tgt := 135) hx hb dX9_next_119 (by decide) (fun c_340 => ?_) (fun c_340 => absurd (by decide) c_340)
                          exact W.vret hx hb hr (fun t ht hW => ⟨⟨(f8, t8), rfl, ⟨(by first | assumption | omega), (by first | assumption | omega), (by first | assumption | omega), (by first | assumption | omega), (by first | assumption | omega)⟩, by rw [ht]; exact hP.sub [0, 1] rfl, hD.sub [0, 1] (by decide) rfl⟩, hS.F ht⟩) hS.2.2 dX9_next_135 hlk
                      · skip
                        refine xc_Sr hF (c_X9_isDigit l D cI cJ cZ cS ta sa sv H.size (-1) ) ks_X9_263 ⟨rfl, rfl, Nat.le_of_ble_eq_true rfl, Nat.le_of_ble_eq_true rfl⟩ ⟨Nat.le_of_ble_eq_true rfl, Nat.le_of_ble_eq_true rfl⟩ hK hN hZ hP hD hS hA [] rfl rfl rfl hl.1 rfl (Nat.le_of_ble_eq_true rfl) dX9_next_116 (fun r_341 hw_r_341 => ?_)
                        rcases hw_r_341 with ⟨rfl, h_342, h_343⟩ | ⟨rfl, h_344⟩
                        · exact absurd (by decide) h_342
                        · skip
                          refine lv_if_eq (tgt := 135) hx hb dX9_next_119 (by decide) (fun c_345 => ?_) (fun c_345 => absurd (by decide) c_345)
                          exact W.vret hx hb hr (fun t ht hW => ⟨⟨(f8, t8), rfl, ⟨(by first | assumption | omega), (by first | assumption | omega), (by first | assumption | omega), (by first | assumption | omega), (by first | assumption | omega)⟩, by rw [ht]; exact hP.sub [0, 1] rfl, hD.sub [0, 1] (by decide) rfl⟩, hS.F ht⟩) hS.2.2 dX9_next_135 hlk
                  · skip
                    refine xc_Sr hF (c_X9_isLetterF l D cI cJ cZ cS ta sa sv H.size (-1) ) ks_X9_260 ⟨rfl, rfl, Nat.le_of_ble_eq_true rfl, Nat.le_of_ble_eq_true rfl⟩ ⟨Nat.le_of_ble_eq_true rfl, Nat.le_of_ble_eq_true rfl⟩ hK hN hZ hP hD hS hA [] rfl rfl rfl hl.1 rfl (Nat.le_of_ble_eq_true rfl) dX9_next_98 (fun r_346 hw_r_346 => ?_)
                    rcases hw_r_346 with ⟨rfl, h_347⟩ | rfl
                    · exact absurd (by decide) h_347
                    · skip
                      refine lv_if_ne (tgt := 122) hx hb dX9_next_101 (by decide) (fun c_348 => absurd (by decide) c_348) (fun c_348 => ?_)
                      refine lv_iload_n hx hb dX9_next_104 rfl (lv_at hl 0 rfl) ?_
                      refine lv_if_eq (tgt := 135) hx hb dX9_next_105 (by decide) (fun c_349 => absurd c_349 (by decide)) (fun c_349 => ?_)
                      refine lv_aload_n hx hb dX9_next_108 rfl (lv_at hl 2 rfl) ?_
                      refine lv_aload_n hx hb dX9_next_109 rfl (lv_at hl 2 rfl) ?_
                      refine xg hF kf_X9_251 hK hP 0 rfl rfl dX9_next_110 ?_
                      refine xc_Vr hF (c_X9_byteAt l D cI cJ cZ cS ta sa sv H.size h0 ys yk yo yt mk0 yfa yfe mL mS mM yro yhe ygr mF mC mY yta mz f8 t8 mv mw ywa ybi ysi ynu ymo tp t8 (by omega) (by omega)) kv_X9_257 ⟨rfl, rfl, Nat.le_of_ble_eq_true rfl, Nat.le_of_ble_eq_true rfl⟩ ⟨Nat.le_of_ble_eq_true rfl, Nat.le_of_ble_eq_true rfl⟩ hK hN hZ hP hD hS hA [0, 1] rfl rfl 0 rfl rfl rfl rfl hl.1 rfl (Nat.le_of_ble_eq_true rfl) dX9_next_113 (fun r_350 hw_r_350 => ?_)
                      rcases hw_r_350 with ⟨rfl, h_351⟩ | ⟨rfl, h_352⟩
                      · skip
                        refine xc_Sr hF (c_X9_isDigit l D cI cJ cZ cS ta sa sv H.size (tp t8) ) ks_X9_263 ⟨rfl, rfl, Nat.le_of_ble_eq_true rfl, Nat.le_of_ble_eq_true rfl⟩ ⟨Nat.le_of_ble_eq_true rfl, Nat.le_of_ble_eq_true rfl⟩ hK hN hZ hP hD hS hA [] rfl rfl rfl hl.1 rfl (Nat.le_of_ble_eq_true rfl) dX9_next_116 (fun r_353 hw_r_353 => ?_)
                        rcases hw_r_353 with ⟨rfl, h_354, h_355⟩ | ⟨rfl, h_356⟩
                        · skip
                          refine lv_if_eq (tgt := 135) hx hb dX9_next_119 (by decide) (fun c_357 => absurd c_357 (by decide)) (fun c_357 => ?_)
                          refine lv_aload_n hx hb dX9_next_122 rfl (lv_at hl 2 rfl) ?_
                          refine lv_dup hx hb dX9_next_123 rfl ?_
                          refine xg hF kf_X9_251 hK hP 0 rfl rfl dX9_next_124 ?_
                          refine lv_iconst (v := 1) hx hb dX9_next_127 (by decide) ?_
                          refine lv_iadd hx hb dX9_next_128 ?_
                          refine xl_i (y := nI (t8 + 1)) (nI_add t8 1) ?_
                          refine xp hF kf_X9_251 tyX9_ok nmX9 hK hP hD hS 0 rfl rfl rfl rfl (Nat.le_of_ble_eq_true rfl) dX9_next_129 (fun H locs hP hD hS => ?_)
                          have hP : va_P D vwCl [(h0, .inr (9, [.ref ys, .ref yk, .ref yo, .ref yt, .int mk0, .ref yfa, .ref yfe, .int mL, .int mS, .int mM, .ref yro, .ref yhe, .ref ygr, .int mF, .int mC, .int mY, .ref yta, .int (nI (mz)), .int (nI (f8)), .int (nI (t8 + 1)), .int mv, .int mw, .ref ywa, .ref ybi, .ref ysi, .ref ynu, .ref ymo])), (yta, .inl (cI, 120, .inl tp))] H := hP
                          have hD : va_D A [(h0, .inr (9, [.ref ys, .ref yk, .ref yo, .ref yt, .int mk0, .ref yfa, .ref yfe, .int mL, .int mS, .int mM, .ref yro, .ref yhe, .ref ygr, .int mF, .int mC, .int mY, .ref yta, .int (nI (mz)), .int (nI (f8)), .int (nI (t8 + 1)), .int mv, .int mw, .ref ywa, .ref ybi, .ref ysi, .ref ynu, .ref ymo])), (yta, .inl (cI, 120, .inl tp))] := hD
                          refine lv_goto (tgt := 86) hx hb dX9_next_132 (by decide) ?_
                          exact ih_86 (t8 + 1) _ _ _ (by omega) (by omega) (by omega) (by omega) (hP.sub [0, 1] rfl) (hD.sub [0, 1] (by decide) rfl) hS (lv_sub hl [0, 1, 2] rfl)
                        · skip
                          refine lv_if_eq (tgt := 135) hx hb dX9_next_119 (by decide) (fun c_358 => ?_) (fun c_358 => absurd (by decide) c_358)
                          exact W.vret hx hb hr (fun t ht hW => ⟨⟨(f8, t8), rfl, ⟨(by first | assumption | omega), (by first | assumption | omega), (by first | assumption | omega), (by first | assumption | omega), (by first | assumption | omega)⟩, by rw [ht]; exact hP.sub [0, 1] rfl, hD.sub [0, 1] (by decide) rfl⟩, hS.F ht⟩) hS.2.2 dX9_next_135 hlk
                      · skip
                        refine xc_Sr hF (c_X9_isDigit l D cI cJ cZ cS ta sa sv H.size (-1) ) ks_X9_263 ⟨rfl, rfl, Nat.le_of_ble_eq_true rfl, Nat.le_of_ble_eq_true rfl⟩ ⟨Nat.le_of_ble_eq_true rfl, Nat.le_of_ble_eq_true rfl⟩ hK hN hZ hP hD hS hA [] rfl rfl rfl hl.1 rfl (Nat.le_of_ble_eq_true rfl) dX9_next_116 (fun r_359 hw_r_359 => ?_)
                        rcases hw_r_359 with ⟨rfl, h_360, h_361⟩ | ⟨rfl, h_362⟩
                        · exact absurd (by decide) h_360
                        · skip
                          refine lv_if_eq (tgt := 135) hx hb dX9_next_119 (by decide) (fun c_363 => ?_) (fun c_363 => absurd (by decide) c_363)
                          exact W.vret hx hb hr (fun t ht hW => ⟨⟨(f8, t8), rfl, ⟨(by first | assumption | omega), (by first | assumption | omega), (by first | assumption | omega), (by first | assumption | omega), (by first | assumption | omega)⟩, by rw [ht]; exact hP.sub [0, 1] rfl, hD.sub [0, 1] (by decide) rfl⟩, hS.F ht⟩) hS.2.2 dX9_next_135 hlk
            · skip
              refine lv_istore_n (lv' := [(2, .int 0), (1, .int 1), (0, .ref h0)]) hx hb dX9_next_57 rfl hl (by decide) rfl (fun ls hl => ?_)
              refine lv_aload_n hx hb dX9_next_58 rfl (lv_at hl 2 rfl) ?_
              refine lv_aload_n hx hb dX9_next_59 rfl (lv_at hl 2 rfl) ?_
              refine xg hF kf_X9_254 hK hP 0 rfl rfl dX9_next_60 ?_
              refine lv_aload_n hx hb dX9_next_63 rfl (lv_at hl 2 rfl) ?_
              refine xg hF kf_X9_240 hK hP 0 rfl rfl dX9_next_64 ?_
              refine lv_icmp_ge (tgt := 79) hx hb dX9_next_67 (by decide) (fun c_364 => ?_) (fun c_364 => ?_)
              · skip
                have nc_364 : mz ≤ f8 := xn_le (a := mz) (b := f8) (by omega) (by omega) c_364
                refine lv_aload_n hx hb dX9_next_79 rfl (lv_at hl 2 rfl) ?_
                refine xg hF kf_X9_254 hK hP 0 rfl rfl dX9_next_80 ?_
                refine xp hF kf_X9_251 tyX9_ok nmX9 hK hP hD hS 0 rfl rfl rfl rfl (Nat.le_of_ble_eq_true rfl) dX9_next_83 (fun H locs hP hD hS => ?_)
                have hP : va_P D vwCl [(h0, .inr (9, [.ref ys, .ref yk, .ref yo, .ref yt, .int mk0, .ref yfa, .ref yfe, .int mL, .int mS, .int mM, .ref yro, .ref yhe, .ref ygr, .int mF, .int mC, .int mY, .ref yta, .int (nI (mz)), .int (nI (f8)), .int (nI (f8)), .int mv, .int mw, .ref ywa, .ref ybi, .ref ysi, .ref ynu, .ref ymo])), (yta, .inl (cI, 120, .inl tp))] H := hP
                have hD : va_D A [(h0, .inr (9, [.ref ys, .ref yk, .ref yo, .ref yt, .int mk0, .ref yfa, .ref yfe, .int mL, .int mS, .int mM, .ref yro, .ref yhe, .ref ygr, .int mF, .int mC, .int mY, .ref yta, .int (nI (mz)), .int (nI (f8)), .int (nI (f8)), .int mv, .int mw, .ref ywa, .ref ybi, .ref ysi, .ref ynu, .ref ymo])), (yta, .inl (cI, 120, .inl tp))] := hD
                suffices loop_86 : ∀ (n_86 : Nat) (t8 : Nat) (H : Heap) (locs : List Loc) (ls : Array Slot), mz - t8 < n_86 → (t8 ≤ mz) → (f8 ≤ t8) → (f8 < t8 ∨ f8 = mz) → va_P D vwCl [(h0, .inr (9, [.ref ys, .ref yk, .ref yo, .ref yt, .int mk0, .ref yfa, .ref yfe, .int mL, .int mS, .int mM, .ref yro, .ref yhe, .ref ygr, .int mF, .int mC, .int mY, .ref yta, .int (nI (mz)), .int (nI (f8)), .int (nI (t8)), .int mv, .int mw, .ref ywa, .ref ybi, .ref ysi, .ref ynu, .ref ymo])), (yta, .inl (cI, 120, .inl tp))] H → va_D A [(h0, .inr (9, [.ref ys, .ref yk, .ref yo, .ref yt, .int mk0, .ref yfa, .ref yfe, .int mL, .int mS, .int mM, .ref yro, .ref yhe, .ref ygr, .int mF, .int mC, .int mY, .ref yta, .int (nI (mz)), .int (nI (f8)), .int (nI (t8)), .int mv, .int mw, .ref ywa, .ref ybi, .ref ysi, .ref ynu, .ref ymo])), (yta, .inl (cI, 120, .inl tp))] → va_S A s.heap H locs → lv_has ls 3 [(2, .int 0), (1, .int 1), (0, .ref h0)] → W p l e ({ frames := 2, cells := 0, slots := 0, locals := 45 }) s m ([.ref h0] : List Value).toArray below meth c H locs 0 0 (MQ below (XQv (fun (u : Nat × Nat) => match u with | (f2, t2) => (f2 ≤ mz) ∧ (t2 ≤ mz) ∧ (f2 ≤ t2) ∧ (f2 < t2 ∨ f2 = mz) ∧ (mt ≤ f2)) D (fun (u : Nat × Nat) => match u with | (f2, t2) => [(h0, .inr (9, [.ref ys, .ref yk, .ref yo, .ref yt, .int mk0, .ref yfa, .ref yfe, .int mL, .int mS, .int mM, .ref yro, .ref yhe, .ref ygr, .int mF, .int mC, .int mY, .ref yta, .int (nI (mz)), .int (nI (f2)), .int (nI (t2)), .int mv, .int mw, .ref ywa, .ref ybi, .ref ysi, .ref ynu, .ref ymo])), (yta, .inl (cI, 120, .inl tp))]) A) ([.ref h0] : List Value).toArray s 0 0 A) (F0 m 86 ls []) by
                  exact loop_86 _ f8 _ _ _ (Nat.lt_succ_self _) (by omega) (by omega) (by omega) hP hD hS (lv_sub hl [0, 1, 2] rfl)
                intro n_86
                induction n_86 with
                | zero =>
                  intro t8 H locs ls hm_86
                  exact absurd hm_86 (Nat.not_lt_zero _)
                | succ n_86 ih_86 =>
                  intro t8 H locs ls hm_86 ht8 hu8 hv8 hP hD hS hl
                  refine lv_iload_n hx hb dX9_next_86 rfl (lv_at hl 1 rfl) ?_
                  refine lv_if_eq (tgt := 104) hx hb dX9_next_87 (by decide) (fun c_365 => absurd c_365 (by decide)) (fun c_365 => ?_)
                  refine lv_aload_n hx hb dX9_next_90 rfl (lv_at hl 2 rfl) ?_
                  refine lv_aload_n hx hb dX9_next_91 rfl (lv_at hl 2 rfl) ?_
                  refine xg hF kf_X9_251 hK hP 0 rfl rfl dX9_next_92 ?_
                  refine xc_Vr hF (c_X9_byteAt l D cI cJ cZ cS ta sa sv H.size h0 ys yk yo yt mk0 yfa yfe mL mS mM yro yhe ygr mF mC mY yta mz f8 t8 mv mw ywa ybi ysi ynu ymo tp t8 (by omega) (by omega)) kv_X9_257 ⟨rfl, rfl, Nat.le_of_ble_eq_true rfl, Nat.le_of_ble_eq_true rfl⟩ ⟨Nat.le_of_ble_eq_true rfl, Nat.le_of_ble_eq_true rfl⟩ hK hN hZ hP hD hS hA [0, 1] rfl rfl 0 rfl rfl rfl rfl hl.1 rfl (Nat.le_of_ble_eq_true rfl) dX9_next_95 (fun r_366 hw_r_366 => ?_)
                  rcases hw_r_366 with ⟨rfl, h_367⟩ | ⟨rfl, h_368⟩
                  · skip
                    refine xc_Sr hF (c_X9_isLetterF l D cI cJ cZ cS ta sa sv H.size (tp t8) ) ks_X9_260 ⟨rfl, rfl, Nat.le_of_ble_eq_true rfl, Nat.le_of_ble_eq_true rfl⟩ ⟨Nat.le_of_ble_eq_true rfl, Nat.le_of_ble_eq_true rfl⟩ hK hN hZ hP hD hS hA [] rfl rfl rfl hl.1 rfl (Nat.le_of_ble_eq_true rfl) dX9_next_98 (fun r_369 hw_r_369 => ?_)
                    rcases hw_r_369 with ⟨rfl, h_370⟩ | rfl
                    · skip
                      refine lv_if_ne (tgt := 122) hx hb dX9_next_101 (by decide) (fun c_371 => ?_) (fun c_371 => absurd c_371 (by decide))
                      refine lv_aload_n hx hb dX9_next_122 rfl (lv_at hl 2 rfl) ?_
                      refine lv_dup hx hb dX9_next_123 rfl ?_
                      refine xg hF kf_X9_251 hK hP 0 rfl rfl dX9_next_124 ?_
                      refine lv_iconst (v := 1) hx hb dX9_next_127 (by decide) ?_
                      refine lv_iadd hx hb dX9_next_128 ?_
                      refine xl_i (y := nI (t8 + 1)) (nI_add t8 1) ?_
                      refine xp hF kf_X9_251 tyX9_ok nmX9 hK hP hD hS 0 rfl rfl rfl rfl (Nat.le_of_ble_eq_true rfl) dX9_next_129 (fun H locs hP hD hS => ?_)
                      have hP : va_P D vwCl [(h0, .inr (9, [.ref ys, .ref yk, .ref yo, .ref yt, .int mk0, .ref yfa, .ref yfe, .int mL, .int mS, .int mM, .ref yro, .ref yhe, .ref ygr, .int mF, .int mC, .int mY, .ref yta, .int (nI (mz)), .int (nI (f8)), .int (nI (t8 + 1)), .int mv, .int mw, .ref ywa, .ref ybi, .ref ysi, .ref ynu, .ref ymo])), (yta, .inl (cI, 120, .inl tp))] H := hP
                      have hD : va_D A [(h0, .inr (9, [.ref ys, .ref yk, .ref yo, .ref yt, .int mk0, .ref yfa, .ref yfe, .int mL, .int mS, .int mM, .ref yro, .ref yhe, .ref ygr, .int mF, .int mC, .int mY, .ref yta, .int (nI (mz)), .int (nI (f8)), .int (nI (t8 + 1)), .int mv, .int mw, .ref ywa, .ref ybi, .ref ysi, .ref ynu, .ref ymo])), (yta, .inl (cI, 120, .inl tp))] := hD
                      refine lv_goto (tgt := 86) hx hb dX9_next_132 (by decide) ?_
                      exact ih_86 (t8 + 1) _ _ _ (by omega) (by omega) (by omega) (by omega) (hP.sub [0, 1] rfl) (hD.sub [0, 1] (by decide) rfl) hS (lv_sub hl [0, 1, 2] rfl)
                    · skip
                      refine lv_if_ne (tgt := 122) hx hb dX9_next_101 (by decide) (fun c_372 => absurd (by decide) c_372) (fun c_372 => ?_)
                      refine lv_iload_n hx hb dX9_next_104 rfl (lv_at hl 0 rfl) ?_
                      refine lv_if_eq (tgt := 135) hx hb dX9_next_105 (by decide) (fun c_373 => ?_) (fun c_373 => absurd (by decide) c_373)
                      exact W.vret hx hb hr (fun t ht hW => ⟨⟨(f8, t8), rfl, ⟨(by first | assumption | omega), (by first | assumption | omega), (by first | assumption | omega), (by first | assumption | omega), (by first | assumption | omega)⟩, by rw [ht]; exact hP.sub [0, 1] rfl, hD.sub [0, 1] (by decide) rfl⟩, hS.F ht⟩) hS.2.2 dX9_next_135 hlk
                  · skip
                    refine xc_Sr hF (c_X9_isLetterF l D cI cJ cZ cS ta sa sv H.size (-1) ) ks_X9_260 ⟨rfl, rfl, Nat.le_of_ble_eq_true rfl, Nat.le_of_ble_eq_true rfl⟩ ⟨Nat.le_of_ble_eq_true rfl, Nat.le_of_ble_eq_true rfl⟩ hK hN hZ hP hD hS hA [] rfl rfl rfl hl.1 rfl (Nat.le_of_ble_eq_true rfl) dX9_next_98 (fun r_374 hw_r_374 => ?_)
                    rcases hw_r_374 with ⟨rfl, h_375⟩ | rfl
                    · exact absurd (by decide) h_375
                    · skip
                      refine lv_if_ne (tgt := 122) hx hb dX9_next_101 (by decide) (fun c_376 => absurd (by decide) c_376) (fun c_376 => ?_)
                      refine lv_iload_n hx hb dX9_next_104 rfl (lv_at hl 0 rfl) ?_
                      refine lv_if_eq (tgt := 135) hx hb dX9_next_105 (by decide) (fun c_377 => ?_) (fun c_377 => absurd (by decide) c_377)
                      exact W.vret hx hb hr (fun t ht hW => ⟨⟨(f8, t8), rfl, ⟨(by first | assumption | omega), (by first | assumption | omega), (by first | assumption | omega), (by first | assumption | omega), (by first | assumption | omega)⟩, by rw [ht]; exact hP.sub [0, 1] rfl, hD.sub [0, 1] (by decide) rfl⟩, hS.F ht⟩) hS.2.2 dX9_next_135 hlk
              · skip
                have nc_364 : f8 < mz := xn_nle (a := mz) (b := f8) (by omega) (by omega) c_364
                refine lv_aload_n hx hb dX9_next_70 rfl (lv_at hl 2 rfl) ?_
                refine xg hF kf_X9_254 hK hP 0 rfl rfl dX9_next_71 ?_
                refine lv_iconst (v := 1) hx hb dX9_next_74 (by decide) ?_
                refine lv_iadd hx hb dX9_next_75 ?_
                refine xl_i (y := nI (f8 + 1)) (nI_add f8 1) ?_
                refine lv_goto (tgt := 83) hx hb dX9_next_76 (by decide) ?_
                refine xp hF kf_X9_251 tyX9_ok nmX9 hK hP hD hS 0 rfl rfl rfl rfl (Nat.le_of_ble_eq_true rfl) dX9_next_83 (fun H locs hP hD hS => ?_)
                have hP : va_P D vwCl [(h0, .inr (9, [.ref ys, .ref yk, .ref yo, .ref yt, .int mk0, .ref yfa, .ref yfe, .int mL, .int mS, .int mM, .ref yro, .ref yhe, .ref ygr, .int mF, .int mC, .int mY, .ref yta, .int (nI (mz)), .int (nI (f8)), .int (nI (f8 + 1)), .int mv, .int mw, .ref ywa, .ref ybi, .ref ysi, .ref ynu, .ref ymo])), (yta, .inl (cI, 120, .inl tp))] H := hP
                have hD : va_D A [(h0, .inr (9, [.ref ys, .ref yk, .ref yo, .ref yt, .int mk0, .ref yfa, .ref yfe, .int mL, .int mS, .int mM, .ref yro, .ref yhe, .ref ygr, .int mF, .int mC, .int mY, .ref yta, .int (nI (mz)), .int (nI (f8)), .int (nI (f8 + 1)), .int mv, .int mw, .ref ywa, .ref ybi, .ref ysi, .ref ynu, .ref ymo])), (yta, .inl (cI, 120, .inl tp))] := hD
                suffices loop_86 : ∀ (n_86 : Nat) (t8 : Nat) (H : Heap) (locs : List Loc) (ls : Array Slot), mz - t8 < n_86 → (t8 ≤ mz) → (f8 ≤ t8) → (f8 < t8 ∨ f8 = mz) → va_P D vwCl [(h0, .inr (9, [.ref ys, .ref yk, .ref yo, .ref yt, .int mk0, .ref yfa, .ref yfe, .int mL, .int mS, .int mM, .ref yro, .ref yhe, .ref ygr, .int mF, .int mC, .int mY, .ref yta, .int (nI (mz)), .int (nI (f8)), .int (nI (t8)), .int mv, .int mw, .ref ywa, .ref ybi, .ref ysi, .ref ynu, .ref ymo])), (yta, .inl (cI, 120, .inl tp))] H → va_D A [(h0, .inr (9, [.ref ys, .ref yk, .ref yo, .ref yt, .int mk0, .ref yfa, .ref yfe, .int mL, .int mS, .int mM, .ref yro, .ref yhe, .ref ygr, .int mF, .int mC, .int mY, .ref yta, .int (nI (mz)), .int (nI (f8)), .int (nI (t8)), .int mv, .int mw, .ref ywa, .ref ybi, .ref ysi, .ref ynu, .ref ymo])), (yta, .inl (cI, 120, .inl tp))] → va_S A s.heap H locs → lv_has ls 3 [(2, .int 0), (1, .int 1), (0, .ref h0)] → W p l e ({ frames := 2, cells := 0, slots := 0, locals := 45 }) s m ([.ref h0] : List Value).toArray below meth c H locs 0 0 (MQ below (XQv (fun (u : Nat × Nat) => match u with | (f2, t2) => (f2 ≤ mz) ∧ (t2 ≤ mz) ∧ (f2 ≤ t2) ∧ (f2 < t2 ∨ f2 = mz) ∧ (mt ≤ f2)) D (fun (u : Nat × Nat) => match u with | (f2, t2) => [(h0, .inr (9, [.ref ys, .ref yk, .ref yo, .ref yt, .int mk0, .ref yfa, .ref yfe, .int mL, .int mS, .int mM, .ref yro, .ref yhe, .ref ygr, .int mF, .int mC, .int mY, .ref yta, .int (nI (mz)), .int (nI (f2)), .int (nI (t2)), .int mv, .int mw, .ref ywa, .ref ybi, .ref ysi, .ref ynu, .ref ymo])), (yta, .inl (cI, 120, .inl tp))]) A) ([.ref h0] : List Value).toArray s 0 0 A) (F0 m 86 ls []) by
                  exact loop_86 _ (f8 + 1) _ _ _ (Nat.lt_succ_self _) (by omega) (by omega) (by omega) hP hD hS (lv_sub hl [0, 1, 2] rfl)
                intro n_86
                induction n_86 with
                | zero =>
                  intro t8 H locs ls hm_86
                  exact absurd hm_86 (Nat.not_lt_zero _)
                | succ n_86 ih_86 =>
                  intro t8 H locs ls hm_86 ht8 hu8 hv8 hP hD hS hl
                  refine lv_iload_n hx hb dX9_next_86 rfl (lv_at hl 1 rfl) ?_
                  refine lv_if_eq (tgt := 104) hx hb dX9_next_87 (by decide) (fun c_378 => absurd c_378 (by decide)) (fun c_378 => ?_)
                  refine lv_aload_n hx hb dX9_next_90 rfl (lv_at hl 2 rfl) ?_
                  refine lv_aload_n hx hb dX9_next_91 rfl (lv_at hl 2 rfl) ?_
                  refine xg hF kf_X9_251 hK hP 0 rfl rfl dX9_next_92 ?_
                  refine xc_Vr hF (c_X9_byteAt l D cI cJ cZ cS ta sa sv H.size h0 ys yk yo yt mk0 yfa yfe mL mS mM yro yhe ygr mF mC mY yta mz f8 t8 mv mw ywa ybi ysi ynu ymo tp t8 (by omega) (by omega)) kv_X9_257 ⟨rfl, rfl, Nat.le_of_ble_eq_true rfl, Nat.le_of_ble_eq_true rfl⟩ ⟨Nat.le_of_ble_eq_true rfl, Nat.le_of_ble_eq_true rfl⟩ hK hN hZ hP hD hS hA [0, 1] rfl rfl 0 rfl rfl rfl rfl hl.1 rfl (Nat.le_of_ble_eq_true rfl) dX9_next_95 (fun r_379 hw_r_379 => ?_)
                  rcases hw_r_379 with ⟨rfl, h_380⟩ | ⟨rfl, h_381⟩
                  · skip
                    refine xc_Sr hF (c_X9_isLetterF l D cI cJ cZ cS ta sa sv H.size (tp t8) ) ks_X9_260 ⟨rfl, rfl, Nat.le_of_ble_eq_true rfl, Nat.le_of_ble_eq_true rfl⟩ ⟨Nat.le_of_ble_eq_true rfl, Nat.le_of_ble_eq_true rfl⟩ hK hN hZ hP hD hS hA [] rfl rfl rfl hl.1 rfl (Nat.le_of_ble_eq_true rfl) dX9_next_98 (fun r_382 hw_r_382 => ?_)
                    rcases hw_r_382 with ⟨rfl, h_383⟩ | rfl
                    · skip
                      refine lv_if_ne (tgt := 122) hx hb dX9_next_101 (by decide) (fun c_384 => ?_) (fun c_384 => absurd c_384 (by decide))
                      refine lv_aload_n hx hb dX9_next_122 rfl (lv_at hl 2 rfl) ?_
                      refine lv_dup hx hb dX9_next_123 rfl ?_
                      refine xg hF kf_X9_251 hK hP 0 rfl rfl dX9_next_124 ?_
                      refine lv_iconst (v := 1) hx hb dX9_next_127 (by decide) ?_
                      refine lv_iadd hx hb dX9_next_128 ?_
                      refine xl_i (y := nI (t8 + 1)) (nI_add t8 1) ?_
                      refine xp hF kf_X9_251 tyX9_ok nmX9 hK hP hD hS 0 rfl rfl rfl rfl (Nat.le_of_ble_eq_true rfl) dX9_next_129 (fun H locs hP hD hS => ?_)
                      have hP : va_P D vwCl [(h0, .inr (9, [.ref ys, .ref yk, .ref yo, .ref yt, .int mk0, .ref yfa, .ref yfe, .int mL, .int mS, .int mM, .ref yro, .ref yhe, .ref ygr, .int mF, .int mC, .int mY, .ref yta, .int (nI (mz)), .int (nI (f8)), .int (nI (t8 + 1)), .int mv, .int mw, .ref ywa, .ref ybi, .ref ysi, .ref ynu, .ref ymo])), (yta, .inl (cI, 120, .inl tp))] H := hP
                      have hD : va_D A [(h0, .inr (9, [.ref ys, .ref yk, .ref yo, .ref yt, .int mk0, .ref yfa, .ref yfe, .int mL, .int mS, .int mM, .ref yro, .ref yhe, .ref ygr, .int mF, .int mC, .int mY, .ref yta, .int (nI (mz)), .int (nI (f8)), .int (nI (t8 + 1)), .int mv, .int mw, .ref ywa, .ref ybi, .ref ysi, .ref ynu, .ref ymo])), (yta, .inl (cI, 120, .inl tp))] := hD
                      refine lv_goto (tgt := 86) hx hb dX9_next_132 (by decide) ?_
                      exact ih_86 (t8 + 1) _ _ _ (by omega) (by omega) (by omega) (by omega) (hP.sub [0, 1] rfl) (hD.sub [0, 1] (by decide) rfl) hS (lv_sub hl [0, 1, 2] rfl)
                    · skip
                      refine lv_if_ne (tgt := 122) hx hb dX9_next_101 (by decide) (fun c_385 => absurd (by decide) c_385) (fun c_385 => ?_)
                      refine lv_iload_n hx hb dX9_next_104 rfl (lv_at hl 0 rfl) ?_
                      refine lv_if_eq (tgt := 135) hx hb dX9_next_105 (by decide) (fun c_386 => ?_) (fun c_386 => absurd (by decide) c_386)
                      exact W.vret hx hb hr (fun t ht hW => ⟨⟨(f8, t8), rfl, ⟨(by first | assumption | omega), (by first | assumption | omega), (by first | assumption | omega), (by first | assumption | omega), (by first | assumption | omega)⟩, by rw [ht]; exact hP.sub [0, 1] rfl, hD.sub [0, 1] (by decide) rfl⟩, hS.F ht⟩) hS.2.2 dX9_next_135 hlk
                  · skip
                    refine xc_Sr hF (c_X9_isLetterF l D cI cJ cZ cS ta sa sv H.size (-1) ) ks_X9_260 ⟨rfl, rfl, Nat.le_of_ble_eq_true rfl, Nat.le_of_ble_eq_true rfl⟩ ⟨Nat.le_of_ble_eq_true rfl, Nat.le_of_ble_eq_true rfl⟩ hK hN hZ hP hD hS hA [] rfl rfl rfl hl.1 rfl (Nat.le_of_ble_eq_true rfl) dX9_next_98 (fun r_387 hw_r_387 => ?_)
                    rcases hw_r_387 with ⟨rfl, h_388⟩ | rfl
                    · exact absurd (by decide) h_388
                    · skip
                      refine lv_if_ne (tgt := 122) hx hb dX9_next_101 (by decide) (fun c_389 => absurd (by decide) c_389) (fun c_389 => ?_)
                      refine lv_iload_n hx hb dX9_next_104 rfl (lv_at hl 0 rfl) ?_
                      refine lv_if_eq (tgt := 135) hx hb dX9_next_105 (by decide) (fun c_390 => ?_) (fun c_390 => absurd (by decide) c_390)
                      exact W.vret hx hb hr (fun t ht hW => ⟨⟨(f8, t8), rfl, ⟨(by first | assumption | omega), (by first | assumption | omega), (by first | assumption | omega), (by first | assumption | omega), (by first | assumption | omega)⟩, by rw [ht]; exact hP.sub [0, 1] rfl, hD.sub [0, 1] (by decide) rfl⟩, hS.F ht⟩) hS.2.2 dX9_next_135 hlk
          · skip
            refine xc_Sr hF (c_X9_isDigit l D cI cJ cZ cS ta sa sv H.size (-1) ) ks_X9_263 ⟨rfl, rfl, Nat.le_of_ble_eq_true rfl, Nat.le_of_ble_eq_true rfl⟩ ⟨Nat.le_of_ble_eq_true rfl, Nat.le_of_ble_eq_true rfl⟩ hK hN hZ hP hD hS hA [] rfl rfl rfl hl.1 rfl (Nat.le_of_ble_eq_true rfl) dX9_next_54 (fun r_391 hw_r_391 => ?_)
            rcases hw_r_391 with ⟨rfl, h_392, h_393⟩ | ⟨rfl, h_394⟩
            · exact absurd (by decide) h_392
            · skip
              refine lv_istore_n (lv' := [(2, .int 0), (1, .int 1), (0, .ref h0)]) hx hb dX9_next_57 rfl hl (by decide) rfl (fun ls hl => ?_)
              refine lv_aload_n hx hb dX9_next_58 rfl (lv_at hl 2 rfl) ?_
              refine lv_aload_n hx hb dX9_next_59 rfl (lv_at hl 2 rfl) ?_
              refine xg hF kf_X9_254 hK hP 0 rfl rfl dX9_next_60 ?_
              refine lv_aload_n hx hb dX9_next_63 rfl (lv_at hl 2 rfl) ?_
              refine xg hF kf_X9_240 hK hP 0 rfl rfl dX9_next_64 ?_
              refine lv_icmp_ge (tgt := 79) hx hb dX9_next_67 (by decide) (fun c_395 => ?_) (fun c_395 => ?_)
              · skip
                have nc_395 : mz ≤ f8 := xn_le (a := mz) (b := f8) (by omega) (by omega) c_395
                refine lv_aload_n hx hb dX9_next_79 rfl (lv_at hl 2 rfl) ?_
                refine xg hF kf_X9_254 hK hP 0 rfl rfl dX9_next_80 ?_
                refine xp hF kf_X9_251 tyX9_ok nmX9 hK hP hD hS 0 rfl rfl rfl rfl (Nat.le_of_ble_eq_true rfl) dX9_next_83 (fun H locs hP hD hS => ?_)
                have hP : va_P D vwCl [(h0, .inr (9, [.ref ys, .ref yk, .ref yo, .ref yt, .int mk0, .ref yfa, .ref yfe, .int mL, .int mS, .int mM, .ref yro, .ref yhe, .ref ygr, .int mF, .int mC, .int mY, .ref yta, .int (nI (mz)), .int (nI (f8)), .int (nI (f8)), .int mv, .int mw, .ref ywa, .ref ybi, .ref ysi, .ref ynu, .ref ymo])), (yta, .inl (cI, 120, .inl tp))] H := hP
                have hD : va_D A [(h0, .inr (9, [.ref ys, .ref yk, .ref yo, .ref yt, .int mk0, .ref yfa, .ref yfe, .int mL, .int mS, .int mM, .ref yro, .ref yhe, .ref ygr, .int mF, .int mC, .int mY, .ref yta, .int (nI (mz)), .int (nI (f8)), .int (nI (f8)), .int mv, .int mw, .ref ywa, .ref ybi, .ref ysi, .ref ynu, .ref ymo])), (yta, .inl (cI, 120, .inl tp))] := hD
                suffices loop_86 : ∀ (n_86 : Nat) (t8 : Nat) (H : Heap) (locs : List Loc) (ls : Array Slot), mz - t8 < n_86 → (t8 ≤ mz) → (f8 ≤ t8) → (f8 < t8 ∨ f8 = mz) → va_P D vwCl [(h0, .inr (9, [.ref ys, .ref yk, .ref yo, .ref yt, .int mk0, .ref yfa, .ref yfe, .int mL, .int mS, .int mM, .ref yro, .ref yhe, .ref ygr, .int mF, .int mC, .int mY, .ref yta, .int (nI (mz)), .int (nI (f8)), .int (nI (t8)), .int mv, .int mw, .ref ywa, .ref ybi, .ref ysi, .ref ynu, .ref ymo])), (yta, .inl (cI, 120, .inl tp))] H → va_D A [(h0, .inr (9, [.ref ys, .ref yk, .ref yo, .ref yt, .int mk0, .ref yfa, .ref yfe, .int mL, .int mS, .int mM, .ref yro, .ref yhe, .ref ygr, .int mF, .int mC, .int mY, .ref yta, .int (nI (mz)), .int (nI (f8)), .int (nI (t8)), .int mv, .int mw, .ref ywa, .ref ybi, .ref ysi, .ref ynu, .ref ymo])), (yta, .inl (cI, 120, .inl tp))] → va_S A s.heap H locs → lv_has ls 3 [(2, .int 0), (1, .int 1), (0, .ref h0)] → W p l e ({ frames := 2, cells := 0, slots := 0, locals := 45 }) s m ([.ref h0] : List Value).toArray below meth c H locs 0 0 (MQ below (XQv (fun (u : Nat × Nat) => match u with | (f2, t2) => (f2 ≤ mz) ∧ (t2 ≤ mz) ∧ (f2 ≤ t2) ∧ (f2 < t2 ∨ f2 = mz) ∧ (mt ≤ f2)) D (fun (u : Nat × Nat) => match u with | (f2, t2) => [(h0, .inr (9, [.ref ys, .ref yk, .ref yo, .ref yt, .int mk0, .ref yfa, .ref yfe, .int mL, .int mS, .int mM, .ref yro, .ref yhe, .ref ygr, .int mF, .int mC, .int mY, .ref yta, .int (nI (mz)), .int (nI (f2)), .int (nI (t2)), .int mv, .int mw, .ref ywa, .ref ybi, .ref ysi, .ref ynu, .ref ymo])), (yta, .inl (cI, 120, .inl tp))]) A) ([.ref h0] : List Value).toArray s 0 0 A) (F0 m 86 ls []) by
                  exact loop_86 _ f8 _ _ _ (Nat.lt_succ_self _) (by omega) (by omega) (by omega) hP hD hS (lv_sub hl [0, 1, 2] rfl)
                intro n_86
                induction n_86 with
                | zero =>
                  intro t8 H locs ls hm_86
                  exact absurd hm_86 (Nat.not_lt_zero _)
                | succ n_86 ih_86 =>
                  intro t8 H locs ls hm_86 ht8 hu8 hv8 hP hD hS hl
                  refine lv_iload_n hx hb dX9_next_86 rfl (lv_at hl 1 rfl) ?_
                  refine lv_if_eq (tgt := 104) hx hb dX9_next_87 (by decide) (fun c_396 => absurd c_396 (by decide)) (fun c_396 => ?_)
                  refine lv_aload_n hx hb dX9_next_90 rfl (lv_at hl 2 rfl) ?_
                  refine lv_aload_n hx hb dX9_next_91 rfl (lv_at hl 2 rfl) ?_
                  refine xg hF kf_X9_251 hK hP 0 rfl rfl dX9_next_92 ?_
                  refine xc_Vr hF (c_X9_byteAt l D cI cJ cZ cS ta sa sv H.size h0 ys yk yo yt mk0 yfa yfe mL mS mM yro yhe ygr mF mC mY yta mz f8 t8 mv mw ywa ybi ysi ynu ymo tp t8 (by omega) (by omega)) kv_X9_257 ⟨rfl, rfl, Nat.le_of_ble_eq_true rfl, Nat.le_of_ble_eq_true rfl⟩ ⟨Nat.le_of_ble_eq_true rfl, Nat.le_of_ble_eq_true rfl⟩ hK hN hZ hP hD hS hA [0, 1] rfl rfl 0 rfl rfl rfl rfl hl.1 rfl (Nat.le_of_ble_eq_true rfl) dX9_next_95 (fun r_397 hw_r_397 => ?_)
                  rcases hw_r_397 with ⟨rfl, h_398⟩ | ⟨rfl, h_399⟩
                  · skip
                    refine xc_Sr hF (c_X9_isLetterF l D cI cJ cZ cS ta sa sv H.size (tp t8) ) ks_X9_260 ⟨rfl, rfl, Nat.le_of_ble_eq_true rfl, Nat.le_of_ble_eq_true rfl⟩ ⟨Nat.le_of_ble_eq_true rfl, Nat.le_of_ble_eq_true rfl⟩ hK hN hZ hP hD hS hA [] rfl rfl rfl hl.1 rfl (Nat.le_of_ble_eq_true rfl) dX9_next_98 (fun r_400 hw_r_400 => ?_)
                    rcases hw_r_400 with ⟨rfl, h_401⟩ | rfl
                    · skip
                      refine lv_if_ne (tgt := 122) hx hb dX9_next_101 (by decide) (fun c_402 => ?_) (fun c_402 => absurd c_402 (by decide))
                      refine lv_aload_n hx hb dX9_next_122 rfl (lv_at hl 2 rfl) ?_
                      refine lv_dup hx hb dX9_next_123 rfl ?_
                      refine xg hF kf_X9_251 hK hP 0 rfl rfl dX9_next_124 ?_
                      refine lv_iconst (v := 1) hx hb dX9_next_127 (by decide) ?_
                      refine lv_iadd hx hb dX9_next_128 ?_
                      refine xl_i (y := nI (t8 + 1)) (nI_add t8 1) ?_
                      refine xp hF kf_X9_251 tyX9_ok nmX9 hK hP hD hS 0 rfl rfl rfl rfl (Nat.le_of_ble_eq_true rfl) dX9_next_129 (fun H locs hP hD hS => ?_)
                      have hP : va_P D vwCl [(h0, .inr (9, [.ref ys, .ref yk, .ref yo, .ref yt, .int mk0, .ref yfa, .ref yfe, .int mL, .int mS, .int mM, .ref yro, .ref yhe, .ref ygr, .int mF, .int mC, .int mY, .ref yta, .int (nI (mz)), .int (nI (f8)), .int (nI (t8 + 1)), .int mv, .int mw, .ref ywa, .ref ybi, .ref ysi, .ref ynu, .ref ymo])), (yta, .inl (cI, 120, .inl tp))] H := hP
                      have hD : va_D A [(h0, .inr (9, [.ref ys, .ref yk, .ref yo, .ref yt, .int mk0, .ref yfa, .ref yfe, .int mL, .int mS, .int mM, .ref yro, .ref yhe, .ref ygr, .int mF, .int mC, .int mY, .ref yta, .int (nI (mz)), .int (nI (f8)), .int (nI (t8 + 1)), .int mv, .int mw, .ref ywa, .ref ybi, .ref ysi, .ref ynu, .ref ymo])), (yta, .inl (cI, 120, .inl tp))] := hD
                      refine lv_goto (tgt := 86) hx hb dX9_next_132 (by decide) ?_
                      exact ih_86 (t8 + 1) _ _ _ (by omega) (by omega) (by omega) (by omega) (hP.sub [0, 1] rfl) (hD.sub [0, 1] (by decide) rfl) hS (lv_sub hl [0, 1, 2] rfl)
                    · skip
                      refine lv_if_ne (tgt := 122) hx hb dX9_next_101 (by decide) (fun c_403 => absurd (by decide) c_403) (fun c_403 => ?_)
                      refine lv_iload_n hx hb dX9_next_104 rfl (lv_at hl 0 rfl) ?_
                      refine lv_if_eq (tgt := 135) hx hb dX9_next_105 (by decide) (fun c_404 => ?_) (fun c_404 => absurd (by decide) c_404)
                      exact W.vret hx hb hr (fun t ht hW => ⟨⟨(f8, t8), rfl, ⟨(by first | assumption | omega), (by first | assumption | omega), (by first | assumption | omega), (by first | assumption | omega), (by first | assumption | omega)⟩, by rw [ht]; exact hP.sub [0, 1] rfl, hD.sub [0, 1] (by decide) rfl⟩, hS.F ht⟩) hS.2.2 dX9_next_135 hlk
                  · skip
                    refine xc_Sr hF (c_X9_isLetterF l D cI cJ cZ cS ta sa sv H.size (-1) ) ks_X9_260 ⟨rfl, rfl, Nat.le_of_ble_eq_true rfl, Nat.le_of_ble_eq_true rfl⟩ ⟨Nat.le_of_ble_eq_true rfl, Nat.le_of_ble_eq_true rfl⟩ hK hN hZ hP hD hS hA [] rfl rfl rfl hl.1 rfl (Nat.le_of_ble_eq_true rfl) dX9_next_98 (fun r_405 hw_r_405 => ?_)
                    rcases hw_r_405 with ⟨rfl, h_406⟩ | rfl
                    · exact absurd (by decide) h_406
                    · skip
                      refine lv_if_ne (tgt := 122) hx hb dX9_next_101 (by decide) (fun c_407 => absurd (by decide) c_407) (fun c_407 => ?_)
                      refine lv_iload_n hx hb dX9_next_104 rfl (lv_at hl 0 rfl) ?_
                      refine lv_if_eq (tgt := 135) hx hb dX9_next_105 (by decide) (fun c_408 => ?_) (fun c_408 => absurd (by decide) c_408)
                      exact W.vret hx hb hr (fun t ht hW => ⟨⟨(f8, t8), rfl, ⟨(by first | assumption | omega), (by first | assumption | omega), (by first | assumption | omega), (by first | assumption | omega), (by first | assumption | omega)⟩, by rw [ht]; exact hP.sub [0, 1] rfl, hD.sub [0, 1] (by decide) rfl⟩, hS.F ht⟩) hS.2.2 dX9_next_135 hlk
              · skip
                have nc_395 : f8 < mz := xn_nle (a := mz) (b := f8) (by omega) (by omega) c_395
                refine lv_aload_n hx hb dX9_next_70 rfl (lv_at hl 2 rfl) ?_
                refine xg hF kf_X9_254 hK hP 0 rfl rfl dX9_next_71 ?_
                refine lv_iconst (v := 1) hx hb dX9_next_74 (by decide) ?_
                refine lv_iadd hx hb dX9_next_75 ?_
                refine xl_i (y := nI (f8 + 1)) (nI_add f8 1) ?_
                refine lv_goto (tgt := 83) hx hb dX9_next_76 (by decide) ?_
                refine xp hF kf_X9_251 tyX9_ok nmX9 hK hP hD hS 0 rfl rfl rfl rfl (Nat.le_of_ble_eq_true rfl) dX9_next_83 (fun H locs hP hD hS => ?_)
                have hP : va_P D vwCl [(h0, .inr (9, [.ref ys, .ref yk, .ref yo, .ref yt, .int mk0, .ref yfa, .ref yfe, .int mL, .int mS, .int mM, .ref yro, .ref yhe, .ref ygr, .int mF, .int mC, .int mY, .ref yta, .int (nI (mz)), .int (nI (f8)), .int (nI (f8 + 1)), .int mv, .int mw, .ref ywa, .ref ybi, .ref ysi, .ref ynu, .ref ymo])), (yta, .inl (cI, 120, .inl tp))] H := hP
                have hD : va_D A [(h0, .inr (9, [.ref ys, .ref yk, .ref yo, .ref yt, .int mk0, .ref yfa, .ref yfe, .int mL, .int mS, .int mM, .ref yro, .ref yhe, .ref ygr, .int mF, .int mC, .int mY, .ref yta, .int (nI (mz)), .int (nI (f8)), .int (nI (f8 + 1)), .int mv, .int mw, .ref ywa, .ref ybi, .ref ysi, .ref ynu, .ref ymo])), (yta, .inl (cI, 120, .inl tp))] := hD
                suffices loop_86 : ∀ (n_86 : Nat) (t8 : Nat) (H : Heap) (locs : List Loc) (ls : Array Slot), mz - t8 < n_86 → (t8 ≤ mz) → (f8 ≤ t8) → (f8 < t8 ∨ f8 = mz) → va_P D vwCl [(h0, .inr (9, [.ref ys, .ref yk, .ref yo, .ref yt, .int mk0, .ref yfa, .ref yfe, .int mL, .int mS, .int mM, .ref yro, .ref yhe, .ref ygr, .int mF, .int mC, .int mY, .ref yta, .int (nI (mz)), .int (nI (f8)), .int (nI (t8)), .int mv, .int mw, .ref ywa, .ref ybi, .ref ysi, .ref ynu, .ref ymo])), (yta, .inl (cI, 120, .inl tp))] H → va_D A [(h0, .inr (9, [.ref ys, .ref yk, .ref yo, .ref yt, .int mk0, .ref yfa, .ref yfe, .int mL, .int mS, .int mM, .ref yro, .ref yhe, .ref ygr, .int mF, .int mC, .int mY, .ref yta, .int (nI (mz)), .int (nI (f8)), .int (nI (t8)), .int mv, .int mw, .ref ywa, .ref ybi, .ref ysi, .ref ynu, .ref ymo])), (yta, .inl (cI, 120, .inl tp))] → va_S A s.heap H locs → lv_has ls 3 [(2, .int 0), (1, .int 1), (0, .ref h0)] → W p l e ({ frames := 2, cells := 0, slots := 0, locals := 45 }) s m ([.ref h0] : List Value).toArray below meth c H locs 0 0 (MQ below (XQv (fun (u : Nat × Nat) => match u with | (f2, t2) => (f2 ≤ mz) ∧ (t2 ≤ mz) ∧ (f2 ≤ t2) ∧ (f2 < t2 ∨ f2 = mz) ∧ (mt ≤ f2)) D (fun (u : Nat × Nat) => match u with | (f2, t2) => [(h0, .inr (9, [.ref ys, .ref yk, .ref yo, .ref yt, .int mk0, .ref yfa, .ref yfe, .int mL, .int mS, .int mM, .ref yro, .ref yhe, .ref ygr, .int mF, .int mC, .int mY, .ref yta, .int (nI (mz)), .int (nI (f2)), .int (nI (t2)), .int mv, .int mw, .ref ywa, .ref ybi, .ref ysi, .ref ynu, .ref ymo])), (yta, .inl (cI, 120, .inl tp))]) A) ([.ref h0] : List Value).toArray s 0 0 A) (F0 m 86 ls []) by
                  exact loop_86 _ (f8 + 1) _ _ _ (Nat.lt_succ_self _) (by omega) (by omega) (by omega) hP hD hS (lv_sub hl [0, 1, 2] rfl)
                intro n_86
                induction n_86 with
                | zero =>
                  intro t8 H locs ls hm_86
                  exact absurd hm_86 (Nat.not_lt_zero _)
                | succ n_86 ih_86 =>
                  intro t8 H locs ls hm_86 ht8 hu8 hv8 hP hD hS hl
                  refine lv_iload_n hx hb dX9_next_86 rfl (lv_at hl 1 rfl) ?_
                  refine lv_if_eq (tgt := 104) hx hb dX9_next_87 (by decide) (fun c_409 => absurd c_409 (by decide)) (fun c_409 => ?_)
                  refine lv_aload_n hx hb dX9_next_90 rfl (lv_at hl 2 rfl) ?_
                  refine lv_aload_n hx hb dX9_next_91 rfl (lv_at hl 2 rfl) ?_
                  refine xg hF kf_X9_251 hK hP 0 rfl rfl dX9_next_92 ?_
                  refine xc_Vr hF (c_X9_byteAt l D cI cJ cZ cS ta sa sv H.size h0 ys yk yo yt mk0 yfa yfe mL mS mM yro yhe ygr mF mC mY yta mz f8 t8 mv mw ywa ybi ysi ynu ymo tp t8 (by omega) (by omega)) kv_X9_257 ⟨rfl, rfl, Nat.le_of_ble_eq_true rfl, Nat.le_of_ble_eq_true rfl⟩ ⟨Nat.le_of_ble_eq_true rfl, Nat.le_of_ble_eq_true rfl⟩ hK hN hZ hP hD hS hA [0, 1] rfl rfl 0 rfl rfl rfl rfl hl.1 rfl (Nat.le_of_ble_eq_true rfl) dX9_next_95 (fun r_410 hw_r_410 => ?_)
                  rcases hw_r_410 with ⟨rfl, h_411⟩ | ⟨rfl, h_412⟩
                  · skip
                    refine xc_Sr hF (c_X9_isLetterF l D cI cJ cZ cS ta sa sv H.size (tp t8) ) ks_X9_260 ⟨rfl, rfl, Nat.le_of_ble_eq_true rfl, Nat.le_of_ble_eq_true rfl⟩ ⟨Nat.le_of_ble_eq_true rfl, Nat.le_of_ble_eq_true rfl⟩ hK hN hZ hP hD hS hA [] rfl rfl rfl hl.1 rfl (Nat.le_of_ble_eq_true rfl) dX9_next_98 (fun r_413 hw_r_413 => ?_)
                    rcases hw_r_413 with ⟨rfl, h_414⟩ | rfl
                    · skip
                      refine lv_if_ne (tgt := 122) hx hb dX9_next_101 (by decide) (fun c_415 => ?_) (fun c_415 => absurd c_415 (by decide))
                      refine lv_aload_n hx hb dX9_next_122 rfl (lv_at hl 2 rfl) ?_
                      refine lv_dup hx hb dX9_next_123 rfl ?_
                      refine xg hF kf_X9_251 hK hP 0 rfl rfl dX9_next_124 ?_
                      refine lv_iconst (v := 1) hx hb dX9_next_127 (by decide) ?_
                      refine lv_iadd hx hb dX9_next_128 ?_
                      refine xl_i (y := nI (t8 + 1)) (nI_add t8 1) ?_
                      refine xp hF kf_X9_251 tyX9_ok nmX9 hK hP hD hS 0 rfl rfl rfl rfl (Nat.le_of_ble_eq_true rfl) dX9_next_129 (fun H locs hP hD hS => ?_)
                      have hP : va_P D vwCl [(h0, .inr (9, [.ref ys, .ref yk, .ref yo, .ref yt, .int mk0, .ref yfa, .ref yfe, .int mL, .int mS, .int mM, .ref yro, .ref yhe, .ref ygr, .int mF, .int mC, .int mY, .ref yta, .int (nI (mz)), .int (nI (f8)), .int (nI (t8 + 1)), .int mv, .int mw, .ref ywa, .ref ybi, .ref ysi, .ref ynu, .ref ymo])), (yta, .inl (cI, 120, .inl tp))] H := hP
                      have hD : va_D A [(h0, .inr (9, [.ref ys, .ref yk, .ref yo, .ref yt, .int mk0, .ref yfa, .ref yfe, .int mL, .int mS, .int mM, .ref yro, .ref yhe, .ref ygr, .int mF, .int mC, .int mY, .ref yta, .int (nI (mz)), .int (nI (f8)), .int (nI (t8 + 1)), .int mv, .int mw, .ref ywa, .ref ybi, .ref ysi, .ref ynu, .ref ymo])), (yta, .inl (cI, 120, .inl tp))] := hD
                      refine lv_goto (tgt := 86) hx hb dX9_next_132 (by decide) ?_
                      exact ih_86 (t8 + 1) _ _ _ (by omega) (by omega) (by omega) (by omega) (hP.sub [0, 1] rfl) (hD.sub [0, 1] (by decide) rfl) hS (lv_sub hl [0, 1, 2] rfl)
                    · skip
                      refine lv_if_ne (tgt := 122) hx hb dX9_next_101 (by decide) (fun c_416 => absurd (by decide) c_416) (fun c_416 => ?_)
                      refine lv_iload_n hx hb dX9_next_104 rfl (lv_at hl 0 rfl) ?_
                      refine lv_if_eq (tgt := 135) hx hb dX9_next_105 (by decide) (fun c_417 => ?_) (fun c_417 => absurd (by decide) c_417)
                      exact W.vret hx hb hr (fun t ht hW => ⟨⟨(f8, t8), rfl, ⟨(by first | assumption | omega), (by first | assumption | omega), (by first | assumption | omega), (by first | assumption | omega), (by first | assumption | omega)⟩, by rw [ht]; exact hP.sub [0, 1] rfl, hD.sub [0, 1] (by decide) rfl⟩, hS.F ht⟩) hS.2.2 dX9_next_135 hlk
                  · skip
                    refine xc_Sr hF (c_X9_isLetterF l D cI cJ cZ cS ta sa sv H.size (-1) ) ks_X9_260 ⟨rfl, rfl, Nat.le_of_ble_eq_true rfl, Nat.le_of_ble_eq_true rfl⟩ ⟨Nat.le_of_ble_eq_true rfl, Nat.le_of_ble_eq_true rfl⟩ hK hN hZ hP hD hS hA [] rfl rfl rfl hl.1 rfl (Nat.le_of_ble_eq_true rfl) dX9_next_98 (fun r_418 hw_r_418 => ?_)
                    rcases hw_r_418 with ⟨rfl, h_419⟩ | rfl
                    · exact absurd (by decide) h_419
                    · skip
                      refine lv_if_ne (tgt := 122) hx hb dX9_next_101 (by decide) (fun c_420 => absurd (by decide) c_420) (fun c_420 => ?_)
                      refine lv_iload_n hx hb dX9_next_104 rfl (lv_at hl 0 rfl) ?_
                      refine lv_if_eq (tgt := 135) hx hb dX9_next_105 (by decide) (fun c_421 => ?_) (fun c_421 => absurd (by decide) c_421)
                      exact W.vret hx hb hr (fun t ht hW => ⟨⟨(f8, t8), rfl, ⟨(by first | assumption | omega), (by first | assumption | omega), (by first | assumption | omega), (by first | assumption | omega), (by first | assumption | omega)⟩, by rw [ht]; exact hP.sub [0, 1] rfl, hD.sub [0, 1] (by decide) rfl⟩, hS.F ht⟩) hS.2.2 dX9_next_135 hlk
        · skip
          refine lv_istore_n (lv' := [(1, .int 0), (0, .ref h0)]) hx hb dX9_next_45 rfl hl (by decide) rfl (fun ls hl => ?_)
          refine lv_aload_n hx hb dX9_next_46 rfl (lv_at hl 1 rfl) ?_
          refine lv_aload_n hx hb dX9_next_47 rfl (lv_at hl 1 rfl) ?_
          refine xg hF kf_X9_254 hK hP 0 rfl rfl dX9_next_48 ?_
          refine xc_Vr hF (c_X9_byteAt l D cI cJ cZ cS ta sa sv H.size h0 ys yk yo yt mk0 yfa yfe mL mS mM yro yhe ygr mF mC mY yta mz f8 mt mv mw ywa ybi ysi ynu ymo tp f8 (by omega) (by omega)) kv_X9_257 ⟨rfl, rfl, Nat.le_of_ble_eq_true rfl, Nat.le_of_ble_eq_true rfl⟩ ⟨Nat.le_of_ble_eq_true rfl, Nat.le_of_ble_eq_true rfl⟩ hK hN hZ hP hD hS hA [0, 1] rfl rfl 0 rfl rfl rfl rfl hl.1 rfl (Nat.le_of_ble_eq_true rfl) dX9_next_51 (fun r_422 hw_r_422 => ?_)
          rcases hw_r_422 with ⟨rfl, h_423⟩ | ⟨rfl, h_424⟩
          · skip
            refine xc_Sr hF (c_X9_isDigit l D cI cJ cZ cS ta sa sv H.size (tp f8) ) ks_X9_263 ⟨rfl, rfl, Nat.le_of_ble_eq_true rfl, Nat.le_of_ble_eq_true rfl⟩ ⟨Nat.le_of_ble_eq_true rfl, Nat.le_of_ble_eq_true rfl⟩ hK hN hZ hP hD hS hA [] rfl rfl rfl hl.1 rfl (Nat.le_of_ble_eq_true rfl) dX9_next_54 (fun r_425 hw_r_425 => ?_)
            rcases hw_r_425 with ⟨rfl, h_426, h_427⟩ | ⟨rfl, h_428⟩
            · skip
              refine lv_istore_n (lv' := [(2, .int 1), (1, .int 0), (0, .ref h0)]) hx hb dX9_next_57 rfl hl (by decide) rfl (fun ls hl => ?_)
              refine lv_aload_n hx hb dX9_next_58 rfl (lv_at hl 2 rfl) ?_
              refine lv_aload_n hx hb dX9_next_59 rfl (lv_at hl 2 rfl) ?_
              refine xg hF kf_X9_254 hK hP 0 rfl rfl dX9_next_60 ?_
              refine lv_aload_n hx hb dX9_next_63 rfl (lv_at hl 2 rfl) ?_
              refine xg hF kf_X9_240 hK hP 0 rfl rfl dX9_next_64 ?_
              refine lv_icmp_ge (tgt := 79) hx hb dX9_next_67 (by decide) (fun c_429 => ?_) (fun c_429 => ?_)
              · skip
                have nc_429 : mz ≤ f8 := xn_le (a := mz) (b := f8) (by omega) (by omega) c_429
                refine lv_aload_n hx hb dX9_next_79 rfl (lv_at hl 2 rfl) ?_
                refine xg hF kf_X9_254 hK hP 0 rfl rfl dX9_next_80 ?_
                refine xp hF kf_X9_251 tyX9_ok nmX9 hK hP hD hS 0 rfl rfl rfl rfl (Nat.le_of_ble_eq_true rfl) dX9_next_83 (fun H locs hP hD hS => ?_)
                have hP : va_P D vwCl [(h0, .inr (9, [.ref ys, .ref yk, .ref yo, .ref yt, .int mk0, .ref yfa, .ref yfe, .int mL, .int mS, .int mM, .ref yro, .ref yhe, .ref ygr, .int mF, .int mC, .int mY, .ref yta, .int (nI (mz)), .int (nI (f8)), .int (nI (f8)), .int mv, .int mw, .ref ywa, .ref ybi, .ref ysi, .ref ynu, .ref ymo])), (yta, .inl (cI, 120, .inl tp))] H := hP
                have hD : va_D A [(h0, .inr (9, [.ref ys, .ref yk, .ref yo, .ref yt, .int mk0, .ref yfa, .ref yfe, .int mL, .int mS, .int mM, .ref yro, .ref yhe, .ref ygr, .int mF, .int mC, .int mY, .ref yta, .int (nI (mz)), .int (nI (f8)), .int (nI (f8)), .int mv, .int mw, .ref ywa, .ref ybi, .ref ysi, .ref ynu, .ref ymo])), (yta, .inl (cI, 120, .inl tp))] := hD
                suffices loop_86 : ∀ (n_86 : Nat) (t8 : Nat) (H : Heap) (locs : List Loc) (ls : Array Slot), mz - t8 < n_86 → (t8 ≤ mz) → (f8 ≤ t8) → (f8 < t8 ∨ f8 = mz) → va_P D vwCl [(h0, .inr (9, [.ref ys, .ref yk, .ref yo, .ref yt, .int mk0, .ref yfa, .ref yfe, .int mL, .int mS, .int mM, .ref yro, .ref yhe, .ref ygr, .int mF, .int mC, .int mY, .ref yta, .int (nI (mz)), .int (nI (f8)), .int (nI (t8)), .int mv, .int mw, .ref ywa, .ref ybi, .ref ysi, .ref ynu, .ref ymo])), (yta, .inl (cI, 120, .inl tp))] H → va_D A [(h0, .inr (9, [.ref ys, .ref yk, .ref yo, .ref yt, .int mk0, .ref yfa, .ref yfe, .int mL, .int mS, .int mM, .ref yro, .ref yhe, .ref ygr, .int mF, .int mC, .int mY, .ref yta, .int (nI (mz)), .int (nI (f8)), .int (nI (t8)), .int mv, .int mw, .ref ywa, .ref ybi, .ref ysi, .ref ynu, .ref ymo])), (yta, .inl (cI, 120, .inl tp))] → va_S A s.heap H locs → lv_has ls 3 [(2, .int 1), (1, .int 0), (0, .ref h0)] → W p l e ({ frames := 2, cells := 0, slots := 0, locals := 45 }) s m ([.ref h0] : List Value).toArray below meth c H locs 0 0 (MQ below (XQv (fun (u : Nat × Nat) => match u with | (f2, t2) => (f2 ≤ mz) ∧ (t2 ≤ mz) ∧ (f2 ≤ t2) ∧ (f2 < t2 ∨ f2 = mz) ∧ (mt ≤ f2)) D (fun (u : Nat × Nat) => match u with | (f2, t2) => [(h0, .inr (9, [.ref ys, .ref yk, .ref yo, .ref yt, .int mk0, .ref yfa, .ref yfe, .int mL, .int mS, .int mM, .ref yro, .ref yhe, .ref ygr, .int mF, .int mC, .int mY, .ref yta, .int (nI (mz)), .int (nI (f2)), .int (nI (t2)), .int mv, .int mw, .ref ywa, .ref ybi, .ref ysi, .ref ynu, .ref ymo])), (yta, .inl (cI, 120, .inl tp))]) A) ([.ref h0] : List Value).toArray s 0 0 A) (F0 m 86 ls []) by
                  exact loop_86 _ f8 _ _ _ (Nat.lt_succ_self _) (by omega) (by omega) (by omega) hP hD hS (lv_sub hl [0, 1, 2] rfl)
                intro n_86
                induction n_86 with
                | zero =>
                  intro t8 H locs ls hm_86
                  exact absurd hm_86 (Nat.not_lt_zero _)
                | succ n_86 ih_86 =>
                  intro t8 H locs ls hm_86 ht8 hu8 hv8 hP hD hS hl
                  refine lv_iload_n hx hb dX9_next_86 rfl (lv_at hl 1 rfl) ?_
                  refine lv_if_eq (tgt := 104) hx hb dX9_next_87 (by decide) (fun c_430 => ?_) (fun c_430 => absurd (by decide) c_430)
                  refine lv_iload_n hx hb dX9_next_104 rfl (lv_at hl 0 rfl) ?_
                  refine lv_if_eq (tgt := 135) hx hb dX9_next_105 (by decide) (fun c_431 => absurd c_431 (by decide)) (fun c_431 => ?_)
                  refine lv_aload_n hx hb dX9_next_108 rfl (lv_at hl 2 rfl) ?_
                  refine lv_aload_n hx hb dX9_next_109 rfl (lv_at hl 2 rfl) ?_
                  refine xg hF kf_X9_251 hK hP 0 rfl rfl dX9_next_110 ?_
                  refine xc_Vr hF (c_X9_byteAt l D cI cJ cZ cS ta sa sv H.size h0 ys yk yo yt mk0 yfa yfe mL mS mM yro yhe ygr mF mC mY yta mz f8 t8 mv mw ywa ybi ysi ynu ymo tp t8 (by omega) (by omega)) kv_X9_257 ⟨rfl, rfl, Nat.le_of_ble_eq_true rfl, Nat.le_of_ble_eq_true rfl⟩ ⟨Nat.le_of_ble_eq_true rfl, Nat.le_of_ble_eq_true rfl⟩ hK hN hZ hP hD hS hA [0, 1] rfl rfl 0 rfl rfl rfl rfl hl.1 rfl (Nat.le_of_ble_eq_true rfl) dX9_next_113 (fun r_432 hw_r_432 => ?_)
                  rcases hw_r_432 with ⟨rfl, h_433⟩ | ⟨rfl, h_434⟩
                  · skip
                    refine xc_Sr hF (c_X9_isDigit l D cI cJ cZ cS ta sa sv H.size (tp t8) ) ks_X9_263 ⟨rfl, rfl, Nat.le_of_ble_eq_true rfl, Nat.le_of_ble_eq_true rfl⟩ ⟨Nat.le_of_ble_eq_true rfl, Nat.le_of_ble_eq_true rfl⟩ hK hN hZ hP hD hS hA [] rfl rfl rfl hl.1 rfl (Nat.le_of_ble_eq_true rfl) dX9_next_116 (fun r_435 hw_r_435 => ?_)
                    rcases hw_r_435 with ⟨rfl, h_436, h_437⟩ | ⟨rfl, h_438⟩
                    · skip
                      refine lv_if_eq (tgt := 135) hx hb dX9_next_119 (by decide) (fun c_439 => absurd c_439 (by decide)) (fun c_439 => ?_)
                      refine lv_aload_n hx hb dX9_next_122 rfl (lv_at hl 2 rfl) ?_
                      refine lv_dup hx hb dX9_next_123 rfl ?_
                      refine xg hF kf_X9_251 hK hP 0 rfl rfl dX9_next_124 ?_
                      refine lv_iconst (v := 1) hx hb dX9_next_127 (by decide) ?_
                      refine lv_iadd hx hb dX9_next_128 ?_
                      refine xl_i (y := nI (t8 + 1)) (nI_add t8 1) ?_
                      refine xp hF kf_X9_251 tyX9_ok nmX9 hK hP hD hS 0 rfl rfl rfl rfl (Nat.le_of_ble_eq_true rfl) dX9_next_129 (fun H locs hP hD hS => ?_)
                      have hP : va_P D vwCl [(h0, .inr (9, [.ref ys, .ref yk, .ref yo, .ref yt, .int mk0, .ref yfa, .ref yfe, .int mL, .int mS, .int mM, .ref yro, .ref yhe, .ref ygr, .int mF, .int mC, .int mY, .ref yta, .int (nI (mz)), .int (nI (f8)), .int (nI (t8 + 1)), .int mv, .int mw, .ref ywa, .ref ybi, .ref ysi, .ref ynu, .ref ymo])), (yta, .inl (cI, 120, .inl tp))] H := hP
                      have hD : va_D A [(h0, .inr (9, [.ref ys, .ref yk, .ref yo, .ref yt, .int mk0, .ref yfa, .ref yfe, .int mL, .int mS, .int mM, .ref yro, .ref yhe, .ref ygr, .int mF, .int mC, .int mY, .ref yta, .int (nI (mz)), .int (nI (f8)), .int (nI (t8 + 1)), .int mv, .int mw, .ref ywa, .ref ybi, .ref ysi, .ref ynu, .ref ymo])), (yta, .inl (cI, 120, .inl tp))] := hD
                      refine lv_goto (tgt := 86) hx hb dX9_next_132 (by decide) ?_
                      exact ih_86 (t8 + 1) _ _ _ (by omega) (by omega) (by omega) (by omega) (hP.sub [0, 1] rfl) (hD.sub [0, 1] (by decide) rfl) hS (lv_sub hl [0, 1, 2] rfl)
                    · skip
                      refine lv_if_eq (tgt := 135) hx hb dX9_next_119 (by decide) (fun c_440 => ?_) (fun c_440 => absurd (by decide) c_440)
                      exact W.vret hx hb hr (fun t ht hW => ⟨⟨(f8, t8), rfl, ⟨(by first | assumption | omega), (by first | assumption | omega), (by first | assumption | omega), (by first | assumption | omega), (by first | assumption | omega)⟩, by rw [ht]; exact hP.sub [0, 1] rfl, hD.sub [0, 1] (by decide) rfl⟩, hS.F ht⟩) hS.2.2 dX9_next_135 hlk
                  · skip
                    refine xc_Sr hF (c_X9_isDigit l D cI cJ cZ cS ta sa sv H.size (-1) ) ks_X9_263 ⟨rfl, rfl, Nat.le_of_ble_eq_true rfl, Nat.le_of_ble_eq_true rfl⟩ ⟨Nat.le_of_ble_eq_true rfl, Nat.le_of_ble_eq_true rfl⟩ hK hN hZ hP hD hS hA [] rfl rfl rfl hl.1 rfl (Nat.le_of_ble_eq_true rfl) dX9_next_116 (fun r_441 hw_r_441 => ?_)
                    rcases hw_r_441 with ⟨rfl, h_442, h_443⟩ | ⟨rfl, h_444⟩
                    · exact absurd (by decide) h_442
                    · skip
                      refine lv_if_eq (tgt := 135) hx hb dX9_next_119 (by decide) (fun c_445 => ?_) (fun c_445 => absurd (by decide) c_445)
                      exact W.vret hx hb hr (fun t ht hW => ⟨⟨(f8, t8), rfl, ⟨(by first | assumption | omega), (by first | assumption | omega), (by first | assumption | omega), (by first | assumption | omega), (by first | assumption | omega)⟩, by rw [ht]; exact hP.sub [0, 1] rfl, hD.sub [0, 1] (by decide) rfl⟩, hS.F ht⟩) hS.2.2 dX9_next_135 hlk
              · skip
                have nc_429 : f8 < mz := xn_nle (a := mz) (b := f8) (by omega) (by omega) c_429
                refine lv_aload_n hx hb dX9_next_70 rfl (lv_at hl 2 rfl) ?_
                refine xg hF kf_X9_254 hK hP 0 rfl rfl dX9_next_71 ?_
                refine lv_iconst (v := 1) hx hb dX9_next_74 (by decide) ?_
                refine lv_iadd hx hb dX9_next_75 ?_
                refine xl_i (y := nI (f8 + 1)) (nI_add f8 1) ?_
                refine lv_goto (tgt := 83) hx hb dX9_next_76 (by decide) ?_
                refine xp hF kf_X9_251 tyX9_ok nmX9 hK hP hD hS 0 rfl rfl rfl rfl (Nat.le_of_ble_eq_true rfl) dX9_next_83 (fun H locs hP hD hS => ?_)
                have hP : va_P D vwCl [(h0, .inr (9, [.ref ys, .ref yk, .ref yo, .ref yt, .int mk0, .ref yfa, .ref yfe, .int mL, .int mS, .int mM, .ref yro, .ref yhe, .ref ygr, .int mF, .int mC, .int mY, .ref yta, .int (nI (mz)), .int (nI (f8)), .int (nI (f8 + 1)), .int mv, .int mw, .ref ywa, .ref ybi, .ref ysi, .ref ynu, .ref ymo])), (yta, .inl (cI, 120, .inl tp))] H := hP
                have hD : va_D A [(h0, .inr (9, [.ref ys, .ref yk, .ref yo, .ref yt, .int mk0, .ref yfa, .ref yfe, .int mL, .int mS, .int mM, .ref yro, .ref yhe, .ref ygr, .int mF, .int mC, .int mY, .ref yta, .int (nI (mz)), .int (nI (f8)), .int (nI (f8 + 1)), .int mv, .int mw, .ref ywa, .ref ybi, .ref ysi, .ref ynu, .ref ymo])), (yta, .inl (cI, 120, .inl tp))] := hD
                suffices loop_86 : ∀ (n_86 : Nat) (t8 : Nat) (H : Heap) (locs : List Loc) (ls : Array Slot), mz - t8 < n_86 → (t8 ≤ mz) → (f8 ≤ t8) → (f8 < t8 ∨ f8 = mz) → va_P D vwCl [(h0, .inr (9, [.ref ys, .ref yk, .ref yo, .ref yt, .int mk0, .ref yfa, .ref yfe, .int mL, .int mS, .int mM, .ref yro, .ref yhe, .ref ygr, .int mF, .int mC, .int mY, .ref yta, .int (nI (mz)), .int (nI (f8)), .int (nI (t8)), .int mv, .int mw, .ref ywa, .ref ybi, .ref ysi, .ref ynu, .ref ymo])), (yta, .inl (cI, 120, .inl tp))] H → va_D A [(h0, .inr (9, [.ref ys, .ref yk, .ref yo, .ref yt, .int mk0, .ref yfa, .ref yfe, .int mL, .int mS, .int mM, .ref yro, .ref yhe, .ref ygr, .int mF, .int mC, .int mY, .ref yta, .int (nI (mz)), .int (nI (f8)), .int (nI (t8)), .int mv, .int mw, .ref ywa, .ref ybi, .ref ysi, .ref ynu, .ref ymo])), (yta, .inl (cI, 120, .inl tp))] → va_S A s.heap H locs → lv_has ls 3 [(2, .int 1), (1, .int 0), (0, .ref h0)] → W p l e ({ frames := 2, cells := 0, slots := 0, locals := 45 }) s m ([.ref h0] : List Value).toArray below meth c H locs 0 0 (MQ below (XQv (fun (u : Nat × Nat) => match u with | (f2, t2) => (f2 ≤ mz) ∧ (t2 ≤ mz) ∧ (f2 ≤ t2) ∧ (f2 < t2 ∨ f2 = mz) ∧ (mt ≤ f2)) D (fun (u : Nat × Nat) => match u with | (f2, t2) => [(h0, .inr (9, [.ref ys, .ref yk, .ref yo, .ref yt, .int mk0, .ref yfa, .ref yfe, .int mL, .int mS, .int mM, .ref yro, .ref yhe, .ref ygr, .int mF, .int mC, .int mY, .ref yta, .int (nI (mz)), .int (nI (f2)), .int (nI (t2)), .int mv, .int mw, .ref ywa, .ref ybi, .ref ysi, .ref ynu, .ref ymo])), (yta, .inl (cI, 120, .inl tp))]) A) ([.ref h0] : List Value).toArray s 0 0 A) (F0 m 86 ls []) by
                  exact loop_86 _ (f8 + 1) _ _ _ (Nat.lt_succ_self _) (by omega) (by omega) (by omega) hP hD hS (lv_sub hl [0, 1, 2] rfl)
                intro n_86
                induction n_86 with
                | zero =>
                  intro t8 H locs ls hm_86
                  exact absurd hm_86 (Nat.not_lt_zero _)
                | succ n_86 ih_86 =>
                  intro t8 H locs ls hm_86 ht8 hu8 hv8 hP hD hS hl
                  refine lv_iload_n hx hb dX9_next_86 rfl (lv_at hl 1 rfl) ?_
                  refine lv_if_eq (tgt := 104) hx hb dX9_next_87 (by decide) (fun c_446 => ?_) (fun c_446 => absurd (by decide) c_446)
                  refine lv_iload_n hx hb dX9_next_104 rfl (lv_at hl 0 rfl) ?_
                  refine lv_if_eq (tgt := 135) hx hb dX9_next_105 (by decide) (fun c_447 => absurd c_447 (by decide)) (fun c_447 => ?_)
                  refine lv_aload_n hx hb dX9_next_108 rfl (lv_at hl 2 rfl) ?_
                  refine lv_aload_n hx hb dX9_next_109 rfl (lv_at hl 2 rfl) ?_
                  refine xg hF kf_X9_251 hK hP 0 rfl rfl dX9_next_110 ?_
                  refine xc_Vr hF (c_X9_byteAt l D cI cJ cZ cS ta sa sv H.size h0 ys yk yo yt mk0 yfa yfe mL mS mM yro yhe ygr mF mC mY yta mz f8 t8 mv mw ywa ybi ysi ynu ymo tp t8 (by omega) (by omega)) kv_X9_257 ⟨rfl, rfl, Nat.le_of_ble_eq_true rfl, Nat.le_of_ble_eq_true rfl⟩ ⟨Nat.le_of_ble_eq_true rfl, Nat.le_of_ble_eq_true rfl⟩ hK hN hZ hP hD hS hA [0, 1] rfl rfl 0 rfl rfl rfl rfl hl.1 rfl (Nat.le_of_ble_eq_true rfl) dX9_next_113 (fun r_448 hw_r_448 => ?_)
                  rcases hw_r_448 with ⟨rfl, h_449⟩ | ⟨rfl, h_450⟩
                  · skip
                    refine xc_Sr hF (c_X9_isDigit l D cI cJ cZ cS ta sa sv H.size (tp t8) ) ks_X9_263 ⟨rfl, rfl, Nat.le_of_ble_eq_true rfl, Nat.le_of_ble_eq_true rfl⟩ ⟨Nat.le_of_ble_eq_true rfl, Nat.le_of_ble_eq_true rfl⟩ hK hN hZ hP hD hS hA [] rfl rfl rfl hl.1 rfl (Nat.le_of_ble_eq_true rfl) dX9_next_116 (fun r_451 hw_r_451 => ?_)
                    rcases hw_r_451 with ⟨rfl, h_452, h_453⟩ | ⟨rfl, h_454⟩
                    · skip
                      refine lv_if_eq (tgt := 135) hx hb dX9_next_119 (by decide) (fun c_455 => absurd c_455 (by decide)) (fun c_455 => ?_)
                      refine lv_aload_n hx hb dX9_next_122 rfl (lv_at hl 2 rfl) ?_
                      refine lv_dup hx hb dX9_next_123 rfl ?_
                      refine xg hF kf_X9_251 hK hP 0 rfl rfl dX9_next_124 ?_
                      refine lv_iconst (v := 1) hx hb dX9_next_127 (by decide) ?_
                      refine lv_iadd hx hb dX9_next_128 ?_
                      refine xl_i (y := nI (t8 + 1)) (nI_add t8 1) ?_
                      refine xp hF kf_X9_251 tyX9_ok nmX9 hK hP hD hS 0 rfl rfl rfl rfl (Nat.le_of_ble_eq_true rfl) dX9_next_129 (fun H locs hP hD hS => ?_)
                      have hP : va_P D vwCl [(h0, .inr (9, [.ref ys, .ref yk, .ref yo, .ref yt, .int mk0, .ref yfa, .ref yfe, .int mL, .int mS, .int mM, .ref yro, .ref yhe, .ref ygr, .int mF, .int mC, .int mY, .ref yta, .int (nI (mz)), .int (nI (f8)), .int (nI (t8 + 1)), .int mv, .int mw, .ref ywa, .ref ybi, .ref ysi, .ref ynu, .ref ymo])), (yta, .inl (cI, 120, .inl tp))] H := hP
                      have hD : va_D A [(h0, .inr (9, [.ref ys, .ref yk, .ref yo, .ref yt, .int mk0, .ref yfa, .ref yfe, .int mL, .int mS, .int mM, .ref yro, .ref yhe, .ref ygr, .int mF, .int mC, .int mY, .ref yta, .int (nI (mz)), .int (nI (f8)), .int (nI (t8 + 1)), .int mv, .int mw, .ref ywa, .ref ybi, .ref ysi, .ref ynu, .ref ymo])), (yta, .inl (cI, 120, .inl tp))] := hD
                      refine lv_goto (tgt := 86) hx hb dX9_next_132 (by decide) ?_
                      exact ih_86 (t8 + 1) _ _ _ (by omega) (by omega) (by omega) (by omega) (hP.sub [0, 1] rfl) (hD.sub [0, 1] (by decide) rfl) hS (lv_sub hl [0, 1, 2] rfl)
                    · skip
                      refine lv_if_eq (tgt := 135) hx hb dX9_next_119 (by decide) (fun c_456 => ?_) (fun c_456 => absurd (by decide) c_456)
                      exact W.vret hx hb hr (fun t ht hW => ⟨⟨(f8, t8), rfl, ⟨(by first | assumption | omega), (by first | assumption | omega), (by first | assumption | omega), (by first | assumption | omega), (by first | assumption | omega)⟩, by rw [ht]; exact hP.sub [0, 1] rfl, hD.sub [0, 1] (by decide) rfl⟩, hS.F ht⟩) hS.2.2 dX9_next_135 hlk
                  · skip
                    refine xc_Sr hF (c_X9_isDigit l D cI cJ cZ cS ta sa sv H.size (-1) ) ks_X9_263 ⟨rfl, rfl, Nat.le_of_ble_eq_true rfl, Nat.le_of_ble_eq_true rfl⟩ ⟨Nat.le_of_ble_eq_true rfl, Nat.le_of_ble_eq_true rfl⟩ hK hN hZ hP hD hS hA [] rfl rfl rfl hl.1 rfl (Nat.le_of_ble_eq_true rfl) dX9_next_116 (fun r_457 hw_r_457 => ?_)
                    rcases hw_r_457 with ⟨rfl, h_458, h_459⟩ | ⟨rfl, h_460⟩
                    · exact absurd (by decide) h_458
                    · skip
                      refine lv_if_eq (tgt := 135) hx hb dX9_next_119 (by decide) (fun c_461 => ?_) (fun c_461 => absurd (by decide) c_461)
                      exact W.vret hx hb hr (fun t ht hW => ⟨⟨(f8, t8), rfl, ⟨(by first | assumption | omega), (by first | assumption | omega), (by first | assumption | omega), (by first | assumption | omega), (by first | assumption | omega)⟩, by rw [ht]; exact hP.sub [0, 1] rfl, hD.sub [0, 1] (by decide) rfl⟩, hS.F ht⟩) hS.2.2 dX9_next_135 hlk
            · skip
              refine lv_istore_n (lv' := [(2, .int 0), (1, .int 0), (0, .ref h0)]) hx hb dX9_next_57 rfl hl (by decide) rfl (fun ls hl => ?_)
              refine lv_aload_n hx hb dX9_next_58 rfl (lv_at hl 2 rfl) ?_
              refine lv_aload_n hx hb dX9_next_59 rfl (lv_at hl 2 rfl) ?_
              refine xg hF kf_X9_254 hK hP 0 rfl rfl dX9_next_60 ?_
              refine lv_aload_n hx hb dX9_next_63 rfl (lv_at hl 2 rfl) ?_
              refine xg hF kf_X9_240 hK hP 0 rfl rfl dX9_next_64 ?_
              refine lv_icmp_ge (tgt := 79) hx hb dX9_next_67 (by decide) (fun c_462 => ?_) (fun c_462 => ?_)
              · skip
                have nc_462 : mz ≤ f8 := xn_le (a := mz) (b := f8) (by omega) (by omega) c_462
                refine lv_aload_n hx hb dX9_next_79 rfl (lv_at hl 2 rfl) ?_
                refine xg hF kf_X9_254 hK hP 0 rfl rfl dX9_next_80 ?_
                refine xp hF kf_X9_251 tyX9_ok nmX9 hK hP hD hS 0 rfl rfl rfl rfl (Nat.le_of_ble_eq_true rfl) dX9_next_83 (fun H locs hP hD hS => ?_)
                have hP : va_P D vwCl [(h0, .inr (9, [.ref ys, .ref yk, .ref yo, .ref yt, .int mk0, .ref yfa, .ref yfe, .int mL, .int mS, .int mM, .ref yro, .ref yhe, .ref ygr, .int mF, .int mC, .int mY, .ref yta, .int (nI (mz)), .int (nI (f8)), .int (nI (f8)), .int mv, .int mw, .ref ywa, .ref ybi, .ref ysi, .ref ynu, .ref ymo])), (yta, .inl (cI, 120, .inl tp))] H := hP
                have hD : va_D A [(h0, .inr (9, [.ref ys, .ref yk, .ref yo, .ref yt, .int mk0, .ref yfa, .ref yfe, .int mL, .int mS, .int mM, .ref yro, .ref yhe, .ref ygr, .int mF, .int mC, .int mY, .ref yta, .int (nI (mz)), .int (nI (f8)), .int (nI (f8)), .int mv, .int mw, .ref ywa, .ref ybi, .ref ysi, .ref ynu, .ref ymo])), (yta, .inl (cI, 120, .inl tp))] := hD
                suffices loop_86 : ∀ (n_86 : Nat) (t8 : Nat) (H : Heap) (locs : List Loc) (ls : Array Slot), mz - t8 < n_86 → (t8 ≤ mz) → (f8 ≤ t8) → (f8 < t8 ∨ f8 = mz) → va_P D vwCl [(h0, .inr (9, [.ref ys, .ref yk, .ref yo, .ref yt, .int mk0, .ref yfa, .ref yfe, .int mL, .int mS, .int mM, .ref yro, .ref yhe, .ref ygr, .int mF, .int mC, .int mY, .ref yta, .int (nI (mz)), .int (nI (f8)), .int (nI (t8)), .int mv, .int mw, .ref ywa, .ref ybi, .ref ysi, .ref ynu, .ref ymo])), (yta, .inl (cI, 120, .inl tp))] H → va_D A [(h0, .inr (9, [.ref ys, .ref yk, .ref yo, .ref yt, .int mk0, .ref yfa, .ref yfe, .int mL, .int mS, .int mM, .ref yro, .ref yhe, .ref ygr, .int mF, .int mC, .int mY, .ref yta, .int (nI (mz)), .int (nI (f8)), .int (nI (t8)), .int mv, .int mw, .ref ywa, .ref ybi, .ref ysi, .ref ynu, .ref ymo])), (yta, .inl (cI, 120, .inl tp))] → va_S A s.heap H locs → lv_has ls 3 [(2, .int 0), (1, .int 0), (0, .ref h0)] → W p l e ({ frames := 2, cells := 0, slots := 0, locals := 45 }) s m ([.ref h0] : List Value).toArray below meth c H locs 0 0 (MQ below (XQv (fun (u : Nat × Nat) => match u with | (f2, t2) => (f2 ≤ mz) ∧ (t2 ≤ mz) ∧ (f2 ≤ t2) ∧ (f2 < t2 ∨ f2 = mz) ∧ (mt ≤ f2)) D (fun (u : Nat × Nat) => match u with | (f2, t2) => [(h0, .inr (9, [.ref ys, .ref yk, .ref yo, .ref yt, .int mk0, .ref yfa, .ref yfe, .int mL, .int mS, .int mM, .ref yro, .ref yhe, .ref ygr, .int mF, .int mC, .int mY, .ref yta, .int (nI (mz)), .int (nI (f2)), .int (nI (t2)), .int mv, .int mw, .ref ywa, .ref ybi, .ref ysi, .ref ynu, .ref ymo])), (yta, .inl (cI, 120, .inl tp))]) A) ([.ref h0] : List Value).toArray s 0 0 A) (F0 m 86 ls []) by
                  exact loop_86 _ f8 _ _ _ (Nat.lt_succ_self _) (by omega) (by omega) (by omega) hP hD hS (lv_sub hl [0, 1, 2] rfl)
                intro n_86
                induction n_86 with
                | zero =>
                  intro t8 H locs ls hm_86
                  exact absurd hm_86 (Nat.not_lt_zero _)
                | succ n_86 ih_86 =>
                  intro t8 H locs ls hm_86 ht8 hu8 hv8 hP hD hS hl
                  refine lv_iload_n hx hb dX9_next_86 rfl (lv_at hl 1 rfl) ?_
                  refine lv_if_eq (tgt := 104) hx hb dX9_next_87 (by decide) (fun c_463 => ?_) (fun c_463 => absurd (by decide) c_463)
                  refine lv_iload_n hx hb dX9_next_104 rfl (lv_at hl 0 rfl) ?_
                  refine lv_if_eq (tgt := 135) hx hb dX9_next_105 (by decide) (fun c_464 => ?_) (fun c_464 => absurd (by decide) c_464)
                  exact W.vret hx hb hr (fun t ht hW => ⟨⟨(f8, t8), rfl, ⟨(by first | assumption | omega), (by first | assumption | omega), (by first | assumption | omega), (by first | assumption | omega), (by first | assumption | omega)⟩, by rw [ht]; exact hP.sub [0, 1] rfl, hD.sub [0, 1] (by decide) rfl⟩, hS.F ht⟩) hS.2.2 dX9_next_135 hlk
              · skip
                have nc_462 : f8 < mz := xn_nle (a := mz) (b := f8) (by omega) (by omega) c_462
                refine lv_aload_n hx hb dX9_next_70 rfl (lv_at hl 2 rfl) ?_
                refine xg hF kf_X9_254 hK hP 0 rfl rfl dX9_next_71 ?_
                refine lv_iconst (v := 1) hx hb dX9_next_74 (by decide) ?_
                refine lv_iadd hx hb dX9_next_75 ?_
                refine xl_i (y := nI (f8 + 1)) (nI_add f8 1) ?_
                refine lv_goto (tgt := 83) hx hb dX9_next_76 (by decide) ?_
                refine xp hF kf_X9_251 tyX9_ok nmX9 hK hP hD hS 0 rfl rfl rfl rfl (Nat.le_of_ble_eq_true rfl) dX9_next_83 (fun H locs hP hD hS => ?_)
                have hP : va_P D vwCl [(h0, .inr (9, [.ref ys, .ref yk, .ref yo, .ref yt, .int mk0, .ref yfa, .ref yfe, .int mL, .int mS, .int mM, .ref yro, .ref yhe, .ref ygr, .int mF, .int mC, .int mY, .ref yta, .int (nI (mz)), .int (nI (f8)), .int (nI (f8 + 1)), .int mv, .int mw, .ref ywa, .ref ybi, .ref ysi, .ref ynu, .ref ymo])), (yta, .inl (cI, 120, .inl tp))] H := hP
                have hD : va_D A [(h0, .inr (9, [.ref ys, .ref yk, .ref yo, .ref yt, .int mk0, .ref yfa, .ref yfe, .int mL, .int mS, .int mM, .ref yro, .ref yhe, .ref ygr, .int mF, .int mC, .int mY, .ref yta, .int (nI (mz)), .int (nI (f8)), .int (nI (f8 + 1)), .int mv, .int mw, .ref ywa, .ref ybi, .ref ysi, .ref ynu, .ref ymo])), (yta, .inl (cI, 120, .inl tp))] := hD
                suffices loop_86 : ∀ (n_86 : Nat) (t8 : Nat) (H : Heap) (locs : List Loc) (ls : Array Slot), mz - t8 < n_86 → (t8 ≤ mz) → (f8 ≤ t8) → (f8 < t8 ∨ f8 = mz) → va_P D vwCl [(h0, .inr (9, [.ref ys, .ref yk, .ref yo, .ref yt, .int mk0, .ref yfa, .ref yfe, .int mL, .int mS, .int mM, .ref yro, .ref yhe, .ref ygr, .int mF, .int mC, .int mY, .ref yta, .int (nI (mz)), .int (nI (f8)), .int (nI (t8)), .int mv, .int mw, .ref ywa, .ref ybi, .ref ysi, .ref ynu, .ref ymo])), (yta, .inl (cI, 120, .inl tp))] H → va_D A [(h0, .inr (9, [.ref ys, .ref yk, .ref yo, .ref yt, .int mk0, .ref yfa, .ref yfe, .int mL, .int mS, .int mM, .ref yro, .ref yhe, .ref ygr, .int mF, .int mC, .int mY, .ref yta, .int (nI (mz)), .int (nI (f8)), .int (nI (t8)), .int mv, .int mw, .ref ywa, .ref ybi, .ref ysi, .ref ynu, .ref ymo])), (yta, .inl (cI, 120, .inl tp))] → va_S A s.heap H locs → lv_has ls 3 [(2, .int 0), (1, .int 0), (0, .ref h0)] → W p l e ({ frames := 2, cells := 0, slots := 0, locals := 45 }) s m ([.ref h0] : List Value).toArray below meth c H locs 0 0 (MQ below (XQv (fun (u : Nat × Nat) => match u with | (f2, t2) => (f2 ≤ mz) ∧ (t2 ≤ mz) ∧ (f2 ≤ t2) ∧ (f2 < t2 ∨ f2 = mz) ∧ (mt ≤ f2)) D (fun (u : Nat × Nat) => match u with | (f2, t2) => [(h0, .inr (9, [.ref ys, .ref yk, .ref yo, .ref yt, .int mk0, .ref yfa, .ref yfe, .int mL, .int mS, .int mM, .ref yro, .ref yhe, .ref ygr, .int mF, .int mC, .int mY, .ref yta, .int (nI (mz)), .int (nI (f2)), .int (nI (t2)), .int mv, .int mw, .ref ywa, .ref ybi, .ref ysi, .ref ynu, .ref ymo])), (yta, .inl (cI, 120, .inl tp))]) A) ([.ref h0] : List Value).toArray s 0 0 A) (F0 m 86 ls []) by
                  exact loop_86 _ (f8 + 1) _ _ _ (Nat.lt_succ_self _) (by omega) (by omega) (by omega) hP hD hS (lv_sub hl [0, 1, 2] rfl)
                intro n_86
                induction n_86 with
                | zero =>
                  intro t8 H locs ls hm_86
                  exact absurd hm_86 (Nat.not_lt_zero _)
                | succ n_86 ih_86 =>
                  intro t8 H locs ls hm_86 ht8 hu8 hv8 hP hD hS hl
                  refine lv_iload_n hx hb dX9_next_86 rfl (lv_at hl 1 rfl) ?_
                  refine lv_if_eq (tgt := 104) hx hb dX9_next_87 (by decide) (fun c_465 => ?_) (fun c_465 => absurd (by decide) c_465)
                  refine lv_iload_n hx hb dX9_next_104 rfl (lv_at hl 0 rfl) ?_
                  refine lv_if_eq (tgt := 135) hx hb dX9_next_105 (by decide) (fun c_466 => ?_) (fun c_466 => absurd (by decide) c_466)
                  exact W.vret hx hb hr (fun t ht hW => ⟨⟨(f8, t8), rfl, ⟨(by first | assumption | omega), (by first | assumption | omega), (by first | assumption | omega), (by first | assumption | omega), (by first | assumption | omega)⟩, by rw [ht]; exact hP.sub [0, 1] rfl, hD.sub [0, 1] (by decide) rfl⟩, hS.F ht⟩) hS.2.2 dX9_next_135 hlk
          · skip
            refine xc_Sr hF (c_X9_isDigit l D cI cJ cZ cS ta sa sv H.size (-1) ) ks_X9_263 ⟨rfl, rfl, Nat.le_of_ble_eq_true rfl, Nat.le_of_ble_eq_true rfl⟩ ⟨Nat.le_of_ble_eq_true rfl, Nat.le_of_ble_eq_true rfl⟩ hK hN hZ hP hD hS hA [] rfl rfl rfl hl.1 rfl (Nat.le_of_ble_eq_true rfl) dX9_next_54 (fun r_467 hw_r_467 => ?_)
            rcases hw_r_467 with ⟨rfl, h_468, h_469⟩ | ⟨rfl, h_470⟩
            · exact absurd (by decide) h_468
            · skip
              refine lv_istore_n (lv' := [(2, .int 0), (1, .int 0), (0, .ref h0)]) hx hb dX9_next_57 rfl hl (by decide) rfl (fun ls hl => ?_)
              refine lv_aload_n hx hb dX9_next_58 rfl (lv_at hl 2 rfl) ?_
              refine lv_aload_n hx hb dX9_next_59 rfl (lv_at hl 2 rfl) ?_
              refine xg hF kf_X9_254 hK hP 0 rfl rfl dX9_next_60 ?_
              refine lv_aload_n hx hb dX9_next_63 rfl (lv_at hl 2 rfl) ?_
              refine xg hF kf_X9_240 hK hP 0 rfl rfl dX9_next_64 ?_
              refine lv_icmp_ge (tgt := 79) hx hb dX9_next_67 (by decide) (fun c_471 => ?_) (fun c_471 => ?_)
              · skip
                have nc_471 : mz ≤ f8 := xn_le (a := mz) (b := f8) (by omega) (by omega) c_471
                refine lv_aload_n hx hb dX9_next_79 rfl (lv_at hl 2 rfl) ?_
                refine xg hF kf_X9_254 hK hP 0 rfl rfl dX9_next_80 ?_
                refine xp hF kf_X9_251 tyX9_ok nmX9 hK hP hD hS 0 rfl rfl rfl rfl (Nat.le_of_ble_eq_true rfl) dX9_next_83 (fun H locs hP hD hS => ?_)
                have hP : va_P D vwCl [(h0, .inr (9, [.ref ys, .ref yk, .ref yo, .ref yt, .int mk0, .ref yfa, .ref yfe, .int mL, .int mS, .int mM, .ref yro, .ref yhe, .ref ygr, .int mF, .int mC, .int mY, .ref yta, .int (nI (mz)), .int (nI (f8)), .int (nI (f8)), .int mv, .int mw, .ref ywa, .ref ybi, .ref ysi, .ref ynu, .ref ymo])), (yta, .inl (cI, 120, .inl tp))] H := hP
                have hD : va_D A [(h0, .inr (9, [.ref ys, .ref yk, .ref yo, .ref yt, .int mk0, .ref yfa, .ref yfe, .int mL, .int mS, .int mM, .ref yro, .ref yhe, .ref ygr, .int mF, .int mC, .int mY, .ref yta, .int (nI (mz)), .int (nI (f8)), .int (nI (f8)), .int mv, .int mw, .ref ywa, .ref ybi, .ref ysi, .ref ynu, .ref ymo])), (yta, .inl (cI, 120, .inl tp))] := hD
                suffices loop_86 : ∀ (n_86 : Nat) (t8 : Nat) (H : Heap) (locs : List Loc) (ls : Array Slot), mz - t8 < n_86 → (t8 ≤ mz) → (f8 ≤ t8) → (f8 < t8 ∨ f8 = mz) → va_P D vwCl [(h0, .inr (9, [.ref ys, .ref yk, .ref yo, .ref yt, .int mk0, .ref yfa, .ref yfe, .int mL, .int mS, .int mM, .ref yro, .ref yhe, .ref ygr, .int mF, .int mC, .int mY, .ref yta, .int (nI (mz)), .int (nI (f8)), .int (nI (t8)), .int mv, .int mw, .ref ywa, .ref ybi, .ref ysi, .ref ynu, .ref ymo])), (yta, .inl (cI, 120, .inl tp))] H → va_D A [(h0, .inr (9, [.ref ys, .ref yk, .ref yo, .ref yt, .int mk0, .ref yfa, .ref yfe, .int mL, .int mS, .int mM, .ref yro, .ref yhe, .ref ygr, .int mF, .int mC, .int mY, .ref yta, .int (nI (mz)), .int (nI (f8)), .int (nI (t8)), .int mv, .int mw, .ref ywa, .ref ybi, .ref ysi, .ref ynu, .ref ymo])), (yta, .inl (cI, 120, .inl tp))] → va_S A s.heap H locs → lv_has ls 3 [(2, .int 0), (1, .int 0), (0, .ref h0)] → W p l e ({ frames := 2, cells := 0, slots := 0, locals := 45 }) s m ([.ref h0] : List Value).toArray below meth c H locs 0 0 (MQ below (XQv (fun (u : Nat × Nat) => match u with | (f2, t2) => (f2 ≤ mz) ∧ (t2 ≤ mz) ∧ (f2 ≤ t2) ∧ (f2 < t2 ∨ f2 = mz) ∧ (mt ≤ f2)) D (fun (u : Nat × Nat) => match u with | (f2, t2) => [(h0, .inr (9, [.ref ys, .ref yk, .ref yo, .ref yt, .int mk0, .ref yfa, .ref yfe, .int mL, .int mS, .int mM, .ref yro, .ref yhe, .ref ygr, .int mF, .int mC, .int mY, .ref yta, .int (nI (mz)), .int (nI (f2)), .int (nI (t2)), .int mv, .int mw, .ref ywa, .ref ybi, .ref ysi, .ref ynu, .ref ymo])), (yta, .inl (cI, 120, .inl tp))]) A) ([.ref h0] : List Value).toArray s 0 0 A) (F0 m 86 ls []) by
                  exact loop_86 _ f8 _ _ _ (Nat.lt_succ_self _) (by omega) (by omega) (by omega) hP hD hS (lv_sub hl [0, 1, 2] rfl)
                intro n_86
                induction n_86 with
                | zero =>
                  intro t8 H locs ls hm_86
                  exact absurd hm_86 (Nat.not_lt_zero _)
                | succ n_86 ih_86 =>
                  intro t8 H locs ls hm_86 ht8 hu8 hv8 hP hD hS hl
                  refine lv_iload_n hx hb dX9_next_86 rfl (lv_at hl 1 rfl) ?_
                  refine lv_if_eq (tgt := 104) hx hb dX9_next_87 (by decide) (fun c_472 => ?_) (fun c_472 => absurd (by decide) c_472)
                  refine lv_iload_n hx hb dX9_next_104 rfl (lv_at hl 0 rfl) ?_
                  refine lv_if_eq (tgt := 135) hx hb dX9_next_105 (by decide) (fun c_473 => ?_) (fun c_473 => absurd (by decide) c_473)
                  exact W.vret hx hb hr (fun t ht hW => ⟨⟨(f8, t8), rfl, ⟨(by first | assumption | omega), (by first | assumption | omega), (by first | assumption | omega), (by first | assumption | omega), (by first | assumption | omega)⟩, by rw [ht]; exact hP.sub [0, 1] rfl, hD.sub [0, 1] (by decide) rfl⟩, hS.F ht⟩) hS.2.2 dX9_next_135 hlk
              · skip
                have nc_471 : f8 < mz := xn_nle (a := mz) (b := f8) (by omega) (by omega) c_471
                refine lv_aload_n hx hb dX9_next_70 rfl (lv_at hl 2 rfl) ?_
                refine xg hF kf_X9_254 hK hP 0 rfl rfl dX9_next_71 ?_
                refine lv_iconst (v := 1) hx hb dX9_next_74 (by decide) ?_
                refine lv_iadd hx hb dX9_next_75 ?_
                refine xl_i (y := nI (f8 + 1)) (nI_add f8 1) ?_
                refine lv_goto (tgt := 83) hx hb dX9_next_76 (by decide) ?_
                refine xp hF kf_X9_251 tyX9_ok nmX9 hK hP hD hS 0 rfl rfl rfl rfl (Nat.le_of_ble_eq_true rfl) dX9_next_83 (fun H locs hP hD hS => ?_)
                have hP : va_P D vwCl [(h0, .inr (9, [.ref ys, .ref yk, .ref yo, .ref yt, .int mk0, .ref yfa, .ref yfe, .int mL, .int mS, .int mM, .ref yro, .ref yhe, .ref ygr, .int mF, .int mC, .int mY, .ref yta, .int (nI (mz)), .int (nI (f8)), .int (nI (f8 + 1)), .int mv, .int mw, .ref ywa, .ref ybi, .ref ysi, .ref ynu, .ref ymo])), (yta, .inl (cI, 120, .inl tp))] H := hP
                have hD : va_D A [(h0, .inr (9, [.ref ys, .ref yk, .ref yo, .ref yt, .int mk0, .ref yfa, .ref yfe, .int mL, .int mS, .int mM, .ref yro, .ref yhe, .ref ygr, .int mF, .int mC, .int mY, .ref yta, .int (nI (mz)), .int (nI (f8)), .int (nI (f8 + 1)), .int mv, .int mw, .ref ywa, .ref ybi, .ref ysi, .ref ynu, .ref ymo])), (yta, .inl (cI, 120, .inl tp))] := hD
                suffices loop_86 : ∀ (n_86 : Nat) (t8 : Nat) (H : Heap) (locs : List Loc) (ls : Array Slot), mz - t8 < n_86 → (t8 ≤ mz) → (f8 ≤ t8) → (f8 < t8 ∨ f8 = mz) → va_P D vwCl [(h0, .inr (9, [.ref ys, .ref yk, .ref yo, .ref yt, .int mk0, .ref yfa, .ref yfe, .int mL, .int mS, .int mM, .ref yro, .ref yhe, .ref ygr, .int mF, .int mC, .int mY, .ref yta, .int (nI (mz)), .int (nI (f8)), .int (nI (t8)), .int mv, .int mw, .ref ywa, .ref ybi, .ref ysi, .ref ynu, .ref ymo])), (yta, .inl (cI, 120, .inl tp))] H → va_D A [(h0, .inr (9, [.ref ys, .ref yk, .ref yo, .ref yt, .int mk0, .ref yfa, .ref yfe, .int mL, .int mS, .int mM, .ref yro, .ref yhe, .ref ygr, .int mF, .int mC, .int mY, .ref yta, .int (nI (mz)), .int (nI (f8)), .int (nI (t8)), .int mv, .int mw, .ref ywa, .ref ybi, .ref ysi, .ref ynu, .ref ymo])), (yta, .inl (cI, 120, .inl tp))] → va_S A s.heap H locs → lv_has ls 3 [(2, .int 0), (1, .int 0), (0, .ref h0)] → W p l e ({ frames := 2, cells := 0, slots := 0, locals := 45 }) s m ([.ref h0] : List Value).toArray below meth c H locs 0 0 (MQ below (XQv (fun (u : Nat × Nat) => match u with | (f2, t2) => (f2 ≤ mz) ∧ (t2 ≤ mz) ∧ (f2 ≤ t2) ∧ (f2 < t2 ∨ f2 = mz) ∧ (mt ≤ f2)) D (fun (u : Nat × Nat) => match u with | (f2, t2) => [(h0, .inr (9, [.ref ys, .ref yk, .ref yo, .ref yt, .int mk0, .ref yfa, .ref yfe, .int mL, .int mS, .int mM, .ref yro, .ref yhe, .ref ygr, .int mF, .int mC, .int mY, .ref yta, .int (nI (mz)), .int (nI (f2)), .int (nI (t2)), .int mv, .int mw, .ref ywa, .ref ybi, .ref ysi, .ref ynu, .ref ymo])), (yta, .inl (cI, 120, .inl tp))]) A) ([.ref h0] : List Value).toArray s 0 0 A) (F0 m 86 ls []) by
                  exact loop_86 _ (f8 + 1) _ _ _ (Nat.lt_succ_self _) (by omega) (by omega) (by omega) hP hD hS (lv_sub hl [0, 1, 2] rfl)
                intro n_86
                induction n_86 with
                | zero =>
                  intro t8 H locs ls hm_86
                  exact absurd hm_86 (Nat.not_lt_zero _)
                | succ n_86 ih_86 =>
                  intro t8 H locs ls hm_86 ht8 hu8 hv8 hP hD hS hl
                  refine lv_iload_n hx hb dX9_next_86 rfl (lv_at hl 1 rfl) ?_
                  refine lv_if_eq (tgt := 104) hx hb dX9_next_87 (by decide) (fun c_474 => ?_) (fun c_474 => absurd (by decide) c_474)
                  refine lv_iload_n hx hb dX9_next_104 rfl (lv_at hl 0 rfl) ?_
                  refine lv_if_eq (tgt := 135) hx hb dX9_next_105 (by decide) (fun c_475 => ?_) (fun c_475 => absurd (by decide) c_475)
                  exact W.vret hx hb hr (fun t ht hW => ⟨⟨(f8, t8), rfl, ⟨(by first | assumption | omega), (by first | assumption | omega), (by first | assumption | omega), (by first | assumption | omega), (by first | assumption | omega)⟩, by rw [ht]; exact hP.sub [0, 1] rfl, hD.sub [0, 1] (by decide) rfl⟩, hS.F ht⟩) hS.2.2 dX9_next_135 hlk
      · skip
        refine xc_Sr hF (c_X9_isLetterF l D cI cJ cZ cS ta sa sv H.size (-1) ) ks_X9_260 ⟨rfl, rfl, Nat.le_of_ble_eq_true rfl, Nat.le_of_ble_eq_true rfl⟩ ⟨Nat.le_of_ble_eq_true rfl, Nat.le_of_ble_eq_true rfl⟩ hK hN hZ hP hD hS hA [] rfl rfl rfl hl.1 rfl (Nat.le_of_ble_eq_true rfl) dX9_next_42 (fun r_476 hw_r_476 => ?_)
        rcases hw_r_476 with ⟨rfl, h_477⟩ | rfl
        · exact absurd (by decide) h_477
        · skip
          refine lv_istore_n (lv' := [(1, .int 0), (0, .ref h0)]) hx hb dX9_next_45 rfl hl (by decide) rfl (fun ls hl => ?_)
          refine lv_aload_n hx hb dX9_next_46 rfl (lv_at hl 1 rfl) ?_
          refine lv_aload_n hx hb dX9_next_47 rfl (lv_at hl 1 rfl) ?_
          refine xg hF kf_X9_254 hK hP 0 rfl rfl dX9_next_48 ?_
          refine xc_Vr hF (c_X9_byteAt l D cI cJ cZ cS ta sa sv H.size h0 ys yk yo yt mk0 yfa yfe mL mS mM yro yhe ygr mF mC mY yta mz f8 mt mv mw ywa ybi ysi ynu ymo tp f8 (by omega) (by omega)) kv_X9_257 ⟨rfl, rfl, Nat.le_of_ble_eq_true rfl, Nat.le_of_ble_eq_true rfl⟩ ⟨Nat.le_of_ble_eq_true rfl, Nat.le_of_ble_eq_true rfl⟩ hK hN hZ hP hD hS hA [0, 1] rfl rfl 0 rfl rfl rfl rfl hl.1 rfl (Nat.le_of_ble_eq_true rfl) dX9_next_51 (fun r_478 hw_r_478 => ?_)
          rcases hw_r_478 with ⟨rfl, h_479⟩ | ⟨rfl, h_480⟩
          · skip
            refine xc_Sr hF (c_X9_isDigit l D cI cJ cZ cS ta sa sv H.size (tp f8) ) ks_X9_263 ⟨rfl, rfl, Nat.le_of_ble_eq_true rfl, Nat.le_of_ble_eq_true rfl⟩ ⟨Nat.le_of_ble_eq_true rfl, Nat.le_of_ble_eq_true rfl⟩ hK hN hZ hP hD hS hA [] rfl rfl rfl hl.1 rfl (Nat.le_of_ble_eq_true rfl) dX9_next_54 (fun r_481 hw_r_481 => ?_)
            rcases hw_r_481 with ⟨rfl, h_482, h_483⟩ | ⟨rfl, h_484⟩
            · skip
              refine lv_istore_n (lv' := [(2, .int 1), (1, .int 0), (0, .ref h0)]) hx hb dX9_next_57 rfl hl (by decide) rfl (fun ls hl => ?_)
              refine lv_aload_n hx hb dX9_next_58 rfl (lv_at hl 2 rfl) ?_
              refine lv_aload_n hx hb dX9_next_59 rfl (lv_at hl 2 rfl) ?_
              refine xg hF kf_X9_254 hK hP 0 rfl rfl dX9_next_60 ?_
              refine lv_aload_n hx hb dX9_next_63 rfl (lv_at hl 2 rfl) ?_
              refine xg hF kf_X9_240 hK hP 0 rfl rfl dX9_next_64 ?_
              refine lv_icmp_ge (tgt := 79) hx hb dX9_next_67 (by decide) (fun c_485 => ?_) (fun c_485 => ?_)
              · skip
                have nc_485 : mz ≤ f8 := xn_le (a := mz) (b := f8) (by omega) (by omega) c_485
                refine lv_aload_n hx hb dX9_next_79 rfl (lv_at hl 2 rfl) ?_
                refine xg hF kf_X9_254 hK hP 0 rfl rfl dX9_next_80 ?_
                refine xp hF kf_X9_251 tyX9_ok nmX9 hK hP hD hS 0 rfl rfl rfl rfl (Nat.le_of_ble_eq_true rfl) dX9_next_83 (fun H locs hP hD hS => ?_)
                have hP : va_P D vwCl [(h0, .inr (9, [.ref ys, .ref yk, .ref yo, .ref yt, .int mk0, .ref yfa, .ref yfe, .int mL, .int mS, .int mM, .ref yro, .ref yhe, .ref ygr, .int mF, .int mC, .int mY, .ref yta, .int (nI (mz)), .int (nI (f8)), .int (nI (f8)), .int mv, .int mw, .ref ywa, .ref ybi, .ref ysi, .ref ynu, .ref ymo])), (yta, .inl (cI, 120, .inl tp))] H := hP
                have hD : va_D A [(h0, .inr (9, [.ref ys, .ref yk, .ref yo, .ref yt, .int mk0, .ref yfa, .ref yfe, .int mL, .int mS, .int mM, .ref yro, .ref yhe, .ref ygr, .int mF, .int mC, .int mY, .ref yta, .int (nI (mz)), .int (nI (f8)), .int (nI (f8)), .int mv, .int mw, .ref ywa, .ref ybi, .ref ysi, .ref ynu, .ref ymo])), (yta, .inl (cI, 120, .inl tp))] := hD
                suffices loop_86 : ∀ (n_86 : Nat) (t8 : Nat) (H : Heap) (locs : List Loc) (ls : Array Slot), mz - t8 < n_86 → (t8 ≤ mz) → (f8 ≤ t8) → (f8 < t8 ∨ f8 = mz) → va_P D vwCl [(h0, .inr (9, [.ref ys, .ref yk, .ref yo, .ref yt, .int mk0, .ref yfa, .ref yfe, .int mL, .int mS, .int mM, .ref yro, .ref yhe, .ref ygr, .int mF, .int mC, .int mY, .ref yta, .int (nI (mz)), .int (nI (f8)), .int (nI (t8)), .int mv, .int mw, .ref ywa, .ref ybi, .ref ysi, .ref ynu, .ref ymo])), (yta, .inl (cI, 120, .inl tp))] H → va_D A [(h0, .inr (9, [.ref ys, .ref yk, .ref yo, .ref yt, .int mk0, .ref yfa, .ref yfe, .int mL, .int mS, .int mM, .ref yro, .ref yhe, .ref ygr, .int mF, .int mC, .int mY, .ref yta, .int (nI (mz)), .int (nI (f8)), .int (nI (t8)), .int mv, .int mw, .ref ywa, .ref ybi, .ref ysi, .ref ynu, .ref ymo])), (yta, .inl (cI, 120, .inl tp))] → va_S A s.heap H locs → lv_has ls 3 [(2, .int 1), (1, .int 0), (0, .ref h0)] → W p l e ({ frames := 2, cells := 0, slots := 0, locals := 45 }) s m ([.ref h0] : List Value).toArray below meth c H locs 0 0 (MQ below (XQv (fun (u : Nat × Nat) => match u with | (f2, t2) => (f2 ≤ mz) ∧ (t2 ≤ mz) ∧ (f2 ≤ t2) ∧ (f2 < t2 ∨ f2 = mz) ∧ (mt ≤ f2)) D (fun (u : Nat × Nat) => match u with | (f2, t2) => [(h0, .inr (9, [.ref ys, .ref yk, .ref yo, .ref yt, .int mk0, .ref yfa, .ref yfe, .int mL, .int mS, .int mM, .ref yro, .ref yhe, .ref ygr, .int mF, .int mC, .int mY, .ref yta, .int (nI (mz)), .int (nI (f2)), .int (nI (t2)), .int mv, .int mw, .ref ywa, .ref ybi, .ref ysi, .ref ynu, .ref ymo])), (yta, .inl (cI, 120, .inl tp))]) A) ([.ref h0] : List Value).toArray s 0 0 A) (F0 m 86 ls []) by
                  exact loop_86 _ f8 _ _ _ (Nat.lt_succ_self _) (by omega) (by omega) (by omega) hP hD hS (lv_sub hl [0, 1, 2] rfl)
                intro n_86
                induction n_86 with
                | zero =>
                  intro t8 H locs ls hm_86
                  exact absurd hm_86 (Nat.not_lt_zero _)
                | succ n_86 ih_86 =>
                  intro t8 H locs ls hm_86 ht8 hu8 hv8 hP hD hS hl
                  refine lv_iload_n hx hb dX9_next_86 rfl (lv_at hl 1 rfl) ?_
                  refine lv_if_eq (tgt := 104) hx hb dX9_next_87 (by decide) (fun c_486 => ?_) (fun c_486 => absurd (by decide) c_486)
                  refine lv_iload_n hx hb dX9_next_104 rfl (lv_at hl 0 rfl) ?_
                  refine lv_if_eq (tgt := 135) hx hb dX9_next_105 (by decide) (fun c_487 => absurd c_487 (by decide)) (fun c_487 => ?_)
                  refine lv_aload_n hx hb dX9_next_108 rfl (lv_at hl 2 rfl) ?_
                  refine lv_aload_n hx hb dX9_next_109 rfl (lv_at hl 2 rfl) ?_
                  refine xg hF kf_X9_251 hK hP 0 rfl rfl dX9_next_110 ?_
                  refine xc_Vr hF (c_X9_byteAt l D cI cJ cZ cS ta sa sv H.size h0 ys yk yo yt mk0 yfa yfe mL mS mM yro yhe ygr mF mC mY yta mz f8 t8 mv mw ywa ybi ysi ynu ymo tp t8 (by omega) (by omega)) kv_X9_257 ⟨rfl, rfl, Nat.le_of_ble_eq_true rfl, Nat.le_of_ble_eq_true rfl⟩ ⟨Nat.le_of_ble_eq_true rfl, Nat.le_of_ble_eq_true rfl⟩ hK hN hZ hP hD hS hA [0, 1] rfl rfl 0 rfl rfl rfl rfl hl.1 rfl (Nat.le_of_ble_eq_true rfl) dX9_next_113 (fun r_488 hw_r_488 => ?_)
                  rcases hw_r_488 with ⟨rfl, h_489⟩ | ⟨rfl, h_490⟩
                  · skip
                    refine xc_Sr hF (c_X9_isDigit l D cI cJ cZ cS ta sa sv H.size (tp t8) ) ks_X9_263 ⟨rfl, rfl, Nat.le_of_ble_eq_true rfl, Nat.le_of_ble_eq_true rfl⟩ ⟨Nat.le_of_ble_eq_true rfl, Nat.le_of_ble_eq_true rfl⟩ hK hN hZ hP hD hS hA [] rfl rfl rfl hl.1 rfl (Nat.le_of_ble_eq_true rfl) dX9_next_116 (fun r_491 hw_r_491 => ?_)
                    rcases hw_r_491 with ⟨rfl, h_492, h_493⟩ | ⟨rfl, h_494⟩
                    · skip
                      refine lv_if_eq (tgt := 135) hx hb dX9_next_119 (by decide) (fun c_495 => absurd c_495 (by decide)) (fun c_495 => ?_)
                      refine lv_aload_n hx hb dX9_next_122 rfl (lv_at hl 2 rfl) ?_
                      refine lv_dup hx hb dX9_next_123 rfl ?_
                      refine xg hF kf_X9_251 hK hP 0 rfl rfl dX9_next_124 ?_
                      refine lv_iconst (v := 1) hx hb dX9_next_127 (by decide) ?_
                      refine lv_iadd hx hb dX9_next_128 ?_
                      refine xl_i (y := nI (t8 + 1)) (nI_add t8 1) ?_
                      refine xp hF kf_X9_251 tyX9_ok nmX9 hK hP hD hS 0 rfl rfl rfl rfl (Nat.le_of_ble_eq_true rfl) dX9_next_129 (fun H locs hP hD hS => ?_)
                      have hP : va_P D vwCl [(h0, .inr (9, [.ref ys, .ref yk, .ref yo, .ref yt, .int mk0, .ref yfa, .ref yfe, .int mL, .int mS, .int mM, .ref yro, .ref yhe, .ref ygr, .int mF, .int mC, .int mY, .ref yta, .int (nI (mz)), .int (nI (f8)), .int (nI (t8 + 1)), .int mv, .int mw, .ref ywa, .ref ybi, .ref ysi, .ref ynu, .ref ymo])), (yta, .inl (cI, 120, .inl tp))] H := hP
                      have hD : va_D A [(h0, .inr (9, [.ref ys, .ref yk, .ref yo, .ref yt, .int mk0, .ref yfa, .ref yfe, .int mL, .int mS, .int mM, .ref yro, .ref yhe, .ref ygr, .int mF, .int mC, .int mY, .ref yta, .int (nI (mz)), .int (nI (f8)), .int (nI (t8 + 1)), .int mv, .int mw, .ref ywa, .ref ybi, .ref ysi, .ref ynu, .ref ymo])), (yta, .inl (cI, 120, .inl tp))] := hD
                      refine lv_goto (tgt := 86) hx hb dX9_next_132 (by decide) ?_
                      exact ih_86 (t8 + 1) _ _ _ (by omega) (by omega) (by omega) (by omega) (hP.sub [0, 1] rfl) (hD.sub [0, 1] (by decide) rfl) hS (lv_sub hl [0, 1, 2] rfl)
                    · skip
                      refine lv_if_eq (tgt := 135) hx hb dX9_next_119 (by decide) (fun c_496 => ?_) (fun c_496 => absurd (by decide) c_496)
                      exact W.vret hx hb hr (fun t ht hW => ⟨⟨(f8, t8), rfl, ⟨(by first | assumption | omega), (by first | assumption | omega), (by first | assumption | omega), (by first | assumption | omega), (by first | assumption | omega)⟩, by rw [ht]; exact hP.sub [0, 1] rfl, hD.sub [0, 1] (by decide) rfl⟩, hS.F ht⟩) hS.2.2 dX9_next_135 hlk
                  · skip
                    refine xc_Sr hF (c_X9_isDigit l D cI cJ cZ cS ta sa sv H.size (-1) ) ks_X9_263 ⟨rfl, rfl, Nat.le_of_ble_eq_true rfl, Nat.le_of_ble_eq_true rfl⟩ ⟨Nat.le_of_ble_eq_true rfl, Nat.le_of_ble_eq_true rfl⟩ hK hN hZ hP hD hS hA [] rfl rfl rfl hl.1 rfl (Nat.le_of_ble_eq_true rfl) dX9_next_116 (fun r_497 hw_r_497 => ?_)
                    rcases hw_r_497 with ⟨rfl, h_498, h_499⟩ | ⟨rfl, h_500⟩
                    · exact absurd (by decide) h_498
                    · skip
                      refine lv_if_eq (tgt := 135) hx hb dX9_next_119 (by decide) (fun c_501 => ?_) (fun c_501 => absurd (by decide) c_501)
                      exact W.vret hx hb hr (fun t ht hW => ⟨⟨(f8, t8), rfl, ⟨(by first | assumption | omega), (by first | assumption | omega), (by first | assumption | omega), (by first | assumption | omega), (by first | assumption | omega)⟩, by rw [ht]; exact hP.sub [0, 1] rfl, hD.sub [0, 1] (by decide) rfl⟩, hS.F ht⟩) hS.2.2 dX9_next_135 hlk
              · skip
                have nc_485 : f8 < mz := xn_nle (a := mz) (b := f8) (by omega) (by omega) c_485
                refine lv_aload_n hx hb dX9_next_70 rfl (lv_at hl 2 rfl) ?_
                refine xg hF kf_X9_254 hK hP 0 rfl rfl dX9_next_71 ?_
                refine lv_iconst (v := 1) hx hb dX9_next_74 (by decide) ?_
                refine lv_iadd hx hb dX9_next_75 ?_
                refine xl_i (y := nI (f8 + 1)) (nI_add f8 1) ?_
                refine lv_goto (tgt := 83) hx hb dX9_next_76 (by decide) ?_
                refine xp hF kf_X9_251 tyX9_ok nmX9 hK hP hD hS 0 rfl rfl rfl rfl (Nat.le_of_ble_eq_true rfl) dX9_next_83 (fun H locs hP hD hS => ?_)
                have hP : va_P D vwCl [(h0, .inr (9, [.ref ys, .ref yk, .ref yo, .ref yt, .int mk0, .ref yfa, .ref yfe, .int mL, .int mS, .int mM, .ref yro, .ref yhe, .ref ygr, .int mF, .int mC, .int mY, .ref yta, .int (nI (mz)), .int (nI (f8)), .int (nI (f8 + 1)), .int mv, .int mw, .ref ywa, .ref ybi, .ref ysi, .ref ynu, .ref ymo])), (yta, .inl (cI, 120, .inl tp))] H := hP
                have hD : va_D A [(h0, .inr (9, [.ref ys, .ref yk, .ref yo, .ref yt, .int mk0, .ref yfa, .ref yfe, .int mL, .int mS, .int mM, .ref yro, .ref yhe, .ref ygr, .int mF, .int mC, .int mY, .ref yta, .int (nI (mz)), .int (nI (f8)), .int (nI (f8 + 1)), .int mv, .int mw, .ref ywa, .ref ybi, .ref ysi, .ref ynu, .ref ymo])), (yta, .inl (cI, 120, .inl tp))] := hD
                suffices loop_86 : ∀ (n_86 : Nat) (t8 : Nat) (H : Heap) (locs : List Loc) (ls : Array Slot), mz - t8 < n_86 → (t8 ≤ mz) → (f8 ≤ t8) → (f8 < t8 ∨ f8 = mz) → va_P D vwCl [(h0, .inr (9, [.ref ys, .ref yk, .ref yo, .ref yt, .int mk0, .ref yfa, .ref yfe, .int mL, .int mS, .int mM, .ref yro, .ref yhe, .ref ygr, .int mF, .int mC, .int mY, .ref yta, .int (nI (mz)), .int (nI (f8)), .int (nI (t8)), .int mv, .int mw, .ref ywa, .ref ybi, .ref ysi, .ref ynu, .ref ymo])), (yta, .inl (cI, 120, .inl tp))] H → va_D A [(h0, .inr (9, [.ref ys, .ref yk, .ref yo, .ref yt, .int mk0, .ref yfa, .ref yfe, .int mL, .int mS, .int mM, .ref yro, .ref yhe, .ref ygr, .int mF, .int mC, .int mY, .ref yta, .int (nI (mz)), .int (nI (f8)), .int (nI (t8)), .int mv, .int mw, .ref ywa, .ref ybi, .ref ysi, .ref ynu, .ref ymo])), (yta, .inl (cI, 120, .inl tp))] → va_S A s.heap H locs → lv_has ls 3 [(2, .int 1), (1, .int 0), (0, .ref h0)] → W p l e ({ frames := 2, cells := 0, slots := 0, locals := 45 }) s m ([.ref h0] : List Value).toArray below meth c H locs 0 0 (MQ below (XQv (fun (u : Nat × Nat) => match u with | (f2, t2) => (f2 ≤ mz) ∧ (t2 ≤ mz) ∧ (f2 ≤ t2) ∧ (f2 < t2 ∨ f2 = mz) ∧ (mt ≤ f2)) D (fun (u : Nat × Nat) => match u with | (f2, t2) => [(h0, .inr (9, [.ref ys, .ref yk, .ref yo, .ref yt, .int mk0, .ref yfa, .ref yfe, .int mL, .int mS, .int mM, .ref yro, .ref yhe, .ref ygr, .int mF, .int mC, .int mY, .ref yta, .int (nI (mz)), .int (nI (f2)), .int (nI (t2)), .int mv, .int mw, .ref ywa, .ref ybi, .ref ysi, .ref ynu, .ref ymo])), (yta, .inl (cI, 120, .inl tp))]) A) ([.ref h0] : List Value).toArray s 0 0 A) (F0 m 86 ls []) by
                  exact loop_86 _ (f8 + 1) _ _ _ (Nat.lt_succ_self _) (by omega) (by omega) (by omega) hP hD hS (lv_sub hl [0, 1, 2] rfl)
                intro n_86
                induction n_86 with
                | zero =>
                  intro t8 H locs ls hm_86
                  exact absurd hm_86 (Nat.not_lt_zero _)
                | succ n_86 ih_86 =>
                  intro t8 H locs ls hm_86 ht8 hu8 hv8 hP hD hS hl
                  refine lv_iload_n hx hb dX9_next_86 rfl (lv_at hl 1 rfl) ?_
                  refine lv_if_eq (tgt := 104) hx hb dX9_next_87 (by decide) (fun c_502 => ?_) (fun c_502 => absurd (by decide) c_502)
                  refine lv_iload_n hx hb dX9_next_104 rfl (lv_at hl 0 rfl) ?_
                  refine lv_if_eq (tgt := 135) hx hb dX9_next_105 (by decide) (fun c_503 => absurd c_503 (by decide)) (fun c_503 => ?_)
                  refine lv_aload_n hx hb dX9_next_108 rfl (lv_at hl 2 rfl) ?_
                  refine lv_aload_n hx hb dX9_next_109 rfl (lv_at hl 2 rfl) ?_
                  refine xg hF kf_X9_251 hK hP 0 rfl rfl dX9_next_110 ?_
                  refine xc_Vr hF (c_X9_byteAt l D cI cJ cZ cS ta sa sv H.size h0 ys yk yo yt mk0 yfa yfe mL mS mM yro yhe ygr mF mC mY yta mz f8 t8 mv mw ywa ybi ysi ynu ymo tp t8 (by omega) (by omega)) kv_X9_257 ⟨rfl, rfl, Nat.le_of_ble_eq_true rfl, Nat.le_of_ble_eq_true rfl⟩ ⟨Nat.le_of_ble_eq_true rfl, Nat.le_of_ble_eq_true rfl⟩ hK hN hZ hP hD hS hA [0, 1] rfl rfl 0 rfl rfl rfl rfl hl.1 rfl (Nat.le_of_ble_eq_true rfl) dX9_next_113 (fun r_504 hw_r_504 => ?_)
                  rcases hw_r_504 with ⟨rfl, h_505⟩ | ⟨rfl, h_506⟩
                  · skip
                    refine xc_Sr hF (c_X9_isDigit l D cI cJ cZ cS ta sa sv H.size (tp t8) ) ks_X9_263 ⟨rfl, rfl, Nat.le_of_ble_eq_true rfl, Nat.le_of_ble_eq_true rfl⟩ ⟨Nat.le_of_ble_eq_true rfl, Nat.le_of_ble_eq_true rfl⟩ hK hN hZ hP hD hS hA [] rfl rfl rfl hl.1 rfl (Nat.le_of_ble_eq_true rfl) dX9_next_116 (fun r_507 hw_r_507 => ?_)
                    rcases hw_r_507 with ⟨rfl, h_508, h_509⟩ | ⟨rfl, h_510⟩
                    · skip
                      refine lv_if_eq (tgt := 135) hx hb dX9_next_119 (by decide) (fun c_511 => absurd c_511 (by decide)) (fun c_511 => ?_)
                      refine lv_aload_n hx hb dX9_next_122 rfl (lv_at hl 2 rfl) ?_
                      refine lv_dup hx hb dX9_next_123 rfl ?_
                      refine xg hF kf_X9_251 hK hP 0 rfl rfl dX9_next_124 ?_
                      refine lv_iconst (v := 1) hx hb dX9_next_127 (by decide) ?_
                      refine lv_iadd hx hb dX9_next_128 ?_
                      refine xl_i (y := nI (t8 + 1)) (nI_add t8 1) ?_
                      refine xp hF kf_X9_251 tyX9_ok nmX9 hK hP hD hS 0 rfl rfl rfl rfl (Nat.le_of_ble_eq_true rfl) dX9_next_129 (fun H locs hP hD hS => ?_)
                      have hP : va_P D vwCl [(h0, .inr (9, [.ref ys, .ref yk, .ref yo, .ref yt, .int mk0, .ref yfa, .ref yfe, .int mL, .int mS, .int mM, .ref yro, .ref yhe, .ref ygr, .int mF, .int mC, .int mY, .ref yta, .int (nI (mz)), .int (nI (f8)), .int (nI (t8 + 1)), .int mv, .int mw, .ref ywa, .ref ybi, .ref ysi, .ref ynu, .ref ymo])), (yta, .inl (cI, 120, .inl tp))] H := hP
                      have hD : va_D A [(h0, .inr (9, [.ref ys, .ref yk, .ref yo, .ref yt, .int mk0, .ref yfa, .ref yfe, .int mL, .int mS, .int mM, .ref yro, .ref yhe, .ref ygr, .int mF, .int mC, .int mY, .ref yta, .int (nI (mz)), .int (nI (f8)), .int (nI (t8 + 1)), .int mv, .int mw, .ref ywa, .ref ybi, .ref ysi, .ref ynu, .ref ymo])), (yta, .inl (cI, 120, .inl tp))] := hD
                      refine lv_goto (tgt := 86) hx hb dX9_next_132 (by decide) ?_
                      exact ih_86 (t8 + 1) _ _ _ (by omega) (by omega) (by omega) (by omega) (hP.sub [0, 1] rfl) (hD.sub [0, 1] (by decide) rfl) hS (lv_sub hl [0, 1, 2] rfl)
                    · skip
                      refine lv_if_eq (tgt := 135) hx hb dX9_next_119 (by decide) (fun c_512 => ?_) (fun c_512 => absurd (by decide) c_512)
                      exact W.vret hx hb hr (fun t ht hW => ⟨⟨(f8, t8), rfl, ⟨(by first | assumption | omega), (by first | assumption | omega), (by first | assumption | omega), (by first | assumption | omega), (by first | assumption | omega)⟩, by rw [ht]; exact hP.sub [0, 1] rfl, hD.sub [0, 1] (by decide) rfl⟩, hS.F ht⟩) hS.2.2 dX9_next_135 hlk
                  · skip
                    refine xc_Sr hF (c_X9_isDigit l D cI cJ cZ cS ta sa sv H.size (-1) ) ks_X9_263 ⟨rfl, rfl, Nat.le_of_ble_eq_true rfl, Nat.le_of_ble_eq_true rfl⟩ ⟨Nat.le_of_ble_eq_true rfl, Nat.le_of_ble_eq_true rfl⟩ hK hN hZ hP hD hS hA [] rfl rfl rfl hl.1 rfl (Nat.le_of_ble_eq_true rfl) dX9_next_116 (fun r_513 hw_r_513 => ?_)
                    rcases hw_r_513 with ⟨rfl, h_514, h_515⟩ | ⟨rfl, h_516⟩
                    · exact absurd (by decide) h_514
                    · skip
                      refine lv_if_eq (tgt := 135) hx hb dX9_next_119 (by decide) (fun c_517 => ?_) (fun c_517 => absurd (by decide) c_517)
                      exact W.vret hx hb hr (fun t ht hW => ⟨⟨(f8, t8), rfl, ⟨(by first | assumption | omega), (by first | assumption | omega), (by first | assumption | omega), (by first | assumption | omega), (by first | assumption | omega)⟩, by rw [ht]; exact hP.sub [0, 1] rfl, hD.sub [0, 1] (by decide) rfl⟩, hS.F ht⟩) hS.2.2 dX9_next_135 hlk
            · skip
              refine lv_istore_n (lv' := [(2, .int 0), (1, .int 0), (0, .ref h0)]) hx hb dX9_next_57 rfl hl (by decide) rfl (fun ls hl => ?_)
              refine lv_aload_n hx hb dX9_next_58 rfl (lv_at hl 2 rfl) ?_
              refine lv_aload_n hx hb dX9_next_59 rfl (lv_at hl 2 rfl) ?_
              refine xg hF kf_X9_254 hK hP 0 rfl rfl dX9_next_60 ?_
              refine lv_aload_n hx hb dX9_next_63 rfl (lv_at hl 2 rfl) ?_
              refine xg hF kf_X9_240 hK hP 0 rfl rfl dX9_next_64 ?_
              refine lv_icmp_ge (tgt := 79) hx hb dX9_next_67 (by decide) (fun c_518 => ?_) (fun c_518 => ?_)
              · skip
                have nc_518 : mz ≤ f8 := xn_le (a := mz) (b := f8) (by omega) (by omega) c_518
                refine lv_aload_n hx hb dX9_next_79 rfl (lv_at hl 2 rfl) ?_
                refine xg hF kf_X9_254 hK hP 0 rfl rfl dX9_next_80 ?_
                refine xp hF kf_X9_251 tyX9_ok nmX9 hK hP hD hS 0 rfl rfl rfl rfl (Nat.le_of_ble_eq_true rfl) dX9_next_83 (fun H locs hP hD hS => ?_)
                have hP : va_P D vwCl [(h0, .inr (9, [.ref ys, .ref yk, .ref yo, .ref yt, .int mk0, .ref yfa, .ref yfe, .int mL, .int mS, .int mM, .ref yro, .ref yhe, .ref ygr, .int mF, .int mC, .int mY, .ref yta, .int (nI (mz)), .int (nI (f8)), .int (nI (f8)), .int mv, .int mw, .ref ywa, .ref ybi, .ref ysi, .ref ynu, .ref ymo])), (yta, .inl (cI, 120, .inl tp))] H := hP
                have hD : va_D A [(h0, .inr (9, [.ref ys, .ref yk, .ref yo, .ref yt, .int mk0, .ref yfa, .ref yfe, .int mL, .int mS, .int mM, .ref yro, .ref yhe, .ref ygr, .int mF, .int mC, .int mY, .ref yta, .int (nI (mz)), .int (nI (f8)), .int (nI (f8)), .int mv, .int mw, .ref ywa, .ref ybi, .ref ysi, .ref ynu, .ref ymo])), (yta, .inl (cI, 120, .inl tp))] := hD
                suffices loop_86 : ∀ (n_86 : Nat) (t8 : Nat) (H : Heap) (locs : List Loc) (ls : Array Slot), mz - t8 < n_86 → (t8 ≤ mz) → (f8 ≤ t8) → (f8 < t8 ∨ f8 = mz) → va_P D vwCl [(h0, .inr (9, [.ref ys, .ref yk, .ref yo, .ref yt, .int mk0, .ref yfa, .ref yfe, .int mL, .int mS, .int mM, .ref yro, .ref yhe, .ref ygr, .int mF, .int mC, .int mY, .ref yta, .int (nI (mz)), .int (nI (f8)), .int (nI (t8)), .int mv, .int mw, .ref ywa, .ref ybi, .ref ysi, .ref ynu, .ref ymo])), (yta, .inl (cI, 120, .inl tp))] H → va_D A [(h0, .inr (9, [.ref ys, .ref yk, .ref yo, .ref yt, .int mk0, .ref yfa, .ref yfe, .int mL, .int mS, .int mM, .ref yro, .ref yhe, .ref ygr, .int mF, .int mC, .int mY, .ref yta, .int (nI (mz)), .int (nI (f8)), .int (nI (t8)), .int mv, .int mw, .ref ywa, .ref ybi, .ref ysi, .ref ynu, .ref ymo])), (yta, .inl (cI, 120, .inl tp))] → va_S A s.heap H locs → lv_has ls 3 [(2, .int 0), (1, .int 0), (0, .ref h0)] → W p l e ({ frames := 2, cells := 0, slots := 0, locals := 45 }) s m ([.ref h0] : List Value).toArray below meth c H locs 0 0 (MQ below (XQv (fun (u : Nat × Nat) => match u with | (f2, t2) => (f2 ≤ mz) ∧ (t2 ≤ mz) ∧ (f2 ≤ t2) ∧ (f2 < t2 ∨ f2 = mz) ∧ (mt ≤ f2)) D (fun (u : Nat × Nat) => match u with | (f2, t2) => [(h0, .inr (9, [.ref ys, .ref yk, .ref yo, .ref yt, .int mk0, .ref yfa, .ref yfe, .int mL, .int mS, .int mM, .ref yro, .ref yhe, .ref ygr, .int mF, .int mC, .int mY, .ref yta, .int (nI (mz)), .int (nI (f2)), .int (nI (t2)), .int mv, .int mw, .ref ywa, .ref ybi, .ref ysi, .ref ynu, .ref ymo])), (yta, .inl (cI, 120, .inl tp))]) A) ([.ref h0] : List Value).toArray s 0 0 A) (F0 m 86 ls []) by
                  exact loop_86 _ f8 _ _ _ (Nat.lt_succ_self _) (by omega) (by omega) (by omega) hP hD hS (lv_sub hl [0, 1, 2] rfl)
                intro n_86
                induction n_86 with
                | zero =>
                  intro t8 H locs ls hm_86
                  exact absurd hm_86 (Nat.not_lt_zero _)
                | succ n_86 ih_86 =>
                  intro t8 H locs ls hm_86 ht8 hu8 hv8 hP hD hS hl
                  refine lv_iload_n hx hb dX9_next_86 rfl (lv_at hl 1 rfl) ?_
                  refine lv_if_eq (tgt := 104) hx hb dX9_next_87 (by decide) (fun c_519 => ?_) (fun c_519 => absurd (by decide) c_519)
                  refine lv_iload_n hx hb dX9_next_104 rfl (lv_at hl 0 rfl) ?_
                  refine lv_if_eq (tgt := 135) hx hb dX9_next_105 (by decide) (fun c_520 => ?_) (fun c_520 => absurd (by decide) c_520)
                  exact W.vret hx hb hr (fun t ht hW => ⟨⟨(f8, t8), rfl, ⟨(by first | assumption | omega), (by first | assumption | omega), (by first | assumption | omega), (by first | assumption | omega), (by first | assumption | omega)⟩, by rw [ht]; exact hP.sub [0, 1] rfl, hD.sub [0, 1] (by decide) rfl⟩, hS.F ht⟩) hS.2.2 dX9_next_135 hlk
              · skip
                have nc_518 : f8 < mz := xn_nle (a := mz) (b := f8) (by omega) (by omega) c_518
                refine lv_aload_n hx hb dX9_next_70 rfl (lv_at hl 2 rfl) ?_
                refine xg hF kf_X9_254 hK hP 0 rfl rfl dX9_next_71 ?_
                refine lv_iconst (v := 1) hx hb dX9_next_74 (by decide) ?_
                refine lv_iadd hx hb dX9_next_75 ?_
                refine xl_i (y := nI (f8 + 1)) (nI_add f8 1) ?_
                refine lv_goto (tgt := 83) hx hb dX9_next_76 (by decide) ?_
                refine xp hF kf_X9_251 tyX9_ok nmX9 hK hP hD hS 0 rfl rfl rfl rfl (Nat.le_of_ble_eq_true rfl) dX9_next_83 (fun H locs hP hD hS => ?_)
                have hP : va_P D vwCl [(h0, .inr (9, [.ref ys, .ref yk, .ref yo, .ref yt, .int mk0, .ref yfa, .ref yfe, .int mL, .int mS, .int mM, .ref yro, .ref yhe, .ref ygr, .int mF, .int mC, .int mY, .ref yta, .int (nI (mz)), .int (nI (f8)), .int (nI (f8 + 1)), .int mv, .int mw, .ref ywa, .ref ybi, .ref ysi, .ref ynu, .ref ymo])), (yta, .inl (cI, 120, .inl tp))] H := hP
                have hD : va_D A [(h0, .inr (9, [.ref ys, .ref yk, .ref yo, .ref yt, .int mk0, .ref yfa, .ref yfe, .int mL, .int mS, .int mM, .ref yro, .ref yhe, .ref ygr, .int mF, .int mC, .int mY, .ref yta, .int (nI (mz)), .int (nI (f8)), .int (nI (f8 + 1)), .int mv, .int mw, .ref ywa, .ref ybi, .ref ysi, .ref ynu, .ref ymo])), (yta, .inl (cI, 120, .inl tp))] := hD
                suffices loop_86 : ∀ (n_86 : Nat) (t8 : Nat) (H : Heap) (locs : List Loc) (ls : Array Slot), mz - t8 < n_86 → (t8 ≤ mz) → (f8 ≤ t8) → (f8 < t8 ∨ f8 = mz) → va_P D vwCl [(h0, .inr (9, [.ref ys, .ref yk, .ref yo, .ref yt, .int mk0, .ref yfa, .ref yfe, .int mL, .int mS, .int mM, .ref yro, .ref yhe, .ref ygr, .int mF, .int mC, .int mY, .ref yta, .int (nI (mz)), .int (nI (f8)), .int (nI (t8)), .int mv, .int mw, .ref ywa, .ref ybi, .ref ysi, .ref ynu, .ref ymo])), (yta, .inl (cI, 120, .inl tp))] H → va_D A [(h0, .inr (9, [.ref ys, .ref yk, .ref yo, .ref yt, .int mk0, .ref yfa, .ref yfe, .int mL, .int mS, .int mM, .ref yro, .ref yhe, .ref ygr, .int mF, .int mC, .int mY, .ref yta, .int (nI (mz)), .int (nI (f8)), .int (nI (t8)), .int mv, .int mw, .ref ywa, .ref ybi, .ref ysi, .ref ynu, .ref ymo])), (yta, .inl (cI, 120, .inl tp))] → va_S A s.heap H locs → lv_has ls 3 [(2, .int 0), (1, .int 0), (0, .ref h0)] → W p l e ({ frames := 2, cells := 0, slots := 0, locals := 45 }) s m ([.ref h0] : List Value).toArray below meth c H locs 0 0 (MQ below (XQv (fun (u : Nat × Nat) => match u with | (f2, t2) => (f2 ≤ mz) ∧ (t2 ≤ mz) ∧ (f2 ≤ t2) ∧ (f2 < t2 ∨ f2 = mz) ∧ (mt ≤ f2)) D (fun (u : Nat × Nat) => match u with | (f2, t2) => [(h0, .inr (9, [.ref ys, .ref yk, .ref yo, .ref yt, .int mk0, .ref yfa, .ref yfe, .int mL, .int mS, .int mM, .ref yro, .ref yhe, .ref ygr, .int mF, .int mC, .int mY, .ref yta, .int (nI (mz)), .int (nI (f2)), .int (nI (t2)), .int mv, .int mw, .ref ywa, .ref ybi, .ref ysi, .ref ynu, .ref ymo])), (yta, .inl (cI, 120, .inl tp))]) A) ([.ref h0] : List Value).toArray s 0 0 A) (F0 m 86 ls []) by
                  exact loop_86 _ (f8 + 1) _ _ _ (Nat.lt_succ_self _) (by omega) (by omega) (by omega) hP hD hS (lv_sub hl [0, 1, 2] rfl)
                intro n_86
                induction n_86 with
                | zero =>
                  intro t8 H locs ls hm_86
                  exact absurd hm_86 (Nat.not_lt_zero _)
                | succ n_86 ih_86 =>
                  intro t8 H locs ls hm_86 ht8 hu8 hv8 hP hD hS hl
                  refine lv_iload_n hx hb dX9_next_86 rfl (lv_at hl 1 rfl) ?_
                  refine lv_if_eq (tgt := 104) hx hb dX9_next_87 (by decide) (fun c_521 => ?_) (fun c_521 => absurd (by decide) c_521)
                  refine lv_iload_n hx hb dX9_next_104 rfl (lv_at hl 0 rfl) ?_
                  refine lv_if_eq (tgt := 135) hx hb dX9_next_105 (by decide) (fun c_522 => ?_) (fun c_522 => absurd (by decide) c_522)
                  exact W.vret hx hb hr (fun t ht hW => ⟨⟨(f8, t8), rfl, ⟨(by first | assumption | omega), (by first | assumption | omega), (by first | assumption | omega), (by first | assumption | omega), (by first | assumption | omega)⟩, by rw [ht]; exact hP.sub [0, 1] rfl, hD.sub [0, 1] (by decide) rfl⟩, hS.F ht⟩) hS.2.2 dX9_next_135 hlk
          · skip
            refine xc_Sr hF (c_X9_isDigit l D cI cJ cZ cS ta sa sv H.size (-1) ) ks_X9_263 ⟨rfl, rfl, Nat.le_of_ble_eq_true rfl, Nat.le_of_ble_eq_true rfl⟩ ⟨Nat.le_of_ble_eq_true rfl, Nat.le_of_ble_eq_true rfl⟩ hK hN hZ hP hD hS hA [] rfl rfl rfl hl.1 rfl (Nat.le_of_ble_eq_true rfl) dX9_next_54 (fun r_523 hw_r_523 => ?_)
            rcases hw_r_523 with ⟨rfl, h_524, h_525⟩ | ⟨rfl, h_526⟩
            · exact absurd (by decide) h_524
            · skip
              refine lv_istore_n (lv' := [(2, .int 0), (1, .int 0), (0, .ref h0)]) hx hb dX9_next_57 rfl hl (by decide) rfl (fun ls hl => ?_)
              refine lv_aload_n hx hb dX9_next_58 rfl (lv_at hl 2 rfl) ?_
              refine lv_aload_n hx hb dX9_next_59 rfl (lv_at hl 2 rfl) ?_
              refine xg hF kf_X9_254 hK hP 0 rfl rfl dX9_next_60 ?_
              refine lv_aload_n hx hb dX9_next_63 rfl (lv_at hl 2 rfl) ?_
              refine xg hF kf_X9_240 hK hP 0 rfl rfl dX9_next_64 ?_
              refine lv_icmp_ge (tgt := 79) hx hb dX9_next_67 (by decide) (fun c_527 => ?_) (fun c_527 => ?_)
              · skip
                have nc_527 : mz ≤ f8 := xn_le (a := mz) (b := f8) (by omega) (by omega) c_527
                refine lv_aload_n hx hb dX9_next_79 rfl (lv_at hl 2 rfl) ?_
                refine xg hF kf_X9_254 hK hP 0 rfl rfl dX9_next_80 ?_
                refine xp hF kf_X9_251 tyX9_ok nmX9 hK hP hD hS 0 rfl rfl rfl rfl (Nat.le_of_ble_eq_true rfl) dX9_next_83 (fun H locs hP hD hS => ?_)
                have hP : va_P D vwCl [(h0, .inr (9, [.ref ys, .ref yk, .ref yo, .ref yt, .int mk0, .ref yfa, .ref yfe, .int mL, .int mS, .int mM, .ref yro, .ref yhe, .ref ygr, .int mF, .int mC, .int mY, .ref yta, .int (nI (mz)), .int (nI (f8)), .int (nI (f8)), .int mv, .int mw, .ref ywa, .ref ybi, .ref ysi, .ref ynu, .ref ymo])), (yta, .inl (cI, 120, .inl tp))] H := hP
                have hD : va_D A [(h0, .inr (9, [.ref ys, .ref yk, .ref yo, .ref yt, .int mk0, .ref yfa, .ref yfe, .int mL, .int mS, .int mM, .ref yro, .ref yhe, .ref ygr, .int mF, .int mC, .int mY, .ref yta, .int (nI (mz)), .int (nI (f8)), .int (nI (f8)), .int mv, .int mw, .ref ywa, .ref ybi, .ref ysi, .ref ynu, .ref ymo])), (yta, .inl (cI, 120, .inl tp))] := hD
                suffices loop_86 : ∀ (n_86 : Nat) (t8 : Nat) (H : Heap) (locs : List Loc) (ls : Array Slot), mz - t8 < n_86 → (t8 ≤ mz) → (f8 ≤ t8) → (f8 < t8 ∨ f8 = mz) → va_P D vwCl [(h0, .inr (9, [.ref ys, .ref yk, .ref yo, .ref yt, .int mk0, .ref yfa, .ref yfe, .int mL, .int mS, .int mM, .ref yro, .ref yhe, .ref ygr, .int mF, .int mC, .int mY, .ref yta, .int (nI (mz)), .int (nI (f8)), .int (nI (t8)), .int mv, .int mw, .ref ywa, .ref ybi, .ref ysi, .ref ynu, .ref ymo])), (yta, .inl (cI, 120, .inl tp))] H → va_D A [(h0, .inr (9, [.ref ys, .ref yk, .ref yo, .ref yt, .int mk0, .ref yfa, .ref yfe, .int mL, .int mS, .int mM, .ref yro, .ref yhe, .ref ygr, .int mF, .int mC, .int mY, .ref yta, .int (nI (mz)), .int (nI (f8)), .int (nI (t8)), .int mv, .int mw, .ref ywa, .ref ybi, .ref ysi, .ref ynu, .ref ymo])), (yta, .inl (cI, 120, .inl tp))] → va_S A s.heap H locs → lv_has ls 3 [(2, .int 0), (1, .int 0), (0, .ref h0)] → W p l e ({ frames := 2, cells := 0, slots := 0, locals := 45 }) s m ([.ref h0] : List Value).toArray below meth c H locs 0 0 (MQ below (XQv (fun (u : Nat × Nat) => match u with | (f2, t2) => (f2 ≤ mz) ∧ (t2 ≤ mz) ∧ (f2 ≤ t2) ∧ (f2 < t2 ∨ f2 = mz) ∧ (mt ≤ f2)) D (fun (u : Nat × Nat) => match u with | (f2, t2) => [(h0, .inr (9, [.ref ys, .ref yk, .ref yo, .ref yt, .int mk0, .ref yfa, .ref yfe, .int mL, .int mS, .int mM, .ref yro, .ref yhe, .ref ygr, .int mF, .int mC, .int mY, .ref yta, .int (nI (mz)), .int (nI (f2)), .int (nI (t2)), .int mv, .int mw, .ref ywa, .ref ybi, .ref ysi, .ref ynu, .ref ymo])), (yta, .inl (cI, 120, .inl tp))]) A) ([.ref h0] : List Value).toArray s 0 0 A) (F0 m 86 ls []) by
                  exact loop_86 _ f8 _ _ _ (Nat.lt_succ_self _) (by omega) (by omega) (by omega) hP hD hS (lv_sub hl [0, 1, 2] rfl)
                intro n_86
                induction n_86 with
                | zero =>
                  intro t8 H locs ls hm_86
                  exact absurd hm_86 (Nat.not_lt_zero _)
                | succ n_86 ih_86 =>
                  intro t8 H locs ls hm_86 ht8 hu8 hv8 hP hD hS hl
                  refine lv_iload_n hx hb dX9_next_86 rfl (lv_at hl 1 rfl) ?_
                  refine lv_if_eq (tgt := 104) hx hb dX9_next_87 (by decide) (fun c_528 => ?_) (fun c_528 => absurd (by decide) c_528)
                  refine lv_iload_n hx hb dX9_next_104 rfl (lv_at hl 0 rfl) ?_
                  refine lv_if_eq (tgt := 135) hx hb dX9_next_105 (by decide) (fun c_529 => ?_) (fun c_529 => absurd (by decide) c_529)
                  exact W.vret hx hb hr (fun t ht hW => ⟨⟨(f8, t8), rfl, ⟨(by first | assumption | omega), (by first | assumption | omega), (by first | assumption | omega), (by first | assumption | omega), (by first | assumption | omega)⟩, by rw [ht]; exact hP.sub [0, 1] rfl, hD.sub [0, 1] (by decide) rfl⟩, hS.F ht⟩) hS.2.2 dX9_next_135 hlk
              · skip
                have nc_527 : f8 < mz := xn_nle (a := mz) (b := f8) (by omega) (by omega) c_527
                refine lv_aload_n hx hb dX9_next_70 rfl (lv_at hl 2 rfl) ?_
                refine xg hF kf_X9_254 hK hP 0 rfl rfl dX9_next_71 ?_
                refine lv_iconst (v := 1) hx hb dX9_next_74 (by decide) ?_
                refine lv_iadd hx hb dX9_next_75 ?_
                refine xl_i (y := nI (f8 + 1)) (nI_add f8 1) ?_
                refine lv_goto (tgt := 83) hx hb dX9_next_76 (by decide) ?_
                refine xp hF kf_X9_251 tyX9_ok nmX9 hK hP hD hS 0 rfl rfl rfl rfl (Nat.le_of_ble_eq_true rfl) dX9_next_83 (fun H locs hP hD hS => ?_)
                have hP : va_P D vwCl [(h0, .inr (9, [.ref ys, .ref yk, .ref yo, .ref yt, .int mk0, .ref yfa, .ref yfe, .int mL, .int mS, .int mM, .ref yro, .ref yhe, .ref ygr, .int mF, .int mC, .int mY, .ref yta, .int (nI (mz)), .int (nI (f8)), .int (nI (f8 + 1)), .int mv, .int mw, .ref ywa, .ref ybi, .ref ysi, .ref ynu, .ref ymo])), (yta, .inl (cI, 120, .inl tp))] H := hP
                have hD : va_D A [(h0, .inr (9, [.ref ys, .ref yk, .ref yo, .ref yt, .int mk0, .ref yfa, .ref yfe, .int mL, .int mS, .int mM, .ref yro, .ref yhe, .ref ygr, .int mF, .int mC, .int mY, .ref yta, .int (nI (mz)), .int (nI (f8)), .int (nI (f8 + 1)), .int mv, .int mw, .ref ywa, .ref ybi, .ref ysi, .ref ynu, .ref ymo])), (yta, .inl (cI, 120, .inl tp))] := hD
                suffices loop_86 : ∀ (n_86 : Nat) (t8 : Nat) (H : Heap) (locs : List Loc) (ls : Array Slot), mz - t8 < n_86 → (t8 ≤ mz) → (f8 ≤ t8) → (f8 < t8 ∨ f8 = mz) → va_P D vwCl [(h0, .inr (9, [.ref ys, .ref yk, .ref yo, .ref yt, .int mk0, .ref yfa, .ref yfe, .int mL, .int mS, .int mM, .ref yro, .ref yhe, .ref ygr, .int mF, .int mC, .int mY, .ref yta, .int (nI (mz)), .int (nI (f8)), .int (nI (t8)), .int mv, .int mw, .ref ywa, .ref ybi, .ref ysi, .ref ynu, .ref ymo])), (yta, .inl (cI, 120, .inl tp))] H → va_D A [(h0, .inr (9, [.ref ys, .ref yk, .ref yo, .ref yt, .int mk0, .ref yfa, .ref yfe, .int mL, .int mS, .int mM, .ref yro, .ref yhe, .ref ygr, .int mF, .int mC, .int mY, .ref yta, .int (nI (mz)), .int (nI (f8)), .int (nI (t8)), .int mv, .int mw, .ref ywa, .ref ybi, .ref ysi, .ref ynu, .ref ymo])), (yta, .inl (cI, 120, .inl tp))] → va_S A s.heap H locs → lv_has ls 3 [(2, .int 0), (1, .int 0), (0, .ref h0)] → W p l e ({ frames := 2, cells := 0, slots := 0, locals := 45 }) s m ([.ref h0] : List Value).toArray below meth c H locs 0 0 (MQ below (XQv (fun (u : Nat × Nat) => match u with | (f2, t2) => (f2 ≤ mz) ∧ (t2 ≤ mz) ∧ (f2 ≤ t2) ∧ (f2 < t2 ∨ f2 = mz) ∧ (mt ≤ f2)) D (fun (u : Nat × Nat) => match u with | (f2, t2) => [(h0, .inr (9, [.ref ys, .ref yk, .ref yo, .ref yt, .int mk0, .ref yfa, .ref yfe, .int mL, .int mS, .int mM, .ref yro, .ref yhe, .ref ygr, .int mF, .int mC, .int mY, .ref yta, .int (nI (mz)), .int (nI (f2)), .int (nI (t2)), .int mv, .int mw, .ref ywa, .ref ybi, .ref ysi, .ref ynu, .ref ymo])), (yta, .inl (cI, 120, .inl tp))]) A) ([.ref h0] : List Value).toArray s 0 0 A) (F0 m 86 ls []) by
                  exact loop_86 _ (f8 + 1) _ _ _ (Nat.lt_succ_self _) (by omega) (by omega) (by omega) hP hD hS (lv_sub hl [0, 1, 2] rfl)
                intro n_86
                induction n_86 with
                | zero =>
                  intro t8 H locs ls hm_86
                  exact absurd hm_86 (Nat.not_lt_zero _)
                | succ n_86 ih_86 =>
                  intro t8 H locs ls hm_86 ht8 hu8 hv8 hP hD hS hl
                  refine lv_iload_n hx hb dX9_next_86 rfl (lv_at hl 1 rfl) ?_
                  refine lv_if_eq (tgt := 104) hx hb dX9_next_87 (by decide) (fun c_530 => ?_) (fun c_530 => absurd (by decide) c_530)
                  refine lv_iload_n hx hb dX9_next_104 rfl (lv_at hl 0 rfl) ?_
                  refine lv_if_eq (tgt := 135) hx hb dX9_next_105 (by decide) (fun c_531 => ?_) (fun c_531 => absurd (by decide) c_531)
                  exact W.vret hx hb hr (fun t ht hW => ⟨⟨(f8, t8), rfl, ⟨(by first | assumption | omega), (by first | assumption | omega), (by first | assumption | omega), (by first | assumption | omega), (by first | assumption | omega)⟩, by rw [ht]; exact hP.sub [0, 1] rfl, hD.sub [0, 1] (by decide) rfl⟩, hS.F ht⟩) hS.2.2 dX9_next_135 hlk
set_option maxHeartbeats 4000000 in
set_option maxRecDepth 100000 in
theorem c_X9_needs (l : Launch) (D : va_G) (cI cJ cZ cS : ClassId) (ta : Nat) (sa sv : Nat → Nat) (sz : Nat) (h0 : Nat) (ys : Nat) (yk : Nat) (yo : Nat) (yt : Nat) (mk0 : Int32) (yfa : Nat) (yfe : Nat) (mL : Int32) (mS : Int32) (mM : Int32) (yro : Nat) (yhe : Nat) (ygr : Nat) (mF : Int32) (mC : Int32) (mY : Int32) (yta : Nat) (mz : Nat) (mf : Nat) (mt : Nat) (mv : Int32) (mw : Int32) (ywa : Nat) (ybi : Nat) (ysi : Nat) (ynu : Nat) (ymo : Nat) (tp : Nat → Int32) (p0 : Int32) (hz : mz ≤ 120) (k1 : mf ≤ mz) (k2 : mt ≤ mz) (k3 : mf ≤ mt) (k4 : mf < mt ∨ mf = mz) : Met l yX9_needs (Cond.code yX9_needs cX9_needs 2 none :: wsU) ({ frames := 3, cells := 0, slots := 0, locals := 67 }) (va_Pc [.ref h0, .int p0] (XW D (xT cI cJ cZ cS) ta sa sv [(h0, .inr (9, [.ref ys, .ref yk, .ref yo, .ref yt, .int mk0, .ref yfa, .ref yfe, .int mL, .int mS, .int mM, .ref yro, .ref yhe, .ref ygr, .int mF, .int mC, .int mY, .ref yta, .int (nI (mz)), .int (nI (mf)), .int (nI (mt)), .int mv, .int mw, .ref ywa, .ref ybi, .ref ysi, .ref ynu, .ref ymo])), (yta, .inl (cI, 120, .inl tp))] sz)) (XQv (fun (u : Nat × Nat × Int32) => match u with | (f2, t2, w2) => (f2 ≤ mz) ∧ (t2 ≤ mz) ∧ (f2 ≤ t2) ∧ (f2 < t2 ∨ f2 = mz) ∧ (mf ≤ f2) ∧ (w2 = 0 → mw = 0 ∧ ¬ p0 = 0 ∧ mt ≤ f2)) D (fun (u : Nat × Nat × Int32) => match u with | (f2, t2, w2) => [(h0, .inr (9, [.ref ys, .ref yk, .ref yo, .ref yt, .int mk0, .ref yfa, .ref yfe, .int mL, .int mS, .int mM, .ref yro, .ref yhe, .ref ygr, .int mF, .int mC, .int mY, .ref yta, .int (nI (mz)), .int (nI (f2)), .int (nI (t2)), .int mv, .int w2, .ref ywa, .ref ybi, .ref ysi, .ref ynu, .ref ymo])), (yta, .inl (cI, 120, .inl tp))]) (va_A [(h0, .inr (9, [.ref ys, .ref yk, .ref yo, .ref yt, .int mk0, .ref yfa, .ref yfe, .int mL, .int mS, .int mM, .ref yro, .ref yhe, .ref ygr, .int mF, .int mC, .int mY, .ref yta, .int (nI (mz)), .int (nI (mf)), .int (nI (mt)), .int mv, .int mw, .ref ywa, .ref ybi, .ref ysi, .ref ynu, .ref ymo])), (yta, .inl (cI, 120, .inl tp))] sz)) 0 0 (va_A [(h0, .inr (9, [.ref ys, .ref yk, .ref yo, .ref yt, .int mk0, .ref yfa, .ref yfe, .int mL, .int mS, .int mM, .ref yro, .ref yhe, .ref ygr, .int mF, .int mC, .int mY, .ref yta, .int (nI (mz)), .int (nI (mf)), .int (nI (mt)), .int mv, .int mw, .ref ywa, .ref ybi, .ref ysi, .ref ynu, .ref ymo])), (yta, .inl (cI, 120, .inl tp))] sz) := by
  refine xh (QA := fun A => XQv (fun (u : Nat × Nat × Int32) => match u with | (f2, t2, w2) => (f2 ≤ mz) ∧ (t2 ≤ mz) ∧ (f2 ≤ t2) ∧ (f2 < t2 ∨ f2 = mz) ∧ (mf ≤ f2) ∧ (w2 = 0 → mw = 0 ∧ ¬ p0 = 0 ∧ mt ≤ f2)) D (fun (u : Nat × Nat × Int32) => match u with | (f2, t2, w2) => [(h0, .inr (9, [.ref ys, .ref yk, .ref yo, .ref yt, .int mk0, .ref yfa, .ref yfe, .int mL, .int mS, .int mM, .ref yro, .ref yhe, .ref ygr, .int mF, .int mC, .int mY, .ref yta, .int (nI (mz)), .int (nI (f2)), .int (nI (t2)), .int mv, .int w2, .ref ywa, .ref ybi, .ref ysi, .ref ynu, .ref ymo])), (yta, .inl (cI, 120, .inl tp))]) A) (fr := fun A => A) (by decide) (Nat.le_of_ble_eq_true rfl) ?_
  intro p e s m below meth c ls A hF hr hlk hin hsz hP hK hD hN hZ hA hS hl
  have hF : CallFix p m c cX9_needs 2 s _ _ RX9 := hF
  have hx := hF.1
  have hb := hF.2.1
  have hml := hF.2.2.1
  have hown := hF.2.2.2.1
  have hu : ∀ w ∈ wsU, w.before _ s = true := fun w h => hF.2.2.2.2 w (List.mem_cons_of_mem _ h)
  have hl : lv_has ls 2 [(0, .ref h0), (1, .int p0)] := hl
  refine lv_aload_n hx hb dX9_needs_0 rfl (lv_at hl 0 rfl) ?_
  refine lv_aload_n hx hb dX9_needs_1 rfl (lv_at hl 0 rfl) ?_
  refine xg hF kf_X9_266 hK hP 0 rfl rfl dX9_needs_2 ?_
  refine lv_if_ne (tgt := 12) hx hb dX9_needs_5 (by decide) (fun c_1 => ?_) (fun c_1 => ?_)
  · skip
    refine lv_iconst (v := 1) hx hb dX9_needs_12 (by decide) ?_
    refine lv_goto (tgt := 17) hx hb dX9_needs_13 (by decide) ?_
    refine xp hF kf_X9_266 tyX9_ok nmX9 hK hP hD hS 0 rfl rfl rfl rfl (Nat.le_of_ble_eq_true rfl) dX9_needs_17 (fun H locs hP hD hS => ?_)
    have hP : va_P D vwCl [(h0, .inr (9, [.ref ys, .ref yk, .ref yo, .ref yt, .int mk0, .ref yfa, .ref yfe, .int mL, .int mS, .int mM, .ref yro, .ref yhe, .ref ygr, .int mF, .int mC, .int mY, .ref yta, .int (nI (mz)), .int (nI (mf)), .int (nI (mt)), .int mv, .int 1, .ref ywa, .ref ybi, .ref ysi, .ref ynu, .ref ymo])), (yta, .inl (cI, 120, .inl tp))] H := hP
    have hD : va_D A [(h0, .inr (9, [.ref ys, .ref yk, .ref yo, .ref yt, .int mk0, .ref yfa, .ref yfe, .int mL, .int mS, .int mM, .ref yro, .ref yhe, .ref ygr, .int mF, .int mC, .int mY, .ref yta, .int (nI (mz)), .int (nI (mf)), .int (nI (mt)), .int mv, .int 1, .ref ywa, .ref ybi, .ref ysi, .ref ynu, .ref ymo])), (yta, .inl (cI, 120, .inl tp))] := hD
    refine lv_aload_n hx hb dX9_needs_20 rfl (lv_at hl 0 rfl) ?_
    refine xg hF kf_X9_266 hK hP 0 rfl rfl dX9_needs_21 ?_
    refine lv_if_ne (tgt := 31) hx hb dX9_needs_24 (by decide) (fun c_2 => ?_) (fun c_2 => absurd c_2 (by decide))
    exact W.vret hx hb hr (fun t ht hW => ⟨⟨(mf, mt, 1), rfl, ⟨(by first | assumption | omega), (by first | assumption | omega), (by first | assumption | omega), (by first | assumption | omega), (by first | assumption | omega), (fun h => absurd h (by decide))⟩, by rw [ht]; exact hP.sub [0, 1] rfl, hD.sub [0, 1] (by decide) rfl⟩, hS.F ht⟩) hS.2.2 dX9_needs_31 hlk
  · skip
    refine lv_iload_n hx hb dX9_needs_8 rfl (lv_at hl 1 rfl) ?_
    refine lv_if_ne (tgt := 16) hx hb dX9_needs_9 (by decide) (fun c_3 => ?_) (fun c_3 => ?_)
    · skip
      refine lv_iconst (v := 0) hx hb dX9_needs_16 (by decide) ?_
      refine xp hF kf_X9_266 tyX9_ok nmX9 hK hP hD hS 0 rfl rfl rfl rfl (Nat.le_of_ble_eq_true rfl) dX9_needs_17 (fun H locs hP hD hS => ?_)
      have hP : va_P D vwCl [(h0, .inr (9, [.ref ys, .ref yk, .ref yo, .ref yt, .int mk0, .ref yfa, .ref yfe, .int mL, .int mS, .int mM, .ref yro, .ref yhe, .ref ygr, .int mF, .int mC, .int mY, .ref yta, .int (nI (mz)), .int (nI (mf)), .int (nI (mt)), .int mv, .int 0, .ref ywa, .ref ybi, .ref ysi, .ref ynu, .ref ymo])), (yta, .inl (cI, 120, .inl tp))] H := hP
      have hD : va_D A [(h0, .inr (9, [.ref ys, .ref yk, .ref yo, .ref yt, .int mk0, .ref yfa, .ref yfe, .int mL, .int mS, .int mM, .ref yro, .ref yhe, .ref ygr, .int mF, .int mC, .int mY, .ref yta, .int (nI (mz)), .int (nI (mf)), .int (nI (mt)), .int mv, .int 0, .ref ywa, .ref ybi, .ref ysi, .ref ynu, .ref ymo])), (yta, .inl (cI, 120, .inl tp))] := hD
      refine lv_aload_n hx hb dX9_needs_20 rfl (lv_at hl 0 rfl) ?_
      refine xg hF kf_X9_266 hK hP 0 rfl rfl dX9_needs_21 ?_
      refine lv_if_ne (tgt := 31) hx hb dX9_needs_24 (by decide) (fun c_4 => absurd (by decide) c_4) (fun c_4 => ?_)
      refine lv_aload_n hx hb dX9_needs_27 rfl (lv_at hl 0 rfl) ?_
      refine xc_Vv (wr := []) hF (c_X9_next l D cI cJ cZ cS ta sa sv H.size h0 ys yk yo yt mk0 yfa yfe mL mS mM yro yhe ygr mF mC mY yta mz mf mt mv 0 ywa ybi ysi ynu ymo tp (by omega) (by omega)) kv_X9_269 ⟨rfl, rfl, Nat.le_of_ble_eq_true rfl, Nat.le_of_ble_eq_true rfl⟩ ⟨Nat.le_of_ble_eq_true rfl, Nat.le_of_ble_eq_true rfl⟩ hK hN hZ hP hD hS hA [0, 1] [] rfl rfl rfl rfl (by decide) 0 rfl rfl rfl rfl hl.1 rfl (Nat.le_of_ble_eq_true rfl) dX9_needs_28 (fun u_r_5 H locs hw_r_5 hP hD hS => ?_)
      obtain ⟨f2_6, t2_7⟩ := u_r_5
      try dsimp only at hw_r_5
      obtain ⟨i_8, i_9, i_10, i_11, i_12⟩ := hw_r_5
      have hP : va_P D vwCl [(h0, .inr (9, [.ref ys, .ref yk, .ref yo, .ref yt, .int mk0, .ref yfa, .ref yfe, .int mL, .int mS, .int mM, .ref yro, .ref yhe, .ref ygr, .int mF, .int mC, .int mY, .ref yta, .int (nI (mz)), .int (nI (f2_6)), .int (nI (t2_7)), .int mv, .int 0, .ref ywa, .ref ybi, .ref ysi, .ref ynu, .ref ymo])), (yta, .inl (cI, 120, .inl tp))] H := hP
      have hD : va_D A [(h0, .inr (9, [.ref ys, .ref yk, .ref yo, .ref yt, .int mk0, .ref yfa, .ref yfe, .int mL, .int mS, .int mM, .ref yro, .ref yhe, .ref ygr, .int mF, .int mC, .int mY, .ref yta, .int (nI (mz)), .int (nI (f2_6)), .int (nI (t2_7)), .int mv, .int 0, .ref ywa, .ref ybi, .ref ysi, .ref ynu, .ref ymo])), (yta, .inl (cI, 120, .inl tp))] := hD
      exact W.vret hx hb hr (fun t ht hW => ⟨⟨(f2_6, t2_7, 0), rfl, ⟨(by first | assumption | omega), (by first | assumption | omega), (by first | assumption | omega), (by first | assumption | omega), (by first | assumption | omega), (fun _ => ⟨by assumption, by assumption, by omega⟩)⟩, by rw [ht]; exact hP.sub [0, 1] rfl, hD.sub [0, 1] (by decide) rfl⟩, hS.F ht⟩) hS.2.2 dX9_needs_31 hlk
    · skip
      refine lv_iconst (v := 1) hx hb dX9_needs_12 (by decide) ?_
      refine lv_goto (tgt := 17) hx hb dX9_needs_13 (by decide) ?_
      refine xp hF kf_X9_266 tyX9_ok nmX9 hK hP hD hS 0 rfl rfl rfl rfl (Nat.le_of_ble_eq_true rfl) dX9_needs_17 (fun H locs hP hD hS => ?_)
      have hP : va_P D vwCl [(h0, .inr (9, [.ref ys, .ref yk, .ref yo, .ref yt, .int mk0, .ref yfa, .ref yfe, .int mL, .int mS, .int mM, .ref yro, .ref yhe, .ref ygr, .int mF, .int mC, .int mY, .ref yta, .int (nI (mz)), .int (nI (mf)), .int (nI (mt)), .int mv, .int 1, .ref ywa, .ref ybi, .ref ysi, .ref ynu, .ref ymo])), (yta, .inl (cI, 120, .inl tp))] H := hP
      have hD : va_D A [(h0, .inr (9, [.ref ys, .ref yk, .ref yo, .ref yt, .int mk0, .ref yfa, .ref yfe, .int mL, .int mS, .int mM, .ref yro, .ref yhe, .ref ygr, .int mF, .int mC, .int mY, .ref yta, .int (nI (mz)), .int (nI (mf)), .int (nI (mt)), .int mv, .int 1, .ref ywa, .ref ybi, .ref ysi, .ref ynu, .ref ymo])), (yta, .inl (cI, 120, .inl tp))] := hD
      refine lv_aload_n hx hb dX9_needs_20 rfl (lv_at hl 0 rfl) ?_
      refine xg hF kf_X9_266 hK hP 0 rfl rfl dX9_needs_21 ?_
      refine lv_if_ne (tgt := 31) hx hb dX9_needs_24 (by decide) (fun c_13 => ?_) (fun c_13 => absurd c_13 (by decide))
      exact W.vret hx hb hr (fun t ht hW => ⟨⟨(mf, mt, 1), rfl, ⟨(by first | assumption | omega), (by first | assumption | omega), (by first | assumption | omega), (by first | assumption | omega), (by first | assumption | omega), (fun h => absurd h (by decide))⟩, by rw [ht]; exact hP.sub [0, 1] rfl, hD.sub [0, 1] (by decide) rfl⟩, hS.F ht⟩) hS.2.2 dX9_needs_31 hlk
set_option maxHeartbeats 4000000 in
set_option maxRecDepth 100000 in
theorem c_X9_isAt (l : Launch) (D : va_G) (cI cJ cZ cS : ClassId) (ta : Nat) (sa sv : Nat → Nat) (sz : Nat) (h0 : Nat) (ys : Nat) (yk : Nat) (yo : Nat) (yt : Nat) (mk0 : Int32) (yfa : Nat) (yfe : Nat) (mL : Int32) (mS : Int32) (mM : Int32) (yro : Nat) (yhe : Nat) (ygr : Nat) (mF : Int32) (mC : Int32) (mY : Int32) (yta : Nat) (mz : Nat) (mf : Nat) (mt : Nat) (mv : Int32) (mw : Int32) (ywa : Nat) (ybi : Nat) (ysi : Nat) (ynu : Nat) (ymo : Nat) (tp : Nat → Int32) (k : Nat) (p0 : Int32) (hz : mz ≤ 120) (k1 : mf ≤ mz) (hk : k ≤ 7) : Met l yX9_isAt (Cond.code yX9_isAt cX9_isAt 3 (some .boolean) :: wsU) ({ frames := 1, cells := 0, slots := 0, locals := 21 }) (va_Pc [.ref h0, .int (nI (k)), .int p0] (XW D (xT cI cJ cZ cS) ta sa sv [(h0, .inr (9, [.ref ys, .ref yk, .ref yo, .ref yt, .int mk0, .ref yfa, .ref yfe, .int mL, .int mS, .int mM, .ref yro, .ref yhe, .ref ygr, .int mF, .int mC, .int mY, .ref yta, .int (nI (mz)), .int (nI (mf)), .int (nI (mt)), .int mv, .int mw, .ref ywa, .ref ybi, .ref ysi, .ref ynu, .ref ymo])), (yta, .inl (cI, 120, .inl tp))] sz)) (vp_Si (fun r : Int32 => (r = 1) ∨ (r = 0))) 0 0 (fun _ => False) := by
  refine xh (QA := fun _ => vp_Si (fun r : Int32 => (r = 1) ∨ (r = 0))) (fr := fun _ _ => False) (by decide) (Nat.le_of_ble_eq_true rfl) ?_
  intro p e s m below meth c ls A hF hr hlk hin hsz hP hK hD hN hZ hA hS hl
  have hF : CallFix p m c cX9_isAt 3 s _ _ RX9 := hF
  have hx := hF.1
  have hb := hF.2.1
  have hml := hF.2.2.1
  have hown := hF.2.2.2.1
  have hu : ∀ w ∈ wsU, w.before _ s = true := fun w h => hF.2.2.2.2 w (List.mem_cons_of_mem _ h)
  have hl : lv_has ls 3 [(0, .ref h0), (1, .int (nI (k))), (2, .int p0)] := hl
  refine lv_iload_n hx hb dX9_isAt_0 rfl (lv_at hl 2 rfl) ?_
  refine lv_if_eq (tgt := 18) hx hb dX9_isAt_1 (by decide) (fun c_1 => ?_) (fun c_1 => ?_)
  · skip
    refine lv_iconst (v := 1) hx hb dX9_isAt_18 (by decide) ?_
    refine lv_goto (tgt := 23) hx hb dX9_isAt_19 (by decide) ?_
    exact W.zret (v := 1) hx hb hr rfl (fun t ht hW => ⟨1, rfl, (by first | exact Or.inl rfl), ht⟩) (fun q h => by cases h) dX9_isAt_23 hlk
  · skip
    refine lv_aload_n hx hb dX9_isAt_4 rfl (lv_at hl 0 rfl) ?_
    refine lv_aload_n hx hb dX9_isAt_5 rfl (lv_at hl 0 rfl) ?_
    refine xg hF kf_X9_254 hK hP 0 rfl rfl dX9_isAt_6 ?_
    refine lv_iload_n hx hb dX9_isAt_9 rfl (lv_at hl 1 rfl) ?_
    refine lv_iadd hx hb dX9_isAt_10 ?_
    refine xl_i (y := nI (mf + k)) (nI_add mf k) ?_
    refine xc_Vr hF (c_X9_byteAt l D cI cJ cZ cS ta sa sv s.heap.size h0 ys yk yo yt mk0 yfa yfe mL mS mM yro yhe ygr mF mC mY yta mz mf mt mv mw ywa ybi ysi ynu ymo tp (mf + k) (by omega) (by omega)) kv_X9_257 ⟨rfl, rfl, Nat.le_of_ble_eq_true rfl, Nat.le_of_ble_eq_true rfl⟩ ⟨Nat.le_of_ble_eq_true rfl, Nat.le_of_ble_eq_true rfl⟩ hK hN hZ hP hD hS hA [0, 1] rfl rfl 0 rfl rfl rfl rfl hl.1 rfl (Nat.le_of_ble_eq_true rfl) dX9_isAt_11 (fun r_2 hw_r_2 => ?_)
    rcases hw_r_2 with ⟨rfl, h_3⟩ | ⟨rfl, h_4⟩
    · skip
      refine lv_iload_n hx hb dX9_isAt_14 rfl (lv_at hl 2 rfl) ?_
      refine lv_icmp_ne (tgt := 22) hx hb dX9_isAt_15 (by decide) (fun c_5 => ?_) (fun c_5 => ?_)
      · skip
        refine lv_iconst (v := 0) hx hb dX9_isAt_22 (by decide) ?_
        exact W.zret (v := 0) hx hb hr rfl (fun t ht hW => ⟨0, rfl, (by first | exact Or.inr (rfl)), ht⟩) (fun q h => by cases h) dX9_isAt_23 hlk
      · skip
        refine lv_iconst (v := 1) hx hb dX9_isAt_18 (by decide) ?_
        refine lv_goto (tgt := 23) hx hb dX9_isAt_19 (by decide) ?_
        exact W.zret (v := 1) hx hb hr rfl (fun t ht hW => ⟨1, rfl, (by first | exact Or.inl rfl), ht⟩) (fun q h => by cases h) dX9_isAt_23 hlk
    · skip
      refine lv_iload_n hx hb dX9_isAt_14 rfl (lv_at hl 2 rfl) ?_
      refine lv_icmp_ne (tgt := 22) hx hb dX9_isAt_15 (by decide) (fun c_6 => ?_) (fun c_6 => ?_)
      · skip
        refine lv_iconst (v := 0) hx hb dX9_isAt_22 (by decide) ?_
        exact W.zret (v := 0) hx hb hr rfl (fun t ht hW => ⟨0, rfl, (by first | exact Or.inr (rfl)), ht⟩) (fun q h => by cases h) dX9_isAt_23 hlk
      · skip
        refine lv_iconst (v := 1) hx hb dX9_isAt_18 (by decide) ?_
        refine lv_goto (tgt := 23) hx hb dX9_isAt_19 (by decide) ?_
        exact W.zret (v := 1) hx hb hr rfl (fun t ht hW => ⟨1, rfl, (by first | exact Or.inl rfl), ht⟩) (fun q h => by cases h) dX9_isAt_23 hlk
set_option maxHeartbeats 4000000 in
set_option maxRecDepth 100000 in
theorem c_X9_isWord (l : Launch) (D : va_G) (cI cJ cZ cS : ClassId) (ta : Nat) (sa sv : Nat → Nat) (sz : Nat) (h0 : Nat) (ys : Nat) (yk : Nat) (yo : Nat) (yt : Nat) (mk0 : Int32) (yfa : Nat) (yfe : Nat) (mL : Int32) (mS : Int32) (mM : Int32) (yro : Nat) (yhe : Nat) (ygr : Nat) (mF : Int32) (mC : Int32) (mY : Int32) (yta : Nat) (mz : Nat) (mf : Nat) (mt : Nat) (mv : Int32) (mw : Int32) (ywa : Nat) (ybi : Nat) (ysi : Nat) (ynu : Nat) (ymo : Nat) (tp : Nat → Int32) (p0 : Int32) (p1 : Int32) (p2 : Int32) (p3 : Int32) (p4 : Int32) (p5 : Int32) (p6 : Int32) (hz : mz ≤ 120) (k1 : mf ≤ mz) : Met l yX9_isWord (Cond.code yX9_isWord cX9_isWord 9 (some .boolean) :: wsU) ({ frames := 2, cells := 0, slots := 0, locals := 43 }) (va_Pc [.ref h0, .int p0, .int p1, .int p2, .int p3, .int p4, .int p5, .int p6] (XW D (xT cI cJ cZ cS) ta sa sv [(h0, .inr (9, [.ref ys, .ref yk, .ref yo, .ref yt, .int mk0, .ref yfa, .ref yfe, .int mL, .int mS, .int mM, .ref yro, .ref yhe, .ref ygr, .int mF, .int mC, .int mY, .ref yta, .int (nI (mz)), .int (nI (mf)), .int (nI (mt)), .int mv, .int mw, .ref ywa, .ref ybi, .ref ysi, .ref ynu, .ref ymo])), (yta, .inl (cI, 120, .inl tp))] sz)) (vp_Si (fun r : Int32 => (r = 1) ∨ (r = 0))) 0 0 (fun _ => False) := by
  refine xh (QA := fun _ => vp_Si (fun r : Int32 => (r = 1) ∨ (r = 0))) (fr := fun _ _ => False) (by decide) (Nat.le_of_ble_eq_true rfl) ?_
  intro p e s m below meth c ls A hF hr hlk hin hsz hP hK hD hN hZ hA hS hl
  have hF : CallFix p m c cX9_isWord 9 s _ _ RX9 := hF
  have hx := hF.1
  have hb := hF.2.1
  have hml := hF.2.2.1
  have hown := hF.2.2.2.1
  have hu : ∀ w ∈ wsU, w.before _ s = true := fun w h => hF.2.2.2.2 w (List.mem_cons_of_mem _ h)
  have hl : lv_has ls 9 [(0, .ref h0), (1, .int p0), (2, .int p1), (3, .int p2), (4, .int p3), (5, .int p4), (6, .int p5), (7, .int p6)] := hl
  refine lv_iload_n hx hb dX9_isWord_0 rfl (lv_at hl 3 rfl) ?_
  refine lv_if_ne (tgt := 8) hx hb dX9_isWord_1 (by decide) (fun c_1 => ?_) (fun c_1 => ?_)
  · skip
    refine lv_iload hx hb dX9_isWord_8 (lv_at hl 4 rfl) ?_
    refine lv_if_ne (tgt := 17) hx hb dX9_isWord_10 (by decide) (fun c_2 => ?_) (fun c_2 => ?_)
    · skip
      refine lv_iload hx hb dX9_isWord_17 (lv_at hl 5 rfl) ?_
      refine lv_if_ne (tgt := 26) hx hb dX9_isWord_19 (by decide) (fun c_3 => ?_) (fun c_3 => ?_)
      · skip
        refine lv_iload hx hb dX9_isWord_26 (lv_at hl 6 rfl) ?_
        refine lv_if_ne (tgt := 35) hx hb dX9_isWord_28 (by decide) (fun c_4 => ?_) (fun c_4 => ?_)
        · skip
          refine lv_iload hx hb dX9_isWord_35 (lv_at hl 7 rfl) ?_
          refine lv_if_ne (tgt := 45) hx hb dX9_isWord_37 (by decide) (fun c_5 => ?_) (fun c_5 => ?_)
          · skip
            refine lv_bipush (v := 7) hx hb dX9_isWord_45 (by decide) ?_
            refine lv_istore (lv' := [(8, .int 7), (0, .ref h0), (1, .int p0), (2, .int p1), (3, .int p2), (4, .int p3), (5, .int p4), (6, .int p5), (7, .int p6)]) hx hb dX9_isWord_47 hl (by decide) rfl (fun ls hl => ?_)
            refine lv_aload_n hx hb dX9_isWord_49 rfl (lv_at hl 1 rfl) ?_
            refine xg hF kf_X9_266 hK hP 0 rfl rfl dX9_isWord_50 ?_
            refine lv_if_ne (tgt := 142) hx hb dX9_isWord_53 (by decide) (fun c_6 => ?_) (fun c_6 => ?_)
            · skip
              refine lv_iconst (v := 0) hx hb dX9_isWord_142 (by decide) ?_
              exact W.zret (v := 0) hx hb hr rfl (fun t ht hW => ⟨0, rfl, (by first | exact Or.inr (rfl)), ht⟩) (fun q h => by cases h) dX9_isWord_143 hlk
            · skip
              refine lv_aload_n hx hb dX9_isWord_56 rfl (lv_at hl 1 rfl) ?_
              refine xg hF kf_X9_251 hK hP 0 rfl rfl dX9_isWord_57 ?_
              refine lv_aload_n hx hb dX9_isWord_60 rfl (lv_at hl 1 rfl) ?_
              refine xg hF kf_X9_254 hK hP 0 rfl rfl dX9_isWord_61 ?_
              refine lv_isub hx hb dX9_isWord_64 ?_
              refine lv_topi (fun x_7 ex_7 => ?_)
              refine lv_iload hx hb dX9_isWord_65 (lv_at hl 0 rfl) ?_
              refine lv_icmp_ne (tgt := 142) hx hb dX9_isWord_67 (by decide) (fun c_8 => ?_) (fun c_8 => ?_)
              · skip
                refine lv_iconst (v := 0) hx hb dX9_isWord_142 (by decide) ?_
                exact W.zret (v := 0) hx hb hr rfl (fun t ht hW => ⟨0, rfl, (by first | exact Or.inr (rfl)), ht⟩) (fun q h => by cases h) dX9_isWord_143 hlk
              · skip
                refine lv_aload_n hx hb dX9_isWord_70 rfl (lv_at hl 1 rfl) ?_
                refine lv_iconst (v := 0) hx hb dX9_isWord_71 (by decide) ?_
                refine lv_iload_n hx hb dX9_isWord_72 rfl (lv_at hl 2 rfl) ?_
                refine xc_Vr hF (c_X9_isAt l D cI cJ cZ cS ta sa sv s.heap.size h0 ys yk yo yt mk0 yfa yfe mL mS mM yro yhe ygr mF mC mY yta mz mf mt mv mw ywa ybi ysi ynu ymo tp 0 p0 (by omega) (by omega) (by omega)) kv_X9_272 ⟨rfl, rfl, Nat.le_of_ble_eq_true rfl, Nat.le_of_ble_eq_true rfl⟩ ⟨Nat.le_of_ble_eq_true rfl, Nat.le_of_ble_eq_true rfl⟩ hK hN hZ hP hD hS hA [0, 1] rfl rfl 0 rfl rfl rfl rfl hl.1 rfl (Nat.le_of_ble_eq_true rfl) dX9_isWord_73 (fun r_9 hw_r_9 => ?_)
                rcases hw_r_9 with rfl | rfl
                · skip
                  refine lv_if_eq (tgt := 142) hx hb dX9_isWord_76 (by decide) (fun c_10 => absurd c_10 (by decide)) (fun c_10 => ?_)
                  refine lv_aload_n hx hb dX9_isWord_79 rfl (lv_at hl 1 rfl) ?_
                  refine lv_iconst (v := 1) hx hb dX9_isWord_80 (by decide) ?_
                  refine lv_iload_n hx hb dX9_isWord_81 rfl (lv_at hl 3 rfl) ?_
                  refine xc_Vr hF (c_X9_isAt l D cI cJ cZ cS ta sa sv s.heap.size h0 ys yk yo yt mk0 yfa yfe mL mS mM yro yhe ygr mF mC mY yta mz mf mt mv mw ywa ybi ysi ynu ymo tp 1 p1 (by omega) (by omega) (by omega)) kv_X9_272 ⟨rfl, rfl, Nat.le_of_ble_eq_true rfl, Nat.le_of_ble_eq_true rfl⟩ ⟨Nat.le_of_ble_eq_true rfl, Nat.le_of_ble_eq_true rfl⟩ hK hN hZ hP hD hS hA [0, 1] rfl rfl 0 rfl rfl rfl rfl hl.1 rfl (Nat.le_of_ble_eq_true rfl) dX9_isWord_82 (fun r_11 hw_r_11 => ?_)
                  rcases hw_r_11 with rfl | rfl
                  · skip
                    refine lv_if_eq (tgt := 142) hx hb dX9_isWord_85 (by decide) (fun c_12 => absurd c_12 (by decide)) (fun c_12 => ?_)
                    refine lv_aload_n hx hb dX9_isWord_88 rfl (lv_at hl 1 rfl) ?_
                    refine lv_iconst (v := 2) hx hb dX9_isWord_89 (by decide) ?_
                    refine lv_iload_n hx hb dX9_isWord_90 rfl (lv_at hl 4 rfl) ?_
                    refine xc_Vr hF (c_X9_isAt l D cI cJ cZ cS ta sa sv s.heap.size h0 ys yk yo yt mk0 yfa yfe mL mS mM yro yhe ygr mF mC mY yta mz mf mt mv mw ywa ybi ysi ynu ymo tp 2 p2 (by omega) (by omega) (by omega)) kv_X9_272 ⟨rfl, rfl, Nat.le_of_ble_eq_true rfl, Nat.le_of_ble_eq_true rfl⟩ ⟨Nat.le_of_ble_eq_true rfl, Nat.le_of_ble_eq_true rfl⟩ hK hN hZ hP hD hS hA [0, 1] rfl rfl 0 rfl rfl rfl rfl hl.1 rfl (Nat.le_of_ble_eq_true rfl) dX9_isWord_91 (fun r_13 hw_r_13 => ?_)
                    rcases hw_r_13 with rfl | rfl
                    · skip
                      refine lv_if_eq (tgt := 142) hx hb dX9_isWord_94 (by decide) (fun c_14 => absurd c_14 (by decide)) (fun c_14 => ?_)
                      refine lv_aload_n hx hb dX9_isWord_97 rfl (lv_at hl 1 rfl) ?_
                      refine lv_iconst (v := 3) hx hb dX9_isWord_98 (by decide) ?_
                      refine lv_iload hx hb dX9_isWord_99 (lv_at hl 5 rfl) ?_
                      refine xc_Vr hF (c_X9_isAt l D cI cJ cZ cS ta sa sv s.heap.size h0 ys yk yo yt mk0 yfa yfe mL mS mM yro yhe ygr mF mC mY yta mz mf mt mv mw ywa ybi ysi ynu ymo tp 3 p3 (by omega) (by omega) (by omega)) kv_X9_272 ⟨rfl, rfl, Nat.le_of_ble_eq_true rfl, Nat.le_of_ble_eq_true rfl⟩ ⟨Nat.le_of_ble_eq_true rfl, Nat.le_of_ble_eq_true rfl⟩ hK hN hZ hP hD hS hA [0, 1] rfl rfl 0 rfl rfl rfl rfl hl.1 rfl (Nat.le_of_ble_eq_true rfl) dX9_isWord_101 (fun r_15 hw_r_15 => ?_)
                      rcases hw_r_15 with rfl | rfl
                      · skip
                        refine lv_if_eq (tgt := 142) hx hb dX9_isWord_104 (by decide) (fun c_16 => absurd c_16 (by decide)) (fun c_16 => ?_)
                        refine lv_aload_n hx hb dX9_isWord_107 rfl (lv_at hl 1 rfl) ?_
                        refine lv_iconst (v := 4) hx hb dX9_isWord_108 (by decide) ?_
                        refine lv_iload hx hb dX9_isWord_109 (lv_at hl 6 rfl) ?_
                        refine xc_Vr hF (c_X9_isAt l D cI cJ cZ cS ta sa sv s.heap.size h0 ys yk yo yt mk0 yfa yfe mL mS mM yro yhe ygr mF mC mY yta mz mf mt mv mw ywa ybi ysi ynu ymo tp 4 p4 (by omega) (by omega) (by omega)) kv_X9_272 ⟨rfl, rfl, Nat.le_of_ble_eq_true rfl, Nat.le_of_ble_eq_true rfl⟩ ⟨Nat.le_of_ble_eq_true rfl, Nat.le_of_ble_eq_true rfl⟩ hK hN hZ hP hD hS hA [0, 1] rfl rfl 0 rfl rfl rfl rfl hl.1 rfl (Nat.le_of_ble_eq_true rfl) dX9_isWord_111 (fun r_17 hw_r_17 => ?_)
                        rcases hw_r_17 with rfl | rfl
                        · skip
                          refine lv_if_eq (tgt := 142) hx hb dX9_isWord_114 (by decide) (fun c_18 => absurd c_18 (by decide)) (fun c_18 => ?_)
                          refine lv_aload_n hx hb dX9_isWord_117 rfl (lv_at hl 1 rfl) ?_
                          refine lv_iconst (v := 5) hx hb dX9_isWord_118 (by decide) ?_
                          refine lv_iload hx hb dX9_isWord_119 (lv_at hl 7 rfl) ?_
                          refine xc_Vr hF (c_X9_isAt l D cI cJ cZ cS ta sa sv s.heap.size h0 ys yk yo yt mk0 yfa yfe mL mS mM yro yhe ygr mF mC mY yta mz mf mt mv mw ywa ybi ysi ynu ymo tp 5 p5 (by omega) (by omega) (by omega)) kv_X9_272 ⟨rfl, rfl, Nat.le_of_ble_eq_true rfl, Nat.le_of_ble_eq_true rfl⟩ ⟨Nat.le_of_ble_eq_true rfl, Nat.le_of_ble_eq_true rfl⟩ hK hN hZ hP hD hS hA [0, 1] rfl rfl 0 rfl rfl rfl rfl hl.1 rfl (Nat.le_of_ble_eq_true rfl) dX9_isWord_121 (fun r_19 hw_r_19 => ?_)
                          rcases hw_r_19 with rfl | rfl
                          · skip
                            refine lv_if_eq (tgt := 142) hx hb dX9_isWord_124 (by decide) (fun c_20 => absurd c_20 (by decide)) (fun c_20 => ?_)
                            refine lv_aload_n hx hb dX9_isWord_127 rfl (lv_at hl 1 rfl) ?_
                            refine lv_bipush (v := 6) hx hb dX9_isWord_128 (by decide) ?_
                            refine lv_iload hx hb dX9_isWord_130 (lv_at hl 8 rfl) ?_
                            refine xc_Vr hF (c_X9_isAt l D cI cJ cZ cS ta sa sv s.heap.size h0 ys yk yo yt mk0 yfa yfe mL mS mM yro yhe ygr mF mC mY yta mz mf mt mv mw ywa ybi ysi ynu ymo tp 6 p6 (by omega) (by omega) (by omega)) kv_X9_272 ⟨rfl, rfl, Nat.le_of_ble_eq_true rfl, Nat.le_of_ble_eq_true rfl⟩ ⟨Nat.le_of_ble_eq_true rfl, Nat.le_of_ble_eq_true rfl⟩ hK hN hZ hP hD hS hA [0, 1] rfl rfl 0 rfl rfl rfl rfl hl.1 rfl (Nat.le_of_ble_eq_true rfl) dX9_isWord_132 (fun r_21 hw_r_21 => ?_)
                            rcases hw_r_21 with rfl | rfl
                            · skip
                              refine lv_if_eq (tgt := 142) hx hb dX9_isWord_135 (by decide) (fun c_22 => absurd c_22 (by decide)) (fun c_22 => ?_)
                              refine lv_iconst (v := 1) hx hb dX9_isWord_138 (by decide) ?_
                              refine lv_goto (tgt := 143) hx hb dX9_isWord_139 (by decide) ?_
                              exact W.zret (v := 1) hx hb hr rfl (fun t ht hW => ⟨1, rfl, (by first | exact Or.inl rfl), ht⟩) (fun q h => by cases h) dX9_isWord_143 hlk
                            · skip
                              refine lv_if_eq (tgt := 142) hx hb dX9_isWord_135 (by decide) (fun c_23 => ?_) (fun c_23 => absurd (by decide) c_23)
                              refine lv_iconst (v := 0) hx hb dX9_isWord_142 (by decide) ?_
                              exact W.zret (v := 0) hx hb hr rfl (fun t ht hW => ⟨0, rfl, (by first | exact Or.inr (rfl)), ht⟩) (fun q h => by cases h) dX9_isWord_143 hlk
                          · skip
                            refine lv_if_eq (tgt := 142) hx hb dX9_isWord_124 (by decide) (fun c_24 => ?_) (fun c_24 => absurd (by decide) c_24)
                            refine lv_iconst (v := 0) hx hb dX9_isWord_142 (by decide) ?_
                            exact W.zret (v := 0) hx hb hr rfl (fun t ht hW => ⟨0, rfl, (by first | exact Or.inr (rfl)), ht⟩) (fun q h => by cases h) dX9_isWord_143 hlk
                        · skip
                          refine lv_if_eq (tgt := 142) hx hb dX9_isWord_114 (by decide) (fun c_25 => ?_) (fun c_25 => absurd (by decide) c_25)
                          refine lv_iconst (v := 0) hx hb dX9_isWord_142 (by decide) ?_
                          exact W.zret (v := 0) hx hb hr rfl (fun t ht hW => ⟨0, rfl, (by first | exact Or.inr (rfl)), ht⟩) (fun q h => by cases h) dX9_isWord_143 hlk
                      · skip
                        refine lv_if_eq (tgt := 142) hx hb dX9_isWord_104 (by decide) (fun c_26 => ?_) (fun c_26 => absurd (by decide) c_26)
                        refine lv_iconst (v := 0) hx hb dX9_isWord_142 (by decide) ?_
                        exact W.zret (v := 0) hx hb hr rfl (fun t ht hW => ⟨0, rfl, (by first | exact Or.inr (rfl)), ht⟩) (fun q h => by cases h) dX9_isWord_143 hlk
                    · skip
                      refine lv_if_eq (tgt := 142) hx hb dX9_isWord_94 (by decide) (fun c_27 => ?_) (fun c_27 => absurd (by decide) c_27)
                      refine lv_iconst (v := 0) hx hb dX9_isWord_142 (by decide) ?_
                      exact W.zret (v := 0) hx hb hr rfl (fun t ht hW => ⟨0, rfl, (by first | exact Or.inr (rfl)), ht⟩) (fun q h => by cases h) dX9_isWord_143 hlk
                  · skip
                    refine lv_if_eq (tgt := 142) hx hb dX9_isWord_85 (by decide) (fun c_28 => ?_) (fun c_28 => absurd (by decide) c_28)
                    refine lv_iconst (v := 0) hx hb dX9_isWord_142 (by decide) ?_
                    exact W.zret (v := 0) hx hb hr rfl (fun t ht hW => ⟨0, rfl, (by first | exact Or.inr (rfl)), ht⟩) (fun q h => by cases h) dX9_isWord_143 hlk
                · skip
                  refine lv_if_eq (tgt := 142) hx hb dX9_isWord_76 (by decide) (fun c_29 => ?_) (fun c_29 => absurd (by decide) c_29)
                  refine lv_iconst (v := 0) hx hb dX9_isWord_142 (by decide) ?_
                  exact W.zret (v := 0) hx hb hr rfl (fun t ht hW => ⟨0, rfl, (by first | exact Or.inr (rfl)), ht⟩) (fun q h => by cases h) dX9_isWord_143 hlk
          · skip
            refine lv_bipush (v := 6) hx hb dX9_isWord_40 (by decide) ?_
            refine lv_goto (tgt := 47) hx hb dX9_isWord_42 (by decide) ?_
            refine lv_istore (lv' := [(8, .int 6), (0, .ref h0), (1, .int p0), (2, .int p1), (3, .int p2), (4, .int p3), (5, .int p4), (6, .int p5), (7, .int p6)]) hx hb dX9_isWord_47 hl (by decide) rfl (fun ls hl => ?_)
            refine lv_aload_n hx hb dX9_isWord_49 rfl (lv_at hl 1 rfl) ?_
            refine xg hF kf_X9_266 hK hP 0 rfl rfl dX9_isWord_50 ?_
            refine lv_if_ne (tgt := 142) hx hb dX9_isWord_53 (by decide) (fun c_30 => ?_) (fun c_30 => ?_)
            · skip
              refine lv_iconst (v := 0) hx hb dX9_isWord_142 (by decide) ?_
              exact W.zret (v := 0) hx hb hr rfl (fun t ht hW => ⟨0, rfl, (by first | exact Or.inr (rfl)), ht⟩) (fun q h => by cases h) dX9_isWord_143 hlk
            · skip
              refine lv_aload_n hx hb dX9_isWord_56 rfl (lv_at hl 1 rfl) ?_
              refine xg hF kf_X9_251 hK hP 0 rfl rfl dX9_isWord_57 ?_
              refine lv_aload_n hx hb dX9_isWord_60 rfl (lv_at hl 1 rfl) ?_
              refine xg hF kf_X9_254 hK hP 0 rfl rfl dX9_isWord_61 ?_
              refine lv_isub hx hb dX9_isWord_64 ?_
              refine lv_topi (fun x_31 ex_31 => ?_)
              refine lv_iload hx hb dX9_isWord_65 (lv_at hl 0 rfl) ?_
              refine lv_icmp_ne (tgt := 142) hx hb dX9_isWord_67 (by decide) (fun c_32 => ?_) (fun c_32 => ?_)
              · skip
                refine lv_iconst (v := 0) hx hb dX9_isWord_142 (by decide) ?_
                exact W.zret (v := 0) hx hb hr rfl (fun t ht hW => ⟨0, rfl, (by first | exact Or.inr (rfl)), ht⟩) (fun q h => by cases h) dX9_isWord_143 hlk
              · skip
                refine lv_aload_n hx hb dX9_isWord_70 rfl (lv_at hl 1 rfl) ?_
                refine lv_iconst (v := 0) hx hb dX9_isWord_71 (by decide) ?_
                refine lv_iload_n hx hb dX9_isWord_72 rfl (lv_at hl 2 rfl) ?_
                refine xc_Vr hF (c_X9_isAt l D cI cJ cZ cS ta sa sv s.heap.size h0 ys yk yo yt mk0 yfa yfe mL mS mM yro yhe ygr mF mC mY yta mz mf mt mv mw ywa ybi ysi ynu ymo tp 0 p0 (by omega) (by omega) (by omega)) kv_X9_272 ⟨rfl, rfl, Nat.le_of_ble_eq_true rfl, Nat.le_of_ble_eq_true rfl⟩ ⟨Nat.le_of_ble_eq_true rfl, Nat.le_of_ble_eq_true rfl⟩ hK hN hZ hP hD hS hA [0, 1] rfl rfl 0 rfl rfl rfl rfl hl.1 rfl (Nat.le_of_ble_eq_true rfl) dX9_isWord_73 (fun r_33 hw_r_33 => ?_)
                rcases hw_r_33 with rfl | rfl
                · skip
                  refine lv_if_eq (tgt := 142) hx hb dX9_isWord_76 (by decide) (fun c_34 => absurd c_34 (by decide)) (fun c_34 => ?_)
                  refine lv_aload_n hx hb dX9_isWord_79 rfl (lv_at hl 1 rfl) ?_
                  refine lv_iconst (v := 1) hx hb dX9_isWord_80 (by decide) ?_
                  refine lv_iload_n hx hb dX9_isWord_81 rfl (lv_at hl 3 rfl) ?_
                  refine xc_Vr hF (c_X9_isAt l D cI cJ cZ cS ta sa sv s.heap.size h0 ys yk yo yt mk0 yfa yfe mL mS mM yro yhe ygr mF mC mY yta mz mf mt mv mw ywa ybi ysi ynu ymo tp 1 p1 (by omega) (by omega) (by omega)) kv_X9_272 ⟨rfl, rfl, Nat.le_of_ble_eq_true rfl, Nat.le_of_ble_eq_true rfl⟩ ⟨Nat.le_of_ble_eq_true rfl, Nat.le_of_ble_eq_true rfl⟩ hK hN hZ hP hD hS hA [0, 1] rfl rfl 0 rfl rfl rfl rfl hl.1 rfl (Nat.le_of_ble_eq_true rfl) dX9_isWord_82 (fun r_35 hw_r_35 => ?_)
                  rcases hw_r_35 with rfl | rfl
                  · skip
                    refine lv_if_eq (tgt := 142) hx hb dX9_isWord_85 (by decide) (fun c_36 => absurd c_36 (by decide)) (fun c_36 => ?_)
                    refine lv_aload_n hx hb dX9_isWord_88 rfl (lv_at hl 1 rfl) ?_
                    refine lv_iconst (v := 2) hx hb dX9_isWord_89 (by decide) ?_
                    refine lv_iload_n hx hb dX9_isWord_90 rfl (lv_at hl 4 rfl) ?_
                    refine xc_Vr hF (c_X9_isAt l D cI cJ cZ cS ta sa sv s.heap.size h0 ys yk yo yt mk0 yfa yfe mL mS mM yro yhe ygr mF mC mY yta mz mf mt mv mw ywa ybi ysi ynu ymo tp 2 p2 (by omega) (by omega) (by omega)) kv_X9_272 ⟨rfl, rfl, Nat.le_of_ble_eq_true rfl, Nat.le_of_ble_eq_true rfl⟩ ⟨Nat.le_of_ble_eq_true rfl, Nat.le_of_ble_eq_true rfl⟩ hK hN hZ hP hD hS hA [0, 1] rfl rfl 0 rfl rfl rfl rfl hl.1 rfl (Nat.le_of_ble_eq_true rfl) dX9_isWord_91 (fun r_37 hw_r_37 => ?_)
                    rcases hw_r_37 with rfl | rfl
                    · skip
                      refine lv_if_eq (tgt := 142) hx hb dX9_isWord_94 (by decide) (fun c_38 => absurd c_38 (by decide)) (fun c_38 => ?_)
                      refine lv_aload_n hx hb dX9_isWord_97 rfl (lv_at hl 1 rfl) ?_
                      refine lv_iconst (v := 3) hx hb dX9_isWord_98 (by decide) ?_
                      refine lv_iload hx hb dX9_isWord_99 (lv_at hl 5 rfl) ?_
                      refine xc_Vr hF (c_X9_isAt l D cI cJ cZ cS ta sa sv s.heap.size h0 ys yk yo yt mk0 yfa yfe mL mS mM yro yhe ygr mF mC mY yta mz mf mt mv mw ywa ybi ysi ynu ymo tp 3 p3 (by omega) (by omega) (by omega)) kv_X9_272 ⟨rfl, rfl, Nat.le_of_ble_eq_true rfl, Nat.le_of_ble_eq_true rfl⟩ ⟨Nat.le_of_ble_eq_true rfl, Nat.le_of_ble_eq_true rfl⟩ hK hN hZ hP hD hS hA [0, 1] rfl rfl 0 rfl rfl rfl rfl hl.1 rfl (Nat.le_of_ble_eq_true rfl) dX9_isWord_101 (fun r_39 hw_r_39 => ?_)
                      rcases hw_r_39 with rfl | rfl
                      · skip
                        refine lv_if_eq (tgt := 142) hx hb dX9_isWord_104 (by decide) (fun c_40 => absurd c_40 (by decide)) (fun c_40 => ?_)
                        refine lv_aload_n hx hb dX9_isWord_107 rfl (lv_at hl 1 rfl) ?_
                        refine lv_iconst (v := 4) hx hb dX9_isWord_108 (by decide) ?_
                        refine lv_iload hx hb dX9_isWord_109 (lv_at hl 6 rfl) ?_
                        refine xc_Vr hF (c_X9_isAt l D cI cJ cZ cS ta sa sv s.heap.size h0 ys yk yo yt mk0 yfa yfe mL mS mM yro yhe ygr mF mC mY yta mz mf mt mv mw ywa ybi ysi ynu ymo tp 4 p4 (by omega) (by omega) (by omega)) kv_X9_272 ⟨rfl, rfl, Nat.le_of_ble_eq_true rfl, Nat.le_of_ble_eq_true rfl⟩ ⟨Nat.le_of_ble_eq_true rfl, Nat.le_of_ble_eq_true rfl⟩ hK hN hZ hP hD hS hA [0, 1] rfl rfl 0 rfl rfl rfl rfl hl.1 rfl (Nat.le_of_ble_eq_true rfl) dX9_isWord_111 (fun r_41 hw_r_41 => ?_)
                        rcases hw_r_41 with rfl | rfl
                        · skip
                          refine lv_if_eq (tgt := 142) hx hb dX9_isWord_114 (by decide) (fun c_42 => absurd c_42 (by decide)) (fun c_42 => ?_)
                          refine lv_aload_n hx hb dX9_isWord_117 rfl (lv_at hl 1 rfl) ?_
                          refine lv_iconst (v := 5) hx hb dX9_isWord_118 (by decide) ?_
                          refine lv_iload hx hb dX9_isWord_119 (lv_at hl 7 rfl) ?_
                          refine xc_Vr hF (c_X9_isAt l D cI cJ cZ cS ta sa sv s.heap.size h0 ys yk yo yt mk0 yfa yfe mL mS mM yro yhe ygr mF mC mY yta mz mf mt mv mw ywa ybi ysi ynu ymo tp 5 p5 (by omega) (by omega) (by omega)) kv_X9_272 ⟨rfl, rfl, Nat.le_of_ble_eq_true rfl, Nat.le_of_ble_eq_true rfl⟩ ⟨Nat.le_of_ble_eq_true rfl, Nat.le_of_ble_eq_true rfl⟩ hK hN hZ hP hD hS hA [0, 1] rfl rfl 0 rfl rfl rfl rfl hl.1 rfl (Nat.le_of_ble_eq_true rfl) dX9_isWord_121 (fun r_43 hw_r_43 => ?_)
                          rcases hw_r_43 with rfl | rfl
                          · skip
                            refine lv_if_eq (tgt := 142) hx hb dX9_isWord_124 (by decide) (fun c_44 => absurd c_44 (by decide)) (fun c_44 => ?_)
                            refine lv_aload_n hx hb dX9_isWord_127 rfl (lv_at hl 1 rfl) ?_
                            refine lv_bipush (v := 6) hx hb dX9_isWord_128 (by decide) ?_
                            refine lv_iload hx hb dX9_isWord_130 (lv_at hl 8 rfl) ?_
                            refine xc_Vr hF (c_X9_isAt l D cI cJ cZ cS ta sa sv s.heap.size h0 ys yk yo yt mk0 yfa yfe mL mS mM yro yhe ygr mF mC mY yta mz mf mt mv mw ywa ybi ysi ynu ymo tp 6 p6 (by omega) (by omega) (by omega)) kv_X9_272 ⟨rfl, rfl, Nat.le_of_ble_eq_true rfl, Nat.le_of_ble_eq_true rfl⟩ ⟨Nat.le_of_ble_eq_true rfl, Nat.le_of_ble_eq_true rfl⟩ hK hN hZ hP hD hS hA [0, 1] rfl rfl 0 rfl rfl rfl rfl hl.1 rfl (Nat.le_of_ble_eq_true rfl) dX9_isWord_132 (fun r_45 hw_r_45 => ?_)
                            rcases hw_r_45 with rfl | rfl
                            · skip
                              refine lv_if_eq (tgt := 142) hx hb dX9_isWord_135 (by decide) (fun c_46 => absurd c_46 (by decide)) (fun c_46 => ?_)
                              refine lv_iconst (v := 1) hx hb dX9_isWord_138 (by decide) ?_
                              refine lv_goto (tgt := 143) hx hb dX9_isWord_139 (by decide) ?_
                              exact W.zret (v := 1) hx hb hr rfl (fun t ht hW => ⟨1, rfl, (by first | exact Or.inl rfl), ht⟩) (fun q h => by cases h) dX9_isWord_143 hlk
                            · skip
                              refine lv_if_eq (tgt := 142) hx hb dX9_isWord_135 (by decide) (fun c_47 => ?_) (fun c_47 => absurd (by decide) c_47)
                              refine lv_iconst (v := 0) hx hb dX9_isWord_142 (by decide) ?_
                              exact W.zret (v := 0) hx hb hr rfl (fun t ht hW => ⟨0, rfl, (by first | exact Or.inr (rfl)), ht⟩) (fun q h => by cases h) dX9_isWord_143 hlk
                          · skip
                            refine lv_if_eq (tgt := 142) hx hb dX9_isWord_124 (by decide) (fun c_48 => ?_) (fun c_48 => absurd (by decide) c_48)
                            refine lv_iconst (v := 0) hx hb dX9_isWord_142 (by decide) ?_
                            exact W.zret (v := 0) hx hb hr rfl (fun t ht hW => ⟨0, rfl, (by first | exact Or.inr (rfl)), ht⟩) (fun q h => by cases h) dX9_isWord_143 hlk
                        · skip
                          refine lv_if_eq (tgt := 142) hx hb dX9_isWord_114 (by decide) (fun c_49 => ?_) (fun c_49 => absurd (by decide) c_49)
                          refine lv_iconst (v := 0) hx hb dX9_isWord_142 (by decide) ?_
                          exact W.zret (v := 0) hx hb hr rfl (fun t ht hW => ⟨0, rfl, (by first | exact Or.inr (rfl)), ht⟩) (fun q h => by cases h) dX9_isWord_143 hlk
                      · skip
                        refine lv_if_eq (tgt := 142) hx hb dX9_isWord_104 (by decide) (fun c_50 => ?_) (fun c_50 => absurd (by decide) c_50)
                        refine lv_iconst (v := 0) hx hb dX9_isWord_142 (by decide) ?_
                        exact W.zret (v := 0) hx hb hr rfl (fun t ht hW => ⟨0, rfl, (by first | exact Or.inr (rfl)), ht⟩) (fun q h => by cases h) dX9_isWord_143 hlk
                    · skip
                      refine lv_if_eq (tgt := 142) hx hb dX9_isWord_94 (by decide) (fun c_51 => ?_) (fun c_51 => absurd (by decide) c_51)
                      refine lv_iconst (v := 0) hx hb dX9_isWord_142 (by decide) ?_
                      exact W.zret (v := 0) hx hb hr rfl (fun t ht hW => ⟨0, rfl, (by first | exact Or.inr (rfl)), ht⟩) (fun q h => by cases h) dX9_isWord_143 hlk
                  · skip
                    refine lv_if_eq (tgt := 142) hx hb dX9_isWord_85 (by decide) (fun c_52 => ?_) (fun c_52 => absurd (by decide) c_52)
                    refine lv_iconst (v := 0) hx hb dX9_isWord_142 (by decide) ?_
                    exact W.zret (v := 0) hx hb hr rfl (fun t ht hW => ⟨0, rfl, (by first | exact Or.inr (rfl)), ht⟩) (fun q h => by cases h) dX9_isWord_143 hlk
                · skip
                  refine lv_if_eq (tgt := 142) hx hb dX9_isWord_76 (by decide) (fun c_53 => ?_) (fun c_53 => absurd (by decide) c_53)
                  refine lv_iconst (v := 0) hx hb dX9_isWord_142 (by decide) ?_
                  exact W.zret (v := 0) hx hb hr rfl (fun t ht hW => ⟨0, rfl, (by first | exact Or.inr (rfl)), ht⟩) (fun q h => by cases h) dX9_isWord_143 hlk
        · skip
          refine lv_iconst (v := 5) hx hb dX9_isWord_31 (by decide) ?_
          refine lv_goto (tgt := 47) hx hb dX9_isWord_32 (by decide) ?_
          refine lv_istore (lv' := [(8, .int 5), (0, .ref h0), (1, .int p0), (2, .int p1), (3, .int p2), (4, .int p3), (5, .int p4), (6, .int p5), (7, .int p6)]) hx hb dX9_isWord_47 hl (by decide) rfl (fun ls hl => ?_)
          refine lv_aload_n hx hb dX9_isWord_49 rfl (lv_at hl 1 rfl) ?_
          refine xg hF kf_X9_266 hK hP 0 rfl rfl dX9_isWord_50 ?_
          refine lv_if_ne (tgt := 142) hx hb dX9_isWord_53 (by decide) (fun c_54 => ?_) (fun c_54 => ?_)
          · skip
            refine lv_iconst (v := 0) hx hb dX9_isWord_142 (by decide) ?_
            exact W.zret (v := 0) hx hb hr rfl (fun t ht hW => ⟨0, rfl, (by first | exact Or.inr (rfl)), ht⟩) (fun q h => by cases h) dX9_isWord_143 hlk
          · skip
            refine lv_aload_n hx hb dX9_isWord_56 rfl (lv_at hl 1 rfl) ?_
            refine xg hF kf_X9_251 hK hP 0 rfl rfl dX9_isWord_57 ?_
            refine lv_aload_n hx hb dX9_isWord_60 rfl (lv_at hl 1 rfl) ?_
            refine xg hF kf_X9_254 hK hP 0 rfl rfl dX9_isWord_61 ?_
            refine lv_isub hx hb dX9_isWord_64 ?_
            refine lv_topi (fun x_55 ex_55 => ?_)
            refine lv_iload hx hb dX9_isWord_65 (lv_at hl 0 rfl) ?_
            refine lv_icmp_ne (tgt := 142) hx hb dX9_isWord_67 (by decide) (fun c_56 => ?_) (fun c_56 => ?_)
            · skip
              refine lv_iconst (v := 0) hx hb dX9_isWord_142 (by decide) ?_
              exact W.zret (v := 0) hx hb hr rfl (fun t ht hW => ⟨0, rfl, (by first | exact Or.inr (rfl)), ht⟩) (fun q h => by cases h) dX9_isWord_143 hlk
            · skip
              refine lv_aload_n hx hb dX9_isWord_70 rfl (lv_at hl 1 rfl) ?_
              refine lv_iconst (v := 0) hx hb dX9_isWord_71 (by decide) ?_
              refine lv_iload_n hx hb dX9_isWord_72 rfl (lv_at hl 2 rfl) ?_
              refine xc_Vr hF (c_X9_isAt l D cI cJ cZ cS ta sa sv s.heap.size h0 ys yk yo yt mk0 yfa yfe mL mS mM yro yhe ygr mF mC mY yta mz mf mt mv mw ywa ybi ysi ynu ymo tp 0 p0 (by omega) (by omega) (by omega)) kv_X9_272 ⟨rfl, rfl, Nat.le_of_ble_eq_true rfl, Nat.le_of_ble_eq_true rfl⟩ ⟨Nat.le_of_ble_eq_true rfl, Nat.le_of_ble_eq_true rfl⟩ hK hN hZ hP hD hS hA [0, 1] rfl rfl 0 rfl rfl rfl rfl hl.1 rfl (Nat.le_of_ble_eq_true rfl) dX9_isWord_73 (fun r_57 hw_r_57 => ?_)
              rcases hw_r_57 with rfl | rfl
              · skip
                refine lv_if_eq (tgt := 142) hx hb dX9_isWord_76 (by decide) (fun c_58 => absurd c_58 (by decide)) (fun c_58 => ?_)
                refine lv_aload_n hx hb dX9_isWord_79 rfl (lv_at hl 1 rfl) ?_
                refine lv_iconst (v := 1) hx hb dX9_isWord_80 (by decide) ?_
                refine lv_iload_n hx hb dX9_isWord_81 rfl (lv_at hl 3 rfl) ?_
                refine xc_Vr hF (c_X9_isAt l D cI cJ cZ cS ta sa sv s.heap.size h0 ys yk yo yt mk0 yfa yfe mL mS mM yro yhe ygr mF mC mY yta mz mf mt mv mw ywa ybi ysi ynu ymo tp 1 p1 (by omega) (by omega) (by omega)) kv_X9_272 ⟨rfl, rfl, Nat.le_of_ble_eq_true rfl, Nat.le_of_ble_eq_true rfl⟩ ⟨Nat.le_of_ble_eq_true rfl, Nat.le_of_ble_eq_true rfl⟩ hK hN hZ hP hD hS hA [0, 1] rfl rfl 0 rfl rfl rfl rfl hl.1 rfl (Nat.le_of_ble_eq_true rfl) dX9_isWord_82 (fun r_59 hw_r_59 => ?_)
                rcases hw_r_59 with rfl | rfl
                · skip
                  refine lv_if_eq (tgt := 142) hx hb dX9_isWord_85 (by decide) (fun c_60 => absurd c_60 (by decide)) (fun c_60 => ?_)
                  refine lv_aload_n hx hb dX9_isWord_88 rfl (lv_at hl 1 rfl) ?_
                  refine lv_iconst (v := 2) hx hb dX9_isWord_89 (by decide) ?_
                  refine lv_iload_n hx hb dX9_isWord_90 rfl (lv_at hl 4 rfl) ?_
                  refine xc_Vr hF (c_X9_isAt l D cI cJ cZ cS ta sa sv s.heap.size h0 ys yk yo yt mk0 yfa yfe mL mS mM yro yhe ygr mF mC mY yta mz mf mt mv mw ywa ybi ysi ynu ymo tp 2 p2 (by omega) (by omega) (by omega)) kv_X9_272 ⟨rfl, rfl, Nat.le_of_ble_eq_true rfl, Nat.le_of_ble_eq_true rfl⟩ ⟨Nat.le_of_ble_eq_true rfl, Nat.le_of_ble_eq_true rfl⟩ hK hN hZ hP hD hS hA [0, 1] rfl rfl 0 rfl rfl rfl rfl hl.1 rfl (Nat.le_of_ble_eq_true rfl) dX9_isWord_91 (fun r_61 hw_r_61 => ?_)
                  rcases hw_r_61 with rfl | rfl
                  · skip
                    refine lv_if_eq (tgt := 142) hx hb dX9_isWord_94 (by decide) (fun c_62 => absurd c_62 (by decide)) (fun c_62 => ?_)
                    refine lv_aload_n hx hb dX9_isWord_97 rfl (lv_at hl 1 rfl) ?_
                    refine lv_iconst (v := 3) hx hb dX9_isWord_98 (by decide) ?_
                    refine lv_iload hx hb dX9_isWord_99 (lv_at hl 5 rfl) ?_
                    refine xc_Vr hF (c_X9_isAt l D cI cJ cZ cS ta sa sv s.heap.size h0 ys yk yo yt mk0 yfa yfe mL mS mM yro yhe ygr mF mC mY yta mz mf mt mv mw ywa ybi ysi ynu ymo tp 3 p3 (by omega) (by omega) (by omega)) kv_X9_272 ⟨rfl, rfl, Nat.le_of_ble_eq_true rfl, Nat.le_of_ble_eq_true rfl⟩ ⟨Nat.le_of_ble_eq_true rfl, Nat.le_of_ble_eq_true rfl⟩ hK hN hZ hP hD hS hA [0, 1] rfl rfl 0 rfl rfl rfl rfl hl.1 rfl (Nat.le_of_ble_eq_true rfl) dX9_isWord_101 (fun r_63 hw_r_63 => ?_)
                    rcases hw_r_63 with rfl | rfl
                    · skip
                      refine lv_if_eq (tgt := 142) hx hb dX9_isWord_104 (by decide) (fun c_64 => absurd c_64 (by decide)) (fun c_64 => ?_)
                      refine lv_aload_n hx hb dX9_isWord_107 rfl (lv_at hl 1 rfl) ?_
                      refine lv_iconst (v := 4) hx hb dX9_isWord_108 (by decide) ?_
                      refine lv_iload hx hb dX9_isWord_109 (lv_at hl 6 rfl) ?_
                      refine xc_Vr hF (c_X9_isAt l D cI cJ cZ cS ta sa sv s.heap.size h0 ys yk yo yt mk0 yfa yfe mL mS mM yro yhe ygr mF mC mY yta mz mf mt mv mw ywa ybi ysi ynu ymo tp 4 p4 (by omega) (by omega) (by omega)) kv_X9_272 ⟨rfl, rfl, Nat.le_of_ble_eq_true rfl, Nat.le_of_ble_eq_true rfl⟩ ⟨Nat.le_of_ble_eq_true rfl, Nat.le_of_ble_eq_true rfl⟩ hK hN hZ hP hD hS hA [0, 1] rfl rfl 0 rfl rfl rfl rfl hl.1 rfl (Nat.le_of_ble_eq_true rfl) dX9_isWord_111 (fun r_65 hw_r_65 => ?_)
                      rcases hw_r_65 with rfl | rfl
                      · skip
                        refine lv_if_eq (tgt := 142) hx hb dX9_isWord_114 (by decide) (fun c_66 => absurd c_66 (by decide)) (fun c_66 => ?_)
                        refine lv_aload_n hx hb dX9_isWord_117 rfl (lv_at hl 1 rfl) ?_
                        refine lv_iconst (v := 5) hx hb dX9_isWord_118 (by decide) ?_
                        refine lv_iload hx hb dX9_isWord_119 (lv_at hl 7 rfl) ?_
                        refine xc_Vr hF (c_X9_isAt l D cI cJ cZ cS ta sa sv s.heap.size h0 ys yk yo yt mk0 yfa yfe mL mS mM yro yhe ygr mF mC mY yta mz mf mt mv mw ywa ybi ysi ynu ymo tp 5 p5 (by omega) (by omega) (by omega)) kv_X9_272 ⟨rfl, rfl, Nat.le_of_ble_eq_true rfl, Nat.le_of_ble_eq_true rfl⟩ ⟨Nat.le_of_ble_eq_true rfl, Nat.le_of_ble_eq_true rfl⟩ hK hN hZ hP hD hS hA [0, 1] rfl rfl 0 rfl rfl rfl rfl hl.1 rfl (Nat.le_of_ble_eq_true rfl) dX9_isWord_121 (fun r_67 hw_r_67 => ?_)
                        rcases hw_r_67 with rfl | rfl
                        · skip
                          refine lv_if_eq (tgt := 142) hx hb dX9_isWord_124 (by decide) (fun c_68 => absurd c_68 (by decide)) (fun c_68 => ?_)
                          refine lv_aload_n hx hb dX9_isWord_127 rfl (lv_at hl 1 rfl) ?_
                          refine lv_bipush (v := 6) hx hb dX9_isWord_128 (by decide) ?_
                          refine lv_iload hx hb dX9_isWord_130 (lv_at hl 8 rfl) ?_
                          refine xc_Vr hF (c_X9_isAt l D cI cJ cZ cS ta sa sv s.heap.size h0 ys yk yo yt mk0 yfa yfe mL mS mM yro yhe ygr mF mC mY yta mz mf mt mv mw ywa ybi ysi ynu ymo tp 6 p6 (by omega) (by omega) (by omega)) kv_X9_272 ⟨rfl, rfl, Nat.le_of_ble_eq_true rfl, Nat.le_of_ble_eq_true rfl⟩ ⟨Nat.le_of_ble_eq_true rfl, Nat.le_of_ble_eq_true rfl⟩ hK hN hZ hP hD hS hA [0, 1] rfl rfl 0 rfl rfl rfl rfl hl.1 rfl (Nat.le_of_ble_eq_true rfl) dX9_isWord_132 (fun r_69 hw_r_69 => ?_)
                          rcases hw_r_69 with rfl | rfl
                          · skip
                            refine lv_if_eq (tgt := 142) hx hb dX9_isWord_135 (by decide) (fun c_70 => absurd c_70 (by decide)) (fun c_70 => ?_)
                            refine lv_iconst (v := 1) hx hb dX9_isWord_138 (by decide) ?_
                            refine lv_goto (tgt := 143) hx hb dX9_isWord_139 (by decide) ?_
                            exact W.zret (v := 1) hx hb hr rfl (fun t ht hW => ⟨1, rfl, (by first | exact Or.inl rfl), ht⟩) (fun q h => by cases h) dX9_isWord_143 hlk
                          · skip
                            refine lv_if_eq (tgt := 142) hx hb dX9_isWord_135 (by decide) (fun c_71 => ?_) (fun c_71 => absurd (by decide) c_71)
                            refine lv_iconst (v := 0) hx hb dX9_isWord_142 (by decide) ?_
                            exact W.zret (v := 0) hx hb hr rfl (fun t ht hW => ⟨0, rfl, (by first | exact Or.inr (rfl)), ht⟩) (fun q h => by cases h) dX9_isWord_143 hlk
                        · skip
                          refine lv_if_eq (tgt := 142) hx hb dX9_isWord_124 (by decide) (fun c_72 => ?_) (fun c_72 => absurd (by decide) c_72)
                          refine lv_iconst (v := 0) hx hb dX9_isWord_142 (by decide) ?_
                          exact W.zret (v := 0) hx hb hr rfl (fun t ht hW => ⟨0, rfl, (by first | exact Or.inr (rfl)), ht⟩) (fun q h => by cases h) dX9_isWord_143 hlk
                      · skip
                        refine lv_if_eq (tgt := 142) hx hb dX9_isWord_114 (by decide) (fun c_73 => ?_) (fun c_73 => absurd (by decide) c_73)
                        refine lv_iconst (v := 0) hx hb dX9_isWord_142 (by decide) ?_
                        exact W.zret (v := 0) hx hb hr rfl (fun t ht hW => ⟨0, rfl, (by first | exact Or.inr (rfl)), ht⟩) (fun q h => by cases h) dX9_isWord_143 hlk
                    · skip
                      refine lv_if_eq (tgt := 142) hx hb dX9_isWord_104 (by decide) (fun c_74 => ?_) (fun c_74 => absurd (by decide) c_74)
                      refine lv_iconst (v := 0) hx hb dX9_isWord_142 (by decide) ?_
                      exact W.zret (v := 0) hx hb hr rfl (fun t ht hW => ⟨0, rfl, (by first | exact Or.inr (rfl)), ht⟩) (fun q h => by cases h) dX9_isWord_143 hlk
                  · skip
                    refine lv_if_eq (tgt := 142) hx hb dX9_isWord_94 (by decide) (fun c_75 => ?_) (fun c_75 => absurd (by decide) c_75)
                    refine lv_iconst (v := 0) hx hb dX9_isWord_142 (by decide) ?_
                    exact W.zret (v := 0) hx hb hr rfl (fun t ht hW => ⟨0, rfl, (by first | exact Or.inr (rfl)), ht⟩) (fun q h => by cases h) dX9_isWord_143 hlk
                · skip
                  refine lv_if_eq (tgt := 142) hx hb dX9_isWord_85 (by decide) (fun c_76 => ?_) (fun c_76 => absurd (by decide) c_76)
                  refine lv_iconst (v := 0) hx hb dX9_isWord_142 (by decide) ?_
                  exact W.zret (v := 0) hx hb hr rfl (fun t ht hW => ⟨0, rfl, (by first | exact Or.inr (rfl)), ht⟩) (fun q h => by cases h) dX9_isWord_143 hlk
              · skip
                refine lv_if_eq (tgt := 142) hx hb dX9_isWord_76 (by decide) (fun c_77 => ?_) (fun c_77 => absurd (by decide) c_77)
                refine lv_iconst (v := 0) hx hb dX9_isWord_142 (by decide) ?_
                exact W.zret (v := 0) hx hb hr rfl (fun t ht hW => ⟨0, rfl, (by first | exact Or.inr (rfl)), ht⟩) (fun q h => by cases h) dX9_isWord_143 hlk
      · skip
        refine lv_iconst (v := 4) hx hb dX9_isWord_22 (by decide) ?_
        refine lv_goto (tgt := 47) hx hb dX9_isWord_23 (by decide) ?_
        refine lv_istore (lv' := [(8, .int 4), (0, .ref h0), (1, .int p0), (2, .int p1), (3, .int p2), (4, .int p3), (5, .int p4), (6, .int p5), (7, .int p6)]) hx hb dX9_isWord_47 hl (by decide) rfl (fun ls hl => ?_)
        refine lv_aload_n hx hb dX9_isWord_49 rfl (lv_at hl 1 rfl) ?_
        refine xg hF kf_X9_266 hK hP 0 rfl rfl dX9_isWord_50 ?_
        refine lv_if_ne (tgt := 142) hx hb dX9_isWord_53 (by decide) (fun c_78 => ?_) (fun c_78 => ?_)
        · skip
          refine lv_iconst (v := 0) hx hb dX9_isWord_142 (by decide) ?_
          exact W.zret (v := 0) hx hb hr rfl (fun t ht hW => ⟨0, rfl, (by first | exact Or.inr (rfl)), ht⟩) (fun q h => by cases h) dX9_isWord_143 hlk
        · skip
          refine lv_aload_n hx hb dX9_isWord_56 rfl (lv_at hl 1 rfl) ?_
          refine xg hF kf_X9_251 hK hP 0 rfl rfl dX9_isWord_57 ?_
          refine lv_aload_n hx hb dX9_isWord_60 rfl (lv_at hl 1 rfl) ?_
          refine xg hF kf_X9_254 hK hP 0 rfl rfl dX9_isWord_61 ?_
          refine lv_isub hx hb dX9_isWord_64 ?_
          refine lv_topi (fun x_79 ex_79 => ?_)
          refine lv_iload hx hb dX9_isWord_65 (lv_at hl 0 rfl) ?_
          refine lv_icmp_ne (tgt := 142) hx hb dX9_isWord_67 (by decide) (fun c_80 => ?_) (fun c_80 => ?_)
          · skip
            refine lv_iconst (v := 0) hx hb dX9_isWord_142 (by decide) ?_
            exact W.zret (v := 0) hx hb hr rfl (fun t ht hW => ⟨0, rfl, (by first | exact Or.inr (rfl)), ht⟩) (fun q h => by cases h) dX9_isWord_143 hlk
          · skip
            refine lv_aload_n hx hb dX9_isWord_70 rfl (lv_at hl 1 rfl) ?_
            refine lv_iconst (v := 0) hx hb dX9_isWord_71 (by decide) ?_
            refine lv_iload_n hx hb dX9_isWord_72 rfl (lv_at hl 2 rfl) ?_
            refine xc_Vr hF (c_X9_isAt l D cI cJ cZ cS ta sa sv s.heap.size h0 ys yk yo yt mk0 yfa yfe mL mS mM yro yhe ygr mF mC mY yta mz mf mt mv mw ywa ybi ysi ynu ymo tp 0 p0 (by omega) (by omega) (by omega)) kv_X9_272 ⟨rfl, rfl, Nat.le_of_ble_eq_true rfl, Nat.le_of_ble_eq_true rfl⟩ ⟨Nat.le_of_ble_eq_true rfl, Nat.le_of_ble_eq_true rfl⟩ hK hN hZ hP hD hS hA [0, 1] rfl rfl 0 rfl rfl rfl rfl hl.1 rfl (Nat.le_of_ble_eq_true rfl) dX9_isWord_73 (fun r_81 hw_r_81 => ?_)
            rcases hw_r_81 with rfl | rfl
            · skip
              refine lv_if_eq (tgt := 142) hx hb dX9_isWord_76 (by decide) (fun c_82 => absurd c_82 (by decide)) (fun c_82 => ?_)
              refine lv_aload_n hx hb dX9_isWord_79 rfl (lv_at hl 1 rfl) ?_
              refine lv_iconst (v := 1) hx hb dX9_isWord_80 (by decide) ?_
              refine lv_iload_n hx hb dX9_isWord_81 rfl (lv_at hl 3 rfl) ?_
              refine xc_Vr hF (c_X9_isAt l D cI cJ cZ cS ta sa sv s.heap.size h0 ys yk yo yt mk0 yfa yfe mL mS mM yro yhe ygr mF mC mY yta mz mf mt mv mw ywa ybi ysi ynu ymo tp 1 p1 (by omega) (by omega) (by omega)) kv_X9_272 ⟨rfl, rfl, Nat.le_of_ble_eq_true rfl, Nat.le_of_ble_eq_true rfl⟩ ⟨Nat.le_of_ble_eq_true rfl, Nat.le_of_ble_eq_true rfl⟩ hK hN hZ hP hD hS hA [0, 1] rfl rfl 0 rfl rfl rfl rfl hl.1 rfl (Nat.le_of_ble_eq_true rfl) dX9_isWord_82 (fun r_83 hw_r_83 => ?_)
              rcases hw_r_83 with rfl | rfl
              · skip
                refine lv_if_eq (tgt := 142) hx hb dX9_isWord_85 (by decide) (fun c_84 => absurd c_84 (by decide)) (fun c_84 => ?_)
                refine lv_aload_n hx hb dX9_isWord_88 rfl (lv_at hl 1 rfl) ?_
                refine lv_iconst (v := 2) hx hb dX9_isWord_89 (by decide) ?_
                refine lv_iload_n hx hb dX9_isWord_90 rfl (lv_at hl 4 rfl) ?_
                refine xc_Vr hF (c_X9_isAt l D cI cJ cZ cS ta sa sv s.heap.size h0 ys yk yo yt mk0 yfa yfe mL mS mM yro yhe ygr mF mC mY yta mz mf mt mv mw ywa ybi ysi ynu ymo tp 2 p2 (by omega) (by omega) (by omega)) kv_X9_272 ⟨rfl, rfl, Nat.le_of_ble_eq_true rfl, Nat.le_of_ble_eq_true rfl⟩ ⟨Nat.le_of_ble_eq_true rfl, Nat.le_of_ble_eq_true rfl⟩ hK hN hZ hP hD hS hA [0, 1] rfl rfl 0 rfl rfl rfl rfl hl.1 rfl (Nat.le_of_ble_eq_true rfl) dX9_isWord_91 (fun r_85 hw_r_85 => ?_)
                rcases hw_r_85 with rfl | rfl
                · skip
                  refine lv_if_eq (tgt := 142) hx hb dX9_isWord_94 (by decide) (fun c_86 => absurd c_86 (by decide)) (fun c_86 => ?_)
                  refine lv_aload_n hx hb dX9_isWord_97 rfl (lv_at hl 1 rfl) ?_
                  refine lv_iconst (v := 3) hx hb dX9_isWord_98 (by decide) ?_
                  refine lv_iload hx hb dX9_isWord_99 (lv_at hl 5 rfl) ?_
                  refine xc_Vr hF (c_X9_isAt l D cI cJ cZ cS ta sa sv s.heap.size h0 ys yk yo yt mk0 yfa yfe mL mS mM yro yhe ygr mF mC mY yta mz mf mt mv mw ywa ybi ysi ynu ymo tp 3 p3 (by omega) (by omega) (by omega)) kv_X9_272 ⟨rfl, rfl, Nat.le_of_ble_eq_true rfl, Nat.le_of_ble_eq_true rfl⟩ ⟨Nat.le_of_ble_eq_true rfl, Nat.le_of_ble_eq_true rfl⟩ hK hN hZ hP hD hS hA [0, 1] rfl rfl 0 rfl rfl rfl rfl hl.1 rfl (Nat.le_of_ble_eq_true rfl) dX9_isWord_101 (fun r_87 hw_r_87 => ?_)
                  rcases hw_r_87 with rfl | rfl
                  · skip
                    refine lv_if_eq (tgt := 142) hx hb dX9_isWord_104 (by decide) (fun c_88 => absurd c_88 (by decide)) (fun c_88 => ?_)
                    refine lv_aload_n hx hb dX9_isWord_107 rfl (lv_at hl 1 rfl) ?_
                    refine lv_iconst (v := 4) hx hb dX9_isWord_108 (by decide) ?_
                    refine lv_iload hx hb dX9_isWord_109 (lv_at hl 6 rfl) ?_
                    refine xc_Vr hF (c_X9_isAt l D cI cJ cZ cS ta sa sv s.heap.size h0 ys yk yo yt mk0 yfa yfe mL mS mM yro yhe ygr mF mC mY yta mz mf mt mv mw ywa ybi ysi ynu ymo tp 4 p4 (by omega) (by omega) (by omega)) kv_X9_272 ⟨rfl, rfl, Nat.le_of_ble_eq_true rfl, Nat.le_of_ble_eq_true rfl⟩ ⟨Nat.le_of_ble_eq_true rfl, Nat.le_of_ble_eq_true rfl⟩ hK hN hZ hP hD hS hA [0, 1] rfl rfl 0 rfl rfl rfl rfl hl.1 rfl (Nat.le_of_ble_eq_true rfl) dX9_isWord_111 (fun r_89 hw_r_89 => ?_)
                    rcases hw_r_89 with rfl | rfl
                    · skip
                      refine lv_if_eq (tgt := 142) hx hb dX9_isWord_114 (by decide) (fun c_90 => absurd c_90 (by decide)) (fun c_90 => ?_)
                      refine lv_aload_n hx hb dX9_isWord_117 rfl (lv_at hl 1 rfl) ?_
                      refine lv_iconst (v := 5) hx hb dX9_isWord_118 (by decide) ?_
                      refine lv_iload hx hb dX9_isWord_119 (lv_at hl 7 rfl) ?_
                      refine xc_Vr hF (c_X9_isAt l D cI cJ cZ cS ta sa sv s.heap.size h0 ys yk yo yt mk0 yfa yfe mL mS mM yro yhe ygr mF mC mY yta mz mf mt mv mw ywa ybi ysi ynu ymo tp 5 p5 (by omega) (by omega) (by omega)) kv_X9_272 ⟨rfl, rfl, Nat.le_of_ble_eq_true rfl, Nat.le_of_ble_eq_true rfl⟩ ⟨Nat.le_of_ble_eq_true rfl, Nat.le_of_ble_eq_true rfl⟩ hK hN hZ hP hD hS hA [0, 1] rfl rfl 0 rfl rfl rfl rfl hl.1 rfl (Nat.le_of_ble_eq_true rfl) dX9_isWord_121 (fun r_91 hw_r_91 => ?_)
                      rcases hw_r_91 with rfl | rfl
                      · skip
                        refine lv_if_eq (tgt := 142) hx hb dX9_isWord_124 (by decide) (fun c_92 => absurd c_92 (by decide)) (fun c_92 => ?_)
                        refine lv_aload_n hx hb dX9_isWord_127 rfl (lv_at hl 1 rfl) ?_
                        refine lv_bipush (v := 6) hx hb dX9_isWord_128 (by decide) ?_
                        refine lv_iload hx hb dX9_isWord_130 (lv_at hl 8 rfl) ?_
                        refine xc_Vr hF (c_X9_isAt l D cI cJ cZ cS ta sa sv s.heap.size h0 ys yk yo yt mk0 yfa yfe mL mS mM yro yhe ygr mF mC mY yta mz mf mt mv mw ywa ybi ysi ynu ymo tp 6 p6 (by omega) (by omega) (by omega)) kv_X9_272 ⟨rfl, rfl, Nat.le_of_ble_eq_true rfl, Nat.le_of_ble_eq_true rfl⟩ ⟨Nat.le_of_ble_eq_true rfl, Nat.le_of_ble_eq_true rfl⟩ hK hN hZ hP hD hS hA [0, 1] rfl rfl 0 rfl rfl rfl rfl hl.1 rfl (Nat.le_of_ble_eq_true rfl) dX9_isWord_132 (fun r_93 hw_r_93 => ?_)
                        rcases hw_r_93 with rfl | rfl
                        · skip
                          refine lv_if_eq (tgt := 142) hx hb dX9_isWord_135 (by decide) (fun c_94 => absurd c_94 (by decide)) (fun c_94 => ?_)
                          refine lv_iconst (v := 1) hx hb dX9_isWord_138 (by decide) ?_
                          refine lv_goto (tgt := 143) hx hb dX9_isWord_139 (by decide) ?_
                          exact W.zret (v := 1) hx hb hr rfl (fun t ht hW => ⟨1, rfl, (by first | exact Or.inl rfl), ht⟩) (fun q h => by cases h) dX9_isWord_143 hlk
                        · skip
                          refine lv_if_eq (tgt := 142) hx hb dX9_isWord_135 (by decide) (fun c_95 => ?_) (fun c_95 => absurd (by decide) c_95)
                          refine lv_iconst (v := 0) hx hb dX9_isWord_142 (by decide) ?_
                          exact W.zret (v := 0) hx hb hr rfl (fun t ht hW => ⟨0, rfl, (by first | exact Or.inr (rfl)), ht⟩) (fun q h => by cases h) dX9_isWord_143 hlk
                      · skip
                        refine lv_if_eq (tgt := 142) hx hb dX9_isWord_124 (by decide) (fun c_96 => ?_) (fun c_96 => absurd (by decide) c_96)
                        refine lv_iconst (v := 0) hx hb dX9_isWord_142 (by decide) ?_
                        exact W.zret (v := 0) hx hb hr rfl (fun t ht hW => ⟨0, rfl, (by first | exact Or.inr (rfl)), ht⟩) (fun q h => by cases h) dX9_isWord_143 hlk
                    · skip
                      refine lv_if_eq (tgt := 142) hx hb dX9_isWord_114 (by decide) (fun c_97 => ?_) (fun c_97 => absurd (by decide) c_97)
                      refine lv_iconst (v := 0) hx hb dX9_isWord_142 (by decide) ?_
                      exact W.zret (v := 0) hx hb hr rfl (fun t ht hW => ⟨0, rfl, (by first | exact Or.inr (rfl)), ht⟩) (fun q h => by cases h) dX9_isWord_143 hlk
                  · skip
                    refine lv_if_eq (tgt := 142) hx hb dX9_isWord_104 (by decide) (fun c_98 => ?_) (fun c_98 => absurd (by decide) c_98)
                    refine lv_iconst (v := 0) hx hb dX9_isWord_142 (by decide) ?_
                    exact W.zret (v := 0) hx hb hr rfl (fun t ht hW => ⟨0, rfl, (by first | exact Or.inr (rfl)), ht⟩) (fun q h => by cases h) dX9_isWord_143 hlk
                · skip
                  refine lv_if_eq (tgt := 142) hx hb dX9_isWord_94 (by decide) (fun c_99 => ?_) (fun c_99 => absurd (by decide) c_99)
                  refine lv_iconst (v := 0) hx hb dX9_isWord_142 (by decide) ?_
                  exact W.zret (v := 0) hx hb hr rfl (fun t ht hW => ⟨0, rfl, (by first | exact Or.inr (rfl)), ht⟩) (fun q h => by cases h) dX9_isWord_143 hlk
              · skip
                refine lv_if_eq (tgt := 142) hx hb dX9_isWord_85 (by decide) (fun c_100 => ?_) (fun c_100 => absurd (by decide) c_100)
                refine lv_iconst (v := 0) hx hb dX9_isWord_142 (by decide) ?_
                exact W.zret (v := 0) hx hb hr rfl (fun t ht hW => ⟨0, rfl, (by first | exact Or.inr (rfl)), ht⟩) (fun q h => by cases h) dX9_isWord_143 hlk
            · skip
              refine lv_if_eq (tgt := 142) hx hb dX9_isWord_76 (by decide) (fun c_101 => ?_) (fun c_101 => absurd (by decide) c_101)
              refine lv_iconst (v := 0) hx hb dX9_isWord_142 (by decide) ?_
              exact W.zret (v := 0) hx hb hr rfl (fun t ht hW => ⟨0, rfl, (by first | exact Or.inr (rfl)), ht⟩) (fun q h => by cases h) dX9_isWord_143 hlk
    · skip
      refine lv_iconst (v := 3) hx hb dX9_isWord_13 (by decide) ?_
      refine lv_goto (tgt := 47) hx hb dX9_isWord_14 (by decide) ?_
      refine lv_istore (lv' := [(8, .int 3), (0, .ref h0), (1, .int p0), (2, .int p1), (3, .int p2), (4, .int p3), (5, .int p4), (6, .int p5), (7, .int p6)]) hx hb dX9_isWord_47 hl (by decide) rfl (fun ls hl => ?_)
      refine lv_aload_n hx hb dX9_isWord_49 rfl (lv_at hl 1 rfl) ?_
      refine xg hF kf_X9_266 hK hP 0 rfl rfl dX9_isWord_50 ?_
      refine lv_if_ne (tgt := 142) hx hb dX9_isWord_53 (by decide) (fun c_102 => ?_) (fun c_102 => ?_)
      · skip
        refine lv_iconst (v := 0) hx hb dX9_isWord_142 (by decide) ?_
        exact W.zret (v := 0) hx hb hr rfl (fun t ht hW => ⟨0, rfl, (by first | exact Or.inr (rfl)), ht⟩) (fun q h => by cases h) dX9_isWord_143 hlk
      · skip
        refine lv_aload_n hx hb dX9_isWord_56 rfl (lv_at hl 1 rfl) ?_
        refine xg hF kf_X9_251 hK hP 0 rfl rfl dX9_isWord_57 ?_
        refine lv_aload_n hx hb dX9_isWord_60 rfl (lv_at hl 1 rfl) ?_
        refine xg hF kf_X9_254 hK hP 0 rfl rfl dX9_isWord_61 ?_
        refine lv_isub hx hb dX9_isWord_64 ?_
        refine lv_topi (fun x_103 ex_103 => ?_)
        refine lv_iload hx hb dX9_isWord_65 (lv_at hl 0 rfl) ?_
        refine lv_icmp_ne (tgt := 142) hx hb dX9_isWord_67 (by decide) (fun c_104 => ?_) (fun c_104 => ?_)
        · skip
          refine lv_iconst (v := 0) hx hb dX9_isWord_142 (by decide) ?_
          exact W.zret (v := 0) hx hb hr rfl (fun t ht hW => ⟨0, rfl, (by first | exact Or.inr (rfl)), ht⟩) (fun q h => by cases h) dX9_isWord_143 hlk
        · skip
          refine lv_aload_n hx hb dX9_isWord_70 rfl (lv_at hl 1 rfl) ?_
          refine lv_iconst (v := 0) hx hb dX9_isWord_71 (by decide) ?_
          refine lv_iload_n hx hb dX9_isWord_72 rfl (lv_at hl 2 rfl) ?_
          refine xc_Vr hF (c_X9_isAt l D cI cJ cZ cS ta sa sv s.heap.size h0 ys yk yo yt mk0 yfa yfe mL mS mM yro yhe ygr mF mC mY yta mz mf mt mv mw ywa ybi ysi ynu ymo tp 0 p0 (by omega) (by omega) (by omega)) kv_X9_272 ⟨rfl, rfl, Nat.le_of_ble_eq_true rfl, Nat.le_of_ble_eq_true rfl⟩ ⟨Nat.le_of_ble_eq_true rfl, Nat.le_of_ble_eq_true rfl⟩ hK hN hZ hP hD hS hA [0, 1] rfl rfl 0 rfl rfl rfl rfl hl.1 rfl (Nat.le_of_ble_eq_true rfl) dX9_isWord_73 (fun r_105 hw_r_105 => ?_)
          rcases hw_r_105 with rfl | rfl
          · skip
            refine lv_if_eq (tgt := 142) hx hb dX9_isWord_76 (by decide) (fun c_106 => absurd c_106 (by decide)) (fun c_106 => ?_)
            refine lv_aload_n hx hb dX9_isWord_79 rfl (lv_at hl 1 rfl) ?_
            refine lv_iconst (v := 1) hx hb dX9_isWord_80 (by decide) ?_
            refine lv_iload_n hx hb dX9_isWord_81 rfl (lv_at hl 3 rfl) ?_
            refine xc_Vr hF (c_X9_isAt l D cI cJ cZ cS ta sa sv s.heap.size h0 ys yk yo yt mk0 yfa yfe mL mS mM yro yhe ygr mF mC mY yta mz mf mt mv mw ywa ybi ysi ynu ymo tp 1 p1 (by omega) (by omega) (by omega)) kv_X9_272 ⟨rfl, rfl, Nat.le_of_ble_eq_true rfl, Nat.le_of_ble_eq_true rfl⟩ ⟨Nat.le_of_ble_eq_true rfl, Nat.le_of_ble_eq_true rfl⟩ hK hN hZ hP hD hS hA [0, 1] rfl rfl 0 rfl rfl rfl rfl hl.1 rfl (Nat.le_of_ble_eq_true rfl) dX9_isWord_82 (fun r_107 hw_r_107 => ?_)
            rcases hw_r_107 with rfl | rfl
            · skip
              refine lv_if_eq (tgt := 142) hx hb dX9_isWord_85 (by decide) (fun c_108 => absurd c_108 (by decide)) (fun c_108 => ?_)
              refine lv_aload_n hx hb dX9_isWord_88 rfl (lv_at hl 1 rfl) ?_
              refine lv_iconst (v := 2) hx hb dX9_isWord_89 (by decide) ?_
              refine lv_iload_n hx hb dX9_isWord_90 rfl (lv_at hl 4 rfl) ?_
              refine xc_Vr hF (c_X9_isAt l D cI cJ cZ cS ta sa sv s.heap.size h0 ys yk yo yt mk0 yfa yfe mL mS mM yro yhe ygr mF mC mY yta mz mf mt mv mw ywa ybi ysi ynu ymo tp 2 p2 (by omega) (by omega) (by omega)) kv_X9_272 ⟨rfl, rfl, Nat.le_of_ble_eq_true rfl, Nat.le_of_ble_eq_true rfl⟩ ⟨Nat.le_of_ble_eq_true rfl, Nat.le_of_ble_eq_true rfl⟩ hK hN hZ hP hD hS hA [0, 1] rfl rfl 0 rfl rfl rfl rfl hl.1 rfl (Nat.le_of_ble_eq_true rfl) dX9_isWord_91 (fun r_109 hw_r_109 => ?_)
              rcases hw_r_109 with rfl | rfl
              · skip
                refine lv_if_eq (tgt := 142) hx hb dX9_isWord_94 (by decide) (fun c_110 => absurd c_110 (by decide)) (fun c_110 => ?_)
                refine lv_aload_n hx hb dX9_isWord_97 rfl (lv_at hl 1 rfl) ?_
                refine lv_iconst (v := 3) hx hb dX9_isWord_98 (by decide) ?_
                refine lv_iload hx hb dX9_isWord_99 (lv_at hl 5 rfl) ?_
                refine xc_Vr hF (c_X9_isAt l D cI cJ cZ cS ta sa sv s.heap.size h0 ys yk yo yt mk0 yfa yfe mL mS mM yro yhe ygr mF mC mY yta mz mf mt mv mw ywa ybi ysi ynu ymo tp 3 p3 (by omega) (by omega) (by omega)) kv_X9_272 ⟨rfl, rfl, Nat.le_of_ble_eq_true rfl, Nat.le_of_ble_eq_true rfl⟩ ⟨Nat.le_of_ble_eq_true rfl, Nat.le_of_ble_eq_true rfl⟩ hK hN hZ hP hD hS hA [0, 1] rfl rfl 0 rfl rfl rfl rfl hl.1 rfl (Nat.le_of_ble_eq_true rfl) dX9_isWord_101 (fun r_111 hw_r_111 => ?_)
                rcases hw_r_111 with rfl | rfl
                · skip
                  refine lv_if_eq (tgt := 142) hx hb dX9_isWord_104 (by decide) (fun c_112 => absurd c_112 (by decide)) (fun c_112 => ?_)
                  refine lv_aload_n hx hb dX9_isWord_107 rfl (lv_at hl 1 rfl) ?_
                  refine lv_iconst (v := 4) hx hb dX9_isWord_108 (by decide) ?_
                  refine lv_iload hx hb dX9_isWord_109 (lv_at hl 6 rfl) ?_
                  refine xc_Vr hF (c_X9_isAt l D cI cJ cZ cS ta sa sv s.heap.size h0 ys yk yo yt mk0 yfa yfe mL mS mM yro yhe ygr mF mC mY yta mz mf mt mv mw ywa ybi ysi ynu ymo tp 4 p4 (by omega) (by omega) (by omega)) kv_X9_272 ⟨rfl, rfl, Nat.le_of_ble_eq_true rfl, Nat.le_of_ble_eq_true rfl⟩ ⟨Nat.le_of_ble_eq_true rfl, Nat.le_of_ble_eq_true rfl⟩ hK hN hZ hP hD hS hA [0, 1] rfl rfl 0 rfl rfl rfl rfl hl.1 rfl (Nat.le_of_ble_eq_true rfl) dX9_isWord_111 (fun r_113 hw_r_113 => ?_)
                  rcases hw_r_113 with rfl | rfl
                  · skip
                    refine lv_if_eq (tgt := 142) hx hb dX9_isWord_114 (by decide) (fun c_114 => absurd c_114 (by decide)) (fun c_114 => ?_)
                    refine lv_aload_n hx hb dX9_isWord_117 rfl (lv_at hl 1 rfl) ?_
                    refine lv_iconst (v := 5) hx hb dX9_isWord_118 (by decide) ?_
                    refine lv_iload hx hb dX9_isWord_119 (lv_at hl 7 rfl) ?_
                    refine xc_Vr hF (c_X9_isAt l D cI cJ cZ cS ta sa sv s.heap.size h0 ys yk yo yt mk0 yfa yfe mL mS mM yro yhe ygr mF mC mY yta mz mf mt mv mw ywa ybi ysi ynu ymo tp 5 p5 (by omega) (by omega) (by omega)) kv_X9_272 ⟨rfl, rfl, Nat.le_of_ble_eq_true rfl, Nat.le_of_ble_eq_true rfl⟩ ⟨Nat.le_of_ble_eq_true rfl, Nat.le_of_ble_eq_true rfl⟩ hK hN hZ hP hD hS hA [0, 1] rfl rfl 0 rfl rfl rfl rfl hl.1 rfl (Nat.le_of_ble_eq_true rfl) dX9_isWord_121 (fun r_115 hw_r_115 => ?_)
                    rcases hw_r_115 with rfl | rfl
                    · skip
                      refine lv_if_eq (tgt := 142) hx hb dX9_isWord_124 (by decide) (fun c_116 => absurd c_116 (by decide)) (fun c_116 => ?_)
                      refine lv_aload_n hx hb dX9_isWord_127 rfl (lv_at hl 1 rfl) ?_
                      refine lv_bipush (v := 6) hx hb dX9_isWord_128 (by decide) ?_
                      refine lv_iload hx hb dX9_isWord_130 (lv_at hl 8 rfl) ?_
                      refine xc_Vr hF (c_X9_isAt l D cI cJ cZ cS ta sa sv s.heap.size h0 ys yk yo yt mk0 yfa yfe mL mS mM yro yhe ygr mF mC mY yta mz mf mt mv mw ywa ybi ysi ynu ymo tp 6 p6 (by omega) (by omega) (by omega)) kv_X9_272 ⟨rfl, rfl, Nat.le_of_ble_eq_true rfl, Nat.le_of_ble_eq_true rfl⟩ ⟨Nat.le_of_ble_eq_true rfl, Nat.le_of_ble_eq_true rfl⟩ hK hN hZ hP hD hS hA [0, 1] rfl rfl 0 rfl rfl rfl rfl hl.1 rfl (Nat.le_of_ble_eq_true rfl) dX9_isWord_132 (fun r_117 hw_r_117 => ?_)
                      rcases hw_r_117 with rfl | rfl
                      · skip
                        refine lv_if_eq (tgt := 142) hx hb dX9_isWord_135 (by decide) (fun c_118 => absurd c_118 (by decide)) (fun c_118 => ?_)
                        refine lv_iconst (v := 1) hx hb dX9_isWord_138 (by decide) ?_
                        refine lv_goto (tgt := 143) hx hb dX9_isWord_139 (by decide) ?_
                        exact W.zret (v := 1) hx hb hr rfl (fun t ht hW => ⟨1, rfl, (by first | exact Or.inl rfl), ht⟩) (fun q h => by cases h) dX9_isWord_143 hlk
                      · skip
                        refine lv_if_eq (tgt := 142) hx hb dX9_isWord_135 (by decide) (fun c_119 => ?_) (fun c_119 => absurd (by decide) c_119)
                        refine lv_iconst (v := 0) hx hb dX9_isWord_142 (by decide) ?_
                        exact W.zret (v := 0) hx hb hr rfl (fun t ht hW => ⟨0, rfl, (by first | exact Or.inr (rfl)), ht⟩) (fun q h => by cases h) dX9_isWord_143 hlk
                    · skip
                      refine lv_if_eq (tgt := 142) hx hb dX9_isWord_124 (by decide) (fun c_120 => ?_) (fun c_120 => absurd (by decide) c_120)
                      refine lv_iconst (v := 0) hx hb dX9_isWord_142 (by decide) ?_
                      exact W.zret (v := 0) hx hb hr rfl (fun t ht hW => ⟨0, rfl, (by first | exact Or.inr (rfl)), ht⟩) (fun q h => by cases h) dX9_isWord_143 hlk
                  · skip
                    refine lv_if_eq (tgt := 142) hx hb dX9_isWord_114 (by decide) (fun c_121 => ?_) (fun c_121 => absurd (by decide) c_121)
                    refine lv_iconst (v := 0) hx hb dX9_isWord_142 (by decide) ?_
                    exact W.zret (v := 0) hx hb hr rfl (fun t ht hW => ⟨0, rfl, (by first | exact Or.inr (rfl)), ht⟩) (fun q h => by cases h) dX9_isWord_143 hlk
                · skip
                  refine lv_if_eq (tgt := 142) hx hb dX9_isWord_104 (by decide) (fun c_122 => ?_) (fun c_122 => absurd (by decide) c_122)
                  refine lv_iconst (v := 0) hx hb dX9_isWord_142 (by decide) ?_
                  exact W.zret (v := 0) hx hb hr rfl (fun t ht hW => ⟨0, rfl, (by first | exact Or.inr (rfl)), ht⟩) (fun q h => by cases h) dX9_isWord_143 hlk
              · skip
                refine lv_if_eq (tgt := 142) hx hb dX9_isWord_94 (by decide) (fun c_123 => ?_) (fun c_123 => absurd (by decide) c_123)
                refine lv_iconst (v := 0) hx hb dX9_isWord_142 (by decide) ?_
                exact W.zret (v := 0) hx hb hr rfl (fun t ht hW => ⟨0, rfl, (by first | exact Or.inr (rfl)), ht⟩) (fun q h => by cases h) dX9_isWord_143 hlk
            · skip
              refine lv_if_eq (tgt := 142) hx hb dX9_isWord_85 (by decide) (fun c_124 => ?_) (fun c_124 => absurd (by decide) c_124)
              refine lv_iconst (v := 0) hx hb dX9_isWord_142 (by decide) ?_
              exact W.zret (v := 0) hx hb hr rfl (fun t ht hW => ⟨0, rfl, (by first | exact Or.inr (rfl)), ht⟩) (fun q h => by cases h) dX9_isWord_143 hlk
          · skip
            refine lv_if_eq (tgt := 142) hx hb dX9_isWord_76 (by decide) (fun c_125 => ?_) (fun c_125 => absurd (by decide) c_125)
            refine lv_iconst (v := 0) hx hb dX9_isWord_142 (by decide) ?_
            exact W.zret (v := 0) hx hb hr rfl (fun t ht hW => ⟨0, rfl, (by first | exact Or.inr (rfl)), ht⟩) (fun q h => by cases h) dX9_isWord_143 hlk
  · skip
    refine lv_iconst (v := 2) hx hb dX9_isWord_4 (by decide) ?_
    refine lv_goto (tgt := 47) hx hb dX9_isWord_5 (by decide) ?_
    refine lv_istore (lv' := [(8, .int 2), (0, .ref h0), (1, .int p0), (2, .int p1), (3, .int p2), (4, .int p3), (5, .int p4), (6, .int p5), (7, .int p6)]) hx hb dX9_isWord_47 hl (by decide) rfl (fun ls hl => ?_)
    refine lv_aload_n hx hb dX9_isWord_49 rfl (lv_at hl 1 rfl) ?_
    refine xg hF kf_X9_266 hK hP 0 rfl rfl dX9_isWord_50 ?_
    refine lv_if_ne (tgt := 142) hx hb dX9_isWord_53 (by decide) (fun c_126 => ?_) (fun c_126 => ?_)
    · skip
      refine lv_iconst (v := 0) hx hb dX9_isWord_142 (by decide) ?_
      exact W.zret (v := 0) hx hb hr rfl (fun t ht hW => ⟨0, rfl, (by first | exact Or.inr (rfl)), ht⟩) (fun q h => by cases h) dX9_isWord_143 hlk
    · skip
      refine lv_aload_n hx hb dX9_isWord_56 rfl (lv_at hl 1 rfl) ?_
      refine xg hF kf_X9_251 hK hP 0 rfl rfl dX9_isWord_57 ?_
      refine lv_aload_n hx hb dX9_isWord_60 rfl (lv_at hl 1 rfl) ?_
      refine xg hF kf_X9_254 hK hP 0 rfl rfl dX9_isWord_61 ?_
      refine lv_isub hx hb dX9_isWord_64 ?_
      refine lv_topi (fun x_127 ex_127 => ?_)
      refine lv_iload hx hb dX9_isWord_65 (lv_at hl 0 rfl) ?_
      refine lv_icmp_ne (tgt := 142) hx hb dX9_isWord_67 (by decide) (fun c_128 => ?_) (fun c_128 => ?_)
      · skip
        refine lv_iconst (v := 0) hx hb dX9_isWord_142 (by decide) ?_
        exact W.zret (v := 0) hx hb hr rfl (fun t ht hW => ⟨0, rfl, (by first | exact Or.inr (rfl)), ht⟩) (fun q h => by cases h) dX9_isWord_143 hlk
      · skip
        refine lv_aload_n hx hb dX9_isWord_70 rfl (lv_at hl 1 rfl) ?_
        refine lv_iconst (v := 0) hx hb dX9_isWord_71 (by decide) ?_
        refine lv_iload_n hx hb dX9_isWord_72 rfl (lv_at hl 2 rfl) ?_
        refine xc_Vr hF (c_X9_isAt l D cI cJ cZ cS ta sa sv s.heap.size h0 ys yk yo yt mk0 yfa yfe mL mS mM yro yhe ygr mF mC mY yta mz mf mt mv mw ywa ybi ysi ynu ymo tp 0 p0 (by omega) (by omega) (by omega)) kv_X9_272 ⟨rfl, rfl, Nat.le_of_ble_eq_true rfl, Nat.le_of_ble_eq_true rfl⟩ ⟨Nat.le_of_ble_eq_true rfl, Nat.le_of_ble_eq_true rfl⟩ hK hN hZ hP hD hS hA [0, 1] rfl rfl 0 rfl rfl rfl rfl hl.1 rfl (Nat.le_of_ble_eq_true rfl) dX9_isWord_73 (fun r_129 hw_r_129 => ?_)
        rcases hw_r_129 with rfl | rfl
        · skip
          refine lv_if_eq (tgt := 142) hx hb dX9_isWord_76 (by decide) (fun c_130 => absurd c_130 (by decide)) (fun c_130 => ?_)
          refine lv_aload_n hx hb dX9_isWord_79 rfl (lv_at hl 1 rfl) ?_
          refine lv_iconst (v := 1) hx hb dX9_isWord_80 (by decide) ?_
          refine lv_iload_n hx hb dX9_isWord_81 rfl (lv_at hl 3 rfl) ?_
          refine xc_Vr hF (c_X9_isAt l D cI cJ cZ cS ta sa sv s.heap.size h0 ys yk yo yt mk0 yfa yfe mL mS mM yro yhe ygr mF mC mY yta mz mf mt mv mw ywa ybi ysi ynu ymo tp 1 p1 (by omega) (by omega) (by omega)) kv_X9_272 ⟨rfl, rfl, Nat.le_of_ble_eq_true rfl, Nat.le_of_ble_eq_true rfl⟩ ⟨Nat.le_of_ble_eq_true rfl, Nat.le_of_ble_eq_true rfl⟩ hK hN hZ hP hD hS hA [0, 1] rfl rfl 0 rfl rfl rfl rfl hl.1 rfl (Nat.le_of_ble_eq_true rfl) dX9_isWord_82 (fun r_131 hw_r_131 => ?_)
          rcases hw_r_131 with rfl | rfl
          · skip
            refine lv_if_eq (tgt := 142) hx hb dX9_isWord_85 (by decide) (fun c_132 => absurd c_132 (by decide)) (fun c_132 => ?_)
            refine lv_aload_n hx hb dX9_isWord_88 rfl (lv_at hl 1 rfl) ?_
            refine lv_iconst (v := 2) hx hb dX9_isWord_89 (by decide) ?_
            refine lv_iload_n hx hb dX9_isWord_90 rfl (lv_at hl 4 rfl) ?_
            refine xc_Vr hF (c_X9_isAt l D cI cJ cZ cS ta sa sv s.heap.size h0 ys yk yo yt mk0 yfa yfe mL mS mM yro yhe ygr mF mC mY yta mz mf mt mv mw ywa ybi ysi ynu ymo tp 2 p2 (by omega) (by omega) (by omega)) kv_X9_272 ⟨rfl, rfl, Nat.le_of_ble_eq_true rfl, Nat.le_of_ble_eq_true rfl⟩ ⟨Nat.le_of_ble_eq_true rfl, Nat.le_of_ble_eq_true rfl⟩ hK hN hZ hP hD hS hA [0, 1] rfl rfl 0 rfl rfl rfl rfl hl.1 rfl (Nat.le_of_ble_eq_true rfl) dX9_isWord_91 (fun r_133 hw_r_133 => ?_)
            rcases hw_r_133 with rfl | rfl
            · skip
              refine lv_if_eq (tgt := 142) hx hb dX9_isWord_94 (by decide) (fun c_134 => absurd c_134 (by decide)) (fun c_134 => ?_)
              refine lv_aload_n hx hb dX9_isWord_97 rfl (lv_at hl 1 rfl) ?_
              refine lv_iconst (v := 3) hx hb dX9_isWord_98 (by decide) ?_
              refine lv_iload hx hb dX9_isWord_99 (lv_at hl 5 rfl) ?_
              refine xc_Vr hF (c_X9_isAt l D cI cJ cZ cS ta sa sv s.heap.size h0 ys yk yo yt mk0 yfa yfe mL mS mM yro yhe ygr mF mC mY yta mz mf mt mv mw ywa ybi ysi ynu ymo tp 3 p3 (by omega) (by omega) (by omega)) kv_X9_272 ⟨rfl, rfl, Nat.le_of_ble_eq_true rfl, Nat.le_of_ble_eq_true rfl⟩ ⟨Nat.le_of_ble_eq_true rfl, Nat.le_of_ble_eq_true rfl⟩ hK hN hZ hP hD hS hA [0, 1] rfl rfl 0 rfl rfl rfl rfl hl.1 rfl (Nat.le_of_ble_eq_true rfl) dX9_isWord_101 (fun r_135 hw_r_135 => ?_)
              rcases hw_r_135 with rfl | rfl
              · skip
                refine lv_if_eq (tgt := 142) hx hb dX9_isWord_104 (by decide) (fun c_136 => absurd c_136 (by decide)) (fun c_136 => ?_)
                refine lv_aload_n hx hb dX9_isWord_107 rfl (lv_at hl 1 rfl) ?_
                refine lv_iconst (v := 4) hx hb dX9_isWord_108 (by decide) ?_
                refine lv_iload hx hb dX9_isWord_109 (lv_at hl 6 rfl) ?_
                refine xc_Vr hF (c_X9_isAt l D cI cJ cZ cS ta sa sv s.heap.size h0 ys yk yo yt mk0 yfa yfe mL mS mM yro yhe ygr mF mC mY yta mz mf mt mv mw ywa ybi ysi ynu ymo tp 4 p4 (by omega) (by omega) (by omega)) kv_X9_272 ⟨rfl, rfl, Nat.le_of_ble_eq_true rfl, Nat.le_of_ble_eq_true rfl⟩ ⟨Nat.le_of_ble_eq_true rfl, Nat.le_of_ble_eq_true rfl⟩ hK hN hZ hP hD hS hA [0, 1] rfl rfl 0 rfl rfl rfl rfl hl.1 rfl (Nat.le_of_ble_eq_true rfl) dX9_isWord_111 (fun r_137 hw_r_137 => ?_)
                rcases hw_r_137 with rfl | rfl
                · skip
                  refine lv_if_eq (tgt := 142) hx hb dX9_isWord_114 (by decide) (fun c_138 => absurd c_138 (by decide)) (fun c_138 => ?_)
                  refine lv_aload_n hx hb dX9_isWord_117 rfl (lv_at hl 1 rfl) ?_
                  refine lv_iconst (v := 5) hx hb dX9_isWord_118 (by decide) ?_
                  refine lv_iload hx hb dX9_isWord_119 (lv_at hl 7 rfl) ?_
                  refine xc_Vr hF (c_X9_isAt l D cI cJ cZ cS ta sa sv s.heap.size h0 ys yk yo yt mk0 yfa yfe mL mS mM yro yhe ygr mF mC mY yta mz mf mt mv mw ywa ybi ysi ynu ymo tp 5 p5 (by omega) (by omega) (by omega)) kv_X9_272 ⟨rfl, rfl, Nat.le_of_ble_eq_true rfl, Nat.le_of_ble_eq_true rfl⟩ ⟨Nat.le_of_ble_eq_true rfl, Nat.le_of_ble_eq_true rfl⟩ hK hN hZ hP hD hS hA [0, 1] rfl rfl 0 rfl rfl rfl rfl hl.1 rfl (Nat.le_of_ble_eq_true rfl) dX9_isWord_121 (fun r_139 hw_r_139 => ?_)
                  rcases hw_r_139 with rfl | rfl
                  · skip
                    refine lv_if_eq (tgt := 142) hx hb dX9_isWord_124 (by decide) (fun c_140 => absurd c_140 (by decide)) (fun c_140 => ?_)
                    refine lv_aload_n hx hb dX9_isWord_127 rfl (lv_at hl 1 rfl) ?_
                    refine lv_bipush (v := 6) hx hb dX9_isWord_128 (by decide) ?_
                    refine lv_iload hx hb dX9_isWord_130 (lv_at hl 8 rfl) ?_
                    refine xc_Vr hF (c_X9_isAt l D cI cJ cZ cS ta sa sv s.heap.size h0 ys yk yo yt mk0 yfa yfe mL mS mM yro yhe ygr mF mC mY yta mz mf mt mv mw ywa ybi ysi ynu ymo tp 6 p6 (by omega) (by omega) (by omega)) kv_X9_272 ⟨rfl, rfl, Nat.le_of_ble_eq_true rfl, Nat.le_of_ble_eq_true rfl⟩ ⟨Nat.le_of_ble_eq_true rfl, Nat.le_of_ble_eq_true rfl⟩ hK hN hZ hP hD hS hA [0, 1] rfl rfl 0 rfl rfl rfl rfl hl.1 rfl (Nat.le_of_ble_eq_true rfl) dX9_isWord_132 (fun r_141 hw_r_141 => ?_)
                    rcases hw_r_141 with rfl | rfl
                    · skip
                      refine lv_if_eq (tgt := 142) hx hb dX9_isWord_135 (by decide) (fun c_142 => absurd c_142 (by decide)) (fun c_142 => ?_)
                      refine lv_iconst (v := 1) hx hb dX9_isWord_138 (by decide) ?_
                      refine lv_goto (tgt := 143) hx hb dX9_isWord_139 (by decide) ?_
                      exact W.zret (v := 1) hx hb hr rfl (fun t ht hW => ⟨1, rfl, (by first | exact Or.inl rfl), ht⟩) (fun q h => by cases h) dX9_isWord_143 hlk
                    · skip
                      refine lv_if_eq (tgt := 142) hx hb dX9_isWord_135 (by decide) (fun c_143 => ?_) (fun c_143 => absurd (by decide) c_143)
                      refine lv_iconst (v := 0) hx hb dX9_isWord_142 (by decide) ?_
                      exact W.zret (v := 0) hx hb hr rfl (fun t ht hW => ⟨0, rfl, (by first | exact Or.inr (rfl)), ht⟩) (fun q h => by cases h) dX9_isWord_143 hlk
                  · skip
                    refine lv_if_eq (tgt := 142) hx hb dX9_isWord_124 (by decide) (fun c_144 => ?_) (fun c_144 => absurd (by decide) c_144)
                    refine lv_iconst (v := 0) hx hb dX9_isWord_142 (by decide) ?_
                    exact W.zret (v := 0) hx hb hr rfl (fun t ht hW => ⟨0, rfl, (by first | exact Or.inr (rfl)), ht⟩) (fun q h => by cases h) dX9_isWord_143 hlk
                · skip
                  refine lv_if_eq (tgt := 142) hx hb dX9_isWord_114 (by decide) (fun c_145 => ?_) (fun c_145 => absurd (by decide) c_145)
                  refine lv_iconst (v := 0) hx hb dX9_isWord_142 (by decide) ?_
                  exact W.zret (v := 0) hx hb hr rfl (fun t ht hW => ⟨0, rfl, (by first | exact Or.inr (rfl)), ht⟩) (fun q h => by cases h) dX9_isWord_143 hlk
              · skip
                refine lv_if_eq (tgt := 142) hx hb dX9_isWord_104 (by decide) (fun c_146 => ?_) (fun c_146 => absurd (by decide) c_146)
                refine lv_iconst (v := 0) hx hb dX9_isWord_142 (by decide) ?_
                exact W.zret (v := 0) hx hb hr rfl (fun t ht hW => ⟨0, rfl, (by first | exact Or.inr (rfl)), ht⟩) (fun q h => by cases h) dX9_isWord_143 hlk
            · skip
              refine lv_if_eq (tgt := 142) hx hb dX9_isWord_94 (by decide) (fun c_147 => ?_) (fun c_147 => absurd (by decide) c_147)
              refine lv_iconst (v := 0) hx hb dX9_isWord_142 (by decide) ?_
              exact W.zret (v := 0) hx hb hr rfl (fun t ht hW => ⟨0, rfl, (by first | exact Or.inr (rfl)), ht⟩) (fun q h => by cases h) dX9_isWord_143 hlk
          · skip
            refine lv_if_eq (tgt := 142) hx hb dX9_isWord_85 (by decide) (fun c_148 => ?_) (fun c_148 => absurd (by decide) c_148)
            refine lv_iconst (v := 0) hx hb dX9_isWord_142 (by decide) ?_
            exact W.zret (v := 0) hx hb hr rfl (fun t ht hW => ⟨0, rfl, (by first | exact Or.inr (rfl)), ht⟩) (fun q h => by cases h) dX9_isWord_143 hlk
        · skip
          refine lv_if_eq (tgt := 142) hx hb dX9_isWord_76 (by decide) (fun c_149 => ?_) (fun c_149 => absurd (by decide) c_149)
          refine lv_iconst (v := 0) hx hb dX9_isWord_142 (by decide) ?_
          exact W.zret (v := 0) hx hb hr rfl (fun t ht hW => ⟨0, rfl, (by first | exact Or.inr (rfl)), ht⟩) (fun q h => by cases h) dX9_isWord_143 hlk
set_option maxHeartbeats 4000000 in
set_option maxRecDepth 100000 in
theorem c_X9_number (l : Launch) (D : va_G) (cI cJ cZ cS : ClassId) (ta : Nat) (sa sv : Nat → Nat) (sz : Nat) (h0 : Nat) (ys : Nat) (yk : Nat) (yo : Nat) (yt : Nat) (mk0 : Int32) (yfa : Nat) (yfe : Nat) (mL : Int32) (mS : Int32) (mM : Int32) (yro : Nat) (yhe : Nat) (ygr : Nat) (mF : Int32) (mC : Int32) (mY : Int32) (yta : Nat) (mz : Nat) (mf : Nat) (mt : Nat) (mv : Int32) (mw : Int32) (ywa : Nat) (ybi : Nat) (ysi : Nat) (ynu : Nat) (ymo : Nat) (tp : Nat → Int32) (p0 : Int32) (p1 : Int32) (hz : mz ≤ 120) (k1 : mf ≤ mz) (k2 : mt ≤ mz) (k3 : mf ≤ mt) (k4 : mf < mt ∨ mf = mz) : Met l yX9_number (Cond.code yX9_number cX9_number 6 none :: wsU) ({ frames := 4, cells := 0, slots := 0, locals := 88 }) (va_Pc [.ref h0, .int p0, .int p1] (XW D (xT cI cJ cZ cS) ta sa sv [(h0, .inr (9, [.ref ys, .ref yk, .ref yo, .ref yt, .int mk0, .ref yfa, .ref yfe, .int mL, .int mS, .int mM, .ref yro, .ref yhe, .ref ygr, .int mF, .int mC, .int mY, .ref yta, .int (nI (mz)), .int (nI (mf)), .int (nI (mt)), .int mv, .int mw, .ref ywa, .ref ybi, .ref ysi, .ref ynu, .ref ymo])), (yta, .inl (cI, 120, .inl tp))] sz)) (XQv (fun (u : Nat × Nat × Int32 × Int32) => match u with | (f2, t2, v2, w2) => (f2 ≤ mz) ∧ (t2 ≤ mz) ∧ (f2 ≤ t2) ∧ (f2 < t2 ∨ f2 = mz) ∧ (mf ≤ f2) ∧ (w2 = 0 → mw = 0 ∧ ¬ v2 < p0 ∧ ¬ p1 < v2)) D (fun (u : Nat × Nat × Int32 × Int32) => match u with | (f2, t2, v2, w2) => [(h0, .inr (9, [.ref ys, .ref yk, .ref yo, .ref yt, .int mk0, .ref yfa, .ref yfe, .int mL, .int mS, .int mM, .ref yro, .ref yhe, .ref ygr, .int mF, .int mC, .int mY, .ref yta, .int (nI (mz)), .int (nI (f2)), .int (nI (t2)), .int v2, .int w2, .ref ywa, .ref ybi, .ref ysi, .ref ynu, .ref ymo])), (yta, .inl (cI, 120, .inl tp))]) (va_A [(h0, .inr (9, [.ref ys, .ref yk, .ref yo, .ref yt, .int mk0, .ref yfa, .ref yfe, .int mL, .int mS, .int mM, .ref yro, .ref yhe, .ref ygr, .int mF, .int mC, .int mY, .ref yta, .int (nI (mz)), .int (nI (mf)), .int (nI (mt)), .int mv, .int mw, .ref ywa, .ref ybi, .ref ysi, .ref ynu, .ref ymo])), (yta, .inl (cI, 120, .inl tp))] sz)) 0 0 (va_A [(h0, .inr (9, [.ref ys, .ref yk, .ref yo, .ref yt, .int mk0, .ref yfa, .ref yfe, .int mL, .int mS, .int mM, .ref yro, .ref yhe, .ref ygr, .int mF, .int mC, .int mY, .ref yta, .int (nI (mz)), .int (nI (mf)), .int (nI (mt)), .int mv, .int mw, .ref ywa, .ref ybi, .ref ysi, .ref ynu, .ref ymo])), (yta, .inl (cI, 120, .inl tp))] sz) := by
  refine xh (QA := fun A => XQv (fun (u : Nat × Nat × Int32 × Int32) => match u with | (f2, t2, v2, w2) => (f2 ≤ mz) ∧ (t2 ≤ mz) ∧ (f2 ≤ t2) ∧ (f2 < t2 ∨ f2 = mz) ∧ (mf ≤ f2) ∧ (w2 = 0 → mw = 0 ∧ ¬ v2 < p0 ∧ ¬ p1 < v2)) D (fun (u : Nat × Nat × Int32 × Int32) => match u with | (f2, t2, v2, w2) => [(h0, .inr (9, [.ref ys, .ref yk, .ref yo, .ref yt, .int mk0, .ref yfa, .ref yfe, .int mL, .int mS, .int mM, .ref yro, .ref yhe, .ref ygr, .int mF, .int mC, .int mY, .ref yta, .int (nI (mz)), .int (nI (f2)), .int (nI (t2)), .int v2, .int w2, .ref ywa, .ref ybi, .ref ysi, .ref ynu, .ref ymo])), (yta, .inl (cI, 120, .inl tp))]) A) (fr := fun A => A) (by decide) (Nat.le_of_ble_eq_true rfl) ?_
  intro p e s m below meth c ls A hF hr hlk hin hsz hP hK hD hN hZ hA hS hl
  have hF : CallFix p m c cX9_number 6 s _ _ RX9 := hF
  have hx := hF.1
  have hb := hF.2.1
  have hml := hF.2.2.1
  have hown := hF.2.2.2.1
  have hu : ∀ w ∈ wsU, w.before _ s = true := fun w h => hF.2.2.2.2 w (List.mem_cons_of_mem _ h)
  have hl : lv_has ls 6 [(0, .ref h0), (1, .int p0), (2, .int p1)] := hl
  refine lv_aload_n hx hb dX9_number_0 rfl (lv_at hl 0 rfl) ?_
  refine xg hF kf_X9_266 hK hP 0 rfl rfl dX9_number_1 ?_
  refine lv_if_eq (tgt := 8) hx hb dX9_number_4 (by decide) (fun c_1 => ?_) (fun c_1 => ?_)
  · skip
    refine lv_aload_n hx hb dX9_number_8 rfl (lv_at hl 0 rfl) ?_
    refine lv_aload_n hx hb dX9_number_9 rfl (lv_at hl 0 rfl) ?_
    refine xg hF kf_X9_254 hK hP 0 rfl rfl dX9_number_10 ?_
    refine xc_Vr hF (c_X9_byteAt l D cI cJ cZ cS ta sa sv s.heap.size h0 ys yk yo yt mk0 yfa yfe mL mS mM yro yhe ygr mF mC mY yta mz mf mt mv mw ywa ybi ysi ynu ymo tp mf (by omega) (by omega)) kv_X9_257 ⟨rfl, rfl, Nat.le_of_ble_eq_true rfl, Nat.le_of_ble_eq_true rfl⟩ ⟨Nat.le_of_ble_eq_true rfl, Nat.le_of_ble_eq_true rfl⟩ hK hN hZ hP hD hS hA [0, 1] rfl rfl 0 rfl rfl rfl rfl hl.1 rfl (Nat.le_of_ble_eq_true rfl) dX9_number_13 (fun r_2 hw_r_2 => ?_)
    rcases hw_r_2 with ⟨rfl, h_3⟩ | ⟨rfl, h_4⟩
    · skip
      refine xc_Sr hF (c_X9_isDigit l D cI cJ cZ cS ta sa sv s.heap.size (tp mf) ) ks_X9_263 ⟨rfl, rfl, Nat.le_of_ble_eq_true rfl, Nat.le_of_ble_eq_true rfl⟩ ⟨Nat.le_of_ble_eq_true rfl, Nat.le_of_ble_eq_true rfl⟩ hK hN hZ hP hD hS hA [] rfl rfl rfl hl.1 rfl (Nat.le_of_ble_eq_true rfl) dX9_number_16 (fun r_5 hw_r_5 => ?_)
      rcases hw_r_5 with ⟨rfl, h_6, h_7⟩ | ⟨rfl, h_8⟩
      · skip
        refine lv_istore_n (lv' := [(3, .int 1), (0, .ref h0), (1, .int p0), (2, .int p1)]) hx hb dX9_number_19 rfl hl (by decide) rfl (fun ls hl => ?_)
        refine lv_iconst (v := 0) hx hb dX9_number_20 (by decide) ?_
        refine lv_istore (lv' := [(4, .int 0), (3, .int 1), (0, .ref h0), (1, .int p0), (2, .int p1)]) hx hb dX9_number_21 hl (by decide) rfl (fun ls hl => ?_)
        refine lv_aload_n hx hb dX9_number_23 rfl (lv_at hl 2 rfl) ?_
        refine xg hF kf_X9_254 hK hP 0 rfl rfl dX9_number_24 ?_
        refine lv_istore (lv' := [(5, .int (nI (mf))), (4, .int 0), (3, .int 1), (0, .ref h0), (1, .int p0), (2, .int p1)]) hx hb dX9_number_27 hl (by decide) rfl (fun ls hl => ?_)
        suffices loop_29 : ∀ (n_29 : Nat) (i : Nat) (u8 : Int32) (H : Heap) (locs : List Loc) (ls : Array Slot), 120 - i < n_29 → (i ≤ 120) → va_P D vwCl [(h0, .inr (9, [.ref ys, .ref yk, .ref yo, .ref yt, .int mk0, .ref yfa, .ref yfe, .int mL, .int mS, .int mM, .ref yro, .ref yhe, .ref ygr, .int mF, .int mC, .int mY, .ref yta, .int (nI (mz)), .int (nI (mf)), .int (nI (mt)), .int mv, .int mw, .ref ywa, .ref ybi, .ref ysi, .ref ynu, .ref ymo])), (yta, .inl (cI, 120, .inl tp))] H → va_D A [(h0, .inr (9, [.ref ys, .ref yk, .ref yo, .ref yt, .int mk0, .ref yfa, .ref yfe, .int mL, .int mS, .int mM, .ref yro, .ref yhe, .ref ygr, .int mF, .int mC, .int mY, .ref yta, .int (nI (mz)), .int (nI (mf)), .int (nI (mt)), .int mv, .int mw, .ref ywa, .ref ybi, .ref ysi, .ref ynu, .ref ymo])), (yta, .inl (cI, 120, .inl tp))] → va_S A s.heap H locs → lv_has ls 6 [(5, .int (nI (i))), (4, .int u8), (3, .int 1), (0, .ref h0), (1, .int p0), (2, .int p1)] → W p l e ({ frames := 4, cells := 0, slots := 0, locals := 88 }) s m ([.ref h0, .int p0, .int p1] : List Value).toArray below meth c H locs 0 0 (MQ below (XQv (fun (u : Nat × Nat × Int32 × Int32) => match u with | (f2, t2, v2, w2) => (f2 ≤ mz) ∧ (t2 ≤ mz) ∧ (f2 ≤ t2) ∧ (f2 < t2 ∨ f2 = mz) ∧ (mf ≤ f2) ∧ (w2 = 0 → mw = 0 ∧ ¬ v2 < p0 ∧ ¬ p1 < v2)) D (fun (u : Nat × Nat × Int32 × Int32) => match u with | (f2, t2, v2, w2) => [(h0, .inr (9, [.ref ys, .ref yk, .ref yo, .ref yt, .int mk0, .ref yfa, .ref yfe, .int mL, .int mS, .int mM, .ref yro, .ref yhe, .ref ygr, .int mF, .int mC, .int mY, .ref yta, .int (nI (mz)), .int (nI (f2)), .int (nI (t2)), .int v2, .int w2, .ref ywa, .ref ybi, .ref ysi, .ref ynu, .ref ymo])), (yta, .inl (cI, 120, .inl tp))]) A) ([.ref h0, .int p0, .int p1] : List Value).toArray s 0 0 A) (F0 m 29 ls []) by
          exact loop_29 _ mf 0 _ _ _ (Nat.lt_succ_self _) (by omega) hP hD hS (lv_sub hl [0, 1, 2, 3, 4, 5] rfl)
        intro n_29
        induction n_29 with
        | zero =>
          intro i u8 H locs ls hm_29
          exact absurd hm_29 (Nat.not_lt_zero _)
        | succ n_29 ih_29 =>
          intro i u8 H locs ls hm_29 hi hP hD hS hl
          refine lv_iload hx hb dX9_number_29 (lv_at hl 0 rfl) ?_
          refine lv_aload_n hx hb dX9_number_31 rfl (lv_at hl 3 rfl) ?_
          refine xg hF kf_X9_251 hK hP 0 rfl rfl dX9_number_32 ?_
          refine lv_icmp_ge (tgt := 79) hx hb dX9_number_35 (by decide) (fun c_9 => ?_) (fun c_9 => ?_)
          · skip
            have nc_9 : mt ≤ i := xn_le (a := mt) (b := i) (by omega) (by omega) c_9
            refine lv_aload_n hx hb dX9_number_79 rfl (lv_at hl 3 rfl) ?_
            refine lv_iload hx hb dX9_number_80 (lv_at hl 1 rfl) ?_
            refine xp hF kf_X9_275 tyX9_ok nmX9 hK hP hD hS 0 rfl rfl rfl rfl (Nat.le_of_ble_eq_true rfl) dX9_number_82 (fun H locs hP hD hS => ?_)
            have hP : va_P D vwCl [(h0, .inr (9, [.ref ys, .ref yk, .ref yo, .ref yt, .int mk0, .ref yfa, .ref yfe, .int mL, .int mS, .int mM, .ref yro, .ref yhe, .ref ygr, .int mF, .int mC, .int mY, .ref yta, .int (nI (mz)), .int (nI (mf)), .int (nI (mt)), .int u8, .int mw, .ref ywa, .ref ybi, .ref ysi, .ref ynu, .ref ymo])), (yta, .inl (cI, 120, .inl tp))] H := hP
            have hD : va_D A [(h0, .inr (9, [.ref ys, .ref yk, .ref yo, .ref yt, .int mk0, .ref yfa, .ref yfe, .int mL, .int mS, .int mM, .ref yro, .ref yhe, .ref ygr, .int mF, .int mC, .int mY, .ref yta, .int (nI (mz)), .int (nI (mf)), .int (nI (mt)), .int u8, .int mw, .ref ywa, .ref ybi, .ref ysi, .ref ynu, .ref ymo])), (yta, .inl (cI, 120, .inl tp))] := hD
            refine lv_aload_n hx hb dX9_number_85 rfl (lv_at hl 3 rfl) ?_
            refine lv_iload_n hx hb dX9_number_86 rfl (lv_at hl 2 rfl) ?_
            refine lv_if_eq (tgt := 107) hx hb dX9_number_87 (by decide) (fun c_10 => absurd c_10 (by decide)) (fun c_10 => ?_)
            refine lv_iload hx hb dX9_number_90 (lv_at hl 1 rfl) ?_
            refine lv_i2l (v := u8.toInt64) hx hb dX9_number_92 rfl ?_
            refine lv_iload_n hx hb dX9_number_93 rfl (lv_at hl 4 rfl) ?_
            refine lv_i2l (v := p0.toInt64) hx hb dX9_number_94 rfl ?_
            refine lv_iload_n hx hb dX9_number_95 rfl (lv_at hl 5 rfl) ?_
            refine lv_i2l (v := p1.toInt64) hx hb dX9_number_96 rfl ?_
            refine xc_Sr hF (c_X9_in l D cI cJ cZ cS ta sa sv H.size u8 p0 p1 ) ks_X9_57 ⟨rfl, rfl, Nat.le_of_ble_eq_true rfl, Nat.le_of_ble_eq_true rfl⟩ ⟨Nat.le_of_ble_eq_true rfl, Nat.le_of_ble_eq_true rfl⟩ hK hN hZ hP hD hS hA [] rfl rfl rfl hl.1 rfl (Nat.le_of_ble_eq_true rfl) dX9_number_97 (fun r_11 hw_r_11 => ?_)
            rcases hw_r_11 with ⟨rfl, h_12, h_13⟩ | ⟨rfl, h_14⟩
            · skip
              refine lv_if_eq (tgt := 107) hx hb dX9_number_100 (by decide) (fun c_15 => absurd c_15 (by decide)) (fun c_15 => ?_)
              refine lv_iconst (v := 1) hx hb dX9_number_103 (by decide) ?_
              refine lv_goto (tgt := 108) hx hb dX9_number_104 (by decide) ?_
              refine xc_Vv (wr := []) hF (c_X9_needs l D cI cJ cZ cS ta sa sv H.size h0 ys yk yo yt mk0 yfa yfe mL mS mM yro yhe ygr mF mC mY yta mz mf mt u8 mw ywa ybi ysi ynu ymo tp 1 (by omega) (by omega) (by omega) (by omega) (by omega)) kv_X9_278 ⟨rfl, rfl, Nat.le_of_ble_eq_true rfl, Nat.le_of_ble_eq_true rfl⟩ ⟨Nat.le_of_ble_eq_true rfl, Nat.le_of_ble_eq_true rfl⟩ hK hN hZ hP hD hS hA [0, 1] [] rfl rfl rfl rfl (by decide) 0 rfl rfl rfl rfl hl.1 rfl (Nat.le_of_ble_eq_true rfl) dX9_number_108 (fun u_r_16 H locs hw_r_16 hP hD hS => ?_)
              obtain ⟨f2_17, t2_18, w2_19⟩ := u_r_16
              try dsimp only at hw_r_16
              obtain ⟨i_20, i_21, i_22, i_23, i_24, i_25⟩ := hw_r_16
              have hP : va_P D vwCl [(h0, .inr (9, [.ref ys, .ref yk, .ref yo, .ref yt, .int mk0, .ref yfa, .ref yfe, .int mL, .int mS, .int mM, .ref yro, .ref yhe, .ref ygr, .int mF, .int mC, .int mY, .ref yta, .int (nI (mz)), .int (nI (f2_17)), .int (nI (t2_18)), .int u8, .int w2_19, .ref ywa, .ref ybi, .ref ysi, .ref ynu, .ref ymo])), (yta, .inl (cI, 120, .inl tp))] H := hP
              have hD : va_D A [(h0, .inr (9, [.ref ys, .ref yk, .ref yo, .ref yt, .int mk0, .ref yfa, .ref yfe, .int mL, .int mS, .int mM, .ref yro, .ref yhe, .ref ygr, .int mF, .int mC, .int mY, .ref yta, .int (nI (mz)), .int (nI (f2_17)), .int (nI (t2_18)), .int u8, .int w2_19, .ref ywa, .ref ybi, .ref ysi, .ref ynu, .ref ymo])), (yta, .inl (cI, 120, .inl tp))] := hD
              exact W.vret hx hb hr (fun t ht hW => ⟨⟨(f2_17, t2_18, u8, w2_19), rfl, ⟨(by first | assumption | omega), (by first | assumption | omega), (by first | assumption | omega), (by first | assumption | omega), (by first | assumption | omega), (fun h => ⟨(i_25 h).1, by assumption, by assumption⟩)⟩, by rw [ht]; exact hP.sub [0, 1] rfl, hD.sub [0, 1] (by decide) rfl⟩, hS.F ht⟩) hS.2.2 dX9_number_111 hlk
            · skip
              refine lv_if_eq (tgt := 107) hx hb dX9_number_100 (by decide) (fun c_26 => ?_) (fun c_26 => absurd (by decide) c_26)
              refine lv_iconst (v := 0) hx hb dX9_number_107 (by decide) ?_
              refine xc_Vv (wr := []) hF (c_X9_needs l D cI cJ cZ cS ta sa sv H.size h0 ys yk yo yt mk0 yfa yfe mL mS mM yro yhe ygr mF mC mY yta mz mf mt u8 mw ywa ybi ysi ynu ymo tp 0 (by omega) (by omega) (by omega) (by omega) (by omega)) kv_X9_278 ⟨rfl, rfl, Nat.le_of_ble_eq_true rfl, Nat.le_of_ble_eq_true rfl⟩ ⟨Nat.le_of_ble_eq_true rfl, Nat.le_of_ble_eq_true rfl⟩ hK hN hZ hP hD hS hA [0, 1] [] rfl rfl rfl rfl (by decide) 0 rfl rfl rfl rfl hl.1 rfl (Nat.le_of_ble_eq_true rfl) dX9_number_108 (fun u_r_27 H locs hw_r_27 hP hD hS => ?_)
              obtain ⟨f2_28, t2_29, w2_30⟩ := u_r_27
              try dsimp only at hw_r_27
              obtain ⟨i_31, i_32, i_33, i_34, i_35, i_36⟩ := hw_r_27
              have hP : va_P D vwCl [(h0, .inr (9, [.ref ys, .ref yk, .ref yo, .ref yt, .int mk0, .ref yfa, .ref yfe, .int mL, .int mS, .int mM, .ref yro, .ref yhe, .ref ygr, .int mF, .int mC, .int mY, .ref yta, .int (nI (mz)), .int (nI (f2_28)), .int (nI (t2_29)), .int u8, .int w2_30, .ref ywa, .ref ybi, .ref ysi, .ref ynu, .ref ymo])), (yta, .inl (cI, 120, .inl tp))] H := hP
              have hD : va_D A [(h0, .inr (9, [.ref ys, .ref yk, .ref yo, .ref yt, .int mk0, .ref yfa, .ref yfe, .int mL, .int mS, .int mM, .ref yro, .ref yhe, .ref ygr, .int mF, .int mC, .int mY, .ref yta, .int (nI (mz)), .int (nI (f2_28)), .int (nI (t2_29)), .int u8, .int w2_30, .ref ywa, .ref ybi, .ref ysi, .ref ynu, .ref ymo])), (yta, .inl (cI, 120, .inl tp))] := hD
              exact W.vret hx hb hr (fun t ht hW => ⟨⟨(f2_28, t2_29, u8, w2_30), rfl, ⟨(by first | assumption | omega), (by first | assumption | omega), (by first | assumption | omega), (by first | assumption | omega), (by first | assumption | omega), (fun h => absurd rfl (i_36 h).2.1)⟩, by rw [ht]; exact hP.sub [0, 1] rfl, hD.sub [0, 1] (by decide) rfl⟩, hS.F ht⟩) hS.2.2 dX9_number_111 hlk
          · skip
            have nc_9 : i < mt := xn_nle (a := mt) (b := i) (by omega) (by omega) c_9
            refine lv_iload_n hx hb dX9_number_38 rfl (lv_at hl 2 rfl) ?_
            refine lv_if_eq (tgt := 79) hx hb dX9_number_39 (by decide) (fun c_37 => absurd c_37 (by decide)) (fun c_37 => ?_)
            refine lv_iload hx hb dX9_number_42 (lv_at hl 1 rfl) ?_
            refine lv_sipush (v := 9999) hx hb dX9_number_44 (by decide) ?_
            refine lv_icmp_le (tgt := 55) hx hb dX9_number_47 (by decide) (fun c_38 => ?_) (fun c_38 => ?_)
            · skip
              refine lv_bipush (v := 10) hx hb dX9_number_55 (by decide) ?_
              refine lv_iload hx hb dX9_number_57 (lv_at hl 1 rfl) ?_
              refine lv_imul hx hb dX9_number_59 ?_
              refine lv_topi (fun x_39 ex_39 => ?_)
              refine lv_aload_n hx hb dX9_number_60 rfl (lv_at hl 3 rfl) ?_
              refine xg hF kf_X9_37 hK hP 0 rfl rfl dX9_number_61 ?_
              refine lv_iload hx hb dX9_number_64 (lv_at hl 0 rfl) ?_
              refine va_iald hx hb hK hP 1 0 rfl rfl (vp_in_nI (show i < 120 by omega) (by decide)) dX9_number_66 ?_
              refine xl_i (y := tp i) (congrArg tp (nI_clamp (show i < 2 ^ 31 by omega))) ?_
              refine lv_iadd hx hb dX9_number_67 ?_
              refine lv_topi (fun x_40 ex_40 => ?_)
              refine lv_bipush (v := 48) hx hb dX9_number_68 (by decide) ?_
              refine lv_isub hx hb dX9_number_70 ?_
              refine lv_topi (fun x_41 ex_41 => ?_)
              refine lv_istore (lv' := [(4, .int x_41), (5, .int (nI (i))), (3, .int 1), (0, .ref h0), (1, .int p0), (2, .int p1)]) hx hb dX9_number_71 hl (by decide) rfl (fun ls hl => ?_)
              refine lv_iinc (v := nI (i + 1)) (lv' := [(5, .int (nI (i + 1))), (4, .int x_41), (3, .int 1), (0, .ref h0), (1, .int p0), (2, .int p1)]) hx hb dX9_number_73 hl (k := 1) rfl (nI_1 (i)) (by decide) rfl (fun ls hl => ?_)
              refine lv_goto (tgt := 29) hx hb dX9_number_76 (by decide) ?_
              exact ih_29 (i + 1) x_41 _ _ _ (by omega) (by omega) (hP.sub [0, 1] rfl) (hD.sub [0, 1] (by decide) rfl) hS (lv_sub hl [0, 1, 2, 3, 4, 5] rfl)
            · skip
              refine lv_iload hx hb dX9_number_50 (lv_at hl 1 rfl) ?_
              refine lv_goto (tgt := 71) hx hb dX9_number_52 (by decide) ?_
              refine lv_istore (lv' := [(4, .int u8), (5, .int (nI (i))), (3, .int 1), (0, .ref h0), (1, .int p0), (2, .int p1)]) hx hb dX9_number_71 hl (by decide) rfl (fun ls hl => ?_)
              refine lv_iinc (v := nI (i + 1)) (lv' := [(5, .int (nI (i + 1))), (4, .int u8), (3, .int 1), (0, .ref h0), (1, .int p0), (2, .int p1)]) hx hb dX9_number_73 hl (k := 1) rfl (nI_1 (i)) (by decide) rfl (fun ls hl => ?_)
              refine lv_goto (tgt := 29) hx hb dX9_number_76 (by decide) ?_
              exact ih_29 (i + 1) u8 _ _ _ (by omega) (by omega) (hP.sub [0, 1] rfl) (hD.sub [0, 1] (by decide) rfl) hS (lv_sub hl [0, 1, 2, 3, 4, 5] rfl)
      · skip
        refine lv_istore_n (lv' := [(3, .int 0), (0, .ref h0), (1, .int p0), (2, .int p1)]) hx hb dX9_number_19 rfl hl (by decide) rfl (fun ls hl => ?_)
        refine lv_iconst (v := 0) hx hb dX9_number_20 (by decide) ?_
        refine lv_istore (lv' := [(4, .int 0), (3, .int 0), (0, .ref h0), (1, .int p0), (2, .int p1)]) hx hb dX9_number_21 hl (by decide) rfl (fun ls hl => ?_)
        refine lv_aload_n hx hb dX9_number_23 rfl (lv_at hl 2 rfl) ?_
        refine xg hF kf_X9_254 hK hP 0 rfl rfl dX9_number_24 ?_
        refine lv_istore (lv' := [(5, .int (nI (mf))), (4, .int 0), (3, .int 0), (0, .ref h0), (1, .int p0), (2, .int p1)]) hx hb dX9_number_27 hl (by decide) rfl (fun ls hl => ?_)
        suffices loop_29 : ∀ (n_29 : Nat) (i : Nat) (u8 : Int32) (H : Heap) (locs : List Loc) (ls : Array Slot), 120 - i < n_29 → (i ≤ 120) → va_P D vwCl [(h0, .inr (9, [.ref ys, .ref yk, .ref yo, .ref yt, .int mk0, .ref yfa, .ref yfe, .int mL, .int mS, .int mM, .ref yro, .ref yhe, .ref ygr, .int mF, .int mC, .int mY, .ref yta, .int (nI (mz)), .int (nI (mf)), .int (nI (mt)), .int mv, .int mw, .ref ywa, .ref ybi, .ref ysi, .ref ynu, .ref ymo])), (yta, .inl (cI, 120, .inl tp))] H → va_D A [(h0, .inr (9, [.ref ys, .ref yk, .ref yo, .ref yt, .int mk0, .ref yfa, .ref yfe, .int mL, .int mS, .int mM, .ref yro, .ref yhe, .ref ygr, .int mF, .int mC, .int mY, .ref yta, .int (nI (mz)), .int (nI (mf)), .int (nI (mt)), .int mv, .int mw, .ref ywa, .ref ybi, .ref ysi, .ref ynu, .ref ymo])), (yta, .inl (cI, 120, .inl tp))] → va_S A s.heap H locs → lv_has ls 6 [(5, .int (nI (i))), (4, .int u8), (3, .int 0), (0, .ref h0), (1, .int p0), (2, .int p1)] → W p l e ({ frames := 4, cells := 0, slots := 0, locals := 88 }) s m ([.ref h0, .int p0, .int p1] : List Value).toArray below meth c H locs 0 0 (MQ below (XQv (fun (u : Nat × Nat × Int32 × Int32) => match u with | (f2, t2, v2, w2) => (f2 ≤ mz) ∧ (t2 ≤ mz) ∧ (f2 ≤ t2) ∧ (f2 < t2 ∨ f2 = mz) ∧ (mf ≤ f2) ∧ (w2 = 0 → mw = 0 ∧ ¬ v2 < p0 ∧ ¬ p1 < v2)) D (fun (u : Nat × Nat × Int32 × Int32) => match u with | (f2, t2, v2, w2) => [(h0, .inr (9, [.ref ys, .ref yk, .ref yo, .ref yt, .int mk0, .ref yfa, .ref yfe, .int mL, .int mS, .int mM, .ref yro, .ref yhe, .ref ygr, .int mF, .int mC, .int mY, .ref yta, .int (nI (mz)), .int (nI (f2)), .int (nI (t2)), .int v2, .int w2, .ref ywa, .ref ybi, .ref ysi, .ref ynu, .ref ymo])), (yta, .inl (cI, 120, .inl tp))]) A) ([.ref h0, .int p0, .int p1] : List Value).toArray s 0 0 A) (F0 m 29 ls []) by
          exact loop_29 _ mf 0 _ _ _ (Nat.lt_succ_self _) (by omega) hP hD hS (lv_sub hl [0, 1, 2, 3, 4, 5] rfl)
        intro n_29
        induction n_29 with
        | zero =>
          intro i u8 H locs ls hm_29
          exact absurd hm_29 (Nat.not_lt_zero _)
        | succ n_29 ih_29 =>
          intro i u8 H locs ls hm_29 hi hP hD hS hl
          refine lv_iload hx hb dX9_number_29 (lv_at hl 0 rfl) ?_
          refine lv_aload_n hx hb dX9_number_31 rfl (lv_at hl 3 rfl) ?_
          refine xg hF kf_X9_251 hK hP 0 rfl rfl dX9_number_32 ?_
          refine lv_icmp_ge (tgt := 79) hx hb dX9_number_35 (by decide) (fun c_42 => ?_) (fun c_42 => ?_)
          · skip
            have nc_42 : mt ≤ i := xn_le (a := mt) (b := i) (by omega) (by omega) c_42
            refine lv_aload_n hx hb dX9_number_79 rfl (lv_at hl 3 rfl) ?_
            refine lv_iload hx hb dX9_number_80 (lv_at hl 1 rfl) ?_
            refine xp hF kf_X9_275 tyX9_ok nmX9 hK hP hD hS 0 rfl rfl rfl rfl (Nat.le_of_ble_eq_true rfl) dX9_number_82 (fun H locs hP hD hS => ?_)
            have hP : va_P D vwCl [(h0, .inr (9, [.ref ys, .ref yk, .ref yo, .ref yt, .int mk0, .ref yfa, .ref yfe, .int mL, .int mS, .int mM, .ref yro, .ref yhe, .ref ygr, .int mF, .int mC, .int mY, .ref yta, .int (nI (mz)), .int (nI (mf)), .int (nI (mt)), .int u8, .int mw, .ref ywa, .ref ybi, .ref ysi, .ref ynu, .ref ymo])), (yta, .inl (cI, 120, .inl tp))] H := hP
            have hD : va_D A [(h0, .inr (9, [.ref ys, .ref yk, .ref yo, .ref yt, .int mk0, .ref yfa, .ref yfe, .int mL, .int mS, .int mM, .ref yro, .ref yhe, .ref ygr, .int mF, .int mC, .int mY, .ref yta, .int (nI (mz)), .int (nI (mf)), .int (nI (mt)), .int u8, .int mw, .ref ywa, .ref ybi, .ref ysi, .ref ynu, .ref ymo])), (yta, .inl (cI, 120, .inl tp))] := hD
            refine lv_aload_n hx hb dX9_number_85 rfl (lv_at hl 3 rfl) ?_
            refine lv_iload_n hx hb dX9_number_86 rfl (lv_at hl 2 rfl) ?_
            refine lv_if_eq (tgt := 107) hx hb dX9_number_87 (by decide) (fun c_43 => ?_) (fun c_43 => absurd (by decide) c_43)
            refine lv_iconst (v := 0) hx hb dX9_number_107 (by decide) ?_
            refine xc_Vv (wr := []) hF (c_X9_needs l D cI cJ cZ cS ta sa sv H.size h0 ys yk yo yt mk0 yfa yfe mL mS mM yro yhe ygr mF mC mY yta mz mf mt u8 mw ywa ybi ysi ynu ymo tp 0 (by omega) (by omega) (by omega) (by omega) (by omega)) kv_X9_278 ⟨rfl, rfl, Nat.le_of_ble_eq_true rfl, Nat.le_of_ble_eq_true rfl⟩ ⟨Nat.le_of_ble_eq_true rfl, Nat.le_of_ble_eq_true rfl⟩ hK hN hZ hP hD hS hA [0, 1] [] rfl rfl rfl rfl (by decide) 0 rfl rfl rfl rfl hl.1 rfl (Nat.le_of_ble_eq_true rfl) dX9_number_108 (fun u_r_44 H locs hw_r_44 hP hD hS => ?_)
            obtain ⟨f2_45, t2_46, w2_47⟩ := u_r_44
            try dsimp only at hw_r_44
            obtain ⟨i_48, i_49, i_50, i_51, i_52, i_53⟩ := hw_r_44
            have hP : va_P D vwCl [(h0, .inr (9, [.ref ys, .ref yk, .ref yo, .ref yt, .int mk0, .ref yfa, .ref yfe, .int mL, .int mS, .int mM, .ref yro, .ref yhe, .ref ygr, .int mF, .int mC, .int mY, .ref yta, .int (nI (mz)), .int (nI (f2_45)), .int (nI (t2_46)), .int u8, .int w2_47, .ref ywa, .ref ybi, .ref ysi, .ref ynu, .ref ymo])), (yta, .inl (cI, 120, .inl tp))] H := hP
            have hD : va_D A [(h0, .inr (9, [.ref ys, .ref yk, .ref yo, .ref yt, .int mk0, .ref yfa, .ref yfe, .int mL, .int mS, .int mM, .ref yro, .ref yhe, .ref ygr, .int mF, .int mC, .int mY, .ref yta, .int (nI (mz)), .int (nI (f2_45)), .int (nI (t2_46)), .int u8, .int w2_47, .ref ywa, .ref ybi, .ref ysi, .ref ynu, .ref ymo])), (yta, .inl (cI, 120, .inl tp))] := hD
            exact W.vret hx hb hr (fun t ht hW => ⟨⟨(f2_45, t2_46, u8, w2_47), rfl, ⟨(by first | assumption | omega), (by first | assumption | omega), (by first | assumption | omega), (by first | assumption | omega), (by first | assumption | omega), (fun h => absurd rfl (i_53 h).2.1)⟩, by rw [ht]; exact hP.sub [0, 1] rfl, hD.sub [0, 1] (by decide) rfl⟩, hS.F ht⟩) hS.2.2 dX9_number_111 hlk
          · skip
            have nc_42 : i < mt := xn_nle (a := mt) (b := i) (by omega) (by omega) c_42
            refine lv_iload_n hx hb dX9_number_38 rfl (lv_at hl 2 rfl) ?_
            refine lv_if_eq (tgt := 79) hx hb dX9_number_39 (by decide) (fun c_54 => ?_) (fun c_54 => absurd (by decide) c_54)
            refine lv_aload_n hx hb dX9_number_79 rfl (lv_at hl 3 rfl) ?_
            refine lv_iload hx hb dX9_number_80 (lv_at hl 1 rfl) ?_
            refine xp hF kf_X9_275 tyX9_ok nmX9 hK hP hD hS 0 rfl rfl rfl rfl (Nat.le_of_ble_eq_true rfl) dX9_number_82 (fun H locs hP hD hS => ?_)
            have hP : va_P D vwCl [(h0, .inr (9, [.ref ys, .ref yk, .ref yo, .ref yt, .int mk0, .ref yfa, .ref yfe, .int mL, .int mS, .int mM, .ref yro, .ref yhe, .ref ygr, .int mF, .int mC, .int mY, .ref yta, .int (nI (mz)), .int (nI (mf)), .int (nI (mt)), .int u8, .int mw, .ref ywa, .ref ybi, .ref ysi, .ref ynu, .ref ymo])), (yta, .inl (cI, 120, .inl tp))] H := hP
            have hD : va_D A [(h0, .inr (9, [.ref ys, .ref yk, .ref yo, .ref yt, .int mk0, .ref yfa, .ref yfe, .int mL, .int mS, .int mM, .ref yro, .ref yhe, .ref ygr, .int mF, .int mC, .int mY, .ref yta, .int (nI (mz)), .int (nI (mf)), .int (nI (mt)), .int u8, .int mw, .ref ywa, .ref ybi, .ref ysi, .ref ynu, .ref ymo])), (yta, .inl (cI, 120, .inl tp))] := hD
            refine lv_aload_n hx hb dX9_number_85 rfl (lv_at hl 3 rfl) ?_
            refine lv_iload_n hx hb dX9_number_86 rfl (lv_at hl 2 rfl) ?_
            refine lv_if_eq (tgt := 107) hx hb dX9_number_87 (by decide) (fun c_55 => ?_) (fun c_55 => absurd (by decide) c_55)
            refine lv_iconst (v := 0) hx hb dX9_number_107 (by decide) ?_
            refine xc_Vv (wr := []) hF (c_X9_needs l D cI cJ cZ cS ta sa sv H.size h0 ys yk yo yt mk0 yfa yfe mL mS mM yro yhe ygr mF mC mY yta mz mf mt u8 mw ywa ybi ysi ynu ymo tp 0 (by omega) (by omega) (by omega) (by omega) (by omega)) kv_X9_278 ⟨rfl, rfl, Nat.le_of_ble_eq_true rfl, Nat.le_of_ble_eq_true rfl⟩ ⟨Nat.le_of_ble_eq_true rfl, Nat.le_of_ble_eq_true rfl⟩ hK hN hZ hP hD hS hA [0, 1] [] rfl rfl rfl rfl (by decide) 0 rfl rfl rfl rfl hl.1 rfl (Nat.le_of_ble_eq_true rfl) dX9_number_108 (fun u_r_56 H locs hw_r_56 hP hD hS => ?_)
            obtain ⟨f2_57, t2_58, w2_59⟩ := u_r_56
            try dsimp only at hw_r_56
            obtain ⟨i_60, i_61, i_62, i_63, i_64, i_65⟩ := hw_r_56
            have hP : va_P D vwCl [(h0, .inr (9, [.ref ys, .ref yk, .ref yo, .ref yt, .int mk0, .ref yfa, .ref yfe, .int mL, .int mS, .int mM, .ref yro, .ref yhe, .ref ygr, .int mF, .int mC, .int mY, .ref yta, .int (nI (mz)), .int (nI (f2_57)), .int (nI (t2_58)), .int u8, .int w2_59, .ref ywa, .ref ybi, .ref ysi, .ref ynu, .ref ymo])), (yta, .inl (cI, 120, .inl tp))] H := hP
            have hD : va_D A [(h0, .inr (9, [.ref ys, .ref yk, .ref yo, .ref yt, .int mk0, .ref yfa, .ref yfe, .int mL, .int mS, .int mM, .ref yro, .ref yhe, .ref ygr, .int mF, .int mC, .int mY, .ref yta, .int (nI (mz)), .int (nI (f2_57)), .int (nI (t2_58)), .int u8, .int w2_59, .ref ywa, .ref ybi, .ref ysi, .ref ynu, .ref ymo])), (yta, .inl (cI, 120, .inl tp))] := hD
            exact W.vret hx hb hr (fun t ht hW => ⟨⟨(f2_57, t2_58, u8, w2_59), rfl, ⟨(by first | assumption | omega), (by first | assumption | omega), (by first | assumption | omega), (by first | assumption | omega), (by first | assumption | omega), (fun h => absurd rfl (i_65 h).2.1)⟩, by rw [ht]; exact hP.sub [0, 1] rfl, hD.sub [0, 1] (by decide) rfl⟩, hS.F ht⟩) hS.2.2 dX9_number_111 hlk
    · skip
      refine xc_Sr hF (c_X9_isDigit l D cI cJ cZ cS ta sa sv s.heap.size (-1) ) ks_X9_263 ⟨rfl, rfl, Nat.le_of_ble_eq_true rfl, Nat.le_of_ble_eq_true rfl⟩ ⟨Nat.le_of_ble_eq_true rfl, Nat.le_of_ble_eq_true rfl⟩ hK hN hZ hP hD hS hA [] rfl rfl rfl hl.1 rfl (Nat.le_of_ble_eq_true rfl) dX9_number_16 (fun r_66 hw_r_66 => ?_)
      rcases hw_r_66 with ⟨rfl, h_67, h_68⟩ | ⟨rfl, h_69⟩
      · skip
        refine lv_istore_n (lv' := [(3, .int 1), (0, .ref h0), (1, .int p0), (2, .int p1)]) hx hb dX9_number_19 rfl hl (by decide) rfl (fun ls hl => ?_)
        refine lv_iconst (v := 0) hx hb dX9_number_20 (by decide) ?_
        refine lv_istore (lv' := [(4, .int 0), (3, .int 1), (0, .ref h0), (1, .int p0), (2, .int p1)]) hx hb dX9_number_21 hl (by decide) rfl (fun ls hl => ?_)
        refine lv_aload_n hx hb dX9_number_23 rfl (lv_at hl 2 rfl) ?_
        refine xg hF kf_X9_254 hK hP 0 rfl rfl dX9_number_24 ?_
        refine lv_istore (lv' := [(5, .int (nI (mf))), (4, .int 0), (3, .int 1), (0, .ref h0), (1, .int p0), (2, .int p1)]) hx hb dX9_number_27 hl (by decide) rfl (fun ls hl => ?_)
        suffices loop_29 : ∀ (n_29 : Nat) (i : Nat) (u8 : Int32) (H : Heap) (locs : List Loc) (ls : Array Slot), 120 - i < n_29 → (i ≤ 120) → va_P D vwCl [(h0, .inr (9, [.ref ys, .ref yk, .ref yo, .ref yt, .int mk0, .ref yfa, .ref yfe, .int mL, .int mS, .int mM, .ref yro, .ref yhe, .ref ygr, .int mF, .int mC, .int mY, .ref yta, .int (nI (mz)), .int (nI (mf)), .int (nI (mt)), .int mv, .int mw, .ref ywa, .ref ybi, .ref ysi, .ref ynu, .ref ymo])), (yta, .inl (cI, 120, .inl tp))] H → va_D A [(h0, .inr (9, [.ref ys, .ref yk, .ref yo, .ref yt, .int mk0, .ref yfa, .ref yfe, .int mL, .int mS, .int mM, .ref yro, .ref yhe, .ref ygr, .int mF, .int mC, .int mY, .ref yta, .int (nI (mz)), .int (nI (mf)), .int (nI (mt)), .int mv, .int mw, .ref ywa, .ref ybi, .ref ysi, .ref ynu, .ref ymo])), (yta, .inl (cI, 120, .inl tp))] → va_S A s.heap H locs → lv_has ls 6 [(5, .int (nI (i))), (4, .int u8), (3, .int 1), (0, .ref h0), (1, .int p0), (2, .int p1)] → W p l e ({ frames := 4, cells := 0, slots := 0, locals := 88 }) s m ([.ref h0, .int p0, .int p1] : List Value).toArray below meth c H locs 0 0 (MQ below (XQv (fun (u : Nat × Nat × Int32 × Int32) => match u with | (f2, t2, v2, w2) => (f2 ≤ mz) ∧ (t2 ≤ mz) ∧ (f2 ≤ t2) ∧ (f2 < t2 ∨ f2 = mz) ∧ (mf ≤ f2) ∧ (w2 = 0 → mw = 0 ∧ ¬ v2 < p0 ∧ ¬ p1 < v2)) D (fun (u : Nat × Nat × Int32 × Int32) => match u with | (f2, t2, v2, w2) => [(h0, .inr (9, [.ref ys, .ref yk, .ref yo, .ref yt, .int mk0, .ref yfa, .ref yfe, .int mL, .int mS, .int mM, .ref yro, .ref yhe, .ref ygr, .int mF, .int mC, .int mY, .ref yta, .int (nI (mz)), .int (nI (f2)), .int (nI (t2)), .int v2, .int w2, .ref ywa, .ref ybi, .ref ysi, .ref ynu, .ref ymo])), (yta, .inl (cI, 120, .inl tp))]) A) ([.ref h0, .int p0, .int p1] : List Value).toArray s 0 0 A) (F0 m 29 ls []) by
          exact loop_29 _ mf 0 _ _ _ (Nat.lt_succ_self _) (by omega) hP hD hS (lv_sub hl [0, 1, 2, 3, 4, 5] rfl)
        intro n_29
        induction n_29 with
        | zero =>
          intro i u8 H locs ls hm_29
          exact absurd hm_29 (Nat.not_lt_zero _)
        | succ n_29 ih_29 =>
          intro i u8 H locs ls hm_29 hi hP hD hS hl
          refine lv_iload hx hb dX9_number_29 (lv_at hl 0 rfl) ?_
          refine lv_aload_n hx hb dX9_number_31 rfl (lv_at hl 3 rfl) ?_
          refine xg hF kf_X9_251 hK hP 0 rfl rfl dX9_number_32 ?_
          refine lv_icmp_ge (tgt := 79) hx hb dX9_number_35 (by decide) (fun c_70 => ?_) (fun c_70 => ?_)
          · skip
            have nc_70 : mt ≤ i := xn_le (a := mt) (b := i) (by omega) (by omega) c_70
            refine lv_aload_n hx hb dX9_number_79 rfl (lv_at hl 3 rfl) ?_
            refine lv_iload hx hb dX9_number_80 (lv_at hl 1 rfl) ?_
            refine xp hF kf_X9_275 tyX9_ok nmX9 hK hP hD hS 0 rfl rfl rfl rfl (Nat.le_of_ble_eq_true rfl) dX9_number_82 (fun H locs hP hD hS => ?_)
            have hP : va_P D vwCl [(h0, .inr (9, [.ref ys, .ref yk, .ref yo, .ref yt, .int mk0, .ref yfa, .ref yfe, .int mL, .int mS, .int mM, .ref yro, .ref yhe, .ref ygr, .int mF, .int mC, .int mY, .ref yta, .int (nI (mz)), .int (nI (mf)), .int (nI (mt)), .int u8, .int mw, .ref ywa, .ref ybi, .ref ysi, .ref ynu, .ref ymo])), (yta, .inl (cI, 120, .inl tp))] H := hP
            have hD : va_D A [(h0, .inr (9, [.ref ys, .ref yk, .ref yo, .ref yt, .int mk0, .ref yfa, .ref yfe, .int mL, .int mS, .int mM, .ref yro, .ref yhe, .ref ygr, .int mF, .int mC, .int mY, .ref yta, .int (nI (mz)), .int (nI (mf)), .int (nI (mt)), .int u8, .int mw, .ref ywa, .ref ybi, .ref ysi, .ref ynu, .ref ymo])), (yta, .inl (cI, 120, .inl tp))] := hD
            refine lv_aload_n hx hb dX9_number_85 rfl (lv_at hl 3 rfl) ?_
            refine lv_iload_n hx hb dX9_number_86 rfl (lv_at hl 2 rfl) ?_
            refine lv_if_eq (tgt := 107) hx hb dX9_number_87 (by decide) (fun c_71 => absurd c_71 (by decide)) (fun c_71 => ?_)
            refine lv_iload hx hb dX9_number_90 (lv_at hl 1 rfl) ?_
            refine lv_i2l (v := u8.toInt64) hx hb dX9_number_92 rfl ?_
            refine lv_iload_n hx hb dX9_number_93 rfl (lv_at hl 4 rfl) ?_
            refine lv_i2l (v := p0.toInt64) hx hb dX9_number_94 rfl ?_
            refine lv_iload_n hx hb dX9_number_95 rfl (lv_at hl 5 rfl) ?_
            refine lv_i2l (v := p1.toInt64) hx hb dX9_number_96 rfl ?_
            refine xc_Sr hF (c_X9_in l D cI cJ cZ cS ta sa sv H.size u8 p0 p1 ) ks_X9_57 ⟨rfl, rfl, Nat.le_of_ble_eq_true rfl, Nat.le_of_ble_eq_true rfl⟩ ⟨Nat.le_of_ble_eq_true rfl, Nat.le_of_ble_eq_true rfl⟩ hK hN hZ hP hD hS hA [] rfl rfl rfl hl.1 rfl (Nat.le_of_ble_eq_true rfl) dX9_number_97 (fun r_72 hw_r_72 => ?_)
            rcases hw_r_72 with ⟨rfl, h_73, h_74⟩ | ⟨rfl, h_75⟩
            · skip
              refine lv_if_eq (tgt := 107) hx hb dX9_number_100 (by decide) (fun c_76 => absurd c_76 (by decide)) (fun c_76 => ?_)
              refine lv_iconst (v := 1) hx hb dX9_number_103 (by decide) ?_
              refine lv_goto (tgt := 108) hx hb dX9_number_104 (by decide) ?_
              refine xc_Vv (wr := []) hF (c_X9_needs l D cI cJ cZ cS ta sa sv H.size h0 ys yk yo yt mk0 yfa yfe mL mS mM yro yhe ygr mF mC mY yta mz mf mt u8 mw ywa ybi ysi ynu ymo tp 1 (by omega) (by omega) (by omega) (by omega) (by omega)) kv_X9_278 ⟨rfl, rfl, Nat.le_of_ble_eq_true rfl, Nat.le_of_ble_eq_true rfl⟩ ⟨Nat.le_of_ble_eq_true rfl, Nat.le_of_ble_eq_true rfl⟩ hK hN hZ hP hD hS hA [0, 1] [] rfl rfl rfl rfl (by decide) 0 rfl rfl rfl rfl hl.1 rfl (Nat.le_of_ble_eq_true rfl) dX9_number_108 (fun u_r_77 H locs hw_r_77 hP hD hS => ?_)
              obtain ⟨f2_78, t2_79, w2_80⟩ := u_r_77
              try dsimp only at hw_r_77
              obtain ⟨i_81, i_82, i_83, i_84, i_85, i_86⟩ := hw_r_77
              have hP : va_P D vwCl [(h0, .inr (9, [.ref ys, .ref yk, .ref yo, .ref yt, .int mk0, .ref yfa, .ref yfe, .int mL, .int mS, .int mM, .ref yro, .ref yhe, .ref ygr, .int mF, .int mC, .int mY, .ref yta, .int (nI (mz)), .int (nI (f2_78)), .int (nI (t2_79)), .int u8, .int w2_80, .ref ywa, .ref ybi, .ref ysi, .ref ynu, .ref ymo])), (yta, .inl (cI, 120, .inl tp))] H := hP
              have hD : va_D A [(h0, .inr (9, [.ref ys, .ref yk, .ref yo, .ref yt, .int mk0, .ref yfa, .ref yfe, .int mL, .int mS, .int mM, .ref yro, .ref yhe, .ref ygr, .int mF, .int mC, .int mY, .ref yta, .int (nI (mz)), .int (nI (f2_78)), .int (nI (t2_79)), .int u8, .int w2_80, .ref ywa, .ref ybi, .ref ysi, .ref ynu, .ref ymo])), (yta, .inl (cI, 120, .inl tp))] := hD
              exact W.vret hx hb hr (fun t ht hW => ⟨⟨(f2_78, t2_79, u8, w2_80), rfl, ⟨(by first | assumption | omega), (by first | assumption | omega), (by first | assumption | omega), (by first | assumption | omega), (by first | assumption | omega), (fun h => ⟨(i_86 h).1, by assumption, by assumption⟩)⟩, by rw [ht]; exact hP.sub [0, 1] rfl, hD.sub [0, 1] (by decide) rfl⟩, hS.F ht⟩) hS.2.2 dX9_number_111 hlk
            · skip
              refine lv_if_eq (tgt := 107) hx hb dX9_number_100 (by decide) (fun c_87 => ?_) (fun c_87 => absurd (by decide) c_87)
              refine lv_iconst (v := 0) hx hb dX9_number_107 (by decide) ?_
              refine xc_Vv (wr := []) hF (c_X9_needs l D cI cJ cZ cS ta sa sv H.size h0 ys yk yo yt mk0 yfa yfe mL mS mM yro yhe ygr mF mC mY yta mz mf mt u8 mw ywa ybi ysi ynu ymo tp 0 (by omega) (by omega) (by omega) (by omega) (by omega)) kv_X9_278 ⟨rfl, rfl, Nat.le_of_ble_eq_true rfl, Nat.le_of_ble_eq_true rfl⟩ ⟨Nat.le_of_ble_eq_true rfl, Nat.le_of_ble_eq_true rfl⟩ hK hN hZ hP hD hS hA [0, 1] [] rfl rfl rfl rfl (by decide) 0 rfl rfl rfl rfl hl.1 rfl (Nat.le_of_ble_eq_true rfl) dX9_number_108 (fun u_r_88 H locs hw_r_88 hP hD hS => ?_)
              obtain ⟨f2_89, t2_90, w2_91⟩ := u_r_88
              try dsimp only at hw_r_88
              obtain ⟨i_92, i_93, i_94, i_95, i_96, i_97⟩ := hw_r_88
              have hP : va_P D vwCl [(h0, .inr (9, [.ref ys, .ref yk, .ref yo, .ref yt, .int mk0, .ref yfa, .ref yfe, .int mL, .int mS, .int mM, .ref yro, .ref yhe, .ref ygr, .int mF, .int mC, .int mY, .ref yta, .int (nI (mz)), .int (nI (f2_89)), .int (nI (t2_90)), .int u8, .int w2_91, .ref ywa, .ref ybi, .ref ysi, .ref ynu, .ref ymo])), (yta, .inl (cI, 120, .inl tp))] H := hP
              have hD : va_D A [(h0, .inr (9, [.ref ys, .ref yk, .ref yo, .ref yt, .int mk0, .ref yfa, .ref yfe, .int mL, .int mS, .int mM, .ref yro, .ref yhe, .ref ygr, .int mF, .int mC, .int mY, .ref yta, .int (nI (mz)), .int (nI (f2_89)), .int (nI (t2_90)), .int u8, .int w2_91, .ref ywa, .ref ybi, .ref ysi, .ref ynu, .ref ymo])), (yta, .inl (cI, 120, .inl tp))] := hD
              exact W.vret hx hb hr (fun t ht hW => ⟨⟨(f2_89, t2_90, u8, w2_91), rfl, ⟨(by first | assumption | omega), (by first | assumption | omega), (by first | assumption | omega), (by first | assumption | omega), (by first | assumption | omega), (fun h => absurd rfl (i_97 h).2.1)⟩, by rw [ht]; exact hP.sub [0, 1] rfl, hD.sub [0, 1] (by decide) rfl⟩, hS.F ht⟩) hS.2.2 dX9_number_111 hlk
          · skip
            have nc_70 : i < mt := xn_nle (a := mt) (b := i) (by omega) (by omega) c_70
            refine lv_iload_n hx hb dX9_number_38 rfl (lv_at hl 2 rfl) ?_
            refine lv_if_eq (tgt := 79) hx hb dX9_number_39 (by decide) (fun c_98 => absurd c_98 (by decide)) (fun c_98 => ?_)
            refine lv_iload hx hb dX9_number_42 (lv_at hl 1 rfl) ?_
            refine lv_sipush (v := 9999) hx hb dX9_number_44 (by decide) ?_
            refine lv_icmp_le (tgt := 55) hx hb dX9_number_47 (by decide) (fun c_99 => ?_) (fun c_99 => ?_)
            · skip
              refine lv_bipush (v := 10) hx hb dX9_number_55 (by decide) ?_
              refine lv_iload hx hb dX9_number_57 (lv_at hl 1 rfl) ?_
              refine lv_imul hx hb dX9_number_59 ?_
              refine lv_topi (fun x_100 ex_100 => ?_)
              refine lv_aload_n hx hb dX9_number_60 rfl (lv_at hl 3 rfl) ?_
              refine xg hF kf_X9_37 hK hP 0 rfl rfl dX9_number_61 ?_
              refine lv_iload hx hb dX9_number_64 (lv_at hl 0 rfl) ?_
              refine va_iald hx hb hK hP 1 0 rfl rfl (vp_in_nI (show i < 120 by omega) (by decide)) dX9_number_66 ?_
              refine xl_i (y := tp i) (congrArg tp (nI_clamp (show i < 2 ^ 31 by omega))) ?_
              refine lv_iadd hx hb dX9_number_67 ?_
              refine lv_topi (fun x_101 ex_101 => ?_)
              refine lv_bipush (v := 48) hx hb dX9_number_68 (by decide) ?_
              refine lv_isub hx hb dX9_number_70 ?_
              refine lv_topi (fun x_102 ex_102 => ?_)
              refine lv_istore (lv' := [(4, .int x_102), (5, .int (nI (i))), (3, .int 1), (0, .ref h0), (1, .int p0), (2, .int p1)]) hx hb dX9_number_71 hl (by decide) rfl (fun ls hl => ?_)
              refine lv_iinc (v := nI (i + 1)) (lv' := [(5, .int (nI (i + 1))), (4, .int x_102), (3, .int 1), (0, .ref h0), (1, .int p0), (2, .int p1)]) hx hb dX9_number_73 hl (k := 1) rfl (nI_1 (i)) (by decide) rfl (fun ls hl => ?_)
              refine lv_goto (tgt := 29) hx hb dX9_number_76 (by decide) ?_
              exact ih_29 (i + 1) x_102 _ _ _ (by omega) (by omega) (hP.sub [0, 1] rfl) (hD.sub [0, 1] (by decide) rfl) hS (lv_sub hl [0, 1, 2, 3, 4, 5] rfl)
            · skip
              refine lv_iload hx hb dX9_number_50 (lv_at hl 1 rfl) ?_
              refine lv_goto (tgt := 71) hx hb dX9_number_52 (by decide) ?_
              refine lv_istore (lv' := [(4, .int u8), (5, .int (nI (i))), (3, .int 1), (0, .ref h0), (1, .int p0), (2, .int p1)]) hx hb dX9_number_71 hl (by decide) rfl (fun ls hl => ?_)
              refine lv_iinc (v := nI (i + 1)) (lv' := [(5, .int (nI (i + 1))), (4, .int u8), (3, .int 1), (0, .ref h0), (1, .int p0), (2, .int p1)]) hx hb dX9_number_73 hl (k := 1) rfl (nI_1 (i)) (by decide) rfl (fun ls hl => ?_)
              refine lv_goto (tgt := 29) hx hb dX9_number_76 (by decide) ?_
              exact ih_29 (i + 1) u8 _ _ _ (by omega) (by omega) (hP.sub [0, 1] rfl) (hD.sub [0, 1] (by decide) rfl) hS (lv_sub hl [0, 1, 2, 3, 4, 5] rfl)
      · skip
        refine lv_istore_n (lv' := [(3, .int 0), (0, .ref h0), (1, .int p0), (2, .int p1)]) hx hb dX9_number_19 rfl hl (by decide) rfl (fun ls hl => ?_)
        refine lv_iconst (v := 0) hx hb dX9_number_20 (by decide) ?_
        refine lv_istore (lv' := [(4, .int 0), (3, .int 0), (0, .ref h0), (1, .int p0), (2, .int p1)]) hx hb dX9_number_21 hl (by decide) rfl (fun ls hl => ?_)
        refine lv_aload_n hx hb dX9_number_23 rfl (lv_at hl 2 rfl) ?_
        refine xg hF kf_X9_254 hK hP 0 rfl rfl dX9_number_24 ?_
        refine lv_istore (lv' := [(5, .int (nI (mf))), (4, .int 0), (3, .int 0), (0, .ref h0), (1, .int p0), (2, .int p1)]) hx hb dX9_number_27 hl (by decide) rfl (fun ls hl => ?_)
        suffices loop_29 : ∀ (n_29 : Nat) (i : Nat) (u8 : Int32) (H : Heap) (locs : List Loc) (ls : Array Slot), 120 - i < n_29 → (i ≤ 120) → va_P D vwCl [(h0, .inr (9, [.ref ys, .ref yk, .ref yo, .ref yt, .int mk0, .ref yfa, .ref yfe, .int mL, .int mS, .int mM, .ref yro, .ref yhe, .ref ygr, .int mF, .int mC, .int mY, .ref yta, .int (nI (mz)), .int (nI (mf)), .int (nI (mt)), .int mv, .int mw, .ref ywa, .ref ybi, .ref ysi, .ref ynu, .ref ymo])), (yta, .inl (cI, 120, .inl tp))] H → va_D A [(h0, .inr (9, [.ref ys, .ref yk, .ref yo, .ref yt, .int mk0, .ref yfa, .ref yfe, .int mL, .int mS, .int mM, .ref yro, .ref yhe, .ref ygr, .int mF, .int mC, .int mY, .ref yta, .int (nI (mz)), .int (nI (mf)), .int (nI (mt)), .int mv, .int mw, .ref ywa, .ref ybi, .ref ysi, .ref ynu, .ref ymo])), (yta, .inl (cI, 120, .inl tp))] → va_S A s.heap H locs → lv_has ls 6 [(5, .int (nI (i))), (4, .int u8), (3, .int 0), (0, .ref h0), (1, .int p0), (2, .int p1)] → W p l e ({ frames := 4, cells := 0, slots := 0, locals := 88 }) s m ([.ref h0, .int p0, .int p1] : List Value).toArray below meth c H locs 0 0 (MQ below (XQv (fun (u : Nat × Nat × Int32 × Int32) => match u with | (f2, t2, v2, w2) => (f2 ≤ mz) ∧ (t2 ≤ mz) ∧ (f2 ≤ t2) ∧ (f2 < t2 ∨ f2 = mz) ∧ (mf ≤ f2) ∧ (w2 = 0 → mw = 0 ∧ ¬ v2 < p0 ∧ ¬ p1 < v2)) D (fun (u : Nat × Nat × Int32 × Int32) => match u with | (f2, t2, v2, w2) => [(h0, .inr (9, [.ref ys, .ref yk, .ref yo, .ref yt, .int mk0, .ref yfa, .ref yfe, .int mL, .int mS, .int mM, .ref yro, .ref yhe, .ref ygr, .int mF, .int mC, .int mY, .ref yta, .int (nI (mz)), .int (nI (f2)), .int (nI (t2)), .int v2, .int w2, .ref ywa, .ref ybi, .ref ysi, .ref ynu, .ref ymo])), (yta, .inl (cI, 120, .inl tp))]) A) ([.ref h0, .int p0, .int p1] : List Value).toArray s 0 0 A) (F0 m 29 ls []) by
          exact loop_29 _ mf 0 _ _ _ (Nat.lt_succ_self _) (by omega) hP hD hS (lv_sub hl [0, 1, 2, 3, 4, 5] rfl)
        intro n_29
        induction n_29 with
        | zero =>
          intro i u8 H locs ls hm_29
          exact absurd hm_29 (Nat.not_lt_zero _)
        | succ n_29 ih_29 =>
          intro i u8 H locs ls hm_29 hi hP hD hS hl
          refine lv_iload hx hb dX9_number_29 (lv_at hl 0 rfl) ?_
          refine lv_aload_n hx hb dX9_number_31 rfl (lv_at hl 3 rfl) ?_
          refine xg hF kf_X9_251 hK hP 0 rfl rfl dX9_number_32 ?_
          refine lv_icmp_ge (tgt := 79) hx hb dX9_number_35 (by decide) (fun c_103 => ?_) (fun c_103 => ?_)
          · skip
            have nc_103 : mt ≤ i := xn_le (a := mt) (b := i) (by omega) (by omega) c_103
            refine lv_aload_n hx hb dX9_number_79 rfl (lv_at hl 3 rfl) ?_
            refine lv_iload hx hb dX9_number_80 (lv_at hl 1 rfl) ?_
            refine xp hF kf_X9_275 tyX9_ok nmX9 hK hP hD hS 0 rfl rfl rfl rfl (Nat.le_of_ble_eq_true rfl) dX9_number_82 (fun H locs hP hD hS => ?_)
            have hP : va_P D vwCl [(h0, .inr (9, [.ref ys, .ref yk, .ref yo, .ref yt, .int mk0, .ref yfa, .ref yfe, .int mL, .int mS, .int mM, .ref yro, .ref yhe, .ref ygr, .int mF, .int mC, .int mY, .ref yta, .int (nI (mz)), .int (nI (mf)), .int (nI (mt)), .int u8, .int mw, .ref ywa, .ref ybi, .ref ysi, .ref ynu, .ref ymo])), (yta, .inl (cI, 120, .inl tp))] H := hP
            have hD : va_D A [(h0, .inr (9, [.ref ys, .ref yk, .ref yo, .ref yt, .int mk0, .ref yfa, .ref yfe, .int mL, .int mS, .int mM, .ref yro, .ref yhe, .ref ygr, .int mF, .int mC, .int mY, .ref yta, .int (nI (mz)), .int (nI (mf)), .int (nI (mt)), .int u8, .int mw, .ref ywa, .ref ybi, .ref ysi, .ref ynu, .ref ymo])), (yta, .inl (cI, 120, .inl tp))] := hD
            refine lv_aload_n hx hb dX9_number_85 rfl (lv_at hl 3 rfl) ?_
            refine lv_iload_n hx hb dX9_number_86 rfl (lv_at hl 2 rfl) ?_
            refine lv_if_eq (tgt := 107) hx hb dX9_number_87 (by decide) (fun c_104 => ?_) (fun c_104 => absurd (by decide) c_104)
            refine lv_iconst (v := 0) hx hb dX9_number_107 (by decide) ?_
            refine xc_Vv (wr := []) hF (c_X9_needs l D cI cJ cZ cS ta sa sv H.size h0 ys yk yo yt mk0 yfa yfe mL mS mM yro yhe ygr mF mC mY yta mz mf mt u8 mw ywa ybi ysi ynu ymo tp 0 (by omega) (by omega) (by omega) (by omega) (by omega)) kv_X9_278 ⟨rfl, rfl, Nat.le_of_ble_eq_true rfl, Nat.le_of_ble_eq_true rfl⟩ ⟨Nat.le_of_ble_eq_true rfl, Nat.le_of_ble_eq_true rfl⟩ hK hN hZ hP hD hS hA [0, 1] [] rfl rfl rfl rfl (by decide) 0 rfl rfl rfl rfl hl.1 rfl (Nat.le_of_ble_eq_true rfl) dX9_number_108 (fun u_r_105 H locs hw_r_105 hP hD hS => ?_)
            obtain ⟨f2_106, t2_107, w2_108⟩ := u_r_105
            try dsimp only at hw_r_105
            obtain ⟨i_109, i_110, i_111, i_112, i_113, i_114⟩ := hw_r_105
            have hP : va_P D vwCl [(h0, .inr (9, [.ref ys, .ref yk, .ref yo, .ref yt, .int mk0, .ref yfa, .ref yfe, .int mL, .int mS, .int mM, .ref yro, .ref yhe, .ref ygr, .int mF, .int mC, .int mY, .ref yta, .int (nI (mz)), .int (nI (f2_106)), .int (nI (t2_107)), .int u8, .int w2_108, .ref ywa, .ref ybi, .ref ysi, .ref ynu, .ref ymo])), (yta, .inl (cI, 120, .inl tp))] H := hP
            have hD : va_D A [(h0, .inr (9, [.ref ys, .ref yk, .ref yo, .ref yt, .int mk0, .ref yfa, .ref yfe, .int mL, .int mS, .int mM, .ref yro, .ref yhe, .ref ygr, .int mF, .int mC, .int mY, .ref yta, .int (nI (mz)), .int (nI (f2_106)), .int (nI (t2_107)), .int u8, .int w2_108, .ref ywa, .ref ybi, .ref ysi, .ref ynu, .ref ymo])), (yta, .inl (cI, 120, .inl tp))] := hD
            exact W.vret hx hb hr (fun t ht hW => ⟨⟨(f2_106, t2_107, u8, w2_108), rfl, ⟨(by first | assumption | omega), (by first | assumption | omega), (by first | assumption | omega), (by first | assumption | omega), (by first | assumption | omega), (fun h => absurd rfl (i_114 h).2.1)⟩, by rw [ht]; exact hP.sub [0, 1] rfl, hD.sub [0, 1] (by decide) rfl⟩, hS.F ht⟩) hS.2.2 dX9_number_111 hlk
          · skip
            have nc_103 : i < mt := xn_nle (a := mt) (b := i) (by omega) (by omega) c_103
            refine lv_iload_n hx hb dX9_number_38 rfl (lv_at hl 2 rfl) ?_
            refine lv_if_eq (tgt := 79) hx hb dX9_number_39 (by decide) (fun c_115 => ?_) (fun c_115 => absurd (by decide) c_115)
            refine lv_aload_n hx hb dX9_number_79 rfl (lv_at hl 3 rfl) ?_
            refine lv_iload hx hb dX9_number_80 (lv_at hl 1 rfl) ?_
            refine xp hF kf_X9_275 tyX9_ok nmX9 hK hP hD hS 0 rfl rfl rfl rfl (Nat.le_of_ble_eq_true rfl) dX9_number_82 (fun H locs hP hD hS => ?_)
            have hP : va_P D vwCl [(h0, .inr (9, [.ref ys, .ref yk, .ref yo, .ref yt, .int mk0, .ref yfa, .ref yfe, .int mL, .int mS, .int mM, .ref yro, .ref yhe, .ref ygr, .int mF, .int mC, .int mY, .ref yta, .int (nI (mz)), .int (nI (mf)), .int (nI (mt)), .int u8, .int mw, .ref ywa, .ref ybi, .ref ysi, .ref ynu, .ref ymo])), (yta, .inl (cI, 120, .inl tp))] H := hP
            have hD : va_D A [(h0, .inr (9, [.ref ys, .ref yk, .ref yo, .ref yt, .int mk0, .ref yfa, .ref yfe, .int mL, .int mS, .int mM, .ref yro, .ref yhe, .ref ygr, .int mF, .int mC, .int mY, .ref yta, .int (nI (mz)), .int (nI (mf)), .int (nI (mt)), .int u8, .int mw, .ref ywa, .ref ybi, .ref ysi, .ref ynu, .ref ymo])), (yta, .inl (cI, 120, .inl tp))] := hD
            refine lv_aload_n hx hb dX9_number_85 rfl (lv_at hl 3 rfl) ?_
            refine lv_iload_n hx hb dX9_number_86 rfl (lv_at hl 2 rfl) ?_
            refine lv_if_eq (tgt := 107) hx hb dX9_number_87 (by decide) (fun c_116 => ?_) (fun c_116 => absurd (by decide) c_116)
            refine lv_iconst (v := 0) hx hb dX9_number_107 (by decide) ?_
            refine xc_Vv (wr := []) hF (c_X9_needs l D cI cJ cZ cS ta sa sv H.size h0 ys yk yo yt mk0 yfa yfe mL mS mM yro yhe ygr mF mC mY yta mz mf mt u8 mw ywa ybi ysi ynu ymo tp 0 (by omega) (by omega) (by omega) (by omega) (by omega)) kv_X9_278 ⟨rfl, rfl, Nat.le_of_ble_eq_true rfl, Nat.le_of_ble_eq_true rfl⟩ ⟨Nat.le_of_ble_eq_true rfl, Nat.le_of_ble_eq_true rfl⟩ hK hN hZ hP hD hS hA [0, 1] [] rfl rfl rfl rfl (by decide) 0 rfl rfl rfl rfl hl.1 rfl (Nat.le_of_ble_eq_true rfl) dX9_number_108 (fun u_r_117 H locs hw_r_117 hP hD hS => ?_)
            obtain ⟨f2_118, t2_119, w2_120⟩ := u_r_117
            try dsimp only at hw_r_117
            obtain ⟨i_121, i_122, i_123, i_124, i_125, i_126⟩ := hw_r_117
            have hP : va_P D vwCl [(h0, .inr (9, [.ref ys, .ref yk, .ref yo, .ref yt, .int mk0, .ref yfa, .ref yfe, .int mL, .int mS, .int mM, .ref yro, .ref yhe, .ref ygr, .int mF, .int mC, .int mY, .ref yta, .int (nI (mz)), .int (nI (f2_118)), .int (nI (t2_119)), .int u8, .int w2_120, .ref ywa, .ref ybi, .ref ysi, .ref ynu, .ref ymo])), (yta, .inl (cI, 120, .inl tp))] H := hP
            have hD : va_D A [(h0, .inr (9, [.ref ys, .ref yk, .ref yo, .ref yt, .int mk0, .ref yfa, .ref yfe, .int mL, .int mS, .int mM, .ref yro, .ref yhe, .ref ygr, .int mF, .int mC, .int mY, .ref yta, .int (nI (mz)), .int (nI (f2_118)), .int (nI (t2_119)), .int u8, .int w2_120, .ref ywa, .ref ybi, .ref ysi, .ref ynu, .ref ymo])), (yta, .inl (cI, 120, .inl tp))] := hD
            exact W.vret hx hb hr (fun t ht hW => ⟨⟨(f2_118, t2_119, u8, w2_120), rfl, ⟨(by first | assumption | omega), (by first | assumption | omega), (by first | assumption | omega), (by first | assumption | omega), (by first | assumption | omega), (fun h => absurd rfl (i_126 h).2.1)⟩, by rw [ht]; exact hP.sub [0, 1] rfl, hD.sub [0, 1] (by decide) rfl⟩, hS.F ht⟩) hS.2.2 dX9_number_111 hlk
  · skip
    exact W.vret hx hb hr (fun t ht hW => ⟨⟨(mf, mt, mv, mw), rfl, ⟨(by first | assumption | omega), (by first | assumption | omega), (by first | assumption | omega), (by first | assumption | omega), (by first | assumption | omega), (fun h => absurd h (by assumption))⟩, by rw [ht]; exact hP.sub [0, 1] rfl, hD.sub [0, 1] (by decide) rfl⟩, hS.F ht⟩) hS.2.2 dX9_number_7 hlk
set_option maxHeartbeats 4000000 in
set_option maxRecDepth 100000 in
theorem c_X9_mile (l : Launch) (D : va_G) (cI cJ cZ cS : ClassId) (ta : Nat) (sa sv : Nat → Nat) (sz : Nat) (h0 : Nat) (ys : Nat) (yk : Nat) (yo : Nat) (yt : Nat) (mk0 : Int32) (yfa : Nat) (yfe : Nat) (mL : Int32) (mS : Int32) (mM : Int32) (yro : Nat) (yhe : Nat) (ygr : Nat) (mF : Int32) (mC : Int32) (mY : Int32) (yta : Nat) (mz : Nat) (mf : Nat) (mt : Nat) (mv : Int32) (mw : Int32) (ywa : Nat) (ybi : Nat) (ysi : Nat) (ynu : Nat) (ymo : Nat) (tp : Nat → Int32) (p0 : Int32) (p1 : Int32) (hz : mz ≤ 120) (k1 : mf ≤ mz) (k2 : mt ≤ mz) (k3 : mf ≤ mt) (k4 : mf < mt ∨ mf = mz) : Met l yX9_mile (Cond.code yX9_mile cX9_mile 4 none :: wsU) ({ frames := 5, cells := 0, slots := 0, locals := 113 }) (va_Pc [.ref h0, .int p0, .int p1] (XW D (xT cI cJ cZ cS) ta sa sv [(h0, .inr (9, [.ref ys, .ref yk, .ref yo, .ref yt, .int mk0, .ref yfa, .ref yfe, .int mL, .int mS, .int mM, .ref yro, .ref yhe, .ref ygr, .int mF, .int mC, .int mY, .ref yta, .int (nI (mz)), .int (nI (mf)), .int (nI (mt)), .int mv, .int mw, .ref ywa, .ref ybi, .ref ysi, .ref ynu, .ref ymo])), (yta, .inl (cI, 120, .inl tp))] sz)) (XQv (fun (u : Nat × Nat × Int32 × Int32) => match u with | (f2, t2, v2, w2) => (f2 ≤ mz) ∧ (t2 ≤ mz) ∧ (f2 ≤ t2) ∧ (f2 < t2 ∨ f2 = mz) ∧ (mf ≤ f2) ∧ (w2 = 0 → mw = 0 ∧ True)) D (fun (u : Nat × Nat × Int32 × Int32) => match u with | (f2, t2, v2, w2) => [(h0, .inr (9, [.ref ys, .ref yk, .ref yo, .ref yt, .int mk0, .ref yfa, .ref yfe, .int mL, .int mS, .int mM, .ref yro, .ref yhe, .ref ygr, .int mF, .int mC, .int mY, .ref yta, .int (nI (mz)), .int (nI (f2)), .int (nI (t2)), .int v2, .int w2, .ref ywa, .ref ybi, .ref ysi, .ref ynu, .ref ymo])), (yta, .inl (cI, 120, .inl tp))]) (va_A [(h0, .inr (9, [.ref ys, .ref yk, .ref yo, .ref yt, .int mk0, .ref yfa, .ref yfe, .int mL, .int mS, .int mM, .ref yro, .ref yhe, .ref ygr, .int mF, .int mC, .int mY, .ref yta, .int (nI (mz)), .int (nI (mf)), .int (nI (mt)), .int mv, .int mw, .ref ywa, .ref ybi, .ref ysi, .ref ynu, .ref ymo])), (yta, .inl (cI, 120, .inl tp))] sz)) 0 0 (va_A [(h0, .inr (9, [.ref ys, .ref yk, .ref yo, .ref yt, .int mk0, .ref yfa, .ref yfe, .int mL, .int mS, .int mM, .ref yro, .ref yhe, .ref ygr, .int mF, .int mC, .int mY, .ref yta, .int (nI (mz)), .int (nI (mf)), .int (nI (mt)), .int mv, .int mw, .ref ywa, .ref ybi, .ref ysi, .ref ynu, .ref ymo])), (yta, .inl (cI, 120, .inl tp))] sz) := by
  refine xh (QA := fun A => XQv (fun (u : Nat × Nat × Int32 × Int32) => match u with | (f2, t2, v2, w2) => (f2 ≤ mz) ∧ (t2 ≤ mz) ∧ (f2 ≤ t2) ∧ (f2 < t2 ∨ f2 = mz) ∧ (mf ≤ f2) ∧ (w2 = 0 → mw = 0 ∧ True)) D (fun (u : Nat × Nat × Int32 × Int32) => match u with | (f2, t2, v2, w2) => [(h0, .inr (9, [.ref ys, .ref yk, .ref yo, .ref yt, .int mk0, .ref yfa, .ref yfe, .int mL, .int mS, .int mM, .ref yro, .ref yhe, .ref ygr, .int mF, .int mC, .int mY, .ref yta, .int (nI (mz)), .int (nI (f2)), .int (nI (t2)), .int v2, .int w2, .ref ywa, .ref ybi, .ref ysi, .ref ynu, .ref ymo])), (yta, .inl (cI, 120, .inl tp))]) A) (fr := fun A => A) (by decide) (Nat.le_of_ble_eq_true rfl) ?_
  intro p e s m below meth c ls A hF hr hlk hin hsz hP hK hD hN hZ hA hS hl
  have hF : CallFix p m c cX9_mile 4 s _ _ RX9 := hF
  have hx := hF.1
  have hb := hF.2.1
  have hml := hF.2.2.1
  have hown := hF.2.2.2.1
  have hu : ∀ w ∈ wsU, w.before _ s = true := fun w h => hF.2.2.2.2 w (List.mem_cons_of_mem _ h)
  have hl : lv_has ls 4 [(0, .ref h0), (1, .int p0), (2, .int p1)] := hl
  refine lv_aload_n hx hb dX9_mile_0 rfl (lv_at hl 0 rfl) ?_
  refine xg hF kf_X9_266 hK hP 0 rfl rfl dX9_mile_1 ?_
  refine lv_if_ne (tgt := 24) hx hb dX9_mile_4 (by decide) (fun c_1 => ?_) (fun c_1 => ?_)
  · skip
    refine lv_iconst (v := 0) hx hb dX9_mile_24 (by decide) ?_
    refine lv_istore_n (lv' := [(3, .int 0), (0, .ref h0), (1, .int p0), (2, .int p1)]) hx hb dX9_mile_25 rfl hl (by decide) rfl (fun ls hl => ?_)
    refine lv_iload_n hx hb dX9_mile_26 rfl (lv_at hl 0 rfl) ?_
    refine lv_if_eq (tgt := 35) hx hb dX9_mile_27 (by decide) (fun c_2 => ?_) (fun c_2 => absurd (by decide) c_2)
    refine lv_aload_n hx hb dX9_mile_35 rfl (lv_at hl 1 rfl) ?_
    refine lv_iload_n hx hb dX9_mile_36 rfl (lv_at hl 0 rfl) ?_
    refine lv_if_eq (tgt := 54) hx hb dX9_mile_37 (by decide) (fun c_3 => ?_) (fun c_3 => absurd (by decide) c_3)
    refine lv_iload_n hx hb dX9_mile_54 rfl (lv_at hl 2 rfl) ?_
    refine lv_if_ge (tgt := 62) hx hb dX9_mile_55 (by decide) (fun c_4 => ?_) (fun c_4 => ?_)
    · skip
      refine lv_iload_n hx hb dX9_mile_62 rfl (lv_at hl 2 rfl) ?_
      refine lv_iload_n hx hb dX9_mile_63 rfl (lv_at hl 0 rfl) ?_
      refine lv_if_eq (tgt := 81) hx hb dX9_mile_64 (by decide) (fun c_5 => ?_) (fun c_5 => absurd (by decide) c_5)
      refine lv_iload_n hx hb dX9_mile_81 rfl (lv_at hl 3 rfl) ?_
      refine xc_Vv (wr := []) hF (c_X9_number l D cI cJ cZ cS ta sa sv s.heap.size h0 ys yk yo yt mk0 yfa yfe mL mS mM yro yhe ygr mF mC mY yta mz mf mt mv mw ywa ybi ysi ynu ymo tp p0 p1 (by omega) (by omega) (by omega) (by omega) (by omega)) kv_X9_282 ⟨rfl, rfl, Nat.le_of_ble_eq_true rfl, Nat.le_of_ble_eq_true rfl⟩ ⟨Nat.le_of_ble_eq_true rfl, Nat.le_of_ble_eq_true rfl⟩ hK hN hZ hP hD hS hA [0, 1] [] rfl rfl rfl rfl (by decide) 0 rfl rfl rfl rfl hl.1 rfl (Nat.le_of_ble_eq_true rfl) dX9_mile_82 (fun u_r_6 H locs hw_r_6 hP hD hS => ?_)
      obtain ⟨f2_7, t2_8, v2_9, w2_10⟩ := u_r_6
      try dsimp only at hw_r_6
      obtain ⟨i_11, i_12, i_13, i_14, i_15, i_16⟩ := hw_r_6
      have hP : va_P D vwCl [(h0, .inr (9, [.ref ys, .ref yk, .ref yo, .ref yt, .int mk0, .ref yfa, .ref yfe, .int mL, .int mS, .int mM, .ref yro, .ref yhe, .ref ygr, .int mF, .int mC, .int mY, .ref yta, .int (nI (mz)), .int (nI (f2_7)), .int (nI (t2_8)), .int v2_9, .int w2_10, .ref ywa, .ref ybi, .ref ysi, .ref ynu, .ref ymo])), (yta, .inl (cI, 120, .inl tp))] H := hP
      have hD : va_D A [(h0, .inr (9, [.ref ys, .ref yk, .ref yo, .ref yt, .int mk0, .ref yfa, .ref yfe, .int mL, .int mS, .int mM, .ref yro, .ref yhe, .ref ygr, .int mF, .int mC, .int mY, .ref yta, .int (nI (mz)), .int (nI (f2_7)), .int (nI (t2_8)), .int v2_9, .int w2_10, .ref ywa, .ref ybi, .ref ysi, .ref ynu, .ref ymo])), (yta, .inl (cI, 120, .inl tp))] := hD
      refine lv_aload_n hx hb dX9_mile_85 rfl (lv_at hl 1 rfl) ?_
      refine lv_iload_n hx hb dX9_mile_86 rfl (lv_at hl 0 rfl) ?_
      refine lv_if_eq (tgt := 99) hx hb dX9_mile_87 (by decide) (fun c_17 => ?_) (fun c_17 => absurd (by decide) c_17)
      refine lv_aload_n hx hb dX9_mile_99 rfl (lv_at hl 1 rfl) ?_
      refine xg hF kf_X9_275 hK hP 0 rfl rfl dX9_mile_100 ?_
      refine xp hF kf_X9_275 tyX9_ok nmX9 hK hP hD hS 0 rfl rfl rfl rfl (Nat.le_of_ble_eq_true rfl) dX9_mile_103 (fun H locs hP hD hS => ?_)
      have hP : va_P D vwCl [(h0, .inr (9, [.ref ys, .ref yk, .ref yo, .ref yt, .int mk0, .ref yfa, .ref yfe, .int mL, .int mS, .int mM, .ref yro, .ref yhe, .ref ygr, .int mF, .int mC, .int mY, .ref yta, .int (nI (mz)), .int (nI (f2_7)), .int (nI (t2_8)), .int v2_9, .int w2_10, .ref ywa, .ref ybi, .ref ysi, .ref ynu, .ref ymo])), (yta, .inl (cI, 120, .inl tp))] H := hP
      have hD : va_D A [(h0, .inr (9, [.ref ys, .ref yk, .ref yo, .ref yt, .int mk0, .ref yfa, .ref yfe, .int mL, .int mS, .int mM, .ref yro, .ref yhe, .ref ygr, .int mF, .int mC, .int mY, .ref yta, .int (nI (mz)), .int (nI (f2_7)), .int (nI (t2_8)), .int v2_9, .int w2_10, .ref ywa, .ref ybi, .ref ysi, .ref ynu, .ref ymo])), (yta, .inl (cI, 120, .inl tp))] := hD
      exact W.vret hx hb hr (fun t ht hW => ⟨⟨(f2_7, t2_8, v2_9, w2_10), rfl, ⟨(by first | assumption | omega), (by first | assumption | omega), (by first | assumption | omega), (by first | assumption | omega), (by first | assumption | omega), (fun h => ⟨(i_16 h).1, trivial⟩)⟩, by rw [ht]; exact hP.sub [0, 1] rfl, hD.sub [0, 1] (by decide) rfl⟩, hS.F ht⟩) hS.2.2 dX9_mile_106 hlk
    · skip
      refine lv_iconst (v := 0) hx hb dX9_mile_58 (by decide) ?_
      refine lv_goto (tgt := 63) hx hb dX9_mile_59 (by decide) ?_
      refine lv_iload_n hx hb dX9_mile_63 rfl (lv_at hl 0 rfl) ?_
      refine lv_if_eq (tgt := 81) hx hb dX9_mile_64 (by decide) (fun c_18 => ?_) (fun c_18 => absurd (by decide) c_18)
      refine lv_iload_n hx hb dX9_mile_81 rfl (lv_at hl 3 rfl) ?_
      refine xc_Vv (wr := []) hF (c_X9_number l D cI cJ cZ cS ta sa sv s.heap.size h0 ys yk yo yt mk0 yfa yfe mL mS mM yro yhe ygr mF mC mY yta mz mf mt mv mw ywa ybi ysi ynu ymo tp 0 p1 (by omega) (by omega) (by omega) (by omega) (by omega)) kv_X9_282 ⟨rfl, rfl, Nat.le_of_ble_eq_true rfl, Nat.le_of_ble_eq_true rfl⟩ ⟨Nat.le_of_ble_eq_true rfl, Nat.le_of_ble_eq_true rfl⟩ hK hN hZ hP hD hS hA [0, 1] [] rfl rfl rfl rfl (by decide) 0 rfl rfl rfl rfl hl.1 rfl (Nat.le_of_ble_eq_true rfl) dX9_mile_82 (fun u_r_19 H locs hw_r_19 hP hD hS => ?_)
      obtain ⟨f2_20, t2_21, v2_22, w2_23⟩ := u_r_19
      try dsimp only at hw_r_19
      obtain ⟨i_24, i_25, i_26, i_27, i_28, i_29⟩ := hw_r_19
      have hP : va_P D vwCl [(h0, .inr (9, [.ref ys, .ref yk, .ref yo, .ref yt, .int mk0, .ref yfa, .ref yfe, .int mL, .int mS, .int mM, .ref yro, .ref yhe, .ref ygr, .int mF, .int mC, .int mY, .ref yta, .int (nI (mz)), .int (nI (f2_20)), .int (nI (t2_21)), .int v2_22, .int w2_23, .ref ywa, .ref ybi, .ref ysi, .ref ynu, .ref ymo])), (yta, .inl (cI, 120, .inl tp))] H := hP
      have hD : va_D A [(h0, .inr (9, [.ref ys, .ref yk, .ref yo, .ref yt, .int mk0, .ref yfa, .ref yfe, .int mL, .int mS, .int mM, .ref yro, .ref yhe, .ref ygr, .int mF, .int mC, .int mY, .ref yta, .int (nI (mz)), .int (nI (f2_20)), .int (nI (t2_21)), .int v2_22, .int w2_23, .ref ywa, .ref ybi, .ref ysi, .ref ynu, .ref ymo])), (yta, .inl (cI, 120, .inl tp))] := hD
      refine lv_aload_n hx hb dX9_mile_85 rfl (lv_at hl 1 rfl) ?_
      refine lv_iload_n hx hb dX9_mile_86 rfl (lv_at hl 0 rfl) ?_
      refine lv_if_eq (tgt := 99) hx hb dX9_mile_87 (by decide) (fun c_30 => ?_) (fun c_30 => absurd (by decide) c_30)
      refine lv_aload_n hx hb dX9_mile_99 rfl (lv_at hl 1 rfl) ?_
      refine xg hF kf_X9_275 hK hP 0 rfl rfl dX9_mile_100 ?_
      refine xp hF kf_X9_275 tyX9_ok nmX9 hK hP hD hS 0 rfl rfl rfl rfl (Nat.le_of_ble_eq_true rfl) dX9_mile_103 (fun H locs hP hD hS => ?_)
      have hP : va_P D vwCl [(h0, .inr (9, [.ref ys, .ref yk, .ref yo, .ref yt, .int mk0, .ref yfa, .ref yfe, .int mL, .int mS, .int mM, .ref yro, .ref yhe, .ref ygr, .int mF, .int mC, .int mY, .ref yta, .int (nI (mz)), .int (nI (f2_20)), .int (nI (t2_21)), .int v2_22, .int w2_23, .ref ywa, .ref ybi, .ref ysi, .ref ynu, .ref ymo])), (yta, .inl (cI, 120, .inl tp))] H := hP
      have hD : va_D A [(h0, .inr (9, [.ref ys, .ref yk, .ref yo, .ref yt, .int mk0, .ref yfa, .ref yfe, .int mL, .int mS, .int mM, .ref yro, .ref yhe, .ref ygr, .int mF, .int mC, .int mY, .ref yta, .int (nI (mz)), .int (nI (f2_20)), .int (nI (t2_21)), .int v2_22, .int w2_23, .ref ywa, .ref ybi, .ref ysi, .ref ynu, .ref ymo])), (yta, .inl (cI, 120, .inl tp))] := hD
      exact W.vret hx hb hr (fun t ht hW => ⟨⟨(f2_20, t2_21, v2_22, w2_23), rfl, ⟨(by first | assumption | omega), (by first | assumption | omega), (by first | assumption | omega), (by first | assumption | omega), (by first | assumption | omega), (fun h => ⟨(i_29 h).1, trivial⟩)⟩, by rw [ht]; exact hP.sub [0, 1] rfl, hD.sub [0, 1] (by decide) rfl⟩, hS.F ht⟩) hS.2.2 dX9_mile_106 hlk
  · skip
    refine lv_aload_n hx hb dX9_mile_7 rfl (lv_at hl 0 rfl) ?_
    refine lv_aload_n hx hb dX9_mile_8 rfl (lv_at hl 0 rfl) ?_
    refine xg hF kf_X9_254 hK hP 0 rfl rfl dX9_mile_9 ?_
    refine xc_Vr hF (c_X9_byteAt l D cI cJ cZ cS ta sa sv s.heap.size h0 ys yk yo yt mk0 yfa yfe mL mS mM yro yhe ygr mF mC mY yta mz mf mt mv mw ywa ybi ysi ynu ymo tp mf (by omega) (by omega)) kv_X9_257 ⟨rfl, rfl, Nat.le_of_ble_eq_true rfl, Nat.le_of_ble_eq_true rfl⟩ ⟨Nat.le_of_ble_eq_true rfl, Nat.le_of_ble_eq_true rfl⟩ hK hN hZ hP hD hS hA [0, 1] rfl rfl 0 rfl rfl rfl rfl hl.1 rfl (Nat.le_of_ble_eq_true rfl) dX9_mile_12 (fun r_31 hw_r_31 => ?_)
    rcases hw_r_31 with ⟨rfl, h_32⟩ | ⟨rfl, h_33⟩
    · skip
      refine lv_bipush (v := 45) hx hb dX9_mile_15 (by decide) ?_
      refine lv_icmp_ne (tgt := 24) hx hb dX9_mile_17 (by decide) (fun c_34 => ?_) (fun c_34 => ?_)
      · skip
        refine lv_iconst (v := 0) hx hb dX9_mile_24 (by decide) ?_
        refine lv_istore_n (lv' := [(3, .int 0), (0, .ref h0), (1, .int p0), (2, .int p1)]) hx hb dX9_mile_25 rfl hl (by decide) rfl (fun ls hl => ?_)
        refine lv_iload_n hx hb dX9_mile_26 rfl (lv_at hl 0 rfl) ?_
        refine lv_if_eq (tgt := 35) hx hb dX9_mile_27 (by decide) (fun c_35 => ?_) (fun c_35 => absurd (by decide) c_35)
        refine lv_aload_n hx hb dX9_mile_35 rfl (lv_at hl 1 rfl) ?_
        refine lv_iload_n hx hb dX9_mile_36 rfl (lv_at hl 0 rfl) ?_
        refine lv_if_eq (tgt := 54) hx hb dX9_mile_37 (by decide) (fun c_36 => ?_) (fun c_36 => absurd (by decide) c_36)
        refine lv_iload_n hx hb dX9_mile_54 rfl (lv_at hl 2 rfl) ?_
        refine lv_if_ge (tgt := 62) hx hb dX9_mile_55 (by decide) (fun c_37 => ?_) (fun c_37 => ?_)
        · skip
          refine lv_iload_n hx hb dX9_mile_62 rfl (lv_at hl 2 rfl) ?_
          refine lv_iload_n hx hb dX9_mile_63 rfl (lv_at hl 0 rfl) ?_
          refine lv_if_eq (tgt := 81) hx hb dX9_mile_64 (by decide) (fun c_38 => ?_) (fun c_38 => absurd (by decide) c_38)
          refine lv_iload_n hx hb dX9_mile_81 rfl (lv_at hl 3 rfl) ?_
          refine xc_Vv (wr := []) hF (c_X9_number l D cI cJ cZ cS ta sa sv s.heap.size h0 ys yk yo yt mk0 yfa yfe mL mS mM yro yhe ygr mF mC mY yta mz mf mt mv mw ywa ybi ysi ynu ymo tp p0 p1 (by omega) (by omega) (by omega) (by omega) (by omega)) kv_X9_282 ⟨rfl, rfl, Nat.le_of_ble_eq_true rfl, Nat.le_of_ble_eq_true rfl⟩ ⟨Nat.le_of_ble_eq_true rfl, Nat.le_of_ble_eq_true rfl⟩ hK hN hZ hP hD hS hA [0, 1] [] rfl rfl rfl rfl (by decide) 0 rfl rfl rfl rfl hl.1 rfl (Nat.le_of_ble_eq_true rfl) dX9_mile_82 (fun u_r_39 H locs hw_r_39 hP hD hS => ?_)
          obtain ⟨f2_40, t2_41, v2_42, w2_43⟩ := u_r_39
          try dsimp only at hw_r_39
          obtain ⟨i_44, i_45, i_46, i_47, i_48, i_49⟩ := hw_r_39
          have hP : va_P D vwCl [(h0, .inr (9, [.ref ys, .ref yk, .ref yo, .ref yt, .int mk0, .ref yfa, .ref yfe, .int mL, .int mS, .int mM, .ref yro, .ref yhe, .ref ygr, .int mF, .int mC, .int mY, .ref yta, .int (nI (mz)), .int (nI (f2_40)), .int (nI (t2_41)), .int v2_42, .int w2_43, .ref ywa, .ref ybi, .ref ysi, .ref ynu, .ref ymo])), (yta, .inl (cI, 120, .inl tp))] H := hP
          have hD : va_D A [(h0, .inr (9, [.ref ys, .ref yk, .ref yo, .ref yt, .int mk0, .ref yfa, .ref yfe, .int mL, .int mS, .int mM, .ref yro, .ref yhe, .ref ygr, .int mF, .int mC, .int mY, .ref yta, .int (nI (mz)), .int (nI (f2_40)), .int (nI (t2_41)), .int v2_42, .int w2_43, .ref ywa, .ref ybi, .ref ysi, .ref ynu, .ref ymo])), (yta, .inl (cI, 120, .inl tp))] := hD
          refine lv_aload_n hx hb dX9_mile_85 rfl (lv_at hl 1 rfl) ?_
          refine lv_iload_n hx hb dX9_mile_86 rfl (lv_at hl 0 rfl) ?_
          refine lv_if_eq (tgt := 99) hx hb dX9_mile_87 (by decide) (fun c_50 => ?_) (fun c_50 => absurd (by decide) c_50)
          refine lv_aload_n hx hb dX9_mile_99 rfl (lv_at hl 1 rfl) ?_
          refine xg hF kf_X9_275 hK hP 0 rfl rfl dX9_mile_100 ?_
          refine xp hF kf_X9_275 tyX9_ok nmX9 hK hP hD hS 0 rfl rfl rfl rfl (Nat.le_of_ble_eq_true rfl) dX9_mile_103 (fun H locs hP hD hS => ?_)
          have hP : va_P D vwCl [(h0, .inr (9, [.ref ys, .ref yk, .ref yo, .ref yt, .int mk0, .ref yfa, .ref yfe, .int mL, .int mS, .int mM, .ref yro, .ref yhe, .ref ygr, .int mF, .int mC, .int mY, .ref yta, .int (nI (mz)), .int (nI (f2_40)), .int (nI (t2_41)), .int v2_42, .int w2_43, .ref ywa, .ref ybi, .ref ysi, .ref ynu, .ref ymo])), (yta, .inl (cI, 120, .inl tp))] H := hP
          have hD : va_D A [(h0, .inr (9, [.ref ys, .ref yk, .ref yo, .ref yt, .int mk0, .ref yfa, .ref yfe, .int mL, .int mS, .int mM, .ref yro, .ref yhe, .ref ygr, .int mF, .int mC, .int mY, .ref yta, .int (nI (mz)), .int (nI (f2_40)), .int (nI (t2_41)), .int v2_42, .int w2_43, .ref ywa, .ref ybi, .ref ysi, .ref ynu, .ref ymo])), (yta, .inl (cI, 120, .inl tp))] := hD
          exact W.vret hx hb hr (fun t ht hW => ⟨⟨(f2_40, t2_41, v2_42, w2_43), rfl, ⟨(by first | assumption | omega), (by first | assumption | omega), (by first | assumption | omega), (by first | assumption | omega), (by first | assumption | omega), (fun h => ⟨(i_49 h).1, trivial⟩)⟩, by rw [ht]; exact hP.sub [0, 1] rfl, hD.sub [0, 1] (by decide) rfl⟩, hS.F ht⟩) hS.2.2 dX9_mile_106 hlk
        · skip
          refine lv_iconst (v := 0) hx hb dX9_mile_58 (by decide) ?_
          refine lv_goto (tgt := 63) hx hb dX9_mile_59 (by decide) ?_
          refine lv_iload_n hx hb dX9_mile_63 rfl (lv_at hl 0 rfl) ?_
          refine lv_if_eq (tgt := 81) hx hb dX9_mile_64 (by decide) (fun c_51 => ?_) (fun c_51 => absurd (by decide) c_51)
          refine lv_iload_n hx hb dX9_mile_81 rfl (lv_at hl 3 rfl) ?_
          refine xc_Vv (wr := []) hF (c_X9_number l D cI cJ cZ cS ta sa sv s.heap.size h0 ys yk yo yt mk0 yfa yfe mL mS mM yro yhe ygr mF mC mY yta mz mf mt mv mw ywa ybi ysi ynu ymo tp 0 p1 (by omega) (by omega) (by omega) (by omega) (by omega)) kv_X9_282 ⟨rfl, rfl, Nat.le_of_ble_eq_true rfl, Nat.le_of_ble_eq_true rfl⟩ ⟨Nat.le_of_ble_eq_true rfl, Nat.le_of_ble_eq_true rfl⟩ hK hN hZ hP hD hS hA [0, 1] [] rfl rfl rfl rfl (by decide) 0 rfl rfl rfl rfl hl.1 rfl (Nat.le_of_ble_eq_true rfl) dX9_mile_82 (fun u_r_52 H locs hw_r_52 hP hD hS => ?_)
          obtain ⟨f2_53, t2_54, v2_55, w2_56⟩ := u_r_52
          try dsimp only at hw_r_52
          obtain ⟨i_57, i_58, i_59, i_60, i_61, i_62⟩ := hw_r_52
          have hP : va_P D vwCl [(h0, .inr (9, [.ref ys, .ref yk, .ref yo, .ref yt, .int mk0, .ref yfa, .ref yfe, .int mL, .int mS, .int mM, .ref yro, .ref yhe, .ref ygr, .int mF, .int mC, .int mY, .ref yta, .int (nI (mz)), .int (nI (f2_53)), .int (nI (t2_54)), .int v2_55, .int w2_56, .ref ywa, .ref ybi, .ref ysi, .ref ynu, .ref ymo])), (yta, .inl (cI, 120, .inl tp))] H := hP
          have hD : va_D A [(h0, .inr (9, [.ref ys, .ref yk, .ref yo, .ref yt, .int mk0, .ref yfa, .ref yfe, .int mL, .int mS, .int mM, .ref yro, .ref yhe, .ref ygr, .int mF, .int mC, .int mY, .ref yta, .int (nI (mz)), .int (nI (f2_53)), .int (nI (t2_54)), .int v2_55, .int w2_56, .ref ywa, .ref ybi, .ref ysi, .ref ynu, .ref ymo])), (yta, .inl (cI, 120, .inl tp))] := hD
          refine lv_aload_n hx hb dX9_mile_85 rfl (lv_at hl 1 rfl) ?_
          refine lv_iload_n hx hb dX9_mile_86 rfl (lv_at hl 0 rfl) ?_
          refine lv_if_eq (tgt := 99) hx hb dX9_mile_87 (by decide) (fun c_63 => ?_) (fun c_63 => absurd (by decide) c_63)
          refine lv_aload_n hx hb dX9_mile_99 rfl (lv_at hl 1 rfl) ?_
          refine xg hF kf_X9_275 hK hP 0 rfl rfl dX9_mile_100 ?_
          refine xp hF kf_X9_275 tyX9_ok nmX9 hK hP hD hS 0 rfl rfl rfl rfl (Nat.le_of_ble_eq_true rfl) dX9_mile_103 (fun H locs hP hD hS => ?_)
          have hP : va_P D vwCl [(h0, .inr (9, [.ref ys, .ref yk, .ref yo, .ref yt, .int mk0, .ref yfa, .ref yfe, .int mL, .int mS, .int mM, .ref yro, .ref yhe, .ref ygr, .int mF, .int mC, .int mY, .ref yta, .int (nI (mz)), .int (nI (f2_53)), .int (nI (t2_54)), .int v2_55, .int w2_56, .ref ywa, .ref ybi, .ref ysi, .ref ynu, .ref ymo])), (yta, .inl (cI, 120, .inl tp))] H := hP
          have hD : va_D A [(h0, .inr (9, [.ref ys, .ref yk, .ref yo, .ref yt, .int mk0, .ref yfa, .ref yfe, .int mL, .int mS, .int mM, .ref yro, .ref yhe, .ref ygr, .int mF, .int mC, .int mY, .ref yta, .int (nI (mz)), .int (nI (f2_53)), .int (nI (t2_54)), .int v2_55, .int w2_56, .ref ywa, .ref ybi, .ref ysi, .ref ynu, .ref ymo])), (yta, .inl (cI, 120, .inl tp))] := hD
          exact W.vret hx hb hr (fun t ht hW => ⟨⟨(f2_53, t2_54, v2_55, w2_56), rfl, ⟨(by first | assumption | omega), (by first | assumption | omega), (by first | assumption | omega), (by first | assumption | omega), (by first | assumption | omega), (fun h => ⟨(i_62 h).1, trivial⟩)⟩, by rw [ht]; exact hP.sub [0, 1] rfl, hD.sub [0, 1] (by decide) rfl⟩, hS.F ht⟩) hS.2.2 dX9_mile_106 hlk
      · skip
        refine lv_iconst (v := 1) hx hb dX9_mile_20 (by decide) ?_
        refine lv_goto (tgt := 25) hx hb dX9_mile_21 (by decide) ?_
        refine lv_istore_n (lv' := [(3, .int 1), (0, .ref h0), (1, .int p0), (2, .int p1)]) hx hb dX9_mile_25 rfl hl (by decide) rfl (fun ls hl => ?_)
        refine lv_iload_n hx hb dX9_mile_26 rfl (lv_at hl 0 rfl) ?_
        refine lv_if_eq (tgt := 35) hx hb dX9_mile_27 (by decide) (fun c_64 => absurd c_64 (by decide)) (fun c_64 => ?_)
        refine lv_aload_n hx hb dX9_mile_30 rfl (lv_at hl 1 rfl) ?_
        refine lv_iconst (v := 1) hx hb dX9_mile_31 (by decide) ?_
        refine xc_Vv (wr := []) hF (c_X9_needs l D cI cJ cZ cS ta sa sv s.heap.size h0 ys yk yo yt mk0 yfa yfe mL mS mM yro yhe ygr mF mC mY yta mz mf mt mv mw ywa ybi ysi ynu ymo tp 1 (by omega) (by omega) (by omega) (by omega) (by omega)) kv_X9_278 ⟨rfl, rfl, Nat.le_of_ble_eq_true rfl, Nat.le_of_ble_eq_true rfl⟩ ⟨Nat.le_of_ble_eq_true rfl, Nat.le_of_ble_eq_true rfl⟩ hK hN hZ hP hD hS hA [0, 1] [] rfl rfl rfl rfl (by decide) 0 rfl rfl rfl rfl hl.1 rfl (Nat.le_of_ble_eq_true rfl) dX9_mile_32 (fun u_r_65 H locs hw_r_65 hP hD hS => ?_)
        obtain ⟨f2_66, t2_67, w2_68⟩ := u_r_65
        try dsimp only at hw_r_65
        obtain ⟨i_69, i_70, i_71, i_72, i_73, i_74⟩ := hw_r_65
        have hP : va_P D vwCl [(h0, .inr (9, [.ref ys, .ref yk, .ref yo, .ref yt, .int mk0, .ref yfa, .ref yfe, .int mL, .int mS, .int mM, .ref yro, .ref yhe, .ref ygr, .int mF, .int mC, .int mY, .ref yta, .int (nI (mz)), .int (nI (f2_66)), .int (nI (t2_67)), .int mv, .int w2_68, .ref ywa, .ref ybi, .ref ysi, .ref ynu, .ref ymo])), (yta, .inl (cI, 120, .inl tp))] H := hP
        have hD : va_D A [(h0, .inr (9, [.ref ys, .ref yk, .ref yo, .ref yt, .int mk0, .ref yfa, .ref yfe, .int mL, .int mS, .int mM, .ref yro, .ref yhe, .ref ygr, .int mF, .int mC, .int mY, .ref yta, .int (nI (mz)), .int (nI (f2_66)), .int (nI (t2_67)), .int mv, .int w2_68, .ref ywa, .ref ybi, .ref ysi, .ref ynu, .ref ymo])), (yta, .inl (cI, 120, .inl tp))] := hD
        refine lv_aload_n hx hb dX9_mile_35 rfl (lv_at hl 1 rfl) ?_
        refine lv_iload_n hx hb dX9_mile_36 rfl (lv_at hl 0 rfl) ?_
        refine lv_if_eq (tgt := 54) hx hb dX9_mile_37 (by decide) (fun c_75 => absurd c_75 (by decide)) (fun c_75 => ?_)
        refine lv_iload_n hx hb dX9_mile_40 rfl (lv_at hl 3 rfl) ?_
        refine lv_if_ge (tgt := 50) hx hb dX9_mile_41 (by decide) (fun c_76 => ?_) (fun c_76 => ?_)
        · skip
          refine lv_iconst (v := 0) hx hb dX9_mile_50 (by decide) ?_
          refine lv_goto (tgt := 63) hx hb dX9_mile_51 (by decide) ?_
          refine lv_iload_n hx hb dX9_mile_63 rfl (lv_at hl 0 rfl) ?_
          refine lv_if_eq (tgt := 81) hx hb dX9_mile_64 (by decide) (fun c_77 => absurd c_77 (by decide)) (fun c_77 => ?_)
          refine lv_iload_n hx hb dX9_mile_67 rfl (lv_at hl 2 rfl) ?_
          refine lv_if_le (tgt := 75) hx hb dX9_mile_68 (by decide) (fun c_78 => ?_) (fun c_78 => ?_)
          · skip
            refine lv_iconst (v := 0) hx hb dX9_mile_75 (by decide) ?_
            refine lv_iload_n hx hb dX9_mile_76 rfl (lv_at hl 2 rfl) ?_
            refine lv_isub hx hb dX9_mile_77 ?_
            refine lv_topi (fun x_79 ex_79 => ?_)
            refine lv_goto (tgt := 82) hx hb dX9_mile_78 (by decide) ?_
            refine xc_Vv (wr := []) hF (c_X9_number l D cI cJ cZ cS ta sa sv H.size h0 ys yk yo yt mk0 yfa yfe mL mS mM yro yhe ygr mF mC mY yta mz f2_66 t2_67 mv w2_68 ywa ybi ysi ynu ymo tp 0 x_79 (by omega) (by omega) (by omega) (by omega) (by omega)) kv_X9_282 ⟨rfl, rfl, Nat.le_of_ble_eq_true rfl, Nat.le_of_ble_eq_true rfl⟩ ⟨Nat.le_of_ble_eq_true rfl, Nat.le_of_ble_eq_true rfl⟩ hK hN hZ hP hD hS hA [0, 1] [] rfl rfl rfl rfl (by decide) 0 rfl rfl rfl rfl hl.1 rfl (Nat.le_of_ble_eq_true rfl) dX9_mile_82 (fun u_r_80 H locs hw_r_80 hP hD hS => ?_)
            obtain ⟨f2_81, t2_82, v2_83, w2_84⟩ := u_r_80
            try dsimp only at hw_r_80
            obtain ⟨i_85, i_86, i_87, i_88, i_89, i_90⟩ := hw_r_80
            have hP : va_P D vwCl [(h0, .inr (9, [.ref ys, .ref yk, .ref yo, .ref yt, .int mk0, .ref yfa, .ref yfe, .int mL, .int mS, .int mM, .ref yro, .ref yhe, .ref ygr, .int mF, .int mC, .int mY, .ref yta, .int (nI (mz)), .int (nI (f2_81)), .int (nI (t2_82)), .int v2_83, .int w2_84, .ref ywa, .ref ybi, .ref ysi, .ref ynu, .ref ymo])), (yta, .inl (cI, 120, .inl tp))] H := hP
            have hD : va_D A [(h0, .inr (9, [.ref ys, .ref yk, .ref yo, .ref yt, .int mk0, .ref yfa, .ref yfe, .int mL, .int mS, .int mM, .ref yro, .ref yhe, .ref ygr, .int mF, .int mC, .int mY, .ref yta, .int (nI (mz)), .int (nI (f2_81)), .int (nI (t2_82)), .int v2_83, .int w2_84, .ref ywa, .ref ybi, .ref ysi, .ref ynu, .ref ymo])), (yta, .inl (cI, 120, .inl tp))] := hD
            refine lv_aload_n hx hb dX9_mile_85 rfl (lv_at hl 1 rfl) ?_
            refine lv_iload_n hx hb dX9_mile_86 rfl (lv_at hl 0 rfl) ?_
            refine lv_if_eq (tgt := 99) hx hb dX9_mile_87 (by decide) (fun c_91 => absurd c_91 (by decide)) (fun c_91 => ?_)
            refine lv_iconst (v := 0) hx hb dX9_mile_90 (by decide) ?_
            refine lv_aload_n hx hb dX9_mile_91 rfl (lv_at hl 1 rfl) ?_
            refine xg hF kf_X9_275 hK hP 0 rfl rfl dX9_mile_92 ?_
            refine lv_isub hx hb dX9_mile_95 ?_
            refine lv_topi (fun x_92 ex_92 => ?_)
            refine lv_goto (tgt := 103) hx hb dX9_mile_96 (by decide) ?_
            refine xp hF kf_X9_275 tyX9_ok nmX9 hK hP hD hS 0 rfl rfl rfl rfl (Nat.le_of_ble_eq_true rfl) dX9_mile_103 (fun H locs hP hD hS => ?_)
            have hP : va_P D vwCl [(h0, .inr (9, [.ref ys, .ref yk, .ref yo, .ref yt, .int mk0, .ref yfa, .ref yfe, .int mL, .int mS, .int mM, .ref yro, .ref yhe, .ref ygr, .int mF, .int mC, .int mY, .ref yta, .int (nI (mz)), .int (nI (f2_81)), .int (nI (t2_82)), .int x_92, .int w2_84, .ref ywa, .ref ybi, .ref ysi, .ref ynu, .ref ymo])), (yta, .inl (cI, 120, .inl tp))] H := hP
            have hD : va_D A [(h0, .inr (9, [.ref ys, .ref yk, .ref yo, .ref yt, .int mk0, .ref yfa, .ref yfe, .int mL, .int mS, .int mM, .ref yro, .ref yhe, .ref ygr, .int mF, .int mC, .int mY, .ref yta, .int (nI (mz)), .int (nI (f2_81)), .int (nI (t2_82)), .int x_92, .int w2_84, .ref ywa, .ref ybi, .ref ysi, .ref ynu, .ref ymo])), (yta, .inl (cI, 120, .inl tp))] := hD
            exact W.vret hx hb hr (fun t ht hW => ⟨⟨(f2_81, t2_82, x_92, w2_84), rfl, ⟨(by first | assumption | omega), (by first | assumption | omega), (by first | assumption | omega), (by first | assumption | omega), (by first | assumption | omega), (fun h => ⟨(i_74 (i_90 h).1).1, trivial⟩)⟩, by rw [ht]; exact hP.sub [0, 1] rfl, hD.sub [0, 1] (by decide) rfl⟩, hS.F ht⟩) hS.2.2 dX9_mile_106 hlk
          · skip
            refine lv_iconst (v := (-1)) hx hb dX9_mile_71 (by decide) ?_
            refine lv_goto (tgt := 82) hx hb dX9_mile_72 (by decide) ?_
            refine xc_Vv (wr := []) hF (c_X9_number l D cI cJ cZ cS ta sa sv H.size h0 ys yk yo yt mk0 yfa yfe mL mS mM yro yhe ygr mF mC mY yta mz f2_66 t2_67 mv w2_68 ywa ybi ysi ynu ymo tp 0 (-1) (by omega) (by omega) (by omega) (by omega) (by omega)) kv_X9_282 ⟨rfl, rfl, Nat.le_of_ble_eq_true rfl, Nat.le_of_ble_eq_true rfl⟩ ⟨Nat.le_of_ble_eq_true rfl, Nat.le_of_ble_eq_true rfl⟩ hK hN hZ hP hD hS hA [0, 1] [] rfl rfl rfl rfl (by decide) 0 rfl rfl rfl rfl hl.1 rfl (Nat.le_of_ble_eq_true rfl) dX9_mile_82 (fun u_r_93 H locs hw_r_93 hP hD hS => ?_)
            obtain ⟨f2_94, t2_95, v2_96, w2_97⟩ := u_r_93
            try dsimp only at hw_r_93
            obtain ⟨i_98, i_99, i_100, i_101, i_102, i_103⟩ := hw_r_93
            have hP : va_P D vwCl [(h0, .inr (9, [.ref ys, .ref yk, .ref yo, .ref yt, .int mk0, .ref yfa, .ref yfe, .int mL, .int mS, .int mM, .ref yro, .ref yhe, .ref ygr, .int mF, .int mC, .int mY, .ref yta, .int (nI (mz)), .int (nI (f2_94)), .int (nI (t2_95)), .int v2_96, .int w2_97, .ref ywa, .ref ybi, .ref ysi, .ref ynu, .ref ymo])), (yta, .inl (cI, 120, .inl tp))] H := hP
            have hD : va_D A [(h0, .inr (9, [.ref ys, .ref yk, .ref yo, .ref yt, .int mk0, .ref yfa, .ref yfe, .int mL, .int mS, .int mM, .ref yro, .ref yhe, .ref ygr, .int mF, .int mC, .int mY, .ref yta, .int (nI (mz)), .int (nI (f2_94)), .int (nI (t2_95)), .int v2_96, .int w2_97, .ref ywa, .ref ybi, .ref ysi, .ref ynu, .ref ymo])), (yta, .inl (cI, 120, .inl tp))] := hD
            refine lv_aload_n hx hb dX9_mile_85 rfl (lv_at hl 1 rfl) ?_
            refine lv_iload_n hx hb dX9_mile_86 rfl (lv_at hl 0 rfl) ?_
            refine lv_if_eq (tgt := 99) hx hb dX9_mile_87 (by decide) (fun c_104 => absurd c_104 (by decide)) (fun c_104 => ?_)
            refine lv_iconst (v := 0) hx hb dX9_mile_90 (by decide) ?_
            refine lv_aload_n hx hb dX9_mile_91 rfl (lv_at hl 1 rfl) ?_
            refine xg hF kf_X9_275 hK hP 0 rfl rfl dX9_mile_92 ?_
            refine lv_isub hx hb dX9_mile_95 ?_
            refine lv_topi (fun x_105 ex_105 => ?_)
            refine lv_goto (tgt := 103) hx hb dX9_mile_96 (by decide) ?_
            refine xp hF kf_X9_275 tyX9_ok nmX9 hK hP hD hS 0 rfl rfl rfl rfl (Nat.le_of_ble_eq_true rfl) dX9_mile_103 (fun H locs hP hD hS => ?_)
            have hP : va_P D vwCl [(h0, .inr (9, [.ref ys, .ref yk, .ref yo, .ref yt, .int mk0, .ref yfa, .ref yfe, .int mL, .int mS, .int mM, .ref yro, .ref yhe, .ref ygr, .int mF, .int mC, .int mY, .ref yta, .int (nI (mz)), .int (nI (f2_94)), .int (nI (t2_95)), .int x_105, .int w2_97, .ref ywa, .ref ybi, .ref ysi, .ref ynu, .ref ymo])), (yta, .inl (cI, 120, .inl tp))] H := hP
            have hD : va_D A [(h0, .inr (9, [.ref ys, .ref yk, .ref yo, .ref yt, .int mk0, .ref yfa, .ref yfe, .int mL, .int mS, .int mM, .ref yro, .ref yhe, .ref ygr, .int mF, .int mC, .int mY, .ref yta, .int (nI (mz)), .int (nI (f2_94)), .int (nI (t2_95)), .int x_105, .int w2_97, .ref ywa, .ref ybi, .ref ysi, .ref ynu, .ref ymo])), (yta, .inl (cI, 120, .inl tp))] := hD
            exact W.vret hx hb hr (fun t ht hW => ⟨⟨(f2_94, t2_95, x_105, w2_97), rfl, ⟨(by first | assumption | omega), (by first | assumption | omega), (by first | assumption | omega), (by first | assumption | omega), (by first | assumption | omega), (fun h => ⟨(i_74 (i_103 h).1).1, trivial⟩)⟩, by rw [ht]; exact hP.sub [0, 1] rfl, hD.sub [0, 1] (by decide) rfl⟩, hS.F ht⟩) hS.2.2 dX9_mile_106 hlk
        · skip
          refine lv_iconst (v := 0) hx hb dX9_mile_44 (by decide) ?_
          refine lv_iload_n hx hb dX9_mile_45 rfl (lv_at hl 3 rfl) ?_
          refine lv_isub hx hb dX9_mile_46 ?_
          refine lv_topi (fun x_106 ex_106 => ?_)
          refine lv_goto (tgt := 63) hx hb dX9_mile_47 (by decide) ?_
          refine lv_iload_n hx hb dX9_mile_63 rfl (lv_at hl 0 rfl) ?_
          refine lv_if_eq (tgt := 81) hx hb dX9_mile_64 (by decide) (fun c_107 => absurd c_107 (by decide)) (fun c_107 => ?_)
          refine lv_iload_n hx hb dX9_mile_67 rfl (lv_at hl 2 rfl) ?_
          refine lv_if_le (tgt := 75) hx hb dX9_mile_68 (by decide) (fun c_108 => ?_) (fun c_108 => ?_)
          · skip
            refine lv_iconst (v := 0) hx hb dX9_mile_75 (by decide) ?_
            refine lv_iload_n hx hb dX9_mile_76 rfl (lv_at hl 2 rfl) ?_
            refine lv_isub hx hb dX9_mile_77 ?_
            refine lv_topi (fun x_109 ex_109 => ?_)
            refine lv_goto (tgt := 82) hx hb dX9_mile_78 (by decide) ?_
            refine xc_Vv (wr := []) hF (c_X9_number l D cI cJ cZ cS ta sa sv H.size h0 ys yk yo yt mk0 yfa yfe mL mS mM yro yhe ygr mF mC mY yta mz f2_66 t2_67 mv w2_68 ywa ybi ysi ynu ymo tp x_106 x_109 (by omega) (by omega) (by omega) (by omega) (by omega)) kv_X9_282 ⟨rfl, rfl, Nat.le_of_ble_eq_true rfl, Nat.le_of_ble_eq_true rfl⟩ ⟨Nat.le_of_ble_eq_true rfl, Nat.le_of_ble_eq_true rfl⟩ hK hN hZ hP hD hS hA [0, 1] [] rfl rfl rfl rfl (by decide) 0 rfl rfl rfl rfl hl.1 rfl (Nat.le_of_ble_eq_true rfl) dX9_mile_82 (fun u_r_110 H locs hw_r_110 hP hD hS => ?_)
            obtain ⟨f2_111, t2_112, v2_113, w2_114⟩ := u_r_110
            try dsimp only at hw_r_110
            obtain ⟨i_115, i_116, i_117, i_118, i_119, i_120⟩ := hw_r_110
            have hP : va_P D vwCl [(h0, .inr (9, [.ref ys, .ref yk, .ref yo, .ref yt, .int mk0, .ref yfa, .ref yfe, .int mL, .int mS, .int mM, .ref yro, .ref yhe, .ref ygr, .int mF, .int mC, .int mY, .ref yta, .int (nI (mz)), .int (nI (f2_111)), .int (nI (t2_112)), .int v2_113, .int w2_114, .ref ywa, .ref ybi, .ref ysi, .ref ynu, .ref ymo])), (yta, .inl (cI, 120, .inl tp))] H := hP
            have hD : va_D A [(h0, .inr (9, [.ref ys, .ref yk, .ref yo, .ref yt, .int mk0, .ref yfa, .ref yfe, .int mL, .int mS, .int mM, .ref yro, .ref yhe, .ref ygr, .int mF, .int mC, .int mY, .ref yta, .int (nI (mz)), .int (nI (f2_111)), .int (nI (t2_112)), .int v2_113, .int w2_114, .ref ywa, .ref ybi, .ref ysi, .ref ynu, .ref ymo])), (yta, .inl (cI, 120, .inl tp))] := hD
            refine lv_aload_n hx hb dX9_mile_85 rfl (lv_at hl 1 rfl) ?_
            refine lv_iload_n hx hb dX9_mile_86 rfl (lv_at hl 0 rfl) ?_
            refine lv_if_eq (tgt := 99) hx hb dX9_mile_87 (by decide) (fun c_121 => absurd c_121 (by decide)) (fun c_121 => ?_)
            refine lv_iconst (v := 0) hx hb dX9_mile_90 (by decide) ?_
            refine lv_aload_n hx hb dX9_mile_91 rfl (lv_at hl 1 rfl) ?_
            refine xg hF kf_X9_275 hK hP 0 rfl rfl dX9_mile_92 ?_
            refine lv_isub hx hb dX9_mile_95 ?_
            refine lv_topi (fun x_122 ex_122 => ?_)
            refine lv_goto (tgt := 103) hx hb dX9_mile_96 (by decide) ?_
            refine xp hF kf_X9_275 tyX9_ok nmX9 hK hP hD hS 0 rfl rfl rfl rfl (Nat.le_of_ble_eq_true rfl) dX9_mile_103 (fun H locs hP hD hS => ?_)
            have hP : va_P D vwCl [(h0, .inr (9, [.ref ys, .ref yk, .ref yo, .ref yt, .int mk0, .ref yfa, .ref yfe, .int mL, .int mS, .int mM, .ref yro, .ref yhe, .ref ygr, .int mF, .int mC, .int mY, .ref yta, .int (nI (mz)), .int (nI (f2_111)), .int (nI (t2_112)), .int x_122, .int w2_114, .ref ywa, .ref ybi, .ref ysi, .ref ynu, .ref ymo])), (yta, .inl (cI, 120, .inl tp))] H := hP
            have hD : va_D A [(h0, .inr (9, [.ref ys, .ref yk, .ref yo, .ref yt, .int mk0, .ref yfa, .ref yfe, .int mL, .int mS, .int mM, .ref yro, .ref yhe, .ref ygr, .int mF, .int mC, .int mY, .ref yta, .int (nI (mz)), .int (nI (f2_111)), .int (nI (t2_112)), .int x_122, .int w2_114, .ref ywa, .ref ybi, .ref ysi, .ref ynu, .ref ymo])), (yta, .inl (cI, 120, .inl tp))] := hD
            exact W.vret hx hb hr (fun t ht hW => ⟨⟨(f2_111, t2_112, x_122, w2_114), rfl, ⟨(by first | assumption | omega), (by first | assumption | omega), (by first | assumption | omega), (by first | assumption | omega), (by first | assumption | omega), (fun h => ⟨(i_74 (i_120 h).1).1, trivial⟩)⟩, by rw [ht]; exact hP.sub [0, 1] rfl, hD.sub [0, 1] (by decide) rfl⟩, hS.F ht⟩) hS.2.2 dX9_mile_106 hlk
          · skip
            refine lv_iconst (v := (-1)) hx hb dX9_mile_71 (by decide) ?_
            refine lv_goto (tgt := 82) hx hb dX9_mile_72 (by decide) ?_
            refine xc_Vv (wr := []) hF (c_X9_number l D cI cJ cZ cS ta sa sv H.size h0 ys yk yo yt mk0 yfa yfe mL mS mM yro yhe ygr mF mC mY yta mz f2_66 t2_67 mv w2_68 ywa ybi ysi ynu ymo tp x_106 (-1) (by omega) (by omega) (by omega) (by omega) (by omega)) kv_X9_282 ⟨rfl, rfl, Nat.le_of_ble_eq_true rfl, Nat.le_of_ble_eq_true rfl⟩ ⟨Nat.le_of_ble_eq_true rfl, Nat.le_of_ble_eq_true rfl⟩ hK hN hZ hP hD hS hA [0, 1] [] rfl rfl rfl rfl (by decide) 0 rfl rfl rfl rfl hl.1 rfl (Nat.le_of_ble_eq_true rfl) dX9_mile_82 (fun u_r_123 H locs hw_r_123 hP hD hS => ?_)
            obtain ⟨f2_124, t2_125, v2_126, w2_127⟩ := u_r_123
            try dsimp only at hw_r_123
            obtain ⟨i_128, i_129, i_130, i_131, i_132, i_133⟩ := hw_r_123
            have hP : va_P D vwCl [(h0, .inr (9, [.ref ys, .ref yk, .ref yo, .ref yt, .int mk0, .ref yfa, .ref yfe, .int mL, .int mS, .int mM, .ref yro, .ref yhe, .ref ygr, .int mF, .int mC, .int mY, .ref yta, .int (nI (mz)), .int (nI (f2_124)), .int (nI (t2_125)), .int v2_126, .int w2_127, .ref ywa, .ref ybi, .ref ysi, .ref ynu, .ref ymo])), (yta, .inl (cI, 120, .inl tp))] H := hP
            have hD : va_D A [(h0, .inr (9, [.ref ys, .ref yk, .ref yo, .ref yt, .int mk0, .ref yfa, .ref yfe, .int mL, .int mS, .int mM, .ref yro, .ref yhe, .ref ygr, .int mF, .int mC, .int mY, .ref yta, .int (nI (mz)), .int (nI (f2_124)), .int (nI (t2_125)), .int v2_126, .int w2_127, .ref ywa, .ref ybi, .ref ysi, .ref ynu, .ref ymo])), (yta, .inl (cI, 120, .inl tp))] := hD
            refine lv_aload_n hx hb dX9_mile_85 rfl (lv_at hl 1 rfl) ?_
            refine lv_iload_n hx hb dX9_mile_86 rfl (lv_at hl 0 rfl) ?_
            refine lv_if_eq (tgt := 99) hx hb dX9_mile_87 (by decide) (fun c_134 => absurd c_134 (by decide)) (fun c_134 => ?_)
            refine lv_iconst (v := 0) hx hb dX9_mile_90 (by decide) ?_
            refine lv_aload_n hx hb dX9_mile_91 rfl (lv_at hl 1 rfl) ?_
            refine xg hF kf_X9_275 hK hP 0 rfl rfl dX9_mile_92 ?_
            refine lv_isub hx hb dX9_mile_95 ?_
            refine lv_topi (fun x_135 ex_135 => ?_)
            refine lv_goto (tgt := 103) hx hb dX9_mile_96 (by decide) ?_
            refine xp hF kf_X9_275 tyX9_ok nmX9 hK hP hD hS 0 rfl rfl rfl rfl (Nat.le_of_ble_eq_true rfl) dX9_mile_103 (fun H locs hP hD hS => ?_)
            have hP : va_P D vwCl [(h0, .inr (9, [.ref ys, .ref yk, .ref yo, .ref yt, .int mk0, .ref yfa, .ref yfe, .int mL, .int mS, .int mM, .ref yro, .ref yhe, .ref ygr, .int mF, .int mC, .int mY, .ref yta, .int (nI (mz)), .int (nI (f2_124)), .int (nI (t2_125)), .int x_135, .int w2_127, .ref ywa, .ref ybi, .ref ysi, .ref ynu, .ref ymo])), (yta, .inl (cI, 120, .inl tp))] H := hP
            have hD : va_D A [(h0, .inr (9, [.ref ys, .ref yk, .ref yo, .ref yt, .int mk0, .ref yfa, .ref yfe, .int mL, .int mS, .int mM, .ref yro, .ref yhe, .ref ygr, .int mF, .int mC, .int mY, .ref yta, .int (nI (mz)), .int (nI (f2_124)), .int (nI (t2_125)), .int x_135, .int w2_127, .ref ywa, .ref ybi, .ref ysi, .ref ynu, .ref ymo])), (yta, .inl (cI, 120, .inl tp))] := hD
            exact W.vret hx hb hr (fun t ht hW => ⟨⟨(f2_124, t2_125, x_135, w2_127), rfl, ⟨(by first | assumption | omega), (by first | assumption | omega), (by first | assumption | omega), (by first | assumption | omega), (by first | assumption | omega), (fun h => ⟨(i_74 (i_133 h).1).1, trivial⟩)⟩, by rw [ht]; exact hP.sub [0, 1] rfl, hD.sub [0, 1] (by decide) rfl⟩, hS.F ht⟩) hS.2.2 dX9_mile_106 hlk
    · skip
      refine lv_bipush (v := 45) hx hb dX9_mile_15 (by decide) ?_
      refine lv_icmp_ne (tgt := 24) hx hb dX9_mile_17 (by decide) (fun c_136 => ?_) (fun c_136 => absurd c_136 (by decide))
      refine lv_iconst (v := 0) hx hb dX9_mile_24 (by decide) ?_
      refine lv_istore_n (lv' := [(3, .int 0), (0, .ref h0), (1, .int p0), (2, .int p1)]) hx hb dX9_mile_25 rfl hl (by decide) rfl (fun ls hl => ?_)
      refine lv_iload_n hx hb dX9_mile_26 rfl (lv_at hl 0 rfl) ?_
      refine lv_if_eq (tgt := 35) hx hb dX9_mile_27 (by decide) (fun c_137 => ?_) (fun c_137 => absurd (by decide) c_137)
      refine lv_aload_n hx hb dX9_mile_35 rfl (lv_at hl 1 rfl) ?_
      refine lv_iload_n hx hb dX9_mile_36 rfl (lv_at hl 0 rfl) ?_
      refine lv_if_eq (tgt := 54) hx hb dX9_mile_37 (by decide) (fun c_138 => ?_) (fun c_138 => absurd (by decide) c_138)
      refine lv_iload_n hx hb dX9_mile_54 rfl (lv_at hl 2 rfl) ?_
      refine lv_if_ge (tgt := 62) hx hb dX9_mile_55 (by decide) (fun c_139 => ?_) (fun c_139 => ?_)
      · skip
        refine lv_iload_n hx hb dX9_mile_62 rfl (lv_at hl 2 rfl) ?_
        refine lv_iload_n hx hb dX9_mile_63 rfl (lv_at hl 0 rfl) ?_
        refine lv_if_eq (tgt := 81) hx hb dX9_mile_64 (by decide) (fun c_140 => ?_) (fun c_140 => absurd (by decide) c_140)
        refine lv_iload_n hx hb dX9_mile_81 rfl (lv_at hl 3 rfl) ?_
        refine xc_Vv (wr := []) hF (c_X9_number l D cI cJ cZ cS ta sa sv s.heap.size h0 ys yk yo yt mk0 yfa yfe mL mS mM yro yhe ygr mF mC mY yta mz mf mt mv mw ywa ybi ysi ynu ymo tp p0 p1 (by omega) (by omega) (by omega) (by omega) (by omega)) kv_X9_282 ⟨rfl, rfl, Nat.le_of_ble_eq_true rfl, Nat.le_of_ble_eq_true rfl⟩ ⟨Nat.le_of_ble_eq_true rfl, Nat.le_of_ble_eq_true rfl⟩ hK hN hZ hP hD hS hA [0, 1] [] rfl rfl rfl rfl (by decide) 0 rfl rfl rfl rfl hl.1 rfl (Nat.le_of_ble_eq_true rfl) dX9_mile_82 (fun u_r_141 H locs hw_r_141 hP hD hS => ?_)
        obtain ⟨f2_142, t2_143, v2_144, w2_145⟩ := u_r_141
        try dsimp only at hw_r_141
        obtain ⟨i_146, i_147, i_148, i_149, i_150, i_151⟩ := hw_r_141
        have hP : va_P D vwCl [(h0, .inr (9, [.ref ys, .ref yk, .ref yo, .ref yt, .int mk0, .ref yfa, .ref yfe, .int mL, .int mS, .int mM, .ref yro, .ref yhe, .ref ygr, .int mF, .int mC, .int mY, .ref yta, .int (nI (mz)), .int (nI (f2_142)), .int (nI (t2_143)), .int v2_144, .int w2_145, .ref ywa, .ref ybi, .ref ysi, .ref ynu, .ref ymo])), (yta, .inl (cI, 120, .inl tp))] H := hP
        have hD : va_D A [(h0, .inr (9, [.ref ys, .ref yk, .ref yo, .ref yt, .int mk0, .ref yfa, .ref yfe, .int mL, .int mS, .int mM, .ref yro, .ref yhe, .ref ygr, .int mF, .int mC, .int mY, .ref yta, .int (nI (mz)), .int (nI (f2_142)), .int (nI (t2_143)), .int v2_144, .int w2_145, .ref ywa, .ref ybi, .ref ysi, .ref ynu, .ref ymo])), (yta, .inl (cI, 120, .inl tp))] := hD
        refine lv_aload_n hx hb dX9_mile_85 rfl (lv_at hl 1 rfl) ?_
        refine lv_iload_n hx hb dX9_mile_86 rfl (lv_at hl 0 rfl) ?_
        refine lv_if_eq (tgt := 99) hx hb dX9_mile_87 (by decide) (fun c_152 => ?_) (fun c_152 => absurd (by decide) c_152)
        refine lv_aload_n hx hb dX9_mile_99 rfl (lv_at hl 1 rfl) ?_
        refine xg hF kf_X9_275 hK hP 0 rfl rfl dX9_mile_100 ?_
        refine xp hF kf_X9_275 tyX9_ok nmX9 hK hP hD hS 0 rfl rfl rfl rfl (Nat.le_of_ble_eq_true rfl) dX9_mile_103 (fun H locs hP hD hS => ?_)
        have hP : va_P D vwCl [(h0, .inr (9, [.ref ys, .ref yk, .ref yo, .ref yt, .int mk0, .ref yfa, .ref yfe, .int mL, .int mS, .int mM, .ref yro, .ref yhe, .ref ygr, .int mF, .int mC, .int mY, .ref yta, .int (nI (mz)), .int (nI (f2_142)), .int (nI (t2_143)), .int v2_144, .int w2_145, .ref ywa, .ref ybi, .ref ysi, .ref ynu, .ref ymo])), (yta, .inl (cI, 120, .inl tp))] H := hP
        have hD : va_D A [(h0, .inr (9, [.ref ys, .ref yk, .ref yo, .ref yt, .int mk0, .ref yfa, .ref yfe, .int mL, .int mS, .int mM, .ref yro, .ref yhe, .ref ygr, .int mF, .int mC, .int mY, .ref yta, .int (nI (mz)), .int (nI (f2_142)), .int (nI (t2_143)), .int v2_144, .int w2_145, .ref ywa, .ref ybi, .ref ysi, .ref ynu, .ref ymo])), (yta, .inl (cI, 120, .inl tp))] := hD
        exact W.vret hx hb hr (fun t ht hW => ⟨⟨(f2_142, t2_143, v2_144, w2_145), rfl, ⟨(by first | assumption | omega), (by first | assumption | omega), (by first | assumption | omega), (by first | assumption | omega), (by first | assumption | omega), (fun h => ⟨(i_151 h).1, trivial⟩)⟩, by rw [ht]; exact hP.sub [0, 1] rfl, hD.sub [0, 1] (by decide) rfl⟩, hS.F ht⟩) hS.2.2 dX9_mile_106 hlk
      · skip
        refine lv_iconst (v := 0) hx hb dX9_mile_58 (by decide) ?_
        refine lv_goto (tgt := 63) hx hb dX9_mile_59 (by decide) ?_
        refine lv_iload_n hx hb dX9_mile_63 rfl (lv_at hl 0 rfl) ?_
        refine lv_if_eq (tgt := 81) hx hb dX9_mile_64 (by decide) (fun c_153 => ?_) (fun c_153 => absurd (by decide) c_153)
        refine lv_iload_n hx hb dX9_mile_81 rfl (lv_at hl 3 rfl) ?_
        refine xc_Vv (wr := []) hF (c_X9_number l D cI cJ cZ cS ta sa sv s.heap.size h0 ys yk yo yt mk0 yfa yfe mL mS mM yro yhe ygr mF mC mY yta mz mf mt mv mw ywa ybi ysi ynu ymo tp 0 p1 (by omega) (by omega) (by omega) (by omega) (by omega)) kv_X9_282 ⟨rfl, rfl, Nat.le_of_ble_eq_true rfl, Nat.le_of_ble_eq_true rfl⟩ ⟨Nat.le_of_ble_eq_true rfl, Nat.le_of_ble_eq_true rfl⟩ hK hN hZ hP hD hS hA [0, 1] [] rfl rfl rfl rfl (by decide) 0 rfl rfl rfl rfl hl.1 rfl (Nat.le_of_ble_eq_true rfl) dX9_mile_82 (fun u_r_154 H locs hw_r_154 hP hD hS => ?_)
        obtain ⟨f2_155, t2_156, v2_157, w2_158⟩ := u_r_154
        try dsimp only at hw_r_154
        obtain ⟨i_159, i_160, i_161, i_162, i_163, i_164⟩ := hw_r_154
        have hP : va_P D vwCl [(h0, .inr (9, [.ref ys, .ref yk, .ref yo, .ref yt, .int mk0, .ref yfa, .ref yfe, .int mL, .int mS, .int mM, .ref yro, .ref yhe, .ref ygr, .int mF, .int mC, .int mY, .ref yta, .int (nI (mz)), .int (nI (f2_155)), .int (nI (t2_156)), .int v2_157, .int w2_158, .ref ywa, .ref ybi, .ref ysi, .ref ynu, .ref ymo])), (yta, .inl (cI, 120, .inl tp))] H := hP
        have hD : va_D A [(h0, .inr (9, [.ref ys, .ref yk, .ref yo, .ref yt, .int mk0, .ref yfa, .ref yfe, .int mL, .int mS, .int mM, .ref yro, .ref yhe, .ref ygr, .int mF, .int mC, .int mY, .ref yta, .int (nI (mz)), .int (nI (f2_155)), .int (nI (t2_156)), .int v2_157, .int w2_158, .ref ywa, .ref ybi, .ref ysi, .ref ynu, .ref ymo])), (yta, .inl (cI, 120, .inl tp))] := hD
        refine lv_aload_n hx hb dX9_mile_85 rfl (lv_at hl 1 rfl) ?_
        refine lv_iload_n hx hb dX9_mile_86 rfl (lv_at hl 0 rfl) ?_
        refine lv_if_eq (tgt := 99) hx hb dX9_mile_87 (by decide) (fun c_165 => ?_) (fun c_165 => absurd (by decide) c_165)
        refine lv_aload_n hx hb dX9_mile_99 rfl (lv_at hl 1 rfl) ?_
        refine xg hF kf_X9_275 hK hP 0 rfl rfl dX9_mile_100 ?_
        refine xp hF kf_X9_275 tyX9_ok nmX9 hK hP hD hS 0 rfl rfl rfl rfl (Nat.le_of_ble_eq_true rfl) dX9_mile_103 (fun H locs hP hD hS => ?_)
        have hP : va_P D vwCl [(h0, .inr (9, [.ref ys, .ref yk, .ref yo, .ref yt, .int mk0, .ref yfa, .ref yfe, .int mL, .int mS, .int mM, .ref yro, .ref yhe, .ref ygr, .int mF, .int mC, .int mY, .ref yta, .int (nI (mz)), .int (nI (f2_155)), .int (nI (t2_156)), .int v2_157, .int w2_158, .ref ywa, .ref ybi, .ref ysi, .ref ynu, .ref ymo])), (yta, .inl (cI, 120, .inl tp))] H := hP
        have hD : va_D A [(h0, .inr (9, [.ref ys, .ref yk, .ref yo, .ref yt, .int mk0, .ref yfa, .ref yfe, .int mL, .int mS, .int mM, .ref yro, .ref yhe, .ref ygr, .int mF, .int mC, .int mY, .ref yta, .int (nI (mz)), .int (nI (f2_155)), .int (nI (t2_156)), .int v2_157, .int w2_158, .ref ywa, .ref ybi, .ref ysi, .ref ynu, .ref ymo])), (yta, .inl (cI, 120, .inl tp))] := hD
        exact W.vret hx hb hr (fun t ht hW => ⟨⟨(f2_155, t2_156, v2_157, w2_158), rfl, ⟨(by first | assumption | omega), (by first | assumption | omega), (by first | assumption | omega), (by first | assumption | omega), (by first | assumption | omega), (fun h => ⟨(i_164 h).1, trivial⟩)⟩, by rw [ht]; exact hP.sub [0, 1] rfl, hD.sub [0, 1] (by decide) rfl⟩, hS.F ht⟩) hS.2.2 dX9_mile_106 hlk
set_option maxHeartbeats 4000000 in
set_option maxRecDepth 100000 in
theorem c_X9_mileE (l : Launch) (D : va_G) (cI cJ cZ cS : ClassId) (ta : Nat) (sa sv : Nat → Nat) (sz : Nat) (h0 : Nat) (ys : Nat) (yk : Nat) (yo : Nat) (yt : Nat) (mk0 : Int32) (yfa : Nat) (yfe : Nat) (mL : Int32) (mS : Int32) (mM : Int32) (yro : Nat) (yhe : Nat) (ygr : Nat) (mF : Int32) (mC : Int32) (mY : Int32) (yta : Nat) (mz : Nat) (mf : Nat) (mt : Nat) (mv : Int32) (mw : Int32) (ywa : Nat) (ybi : Nat) (ysi : Nat) (ynu : Nat) (ymo : Nat) (tp : Nat → Int32) (hz : mz ≤ 120) (k1 : mf ≤ mz) (k2 : mt ≤ mz) (k3 : mf ≤ mt) (k4 : mf < mt ∨ mf = mz) : Met l yX9_mile (Cond.code yX9_mile cX9_mile 4 none :: wsU) ({ frames := 5, cells := 0, slots := 0, locals := 113 }) (va_Pc [.ref h0, .int (-99), .int 999] (XW D (xT cI cJ cZ cS) ta sa sv [(h0, .inr (9, [.ref ys, .ref yk, .ref yo, .ref yt, .int mk0, .ref yfa, .ref yfe, .int mL, .int mS, .int mM, .ref yro, .ref yhe, .ref ygr, .int mF, .int mC, .int mY, .ref yta, .int (nI (mz)), .int (nI (mf)), .int (nI (mt)), .int mv, .int mw, .ref ywa, .ref ybi, .ref ysi, .ref ynu, .ref ymo])), (yta, .inl (cI, 120, .inl tp))] sz)) (XQv (fun (u : Nat × Nat × Int32 × Int32) => match u with | (f2, t2, v2, w2) => (f2 ≤ mz) ∧ (t2 ≤ mz) ∧ (f2 ≤ t2) ∧ (f2 < t2 ∨ f2 = mz) ∧ (mf ≤ f2) ∧ (w2 = 0 → mw = 0 ∧ -99 ≤ v2.toInt ∧ v2.toInt ≤ 999)) D (fun (u : Nat × Nat × Int32 × Int32) => match u with | (f2, t2, v2, w2) => [(h0, .inr (9, [.ref ys, .ref yk, .ref yo, .ref yt, .int mk0, .ref yfa, .ref yfe, .int mL, .int mS, .int mM, .ref yro, .ref yhe, .ref ygr, .int mF, .int mC, .int mY, .ref yta, .int (nI (mz)), .int (nI (f2)), .int (nI (t2)), .int v2, .int w2, .ref ywa, .ref ybi, .ref ysi, .ref ynu, .ref ymo])), (yta, .inl (cI, 120, .inl tp))]) (va_A [(h0, .inr (9, [.ref ys, .ref yk, .ref yo, .ref yt, .int mk0, .ref yfa, .ref yfe, .int mL, .int mS, .int mM, .ref yro, .ref yhe, .ref ygr, .int mF, .int mC, .int mY, .ref yta, .int (nI (mz)), .int (nI (mf)), .int (nI (mt)), .int mv, .int mw, .ref ywa, .ref ybi, .ref ysi, .ref ynu, .ref ymo])), (yta, .inl (cI, 120, .inl tp))] sz)) 0 0 (va_A [(h0, .inr (9, [.ref ys, .ref yk, .ref yo, .ref yt, .int mk0, .ref yfa, .ref yfe, .int mL, .int mS, .int mM, .ref yro, .ref yhe, .ref ygr, .int mF, .int mC, .int mY, .ref yta, .int (nI (mz)), .int (nI (mf)), .int (nI (mt)), .int mv, .int mw, .ref ywa, .ref ybi, .ref ysi, .ref ynu, .ref ymo])), (yta, .inl (cI, 120, .inl tp))] sz) := by
  refine xh (QA := fun A => XQv (fun (u : Nat × Nat × Int32 × Int32) => match u with | (f2, t2, v2, w2) => (f2 ≤ mz) ∧ (t2 ≤ mz) ∧ (f2 ≤ t2) ∧ (f2 < t2 ∨ f2 = mz) ∧ (mf ≤ f2) ∧ (w2 = 0 → mw = 0 ∧ -99 ≤ v2.toInt ∧ v2.toInt ≤ 999)) D (fun (u : Nat × Nat × Int32 × Int32) => match u with | (f2, t2, v2, w2) => [(h0, .inr (9, [.ref ys, .ref yk, .ref yo, .ref yt, .int mk0, .ref yfa, .ref yfe, .int mL, .int mS, .int mM, .ref yro, .ref yhe, .ref ygr, .int mF, .int mC, .int mY, .ref yta, .int (nI (mz)), .int (nI (f2)), .int (nI (t2)), .int v2, .int w2, .ref ywa, .ref ybi, .ref ysi, .ref ynu, .ref ymo])), (yta, .inl (cI, 120, .inl tp))]) A) (fr := fun A => A) (by decide) (Nat.le_of_ble_eq_true rfl) ?_
  intro p e s m below meth c ls A hF hr hlk hin hsz hP hK hD hN hZ hA hS hl
  have hF : CallFix p m c cX9_mile 4 s _ _ RX9 := hF
  have hx := hF.1
  have hb := hF.2.1
  have hml := hF.2.2.1
  have hown := hF.2.2.2.1
  have hu : ∀ w ∈ wsU, w.before _ s = true := fun w h => hF.2.2.2.2 w (List.mem_cons_of_mem _ h)
  have hl : lv_has ls 4 [(0, .ref h0), (1, .int (-99)), (2, .int 999)] := hl
  refine lv_aload_n hx hb dX9_mile_0 rfl (lv_at hl 0 rfl) ?_
  refine xg hF kf_X9_266 hK hP 0 rfl rfl dX9_mile_1 ?_
  refine lv_if_ne (tgt := 24) hx hb dX9_mile_4 (by decide) (fun c_1 => ?_) (fun c_1 => ?_)
  · skip
    refine lv_iconst (v := 0) hx hb dX9_mile_24 (by decide) ?_
    refine lv_istore_n (lv' := [(3, .int 0), (0, .ref h0), (1, .int (-99)), (2, .int 999)]) hx hb dX9_mile_25 rfl hl (by decide) rfl (fun ls hl => ?_)
    refine lv_iload_n hx hb dX9_mile_26 rfl (lv_at hl 0 rfl) ?_
    refine lv_if_eq (tgt := 35) hx hb dX9_mile_27 (by decide) (fun c_2 => ?_) (fun c_2 => absurd (by decide) c_2)
    refine lv_aload_n hx hb dX9_mile_35 rfl (lv_at hl 1 rfl) ?_
    refine lv_iload_n hx hb dX9_mile_36 rfl (lv_at hl 0 rfl) ?_
    refine lv_if_eq (tgt := 54) hx hb dX9_mile_37 (by decide) (fun c_3 => ?_) (fun c_3 => absurd (by decide) c_3)
    refine lv_iload_n hx hb dX9_mile_54 rfl (lv_at hl 2 rfl) ?_
    refine lv_if_ge (tgt := 62) hx hb dX9_mile_55 (by decide) (fun c_4 => absurd c_4 (by decide)) (fun c_4 => ?_)
    refine lv_iconst (v := 0) hx hb dX9_mile_58 (by decide) ?_
    refine lv_goto (tgt := 63) hx hb dX9_mile_59 (by decide) ?_
    refine lv_iload_n hx hb dX9_mile_63 rfl (lv_at hl 0 rfl) ?_
    refine lv_if_eq (tgt := 81) hx hb dX9_mile_64 (by decide) (fun c_5 => ?_) (fun c_5 => absurd (by decide) c_5)
    refine lv_iload_n hx hb dX9_mile_81 rfl (lv_at hl 3 rfl) ?_
    refine xc_Vv (wr := []) hF (c_X9_number l D cI cJ cZ cS ta sa sv s.heap.size h0 ys yk yo yt mk0 yfa yfe mL mS mM yro yhe ygr mF mC mY yta mz mf mt mv mw ywa ybi ysi ynu ymo tp 0 999 (by omega) (by omega) (by omega) (by omega) (by omega)) kv_X9_282 ⟨rfl, rfl, Nat.le_of_ble_eq_true rfl, Nat.le_of_ble_eq_true rfl⟩ ⟨Nat.le_of_ble_eq_true rfl, Nat.le_of_ble_eq_true rfl⟩ hK hN hZ hP hD hS hA [0, 1] [] rfl rfl rfl rfl (by decide) 0 rfl rfl rfl rfl hl.1 rfl (Nat.le_of_ble_eq_true rfl) dX9_mile_82 (fun u_r_6 H locs hw_r_6 hP hD hS => ?_)
    obtain ⟨f2_7, t2_8, v2_9, w2_10⟩ := u_r_6
    try dsimp only at hw_r_6
    obtain ⟨i_11, i_12, i_13, i_14, i_15, i_16⟩ := hw_r_6
    have hP : va_P D vwCl [(h0, .inr (9, [.ref ys, .ref yk, .ref yo, .ref yt, .int mk0, .ref yfa, .ref yfe, .int mL, .int mS, .int mM, .ref yro, .ref yhe, .ref ygr, .int mF, .int mC, .int mY, .ref yta, .int (nI (mz)), .int (nI (f2_7)), .int (nI (t2_8)), .int v2_9, .int w2_10, .ref ywa, .ref ybi, .ref ysi, .ref ynu, .ref ymo])), (yta, .inl (cI, 120, .inl tp))] H := hP
    have hD : va_D A [(h0, .inr (9, [.ref ys, .ref yk, .ref yo, .ref yt, .int mk0, .ref yfa, .ref yfe, .int mL, .int mS, .int mM, .ref yro, .ref yhe, .ref ygr, .int mF, .int mC, .int mY, .ref yta, .int (nI (mz)), .int (nI (f2_7)), .int (nI (t2_8)), .int v2_9, .int w2_10, .ref ywa, .ref ybi, .ref ysi, .ref ynu, .ref ymo])), (yta, .inl (cI, 120, .inl tp))] := hD
    refine lv_aload_n hx hb dX9_mile_85 rfl (lv_at hl 1 rfl) ?_
    refine lv_iload_n hx hb dX9_mile_86 rfl (lv_at hl 0 rfl) ?_
    refine lv_if_eq (tgt := 99) hx hb dX9_mile_87 (by decide) (fun c_17 => ?_) (fun c_17 => absurd (by decide) c_17)
    refine lv_aload_n hx hb dX9_mile_99 rfl (lv_at hl 1 rfl) ?_
    refine xg hF kf_X9_275 hK hP 0 rfl rfl dX9_mile_100 ?_
    refine xp hF kf_X9_275 tyX9_ok nmX9 hK hP hD hS 0 rfl rfl rfl rfl (Nat.le_of_ble_eq_true rfl) dX9_mile_103 (fun H locs hP hD hS => ?_)
    have hP : va_P D vwCl [(h0, .inr (9, [.ref ys, .ref yk, .ref yo, .ref yt, .int mk0, .ref yfa, .ref yfe, .int mL, .int mS, .int mM, .ref yro, .ref yhe, .ref ygr, .int mF, .int mC, .int mY, .ref yta, .int (nI (mz)), .int (nI (f2_7)), .int (nI (t2_8)), .int v2_9, .int w2_10, .ref ywa, .ref ybi, .ref ysi, .ref ynu, .ref ymo])), (yta, .inl (cI, 120, .inl tp))] H := hP
    have hD : va_D A [(h0, .inr (9, [.ref ys, .ref yk, .ref yo, .ref yt, .int mk0, .ref yfa, .ref yfe, .int mL, .int mS, .int mM, .ref yro, .ref yhe, .ref ygr, .int mF, .int mC, .int mY, .ref yta, .int (nI (mz)), .int (nI (f2_7)), .int (nI (t2_8)), .int v2_9, .int w2_10, .ref ywa, .ref ybi, .ref ysi, .ref ynu, .ref ymo])), (yta, .inl (cI, 120, .inl tp))] := hD
    exact W.vret hx hb hr (fun t ht hW => ⟨⟨(f2_7, t2_8, v2_9, w2_10), rfl, ⟨(by first | assumption | omega), (by first | assumption | omega), (by first | assumption | omega), (by first | assumption | omega), (by first | assumption | omega), (fun h => ⟨(i_16 h).1, x_0999 (i_16 h).2.1 (i_16 h).2.2⟩)⟩, by rw [ht]; exact hP.sub [0, 1] rfl, hD.sub [0, 1] (by decide) rfl⟩, hS.F ht⟩) hS.2.2 dX9_mile_106 hlk
  · skip
    refine lv_aload_n hx hb dX9_mile_7 rfl (lv_at hl 0 rfl) ?_
    refine lv_aload_n hx hb dX9_mile_8 rfl (lv_at hl 0 rfl) ?_
    refine xg hF kf_X9_254 hK hP 0 rfl rfl dX9_mile_9 ?_
    refine xc_Vr hF (c_X9_byteAt l D cI cJ cZ cS ta sa sv s.heap.size h0 ys yk yo yt mk0 yfa yfe mL mS mM yro yhe ygr mF mC mY yta mz mf mt mv mw ywa ybi ysi ynu ymo tp mf (by omega) (by omega)) kv_X9_257 ⟨rfl, rfl, Nat.le_of_ble_eq_true rfl, Nat.le_of_ble_eq_true rfl⟩ ⟨Nat.le_of_ble_eq_true rfl, Nat.le_of_ble_eq_true rfl⟩ hK hN hZ hP hD hS hA [0, 1] rfl rfl 0 rfl rfl rfl rfl hl.1 rfl (Nat.le_of_ble_eq_true rfl) dX9_mile_12 (fun r_18 hw_r_18 => ?_)
    rcases hw_r_18 with ⟨rfl, h_19⟩ | ⟨rfl, h_20⟩
    · skip
      refine lv_bipush (v := 45) hx hb dX9_mile_15 (by decide) ?_
      refine lv_icmp_ne (tgt := 24) hx hb dX9_mile_17 (by decide) (fun c_21 => ?_) (fun c_21 => ?_)
      · skip
        refine lv_iconst (v := 0) hx hb dX9_mile_24 (by decide) ?_
        refine lv_istore_n (lv' := [(3, .int 0), (0, .ref h0), (1, .int (-99)), (2, .int 999)]) hx hb dX9_mile_25 rfl hl (by decide) rfl (fun ls hl => ?_)
        refine lv_iload_n hx hb dX9_mile_26 rfl (lv_at hl 0 rfl) ?_
        refine lv_if_eq (tgt := 35) hx hb dX9_mile_27 (by decide) (fun c_22 => ?_) (fun c_22 => absurd (by decide) c_22)
        refine lv_aload_n hx hb dX9_mile_35 rfl (lv_at hl 1 rfl) ?_
        refine lv_iload_n hx hb dX9_mile_36 rfl (lv_at hl 0 rfl) ?_
        refine lv_if_eq (tgt := 54) hx hb dX9_mile_37 (by decide) (fun c_23 => ?_) (fun c_23 => absurd (by decide) c_23)
        refine lv_iload_n hx hb dX9_mile_54 rfl (lv_at hl 2 rfl) ?_
        refine lv_if_ge (tgt := 62) hx hb dX9_mile_55 (by decide) (fun c_24 => absurd c_24 (by decide)) (fun c_24 => ?_)
        refine lv_iconst (v := 0) hx hb dX9_mile_58 (by decide) ?_
        refine lv_goto (tgt := 63) hx hb dX9_mile_59 (by decide) ?_
        refine lv_iload_n hx hb dX9_mile_63 rfl (lv_at hl 0 rfl) ?_
        refine lv_if_eq (tgt := 81) hx hb dX9_mile_64 (by decide) (fun c_25 => ?_) (fun c_25 => absurd (by decide) c_25)
        refine lv_iload_n hx hb dX9_mile_81 rfl (lv_at hl 3 rfl) ?_
        refine xc_Vv (wr := []) hF (c_X9_number l D cI cJ cZ cS ta sa sv s.heap.size h0 ys yk yo yt mk0 yfa yfe mL mS mM yro yhe ygr mF mC mY yta mz mf mt mv mw ywa ybi ysi ynu ymo tp 0 999 (by omega) (by omega) (by omega) (by omega) (by omega)) kv_X9_282 ⟨rfl, rfl, Nat.le_of_ble_eq_true rfl, Nat.le_of_ble_eq_true rfl⟩ ⟨Nat.le_of_ble_eq_true rfl, Nat.le_of_ble_eq_true rfl⟩ hK hN hZ hP hD hS hA [0, 1] [] rfl rfl rfl rfl (by decide) 0 rfl rfl rfl rfl hl.1 rfl (Nat.le_of_ble_eq_true rfl) dX9_mile_82 (fun u_r_26 H locs hw_r_26 hP hD hS => ?_)
        obtain ⟨f2_27, t2_28, v2_29, w2_30⟩ := u_r_26
        try dsimp only at hw_r_26
        obtain ⟨i_31, i_32, i_33, i_34, i_35, i_36⟩ := hw_r_26
        have hP : va_P D vwCl [(h0, .inr (9, [.ref ys, .ref yk, .ref yo, .ref yt, .int mk0, .ref yfa, .ref yfe, .int mL, .int mS, .int mM, .ref yro, .ref yhe, .ref ygr, .int mF, .int mC, .int mY, .ref yta, .int (nI (mz)), .int (nI (f2_27)), .int (nI (t2_28)), .int v2_29, .int w2_30, .ref ywa, .ref ybi, .ref ysi, .ref ynu, .ref ymo])), (yta, .inl (cI, 120, .inl tp))] H := hP
        have hD : va_D A [(h0, .inr (9, [.ref ys, .ref yk, .ref yo, .ref yt, .int mk0, .ref yfa, .ref yfe, .int mL, .int mS, .int mM, .ref yro, .ref yhe, .ref ygr, .int mF, .int mC, .int mY, .ref yta, .int (nI (mz)), .int (nI (f2_27)), .int (nI (t2_28)), .int v2_29, .int w2_30, .ref ywa, .ref ybi, .ref ysi, .ref ynu, .ref ymo])), (yta, .inl (cI, 120, .inl tp))] := hD
        refine lv_aload_n hx hb dX9_mile_85 rfl (lv_at hl 1 rfl) ?_
        refine lv_iload_n hx hb dX9_mile_86 rfl (lv_at hl 0 rfl) ?_
        refine lv_if_eq (tgt := 99) hx hb dX9_mile_87 (by decide) (fun c_37 => ?_) (fun c_37 => absurd (by decide) c_37)
        refine lv_aload_n hx hb dX9_mile_99 rfl (lv_at hl 1 rfl) ?_
        refine xg hF kf_X9_275 hK hP 0 rfl rfl dX9_mile_100 ?_
        refine xp hF kf_X9_275 tyX9_ok nmX9 hK hP hD hS 0 rfl rfl rfl rfl (Nat.le_of_ble_eq_true rfl) dX9_mile_103 (fun H locs hP hD hS => ?_)
        have hP : va_P D vwCl [(h0, .inr (9, [.ref ys, .ref yk, .ref yo, .ref yt, .int mk0, .ref yfa, .ref yfe, .int mL, .int mS, .int mM, .ref yro, .ref yhe, .ref ygr, .int mF, .int mC, .int mY, .ref yta, .int (nI (mz)), .int (nI (f2_27)), .int (nI (t2_28)), .int v2_29, .int w2_30, .ref ywa, .ref ybi, .ref ysi, .ref ynu, .ref ymo])), (yta, .inl (cI, 120, .inl tp))] H := hP
        have hD : va_D A [(h0, .inr (9, [.ref ys, .ref yk, .ref yo, .ref yt, .int mk0, .ref yfa, .ref yfe, .int mL, .int mS, .int mM, .ref yro, .ref yhe, .ref ygr, .int mF, .int mC, .int mY, .ref yta, .int (nI (mz)), .int (nI (f2_27)), .int (nI (t2_28)), .int v2_29, .int w2_30, .ref ywa, .ref ybi, .ref ysi, .ref ynu, .ref ymo])), (yta, .inl (cI, 120, .inl tp))] := hD
        exact W.vret hx hb hr (fun t ht hW => ⟨⟨(f2_27, t2_28, v2_29, w2_30), rfl, ⟨(by first | assumption | omega), (by first | assumption | omega), (by first | assumption | omega), (by first | assumption | omega), (by first | assumption | omega), (fun h => ⟨(i_36 h).1, x_0999 (i_36 h).2.1 (i_36 h).2.2⟩)⟩, by rw [ht]; exact hP.sub [0, 1] rfl, hD.sub [0, 1] (by decide) rfl⟩, hS.F ht⟩) hS.2.2 dX9_mile_106 hlk
      · skip
        refine lv_iconst (v := 1) hx hb dX9_mile_20 (by decide) ?_
        refine lv_goto (tgt := 25) hx hb dX9_mile_21 (by decide) ?_
        refine lv_istore_n (lv' := [(3, .int 1), (0, .ref h0), (1, .int (-99)), (2, .int 999)]) hx hb dX9_mile_25 rfl hl (by decide) rfl (fun ls hl => ?_)
        refine lv_iload_n hx hb dX9_mile_26 rfl (lv_at hl 0 rfl) ?_
        refine lv_if_eq (tgt := 35) hx hb dX9_mile_27 (by decide) (fun c_38 => absurd c_38 (by decide)) (fun c_38 => ?_)
        refine lv_aload_n hx hb dX9_mile_30 rfl (lv_at hl 1 rfl) ?_
        refine lv_iconst (v := 1) hx hb dX9_mile_31 (by decide) ?_
        refine xc_Vv (wr := []) hF (c_X9_needs l D cI cJ cZ cS ta sa sv s.heap.size h0 ys yk yo yt mk0 yfa yfe mL mS mM yro yhe ygr mF mC mY yta mz mf mt mv mw ywa ybi ysi ynu ymo tp 1 (by omega) (by omega) (by omega) (by omega) (by omega)) kv_X9_278 ⟨rfl, rfl, Nat.le_of_ble_eq_true rfl, Nat.le_of_ble_eq_true rfl⟩ ⟨Nat.le_of_ble_eq_true rfl, Nat.le_of_ble_eq_true rfl⟩ hK hN hZ hP hD hS hA [0, 1] [] rfl rfl rfl rfl (by decide) 0 rfl rfl rfl rfl hl.1 rfl (Nat.le_of_ble_eq_true rfl) dX9_mile_32 (fun u_r_39 H locs hw_r_39 hP hD hS => ?_)
        obtain ⟨f2_40, t2_41, w2_42⟩ := u_r_39
        try dsimp only at hw_r_39
        obtain ⟨i_43, i_44, i_45, i_46, i_47, i_48⟩ := hw_r_39
        have hP : va_P D vwCl [(h0, .inr (9, [.ref ys, .ref yk, .ref yo, .ref yt, .int mk0, .ref yfa, .ref yfe, .int mL, .int mS, .int mM, .ref yro, .ref yhe, .ref ygr, .int mF, .int mC, .int mY, .ref yta, .int (nI (mz)), .int (nI (f2_40)), .int (nI (t2_41)), .int mv, .int w2_42, .ref ywa, .ref ybi, .ref ysi, .ref ynu, .ref ymo])), (yta, .inl (cI, 120, .inl tp))] H := hP
        have hD : va_D A [(h0, .inr (9, [.ref ys, .ref yk, .ref yo, .ref yt, .int mk0, .ref yfa, .ref yfe, .int mL, .int mS, .int mM, .ref yro, .ref yhe, .ref ygr, .int mF, .int mC, .int mY, .ref yta, .int (nI (mz)), .int (nI (f2_40)), .int (nI (t2_41)), .int mv, .int w2_42, .ref ywa, .ref ybi, .ref ysi, .ref ynu, .ref ymo])), (yta, .inl (cI, 120, .inl tp))] := hD
        refine lv_aload_n hx hb dX9_mile_35 rfl (lv_at hl 1 rfl) ?_
        refine lv_iload_n hx hb dX9_mile_36 rfl (lv_at hl 0 rfl) ?_
        refine lv_if_eq (tgt := 54) hx hb dX9_mile_37 (by decide) (fun c_49 => absurd c_49 (by decide)) (fun c_49 => ?_)
        refine lv_iload_n hx hb dX9_mile_40 rfl (lv_at hl 3 rfl) ?_
        refine lv_if_ge (tgt := 50) hx hb dX9_mile_41 (by decide) (fun c_50 => ?_) (fun c_50 => absurd (by decide) c_50)
        refine lv_iconst (v := 0) hx hb dX9_mile_50 (by decide) ?_
        refine lv_goto (tgt := 63) hx hb dX9_mile_51 (by decide) ?_
        refine lv_iload_n hx hb dX9_mile_63 rfl (lv_at hl 0 rfl) ?_
        refine lv_if_eq (tgt := 81) hx hb dX9_mile_64 (by decide) (fun c_51 => absurd c_51 (by decide)) (fun c_51 => ?_)
        refine lv_iload_n hx hb dX9_mile_67 rfl (lv_at hl 2 rfl) ?_
        refine lv_if_le (tgt := 75) hx hb dX9_mile_68 (by decide) (fun c_52 => ?_) (fun c_52 => absurd (by decide) c_52)
        refine lv_iconst (v := 0) hx hb dX9_mile_75 (by decide) ?_
        refine lv_iload_n hx hb dX9_mile_76 rfl (lv_at hl 2 rfl) ?_
        refine lv_isub hx hb dX9_mile_77 ?_
        refine xl_i (y := 99) (by decide) ?_
        refine lv_goto (tgt := 82) hx hb dX9_mile_78 (by decide) ?_
        refine xc_Vv (wr := []) hF (c_X9_number l D cI cJ cZ cS ta sa sv H.size h0 ys yk yo yt mk0 yfa yfe mL mS mM yro yhe ygr mF mC mY yta mz f2_40 t2_41 mv w2_42 ywa ybi ysi ynu ymo tp 0 99 (by omega) (by omega) (by omega) (by omega) (by omega)) kv_X9_282 ⟨rfl, rfl, Nat.le_of_ble_eq_true rfl, Nat.le_of_ble_eq_true rfl⟩ ⟨Nat.le_of_ble_eq_true rfl, Nat.le_of_ble_eq_true rfl⟩ hK hN hZ hP hD hS hA [0, 1] [] rfl rfl rfl rfl (by decide) 0 rfl rfl rfl rfl hl.1 rfl (Nat.le_of_ble_eq_true rfl) dX9_mile_82 (fun u_r_53 H locs hw_r_53 hP hD hS => ?_)
        obtain ⟨f2_54, t2_55, v2_56, w2_57⟩ := u_r_53
        try dsimp only at hw_r_53
        obtain ⟨i_58, i_59, i_60, i_61, i_62, i_63⟩ := hw_r_53
        have hP : va_P D vwCl [(h0, .inr (9, [.ref ys, .ref yk, .ref yo, .ref yt, .int mk0, .ref yfa, .ref yfe, .int mL, .int mS, .int mM, .ref yro, .ref yhe, .ref ygr, .int mF, .int mC, .int mY, .ref yta, .int (nI (mz)), .int (nI (f2_54)), .int (nI (t2_55)), .int v2_56, .int w2_57, .ref ywa, .ref ybi, .ref ysi, .ref ynu, .ref ymo])), (yta, .inl (cI, 120, .inl tp))] H := hP
        have hD : va_D A [(h0, .inr (9, [.ref ys, .ref yk, .ref yo, .ref yt, .int mk0, .ref yfa, .ref yfe, .int mL, .int mS, .int mM, .ref yro, .ref yhe, .ref ygr, .int mF, .int mC, .int mY, .ref yta, .int (nI (mz)), .int (nI (f2_54)), .int (nI (t2_55)), .int v2_56, .int w2_57, .ref ywa, .ref ybi, .ref ysi, .ref ynu, .ref ymo])), (yta, .inl (cI, 120, .inl tp))] := hD
        refine lv_aload_n hx hb dX9_mile_85 rfl (lv_at hl 1 rfl) ?_
        refine lv_iload_n hx hb dX9_mile_86 rfl (lv_at hl 0 rfl) ?_
        refine lv_if_eq (tgt := 99) hx hb dX9_mile_87 (by decide) (fun c_64 => absurd c_64 (by decide)) (fun c_64 => ?_)
        refine lv_iconst (v := 0) hx hb dX9_mile_90 (by decide) ?_
        refine lv_aload_n hx hb dX9_mile_91 rfl (lv_at hl 1 rfl) ?_
        refine xg hF kf_X9_275 hK hP 0 rfl rfl dX9_mile_92 ?_
        refine lv_isub hx hb dX9_mile_95 ?_
        refine lv_topi (fun x_65 ex_65 => ?_)
        refine lv_goto (tgt := 103) hx hb dX9_mile_96 (by decide) ?_
        refine xp hF kf_X9_275 tyX9_ok nmX9 hK hP hD hS 0 rfl rfl rfl rfl (Nat.le_of_ble_eq_true rfl) dX9_mile_103 (fun H locs hP hD hS => ?_)
        have hP : va_P D vwCl [(h0, .inr (9, [.ref ys, .ref yk, .ref yo, .ref yt, .int mk0, .ref yfa, .ref yfe, .int mL, .int mS, .int mM, .ref yro, .ref yhe, .ref ygr, .int mF, .int mC, .int mY, .ref yta, .int (nI (mz)), .int (nI (f2_54)), .int (nI (t2_55)), .int x_65, .int w2_57, .ref ywa, .ref ybi, .ref ysi, .ref ynu, .ref ymo])), (yta, .inl (cI, 120, .inl tp))] H := hP
        have hD : va_D A [(h0, .inr (9, [.ref ys, .ref yk, .ref yo, .ref yt, .int mk0, .ref yfa, .ref yfe, .int mL, .int mS, .int mM, .ref yro, .ref yhe, .ref ygr, .int mF, .int mC, .int mY, .ref yta, .int (nI (mz)), .int (nI (f2_54)), .int (nI (t2_55)), .int x_65, .int w2_57, .ref ywa, .ref ybi, .ref ysi, .ref ynu, .ref ymo])), (yta, .inl (cI, 120, .inl tp))] := hD
        exact W.vret hx hb hr (fun t ht hW => ⟨⟨(f2_54, t2_55, x_65, w2_57), rfl, ⟨(by first | assumption | omega), (by first | assumption | omega), (by first | assumption | omega), (by first | assumption | omega), (by first | assumption | omega), (fun h => ⟨(i_48 (i_63 h).1).1, x_neg99 ex_65 (i_63 h).2.1 (i_63 h).2.2⟩)⟩, by rw [ht]; exact hP.sub [0, 1] rfl, hD.sub [0, 1] (by decide) rfl⟩, hS.F ht⟩) hS.2.2 dX9_mile_106 hlk
    · skip
      refine lv_bipush (v := 45) hx hb dX9_mile_15 (by decide) ?_
      refine lv_icmp_ne (tgt := 24) hx hb dX9_mile_17 (by decide) (fun c_66 => ?_) (fun c_66 => absurd c_66 (by decide))
      refine lv_iconst (v := 0) hx hb dX9_mile_24 (by decide) ?_
      refine lv_istore_n (lv' := [(3, .int 0), (0, .ref h0), (1, .int (-99)), (2, .int 999)]) hx hb dX9_mile_25 rfl hl (by decide) rfl (fun ls hl => ?_)
      refine lv_iload_n hx hb dX9_mile_26 rfl (lv_at hl 0 rfl) ?_
      refine lv_if_eq (tgt := 35) hx hb dX9_mile_27 (by decide) (fun c_67 => ?_) (fun c_67 => absurd (by decide) c_67)
      refine lv_aload_n hx hb dX9_mile_35 rfl (lv_at hl 1 rfl) ?_
      refine lv_iload_n hx hb dX9_mile_36 rfl (lv_at hl 0 rfl) ?_
      refine lv_if_eq (tgt := 54) hx hb dX9_mile_37 (by decide) (fun c_68 => ?_) (fun c_68 => absurd (by decide) c_68)
      refine lv_iload_n hx hb dX9_mile_54 rfl (lv_at hl 2 rfl) ?_
      refine lv_if_ge (tgt := 62) hx hb dX9_mile_55 (by decide) (fun c_69 => absurd c_69 (by decide)) (fun c_69 => ?_)
      refine lv_iconst (v := 0) hx hb dX9_mile_58 (by decide) ?_
      refine lv_goto (tgt := 63) hx hb dX9_mile_59 (by decide) ?_
      refine lv_iload_n hx hb dX9_mile_63 rfl (lv_at hl 0 rfl) ?_
      refine lv_if_eq (tgt := 81) hx hb dX9_mile_64 (by decide) (fun c_70 => ?_) (fun c_70 => absurd (by decide) c_70)
      refine lv_iload_n hx hb dX9_mile_81 rfl (lv_at hl 3 rfl) ?_
      refine xc_Vv (wr := []) hF (c_X9_number l D cI cJ cZ cS ta sa sv s.heap.size h0 ys yk yo yt mk0 yfa yfe mL mS mM yro yhe ygr mF mC mY yta mz mf mt mv mw ywa ybi ysi ynu ymo tp 0 999 (by omega) (by omega) (by omega) (by omega) (by omega)) kv_X9_282 ⟨rfl, rfl, Nat.le_of_ble_eq_true rfl, Nat.le_of_ble_eq_true rfl⟩ ⟨Nat.le_of_ble_eq_true rfl, Nat.le_of_ble_eq_true rfl⟩ hK hN hZ hP hD hS hA [0, 1] [] rfl rfl rfl rfl (by decide) 0 rfl rfl rfl rfl hl.1 rfl (Nat.le_of_ble_eq_true rfl) dX9_mile_82 (fun u_r_71 H locs hw_r_71 hP hD hS => ?_)
      obtain ⟨f2_72, t2_73, v2_74, w2_75⟩ := u_r_71
      try dsimp only at hw_r_71
      obtain ⟨i_76, i_77, i_78, i_79, i_80, i_81⟩ := hw_r_71
      have hP : va_P D vwCl [(h0, .inr (9, [.ref ys, .ref yk, .ref yo, .ref yt, .int mk0, .ref yfa, .ref yfe, .int mL, .int mS, .int mM, .ref yro, .ref yhe, .ref ygr, .int mF, .int mC, .int mY, .ref yta, .int (nI (mz)), .int (nI (f2_72)), .int (nI (t2_73)), .int v2_74, .int w2_75, .ref ywa, .ref ybi, .ref ysi, .ref ynu, .ref ymo])), (yta, .inl (cI, 120, .inl tp))] H := hP
      have hD : va_D A [(h0, .inr (9, [.ref ys, .ref yk, .ref yo, .ref yt, .int mk0, .ref yfa, .ref yfe, .int mL, .int mS, .int mM, .ref yro, .ref yhe, .ref ygr, .int mF, .int mC, .int mY, .ref yta, .int (nI (mz)), .int (nI (f2_72)), .int (nI (t2_73)), .int v2_74, .int w2_75, .ref ywa, .ref ybi, .ref ysi, .ref ynu, .ref ymo])), (yta, .inl (cI, 120, .inl tp))] := hD
      refine lv_aload_n hx hb dX9_mile_85 rfl (lv_at hl 1 rfl) ?_
      refine lv_iload_n hx hb dX9_mile_86 rfl (lv_at hl 0 rfl) ?_
      refine lv_if_eq (tgt := 99) hx hb dX9_mile_87 (by decide) (fun c_82 => ?_) (fun c_82 => absurd (by decide) c_82)
      refine lv_aload_n hx hb dX9_mile_99 rfl (lv_at hl 1 rfl) ?_
      refine xg hF kf_X9_275 hK hP 0 rfl rfl dX9_mile_100 ?_
      refine xp hF kf_X9_275 tyX9_ok nmX9 hK hP hD hS 0 rfl rfl rfl rfl (Nat.le_of_ble_eq_true rfl) dX9_mile_103 (fun H locs hP hD hS => ?_)
      have hP : va_P D vwCl [(h0, .inr (9, [.ref ys, .ref yk, .ref yo, .ref yt, .int mk0, .ref yfa, .ref yfe, .int mL, .int mS, .int mM, .ref yro, .ref yhe, .ref ygr, .int mF, .int mC, .int mY, .ref yta, .int (nI (mz)), .int (nI (f2_72)), .int (nI (t2_73)), .int v2_74, .int w2_75, .ref ywa, .ref ybi, .ref ysi, .ref ynu, .ref ymo])), (yta, .inl (cI, 120, .inl tp))] H := hP
      have hD : va_D A [(h0, .inr (9, [.ref ys, .ref yk, .ref yo, .ref yt, .int mk0, .ref yfa, .ref yfe, .int mL, .int mS, .int mM, .ref yro, .ref yhe, .ref ygr, .int mF, .int mC, .int mY, .ref yta, .int (nI (mz)), .int (nI (f2_72)), .int (nI (t2_73)), .int v2_74, .int w2_75, .ref ywa, .ref ybi, .ref ysi, .ref ynu, .ref ymo])), (yta, .inl (cI, 120, .inl tp))] := hD
      exact W.vret hx hb hr (fun t ht hW => ⟨⟨(f2_72, t2_73, v2_74, w2_75), rfl, ⟨(by first | assumption | omega), (by first | assumption | omega), (by first | assumption | omega), (by first | assumption | omega), (by first | assumption | omega), (fun h => ⟨(i_81 h).1, x_0999 (i_81 h).2.1 (i_81 h).2.2⟩)⟩, by rw [ht]; exact hP.sub [0, 1] rfl, hD.sub [0, 1] (by decide) rfl⟩, hS.F ht⟩) hS.2.2 dX9_mile_106 hlk
set_option maxHeartbeats 4000000 in
set_option maxRecDepth 100000 in
theorem c_X9_numberHere (l : Launch) (D : va_G) (cI cJ cZ cS : ClassId) (ta : Nat) (sa sv : Nat → Nat) (sz : Nat) (h0 : Nat) (ys : Nat) (yk : Nat) (yo : Nat) (yt : Nat) (mk0 : Int32) (yfa : Nat) (yfe : Nat) (mL : Int32) (mS : Int32) (mM : Int32) (yro : Nat) (yhe : Nat) (ygr : Nat) (mF : Int32) (mC : Int32) (mY : Int32) (yta : Nat) (mz : Nat) (mf : Nat) (mt : Nat) (mv : Int32) (mw : Int32) (ywa : Nat) (ybi : Nat) (ysi : Nat) (ynu : Nat) (ymo : Nat) (tp : Nat → Int32) (hz : mz ≤ 120) (k1 : mf ≤ mz) (k2 : mt ≤ mz) (k3 : mf ≤ mt) (k4 : mf < mt ∨ mf = mz) : Met l yX9_numberHere (Cond.code yX9_numberHere cX9_numberHere 3 (some .int) :: wsU) ({ frames := 2, cells := 0, slots := 0, locals := 45 }) (va_Pc [.ref h0] (XW D (xT cI cJ cZ cS) ta sa sv [(h0, .inr (9, [.ref ys, .ref yk, .ref yo, .ref yt, .int mk0, .ref yfa, .ref yfe, .int mL, .int mS, .int mM, .ref yro, .ref yhe, .ref ygr, .int mF, .int mC, .int mY, .ref yta, .int (nI (mz)), .int (nI (mf)), .int (nI (mt)), .int mv, .int mw, .ref ywa, .ref ybi, .ref ysi, .ref ynu, .ref ymo])), (yta, .inl (cI, 120, .inl tp))] sz)) (vp_Si (fun r : Int32 => True)) 0 0 (fun _ => False) := by
  refine xh (QA := fun _ => vp_Si (fun r : Int32 => True)) (fr := fun _ _ => False) (by decide) (Nat.le_of_ble_eq_true rfl) ?_
  intro p e s m below meth c ls A hF hr hlk hin hsz hP hK hD hN hZ hA hS hl
  have hF : CallFix p m c cX9_numberHere 3 s _ _ RX9 := hF
  have hx := hF.1
  have hb := hF.2.1
  have hml := hF.2.2.1
  have hown := hF.2.2.2.1
  have hu : ∀ w ∈ wsU, w.before _ s = true := fun w h => hF.2.2.2.2 w (List.mem_cons_of_mem _ h)
  have hl : lv_has ls 3 [(0, .ref h0)] := hl
  refine lv_iconst (v := 0) hx hb dX9_numberHere_0 (by decide) ?_
  refine lv_istore_n (lv' := [(1, .int 0), (0, .ref h0)]) hx hb dX9_numberHere_1 rfl hl (by decide) rfl (fun ls hl => ?_)
  refine lv_aload_n hx hb dX9_numberHere_2 rfl (lv_at hl 1 rfl) ?_
  refine xg hF kf_X9_254 hK hP 0 rfl rfl dX9_numberHere_3 ?_
  refine lv_istore_n (lv' := [(2, .int (nI (mf))), (1, .int 0), (0, .ref h0)]) hx hb dX9_numberHere_6 rfl hl (by decide) rfl (fun ls hl => ?_)
  suffices loop_7 : ∀ (n_7 : Nat) (i : Nat) (u8 : Int32) (ls : Array Slot), 120 - i < n_7 → (i ≤ 120) → lv_has ls 3 [(2, .int (nI (i))), (1, .int u8), (0, .ref h0)] → W p l e ({ frames := 2, cells := 0, slots := 0, locals := 45 }) s m ([.ref h0] : List Value).toArray below meth c s.heap [] 0 0 (MQ below (vp_Si (fun r : Int32 => True)) ([.ref h0] : List Value).toArray s 0 0 (fun _ => False)) (F0 m 7 ls []) by
    exact loop_7 _ mf 0 _ (Nat.lt_succ_self _) (by omega) (lv_sub hl [0, 1, 2] rfl)
  intro n_7
  induction n_7 with
  | zero =>
    intro i u8 ls hm_7
    exact absurd hm_7 (Nat.not_lt_zero _)
  | succ n_7 ih_7 =>
    intro i u8 ls hm_7 hi hl
    refine lv_iload_n hx hb dX9_numberHere_7 rfl (lv_at hl 0 rfl) ?_
    refine lv_aload_n hx hb dX9_numberHere_8 rfl (lv_at hl 2 rfl) ?_
    refine xg hF kf_X9_251 hK hP 0 rfl rfl dX9_numberHere_9 ?_
    refine lv_icmp_ge (tgt := 47) hx hb dX9_numberHere_12 (by decide) (fun c_1 => ?_) (fun c_1 => ?_)
    · skip
      have nc_1 : mt ≤ i := xn_le (a := mt) (b := i) (by omega) (by omega) c_1
      refine lv_aload_n hx hb dX9_numberHere_47 rfl (lv_at hl 2 rfl) ?_
      refine xg hF kf_X9_266 hK hP 0 rfl rfl dX9_numberHere_48 ?_
      refine lv_if_ne (tgt := 72) hx hb dX9_numberHere_51 (by decide) (fun c_2 => ?_) (fun c_2 => ?_)
      · skip
        refine lv_iconst (v := (-1)) hx hb dX9_numberHere_72 (by decide) ?_
        exact W.iret (v := (-1)) hx hb hr (fun t ht hW => ⟨(-1), rfl, trivial, ht⟩) (fun q h => by cases h) dX9_numberHere_73 hlk
      · skip
        refine lv_aload_n hx hb dX9_numberHere_54 rfl (lv_at hl 2 rfl) ?_
        refine lv_aload_n hx hb dX9_numberHere_55 rfl (lv_at hl 2 rfl) ?_
        refine xg hF kf_X9_254 hK hP 0 rfl rfl dX9_numberHere_56 ?_
        refine xc_Vr hF (c_X9_byteAt l D cI cJ cZ cS ta sa sv s.heap.size h0 ys yk yo yt mk0 yfa yfe mL mS mM yro yhe ygr mF mC mY yta mz mf mt mv mw ywa ybi ysi ynu ymo tp mf (by omega) (by omega)) kv_X9_257 ⟨rfl, rfl, Nat.le_of_ble_eq_true rfl, Nat.le_of_ble_eq_true rfl⟩ ⟨Nat.le_of_ble_eq_true rfl, Nat.le_of_ble_eq_true rfl⟩ hK hN hZ hP hD hS hA [0, 1] rfl rfl 0 rfl rfl rfl rfl hl.1 rfl (Nat.le_of_ble_eq_true rfl) dX9_numberHere_59 (fun r_3 hw_r_3 => ?_)
        rcases hw_r_3 with ⟨rfl, h_4⟩ | ⟨rfl, h_5⟩
        · skip
          refine xc_Sr hF (c_X9_isDigit l D cI cJ cZ cS ta sa sv s.heap.size (tp mf) ) ks_X9_263 ⟨rfl, rfl, Nat.le_of_ble_eq_true rfl, Nat.le_of_ble_eq_true rfl⟩ ⟨Nat.le_of_ble_eq_true rfl, Nat.le_of_ble_eq_true rfl⟩ hK hN hZ hP hD hS hA [] rfl rfl rfl hl.1 rfl (Nat.le_of_ble_eq_true rfl) dX9_numberHere_62 (fun r_6 hw_r_6 => ?_)
          rcases hw_r_6 with ⟨rfl, h_7, h_8⟩ | ⟨rfl, h_9⟩
          · skip
            refine lv_if_eq (tgt := 72) hx hb dX9_numberHere_65 (by decide) (fun c_10 => absurd c_10 (by decide)) (fun c_10 => ?_)
            refine lv_iload_n hx hb dX9_numberHere_68 rfl (lv_at hl 1 rfl) ?_
            refine lv_goto (tgt := 73) hx hb dX9_numberHere_69 (by decide) ?_
            exact W.iret (v := u8) hx hb hr (fun t ht hW => ⟨u8, rfl, trivial, ht⟩) (fun q h => by cases h) dX9_numberHere_73 hlk
          · skip
            refine lv_if_eq (tgt := 72) hx hb dX9_numberHere_65 (by decide) (fun c_11 => ?_) (fun c_11 => absurd (by decide) c_11)
            refine lv_iconst (v := (-1)) hx hb dX9_numberHere_72 (by decide) ?_
            exact W.iret (v := (-1)) hx hb hr (fun t ht hW => ⟨(-1), rfl, trivial, ht⟩) (fun q h => by cases h) dX9_numberHere_73 hlk
        · skip
          refine xc_Sr hF (c_X9_isDigit l D cI cJ cZ cS ta sa sv s.heap.size (-1) ) ks_X9_263 ⟨rfl, rfl, Nat.le_of_ble_eq_true rfl, Nat.le_of_ble_eq_true rfl⟩ ⟨Nat.le_of_ble_eq_true rfl, Nat.le_of_ble_eq_true rfl⟩ hK hN hZ hP hD hS hA [] rfl rfl rfl hl.1 rfl (Nat.le_of_ble_eq_true rfl) dX9_numberHere_62 (fun r_12 hw_r_12 => ?_)
          rcases hw_r_12 with ⟨rfl, h_13, h_14⟩ | ⟨rfl, h_15⟩
          · skip
            refine lv_if_eq (tgt := 72) hx hb dX9_numberHere_65 (by decide) (fun c_16 => absurd c_16 (by decide)) (fun c_16 => ?_)
            refine lv_iload_n hx hb dX9_numberHere_68 rfl (lv_at hl 1 rfl) ?_
            refine lv_goto (tgt := 73) hx hb dX9_numberHere_69 (by decide) ?_
            exact W.iret (v := u8) hx hb hr (fun t ht hW => ⟨u8, rfl, trivial, ht⟩) (fun q h => by cases h) dX9_numberHere_73 hlk
          · skip
            refine lv_if_eq (tgt := 72) hx hb dX9_numberHere_65 (by decide) (fun c_17 => ?_) (fun c_17 => absurd (by decide) c_17)
            refine lv_iconst (v := (-1)) hx hb dX9_numberHere_72 (by decide) ?_
            exact W.iret (v := (-1)) hx hb hr (fun t ht hW => ⟨(-1), rfl, trivial, ht⟩) (fun q h => by cases h) dX9_numberHere_73 hlk
    · skip
      have nc_1 : i < mt := xn_nle (a := mt) (b := i) (by omega) (by omega) c_1
      refine lv_iload_n hx hb dX9_numberHere_15 rfl (lv_at hl 1 rfl) ?_
      refine lv_sipush (v := 9999) hx hb dX9_numberHere_16 (by decide) ?_
      refine lv_icmp_le (tgt := 26) hx hb dX9_numberHere_19 (by decide) (fun c_18 => ?_) (fun c_18 => ?_)
      · skip
        refine lv_bipush (v := 10) hx hb dX9_numberHere_26 (by decide) ?_
        refine lv_iload_n hx hb dX9_numberHere_28 rfl (lv_at hl 1 rfl) ?_
        refine lv_imul hx hb dX9_numberHere_29 ?_
        refine lv_topi (fun x_19 ex_19 => ?_)
        refine lv_aload_n hx hb dX9_numberHere_30 rfl (lv_at hl 2 rfl) ?_
        refine xg hF kf_X9_37 hK hP 0 rfl rfl dX9_numberHere_31 ?_
        refine lv_iload_n hx hb dX9_numberHere_34 rfl (lv_at hl 0 rfl) ?_
        refine va_iald hx hb hK hP 1 0 rfl rfl (vp_in_nI (show i < 120 by omega) (by decide)) dX9_numberHere_35 ?_
        refine xl_i (y := tp i) (congrArg tp (nI_clamp (show i < 2 ^ 31 by omega))) ?_
        refine lv_iadd hx hb dX9_numberHere_36 ?_
        refine lv_topi (fun x_20 ex_20 => ?_)
        refine lv_bipush (v := 48) hx hb dX9_numberHere_37 (by decide) ?_
        refine lv_isub hx hb dX9_numberHere_39 ?_
        refine lv_topi (fun x_21 ex_21 => ?_)
        refine lv_istore_n (lv' := [(1, .int x_21), (2, .int (nI (i))), (0, .ref h0)]) hx hb dX9_numberHere_40 rfl hl (by decide) rfl (fun ls hl => ?_)
        refine lv_iinc (v := nI (i + 1)) (lv' := [(2, .int (nI (i + 1))), (1, .int x_21), (0, .ref h0)]) hx hb dX9_numberHere_41 hl (k := 1) rfl (nI_1 (i)) (by decide) rfl (fun ls hl => ?_)
        refine lv_goto (tgt := 7) hx hb dX9_numberHere_44 (by decide) ?_
        exact ih_7 (i + 1) x_21 _ (by omega) (by omega) (lv_sub hl [0, 1, 2] rfl)
      · skip
        refine lv_iload_n hx hb dX9_numberHere_22 rfl (lv_at hl 1 rfl) ?_
        refine lv_goto (tgt := 40) hx hb dX9_numberHere_23 (by decide) ?_
        refine lv_istore_n (lv' := [(1, .int u8), (2, .int (nI (i))), (0, .ref h0)]) hx hb dX9_numberHere_40 rfl hl (by decide) rfl (fun ls hl => ?_)
        refine lv_iinc (v := nI (i + 1)) (lv' := [(2, .int (nI (i + 1))), (1, .int u8), (0, .ref h0)]) hx hb dX9_numberHere_41 hl (k := 1) rfl (nI_1 (i)) (by decide) rfl (fun ls hl => ?_)
        refine lv_goto (tgt := 7) hx hb dX9_numberHere_44 (by decide) ?_
        exact ih_7 (i + 1) u8 _ (by omega) (by omega) (lv_sub hl [0, 1, 2] rfl)
